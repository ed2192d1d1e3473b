/-! the moving collectors, the class (written by wip/tools/gen15.py) -/
theorem g_62_80_sl_0 {X : Nat × (Nat → Int32)} {d w : Nat} {S : ma_S} {Q : Option ma_V ⊕ Nat → ma_S → Prop}  (hd : 4 ≤ d) (hw : 138 ≤ w) (hS : zT S) (h : ma_wp X (d - 1) (w - 20) 264 0 [(0, .inr (.inr (some 80)))] [] S (zi (fun v2 S1 => zT S1 ∧ (ma_wp X (d - 1) (w - 24) 263 0 [(0, .inr (.inr (some 80))), (1, .inl (mI S1 80 2))] [] S1 (zi (fun v4 S3 => zT S3 ∧ (Q (.inl (some (.inl v2))) (ma_put S3 80 3 (.inl v4)))) (fun _ _ => False)))) (fun _ _ => False))) : ma_wp X d w 62 0 [(0, .inr (.inr (some 80)))] [] S Q := by
  refine zw_push hm_62 dX5_cleanAll_0 (v := .inr (.inr (some 80))) rfl ?_
  refine zw_cv hm_62 dX5_cleanAll_1 v_5_30_5 hm_264 [] [] rfl (zT_rt hS s_80 rfl) ⟨by omega, by omega⟩ rfl (zw_mono h (zi_go ?_ ?_))
  · intro v2 S1 hv
    obtain ⟨hS1, h⟩ := hv
    refine zw_sto hm_62 dX5_cleanAll_4 [(1, .inl v2), (0, .inr (.inr (some 80)))] rfl rfl rfl ?_
    refine zw_push hm_62 dX5_cleanAll_5 (v := .inr (.inr (some 80))) rfl ?_
    refine zw_push hm_62 dX5_cleanAll_6 (v := .inr (.inr (some 80))) rfl ?_
    refine zw_push hm_62 dX5_cleanAll_7 (v := .inr (.inr (some 80))) rfl ?_
    refine zw_gf hm_62 dX5_cleanAll_8 (v := .inl (mI S1 80 2)) (zT_is hS1 s_80) (zT_t hS1 s_80) rfl f_5_9_5 rfl ?_
    refine zw_cv hm_62 dX5_cleanAll_11 v_5_33_5 hm_263 [.inl (mI S1 80 2)] [.inr (.inr (some 80))] rfl (zT_rt hS1 s_80 rfl) ⟨by omega, by omega⟩ rfl (zw_mono h (zi_go ?_ ?_))
    · intro v4 S3 hv
      obtain ⟨hS3, h⟩ := hv
      refine zw_pf hm_62 dX5_cleanAll_14 (zT_is hS3 s_80) (zT_t hS3 s_80) p_5_15_5 zk_int ?_
      refine zw_push hm_62 dX5_cleanAll_17 (v := .inl v2) rfl ?_
      exact zw_iret hm_62 dX5_cleanAll_18 h
    · intro x S9 hx
      exact hx.elim
  · intro x S9 hx
    exact hx.elim
theorem sp_62_80_sl {X : Nat × (Nat → Int32)} {d w : Nat} {f : Nat → Nat → Int32} {r : Nat → Nat → Option Nat} {C Z N : Nat} {Q : Option ma_V ⊕ Nat → ma_S → Prop} {ab : Nat→Nat→Int32} {S : ma_S}  (hd : 4 ≤ d) (hw : 138 ≤ w) (hI : zJ80 f r C Z N S) (hpre0 : xB S (mR S 70)) (hpre1 : aL S = ab) (hpre2 : qI ab) (K : ∀ v S', zJ80 f r C Z N S' → (True) → (xB S' (mR S' 70)) → (aL S' = lCl ab ∧ v = aSv ab) → Q (.inl (some (.inl v))) S') : ma_wp X d w 62 0 [(0, .inr (.inr (some 80)))] [] S Q := by
  refine g_62_80_sl_0  (by omega) (by omega) (zG_T hI) ?_
  refine sp_264_80_s (ab := (aS 75 S)) (by omega) (by omega) (zJ80_dn hI) (show xB S (mR S 70) from by first | (exact xB_x (xC_o (W := 75) hpre0).2)) (show aS 75 S = (aS 75 S) from by first | (exact rfl)) (fun v2 S1 hL_S1 hp_v2 rp0_S1 rp1_S1 => zi_n ⟨zG_T hL_S1, ?_⟩)
  have hI_S1 := zJ80_up hI hL_S1
  have rp0_S1 : xB S1 (mR S1 70) := by
    have z := rp0_S1
    (try rw [show mI S 65 = f 65 from funext (fun k => zG_z hI rfl)] at z)
    (try rw [show mI S 64 1 = f 64 1 from zG_z hI rfl] at z)
    exact z
  have rp1_S1 : aS 75 S1 = aSw (aS 75 S) ∧ v2 = aSv (aS 75 S) := by
    have z := rp1_S1
    (try rw [show mI S 65 = f 65 from funext (fun k => zG_z hI rfl)] at z)
    (try rw [show mI S 64 1 = f 64 1 from zG_z hI rfl] at z)
    exact z
  have f1 := zG_s hI (0) (1500) (c := 80) (k := 2) (by decide)
  have q2 : (mI S1 80 2).toInt = (mI S 80 2).toInt := zG_zi hL_S1 rfl
  have f3 := zG_s hI_S1 (0) (1500) (c := 80) (k := 2) (by decide)
  refine sp_263_80_s (ab := (aM (zf0 (mI S1)) S1)) (q := (zf0 (mI S1))) ((mI S1 80 2)) (by omega) (by omega) (zJ80_dn hI_S1) (by omega) (show xB S1 (mR S1 70) from by first | (exact xB_x (xC_o (W := 75) rp0_S1).2)) (show aM (zf0 (mI S1)) S1 = (aM (zf0 (mI S1)) S1) from by first | (exact rfl)) (show qI (aM (zf0 (mI S1)) S1) from by first | (rw [M0_u rp1_S1.1 (show mI S1 80 2 = mI S 80 2 from zG_z hL_S1 rfl), hpre1]; exact I_s0 hpre2)) (show ((zf0 (mI S1)) 2).toInt = 0 from by first | (exact rfl)) (fun v4 S3 hL_S3 hp_v4 rp0_S3 rp1_S3 => zi_n ⟨zG_T hL_S3, ?_⟩)
  have hI_S3 := zJ80_up hI_S1 hL_S3
  have rp0_S3 : xB S3 (mR S3 70) := by
    have z := rp0_S3
    (try rw [show mI S1 65 = f 65 from funext (fun k => zG_z hI_S1 rfl)] at z)
    (try rw [show mI S1 64 1 = f 64 1 from zG_z hI_S1 rfl] at z)
    exact z
  have rp1_S3 : aM (zf0 (mI S1)) S3 = (zSd (aM (zf0 (mI S1)) S1) (mI S1 80 2).toInt 0 0).1 ∧ v4.toInt = (zSd (aM (zf0 (mI S1)) S1) (mI S1 80 2).toInt 0 0).2 ∧ ∃ p, (mI S1 80 2).toInt ≤ p ∧ qJs (aM (zf0 (mI S1)) S3) p v4.toInt := by
    have z := rp1_S3
    (try rw [show mI S1 65 = f 65 from funext (fun k => zG_z hI_S1 rfl)] at z)
    (try rw [show mI S1 64 1 = f 64 1 from zG_z hI_S1 rfl] at z)
    exact z
  have b5 := i_bd v4
  have hI4 : zJ80 f r C Z N (ma_put S3 80 3 (.inl v4)) := zG_sp hI_S3 (0) (400000) rfl (by decide) (by decide) (by decide) trivial (by omega) (by omega)
  have b6 := i_bd v2
  exact K (v2) _ hI4 trivial (show xB (ma_put S3 80 3 (.inl v4)) (mR (ma_put S3 80 3 (.inl v4)) 70) from by first | (exact xB_x (xC_n (c := 80) (k := 3) (x := v4) (xC_o (W := 75) rp0_S3) ⟨by decide, Or.inl ⟨rfl, rfl⟩⟩).2)) (show aL (ma_put S3 80 3 (.inl v4)) = lCl ab ∧ v2 = aSv ab from by first | (have u := rp1_S1; have m0 := M0_u u.1 (show mI S1 80 2 = mI S 80 2 from zG_z hL_S1 rfl); rw [hpre1] at m0; have sd := rp1_S3; rw [m0] at sd; have e0 : aSw ab 87 0 = (mI S1 80 2) := (by rw [sw_87, ← hpre1, aL_70]; exact (show mI S1 80 2 = mI S 80 2 from zG_z hL_S1 rfl).symm); have ls : lSd (aSw ab) = zSd (ma_u (aSw ab) 87 2 0) (mI S1 80 2).toInt 0 0 := (by unfold lSd; rw [e0]); refine ⟨?_, u.2.trans (L_sv.trans (congrArg aSv hpre1))⟩; rw [aL_q rp0_S3 (q := zf0 (mI S1)) (show mI S3 80 2 = mI S1 80 2 from zG_z hL_S3 rfl) (fun k hk => if_neg hk), sd.1]; unfold lCl; rw [ls, ← sd.2.1, Int32.ofInt_toInt]))
theorem g_61_80_sl_0 {X : Nat × (Nat → Int32)} {d w : Nat} {S : ma_S} {Q : Option ma_V ⊕ Nat → ma_S → Prop} (z : Int32) (hd : 5 ≤ d) (hw : 159 ≤ w) (hS : zT S) (h : if ((mI S 80 3) + z) ≤ (mI S 80 2) then (if ((mI S 80 3) + z) ≤ (mI S 80 2) then (Q (.inl (some (.inl (mI S 80 3)))) S) else (Q (.inl (some (.inl (-1 : Int32)))) S)) else (ma_wp X (d - 1) (w - 21) 62 0 [(0, .inr (.inr (some 80)))] [] S (zi (fun v2 S1 => zT S1 ∧ (if ((mI S1 80 3) + z) ≤ (mI S1 80 2) then (Q (.inl (some (.inl (mI S1 80 3)))) S1) else (Q (.inl (some (.inl (-1 : Int32)))) S1))) (fun x S9 => Q (.inr x) S9)))) : ma_wp X d w 61 0 [(0, .inr (.inr (some 80))), (1, .inl z)] [] S Q := by
  refine zw_push hm_61 dX5_findRoom_0 (v := .inr (.inr (some 80))) rfl ?_
  refine zw_gf hm_61 dX5_findRoom_1 (v := .inl (mI S 80 3)) (zT_is hS s_80) (zT_t hS s_80) rfl f_5_15_5 rfl ?_
  refine zw_push hm_61 dX5_findRoom_4 (v := .inl z) rfl ?_
  refine zw_stk hm_61 dX5_findRoom_5 (st' := [.inl ((mI S 80 3) + z)]) rfl rfl ?_
  refine zw_push hm_61 dX5_findRoom_6 (v := .inr (.inr (some 80))) rfl ?_
  refine zw_gf hm_61 dX5_findRoom_7 (v := .inl (mI S 80 2)) (zT_is hS s_80) (zT_t hS s_80) rfl f_5_9_5 rfl ?_
  refine zw_if2 hm_61 dX5_findRoom_10 (t := 18) rfl zc2_le ?_ ?_
  · intro hc
    rw [if_pos hc] at h
    refine zw_push hm_61 dX5_findRoom_18 (v := .inr (.inr (some 80))) rfl ?_
    refine zw_gf hm_61 dX5_findRoom_19 (v := .inl (mI S 80 3)) (zT_is hS s_80) (zT_t hS s_80) rfl f_5_15_5 rfl ?_
    refine zw_push hm_61 dX5_findRoom_22 (v := .inl z) rfl ?_
    refine zw_stk hm_61 dX5_findRoom_23 (st' := [.inl ((mI S 80 3) + z)]) rfl rfl ?_
    refine zw_push hm_61 dX5_findRoom_24 (v := .inr (.inr (some 80))) rfl ?_
    refine zw_gf hm_61 dX5_findRoom_25 (v := .inl (mI S 80 2)) (zT_is hS s_80) (zT_t hS s_80) rfl f_5_9_5 rfl ?_
    refine zw_if2 hm_61 dX5_findRoom_28 (t := 35) rfl zc2_le ?_ ?_
    · intro hc
      rw [if_pos hc] at h
      refine zw_push hm_61 dX5_findRoom_35 (v := .inr (.inr (some 80))) rfl ?_
      refine zw_gf hm_61 dX5_findRoom_36 (v := .inl (mI S 80 3)) (zT_is hS s_80) (zT_t hS s_80) rfl f_5_15_5 rfl ?_
      exact zw_iret hm_61 dX5_findRoom_39 h
    · intro hc
      rw [if_neg hc] at h
      refine zw_push hm_61 dX5_findRoom_31 (v := .inl (-1 : Int32)) rfl ?_
      refine zw_goto hm_61 dX5_findRoom_32 (t := 39) rfl ?_
      exact zw_iret hm_61 dX5_findRoom_39 h
  · intro hc
    rw [if_neg hc] at h
    refine zw_push hm_61 dX5_findRoom_13 (v := .inr (.inr (some 80))) rfl ?_
    refine zw_cv hm_61 dX5_findRoom_14 v_5_18_5 hm_62 [] [] rfl (zT_rt hS s_80 rfl) ⟨by omega, by omega⟩ rfl (zw_mono h (zi_go ?_ ?_))
    · intro v2 S1 hv
      obtain ⟨hS1, h⟩ := hv
      refine zw_stk hm_61 dX5_findRoom_17 (st' := []) rfl rfl ?_
      refine zw_push hm_61 dX5_findRoom_18 (v := .inr (.inr (some 80))) rfl ?_
      refine zw_gf hm_61 dX5_findRoom_19 (v := .inl (mI S1 80 3)) (zT_is hS1 s_80) (zT_t hS1 s_80) rfl f_5_15_5 rfl ?_
      refine zw_push hm_61 dX5_findRoom_22 (v := .inl z) rfl ?_
      refine zw_stk hm_61 dX5_findRoom_23 (st' := [.inl ((mI S1 80 3) + z)]) rfl rfl ?_
      refine zw_push hm_61 dX5_findRoom_24 (v := .inr (.inr (some 80))) rfl ?_
      refine zw_gf hm_61 dX5_findRoom_25 (v := .inl (mI S1 80 2)) (zT_is hS1 s_80) (zT_t hS1 s_80) rfl f_5_9_5 rfl ?_
      refine zw_if2 hm_61 dX5_findRoom_28 (t := 35) rfl zc2_le ?_ ?_
      · intro hc
        rw [if_pos hc] at h
        refine zw_push hm_61 dX5_findRoom_35 (v := .inr (.inr (some 80))) rfl ?_
        refine zw_gf hm_61 dX5_findRoom_36 (v := .inl (mI S1 80 3)) (zT_is hS1 s_80) (zT_t hS1 s_80) rfl f_5_15_5 rfl ?_
        exact zw_iret hm_61 dX5_findRoom_39 h
      · intro hc
        rw [if_neg hc] at h
        refine zw_push hm_61 dX5_findRoom_31 (v := .inl (-1 : Int32)) rfl ?_
        refine zw_goto hm_61 dX5_findRoom_32 (t := 39) rfl ?_
        exact zw_iret hm_61 dX5_findRoom_39 h
    · intro x S9 hx
      exact ⟨by decide, hx⟩
theorem sp_61_80_sl {X : Nat × (Nat → Int32)} {d w : Nat} {f : Nat → Nat → Int32} {r : Nat → Nat → Option Nat} {C Z N : Nat} {Q : Option ma_V ⊕ Nat → ma_S → Prop} {ab : Nat→Nat→Int32} {S : ma_S} (z : Int32) (hd : 5 ≤ d) (hw : 159 ≤ w) (hI : zJ80 f r C Z N S) (hpre0 : xB S (mR S 70)) (hpre1 : aL S = ab) (hpre2 : qI ab) (hpre3 : 1 ≤ z.toInt) (hpre4 : z.toInt ≤ 61) (K : ∀ v S', zJ80 f r C Z N S' → (-1 ≤ v.toInt ∧ v.toInt ≤ 1500) → (xB S' (mR S' 70)) → (aL S' = lRs ab z.toInt ∧ v.toInt = lRp ab z.toInt) → Q (.inl (some (.inl v))) S') : ma_wp X d w 61 0 [(0, .inr (.inr (some 80))), (1, .inl z)] [] S Q := by
  refine g_61_80_sl_0 z (by omega) (by omega) (zG_T hI) ?_
  have f1 := zG_s hI (0) (400000) (c := 80) (k := 3) (by decide)
  have b2 := i_bd z
  first | have e3 : ((mI S 80 3) + z).toInt = (mI S 80 3).toInt + z.toInt := i_add (by omega) (by omega) | have b4 := i_bd ((mI S 80 3) + z)
  have f5 := zG_s hI (0) (1500) (c := 80) (k := 2) (by decide)
  refine zd (fun h6 => ?_) (fun h6 => ?_)
  · skip
    have g7 := i_le h6
    refine zd (fun h8 => ?_) (fun h8 => ?_)
    · skip
      have g9 := i_le h8
      exact K ((mI S 80 3)) _ hI (by omega) (show xB S (mR S 70) from by first | (exact xB_x (xC_o (W := 75) hpre0).2)) (show aL S = lRs ab z.toInt ∧ (mI S 80 3).toInt = lRp ab z.toInt from by first | (have a0 := congrArg Int32.toInt (show ab 87 0 = mI S 80 2 from by rw [← hpre1]; rfl); have a2 := congrArg Int32.toInt (show ab 87 2 = mI S 80 3 from by rw [← hpre1]; rfl); have E := lRs_1 (a := ab) (z := z.toInt) (by omega); refine ⟨hpre1.trans E.symm, ?_⟩; rw [lRp_2 E (by omega)]; omega) | (have a0 := congrArg Int32.toInt (show ab 87 0 = mI S 80 2 from by rw [← hpre1]; rfl); have a2 := congrArg Int32.toInt (show ab 87 2 = mI S 80 3 from by rw [← hpre1]; rfl); exfalso; omega))
    · skip
      have g10 := i_nle h8
      have li11 : (-1 : Int32).toInt = -1 := rfl
      exact K ((-1 : Int32)) _ hI (by omega) (show xB S (mR S 70) from by first | (exact xB_x (xC_o (W := 75) hpre0).2)) (show aL S = lRs ab z.toInt ∧ (-1 : Int32).toInt = lRp ab z.toInt from by first | (have a0 := congrArg Int32.toInt (show ab 87 0 = mI S 80 2 from by rw [← hpre1]; rfl); have a2 := congrArg Int32.toInt (show ab 87 2 = mI S 80 3 from by rw [← hpre1]; rfl); have E := lRs_1 (a := ab) (z := z.toInt) (by omega); refine ⟨hpre1.trans E.symm, ?_⟩; rw [lRp_2 E (by omega)]; omega) | (have a0 := congrArg Int32.toInt (show ab 87 0 = mI S 80 2 from by rw [← hpre1]; rfl); have a2 := congrArg Int32.toInt (show ab 87 2 = mI S 80 3 from by rw [← hpre1]; rfl); exfalso; omega))
  · skip
    have g12 := i_nle h6
    refine sp_62_80_sl (ab := (aL S)) (by omega) (by omega) hI (show xB S (mR S 70) from by first | (exact xB_x (xC_o (W := 75) hpre0).2)) (show aL S = (aL S) from by first | (exact rfl)) (show qI (aL S) from by first | (rw [hpre1]; exact hpre2) | (exact hpre2)) (fun v2 S1 hI_S1 hp_v2 rp0_S1 rp1_S1 => zi_n ⟨zG_T hI_S1, ?_⟩)
    have rp0_S1 : xB S1 (mR S1 70) := rp0_S1
    have rp1_S1 : aL S1 = lCl (aL S) ∧ v2 = aSv (aL S) := rp1_S1
    have f13 := zG_s hI_S1 (0) (400000) (c := 80) (k := 3) (by decide)
    first | have e14 : ((mI S1 80 3) + z).toInt = (mI S1 80 3).toInt + z.toInt := i_add (by omega) (by omega) | have b15 := i_bd ((mI S1 80 3) + z)
    have f16 := zG_s hI_S1 (0) (1500) (c := 80) (k := 2) (by decide)
    refine zd (fun h17 => ?_) (fun h17 => ?_)
    · skip
      have g18 := i_le h17
      exact K ((mI S1 80 3)) _ hI_S1 (by omega) (show xB S1 (mR S1 70) from by first | (exact xB_x (xC_o (W := 75) rp0_S1).2)) (show aL S1 = lRs ab z.toInt ∧ (mI S1 80 3).toInt = lRp ab z.toInt from by first | (have a0 := congrArg Int32.toInt (show ab 87 0 = mI S 80 2 from by rw [← hpre1]; rfl); have a2 := congrArg Int32.toInt (show ab 87 2 = mI S 80 3 from by rw [← hpre1]; rfl); have E := lRs_2 (a := ab) (z := z.toInt) (by omega); have cl := rp1_S1.1; rw [hpre1] at cl; have b0 := congrArg Int32.toInt (show lCl ab 87 0 = mI S1 80 2 from by rw [← cl]; rfl); have b2 := congrArg Int32.toInt (show lCl ab 87 2 = mI S1 80 3 from by rw [← cl]; rfl); refine ⟨cl.trans E.symm, ?_⟩; first | (rw [lRp_1 E (by omega)]; rfl) | (rw [lRp_2 E (by omega)]; omega)))
    · skip
      have g19 := i_nle h17
      have li20 : (-1 : Int32).toInt = -1 := rfl
      exact K ((-1 : Int32)) _ hI_S1 (by omega) (show xB S1 (mR S1 70) from by first | (exact xB_x (xC_o (W := 75) rp0_S1).2)) (show aL S1 = lRs ab z.toInt ∧ (-1 : Int32).toInt = lRp ab z.toInt from by first | (have a0 := congrArg Int32.toInt (show ab 87 0 = mI S 80 2 from by rw [← hpre1]; rfl); have a2 := congrArg Int32.toInt (show ab 87 2 = mI S 80 3 from by rw [← hpre1]; rfl); have E := lRs_2 (a := ab) (z := z.toInt) (by omega); have cl := rp1_S1.1; rw [hpre1] at cl; have b0 := congrArg Int32.toInt (show lCl ab 87 0 = mI S1 80 2 from by rw [← cl]; rfl); have b2 := congrArg Int32.toInt (show lCl ab 87 2 = mI S1 80 3 from by rw [← cl]; rfl); refine ⟨cl.trans E.symm, ?_⟩; first | (rw [lRp_1 E (by omega)]; rfl) | (rw [lRp_2 E (by omega)]; omega)))
theorem g_159_64_sl_p80_0 {X : Nat × (Nat → Int32)} {d w : Nat} {S : ma_S} {Q : Option ma_V ⊕ Nat → ma_S → Prop}  (hd : 7 ≤ d) (hw : 179 ≤ w) (hS : zT S) (h : mR S 64 11 = some 80 ∧ (mR S 64 11 = some 80 ∧ (ma_wp X (d - 1) (w - 21) 62 0 [(0, .inr (.inr (some 80)))] [] S (zi (fun v2 S1 => zT S1 ∧ (Q (.inl (some (.inl v2))) S1)) (fun _ _ => False))))) : ma_wp X d w 159 0 [(0, .inr (.inr (some 64)))] [] S Q := by
  refine zw_push hm_159 dX11_clean_0 (v := .inr (.inr (some 64))) rfl ?_
  refine zw_cv hm_159 dX11_clean_1 v_11_119_11 hm_144 [] [] rfl (zT_rt hS s_64 rfl) ⟨by omega, by omega⟩ rfl ?_
  show ma_wp X (d - 1) (w - 20) 144 0 [(0, .inr (.inr (some 64)))] [] S _
  refine zw_push hm_144 dX11_needCollector_0 (v := .inr (.inr (some 64))) rfl ?_
  obtain ⟨hg, h⟩ := h
  refine zw_gf hm_144 dX11_needCollector_1 (v := .inr (.inr (some 80))) (zT_is hS s_64) (zT_t hS s_64) rfl f_11_98_11 (congrArg (fun z => Sum.inr (Sum.inr z)) hg) ?_
  refine zw_ifnonnull hm_144 dX11_needCollector_4 (t := 15) rfl (fun z => by cases z) (fun _ _ => ?_)
  refine zw_push hm_144 dX11_needCollector_15 (v := .inr (.inr (some 64))) rfl ?_
  obtain ⟨hg, h⟩ := h
  refine zw_gf hm_144 dX11_needCollector_16 (v := .inr (.inr (some 80))) (zT_is hS s_64) (zT_t hS s_64) rfl f_11_98_11 (congrArg (fun z => Sum.inr (Sum.inr z)) hg) ?_
  refine zw_aret hm_144 dX11_needCollector_19 ?_
  show ma_wp X d w 159 4 [(0, .inr (.inr (some 64)))] [.inr (.inr (some 80))] S _
  refine zw_cv hm_159 dX11_clean_4 v_11_207_5 hm_62 [] [] rfl (zT_rt hS s_80 rfl) ⟨by omega, by omega⟩ rfl (zw_mono h (zi_go ?_ ?_))
  · intro v2 S1 hv
    obtain ⟨hS1, h⟩ := hv
    exact zw_iret hm_159 dX11_clean_7 h
  · intro x S9 hx
    exact hx.elim
theorem sp_159_64_sl_p80 {X : Nat × (Nat → Int32)} {d w : Nat} {f : Nat → Nat → Int32} {r : Nat → Nat → Option Nat} {C Z N : Nat} {Q : Option ma_V ⊕ Nat → ma_S → Prop} {ab : Nat→Nat→Int32} {S : ma_S}  (hd : 7 ≤ d) (hw : 179 ≤ w) (hI : zB f r C Z N S) (hr : r 64 11 = some 80) (hpre0 : xB S (mR S 70)) (hpre1 : aL S = ab) (hpre2 : qI ab) (K : ∀ v S', zB f r C Z N S' → (True) → (xB S' (mR S' 70)) → (aL S' = lCl ab ∧ v = aSv ab) → Q (.inl (some (.inl v))) S') : ma_wp X d w 159 0 [(0, .inr (.inr (some 64)))] [] S Q := by
  refine g_159_64_sl_p80_0  (by omega) (by omega) (zG_T hI) ?_
  refine ⟨((zG_r hI (by decide)).trans hr), ?_⟩
  refine ⟨((zG_r hI (by decide)).trans hr), ?_⟩
  refine sp_62_80_sl (ab := (aL S)) (by omega) (by omega) (zB_dn_zJ80 hI) (show xB S (mR S 70) from by first | (exact xB_x (xC_o (W := 75) hpre0).2)) (show aL S = (aL S) from by first | (exact rfl)) (show qI (aL S) from by first | (rw [hpre1]; exact hpre2) | (exact hpre2)) (fun v2 S1 hL_S1 hp_v2 rp0_S1 rp1_S1 => zi_n ⟨zG_T hL_S1, ?_⟩)
  have hI_S1 := zB_up_zJ80 hI hL_S1
  have rp0_S1 : xB S1 (mR S1 70) := by
    have z := rp0_S1
    (try rw [show mI S 65 = f 65 from funext (fun k => zG_z hI rfl)] at z)
    (try rw [show mI S 64 1 = f 64 1 from zG_z hI rfl] at z)
    exact z
  have rp1_S1 : aL S1 = lCl (aL S) ∧ v2 = aSv (aL S) := by
    have z := rp1_S1
    (try rw [show mI S 65 = f 65 from funext (fun k => zG_z hI rfl)] at z)
    (try rw [show mI S 64 1 = f 64 1 from zG_z hI rfl] at z)
    exact z
  have b1 := i_bd v2
  exact K (v2) _ hI_S1 trivial (show xB S1 (mR S1 70) from by first | (exact xB_x (xC_o (W := 75) rp0_S1).2)) (show aL S1 = lCl ab ∧ v2 = aSv ab from by first | (have z := rp1_S1; rw [hpre1] at z; exact z))
theorem g_145_64_80_sl_0 {X : Nat × (Nat → Int32)} {d w : Nat} {S : ma_S} {Q : Option ma_V ⊕ Nat → ma_S → Prop} (i : Int32) (x : Option Nat) (hd : 5 ≤ d) (hw : 110 ≤ w) (hS : zT S) (h : ma_wp X (d - 1) (w - 23) 92 0 [(0, .inr (.inr (some 69))), (1, .inl i), (2, .inr (.inr x))] [] S (zo (fun v2 S1 => zT S1 ∧ (Q (.inl (some (.inr (.inr v2)))) S1)) (fun x S9 => Q (.inr x) S9))) : ma_wp X d w 145 0 [(0, .inr (.inr (some 64))), (1, .inr (.inr (some 80))), (2, .inl i), (3, .inr (.inr x))] [] S Q := by
  refine zw_push hm_145 dX11_changeRoot_0 (v := .inr (.inr (some 64))) rfl ?_
  refine zw_gf hm_145 dX11_changeRoot_1 (v := .inr (.inr (some 69))) (zT_is hS s_64) (zT_t hS s_64) rfl f_11_26_11 (zT_f hS r_64_8) ?_
  refine zw_push hm_145 dX11_changeRoot_4 (v := .inl i) rfl ?_
  refine zw_push hm_145 dX11_changeRoot_5 (v := .inr (.inr x)) rfl ?_
  refine zw_cv hm_145 dX11_changeRoot_6 v_11_379_7 hm_92 [.inr (.inr x), .inl i] [] rfl (zT_rt hS s_69 rfl) ⟨by omega, by omega⟩ rfl (zw_mono h (zo_go ?_ ?_))
  · intro v2 S1 hv
    obtain ⟨hS1, h⟩ := hv
    refine zw_sto hm_145 dX11_changeRoot_9 [(4, .inr (.inr v2)), (0, .inr (.inr (some 64))), (1, .inr (.inr (some 80))), (2, .inl i), (3, .inr (.inr x))] rfl rfl rfl ?_
    refine zw_push hm_145 dX11_changeRoot_11 (v := .inr (.inr (some 80))) rfl ?_
    refine zw_push hm_145 dX11_changeRoot_12 (v := .inr (.inr v2)) rfl ?_
    refine zw_push hm_145 dX11_changeRoot_14 (v := .inr (.inr x)) rfl ?_
    refine zw_cv hm_145 dX11_changeRoot_15 v_11_153_5 hm_265 [.inr (.inr x), .inr (.inr v2)] [] rfl (zT_rt hS1 s_80 rfl) ⟨by omega, by omega⟩ rfl ?_
    show ma_wp X (d - 1) (w - 22) 265 0 [(0, .inr (.inr (some 80))), (1, .inr (.inr v2)), (2, .inr (.inr x))] [] S1 _
    refine zw_vret hm_265 dX1_noteChange_0 ?_
    show ma_wp X d w 145 18 [(4, .inr (.inr v2)), (0, .inr (.inr (some 64))), (1, .inr (.inr (some 80))), (2, .inl i), (3, .inr (.inr x))] [] S1 _
    refine zw_push hm_145 dX11_changeRoot_18 (v := .inr (.inr (some 80))) rfl ?_
    refine zw_push hm_145 dX11_changeRoot_19 (v := .inr (.inr v2)) rfl ?_
    refine zw_cv hm_145 dX11_changeRoot_21 v_11_157_5 hm_266 [.inr (.inr v2)] [] rfl (zT_rt hS1 s_80 rfl) ⟨by omega, by omega⟩ rfl ?_
    show ma_wp X (d - 1) (w - 21) 266 0 [(0, .inr (.inr (some 80))), (1, .inr (.inr v2))] [] S1 _
    refine zw_vret hm_266 dX1_noteFewer_0 ?_
    show ma_wp X d w 145 24 [(4, .inr (.inr v2)), (0, .inr (.inr (some 64))), (1, .inr (.inr (some 80))), (2, .inl i), (3, .inr (.inr x))] [] S1 _
    refine zw_push hm_145 dX11_changeRoot_24 (v := .inr (.inr v2)) rfl ?_
    exact zw_aret hm_145 dX11_changeRoot_26 h
  · intro x S9 hx
    exact ⟨by decide, hx⟩
theorem sp_145_64_80_sl {X : Nat × (Nat → Int32)} {d w : Nat} {f : Nat → Nat → Int32} {r : Nat → Nat → Option Nat} {C Z N : Nat} {Q : Option ma_V ⊕ Nat → ma_S → Prop} {ab : Nat→Nat→Int32} {R : zRT} {y : Int32} {fp : Nat→Int32} {S : ma_S} (i : Int32) (x : Option Nat) (hd : 5 ≤ d) (hw : 110 ≤ w) (hI : zJ80 f r C Z N S) (hq_x : ∀ c, x = some c → 126 ≤ c ∧ c < N) (hpre0 : xB S R) (hpre1 : aS 75 S = ab) (hpre2 : x = zTa R y) (hpre3 : 0 ≤ i.toInt) (hpre4 : i.toInt ≤ 15) (hpre5 : (mI S 80) = fp) (K : ∀ v S', zJ80 f r C Z N S' → (∀ c, v = some c → 126 ≤ c ∧ c < N) → (xB S' R) → (aS 75 S' = aR0 ab i y) → ((mI S' 80) = fp) → Q (.inl (some (.inr (.inr v)))) S') : ma_wp X d w 145 0 [(0, .inr (.inr (some 64))), (1, .inr (.inr (some 80))), (2, .inl i), (3, .inr (.inr x))] [] S Q := by
  refine g_145_64_80_sl_0 i x (by omega) (by omega) (zG_T hI) ?_
  have b1 := i_bd i
  refine sp_92_69_s (ab := (aS 75 S)) (R := R) (W := 75) (y := (y)) (i) (x) (by omega) (by omega) (zJ80_dn hI) hq_x (show xB S R from by first | (exact (xC_o (W := 75) hpre0).2)) (show aS 75 S = (aS 75 S) from by first | (exact rfl)) (show xW 75 from by first | (exact xW88) | (exact xW75)) (show x = zTa R (y) from by first | (exact hpre2)) (by omega) (by omega) (fun v2 S1 hL_S1 hq_v2 rp0_S1 rp1_S1 rp2_S1 => zo_n ⟨zG_T hL_S1, ?_⟩)
  have hI_S1 := zJ80_up hI hL_S1
  have rp0_S1 : xB S1 R := by
    have z := rp0_S1
    (try rw [show mI S 65 = f 65 from funext (fun k => zG_z hI rfl)] at z)
    (try rw [show mI S 64 1 = f 64 1 from zG_z hI rfl] at z)
    exact z
  have rp1_S1 : aS 75 S1 = ma_u (aS 75 S) 72 i.toNatClampNeg (aNm (aS 75 S) (y)) := by
    have z := rp1_S1
    (try rw [show mI S 65 = f 65 from funext (fun k => zG_z hI rfl)] at z)
    (try rw [show mI S 64 1 = f 64 1 from zG_z hI rfl] at z)
    exact z
  have rp2_S1 : v2 = zTa R ((aS 75 S) 72 i.toNatClampNeg) := by
    have z := rp2_S1
    (try rw [show mI S 65 = f 65 from funext (fun k => zG_z hI rfl)] at z)
    (try rw [show mI S 64 1 = f 64 1 from zG_z hI rfl] at z)
    exact z
  exact K (v2) _ hI_S1 hq_v2 (show xB S1 R from by first | (exact (xC_o (W := 75) rp0_S1).2)) (show aS 75 S1 = aR0 ab i y from by first | (rw [rp1_S1, hpre1]; rfl)) (show (mI S1 80) = fp from by first | (exact ((show mI S1 80 = mI S 80 from funext (fun _ => zG_z hL_S1 rfl)).trans hpre5)))
theorem g_63_80_sl_0 {X : Nat × (Nat → Int32)} {d w : Nat} {S : ma_S} {Q : Option ma_V ⊕ Nat → ma_S → Prop} (t : Nat) (hd : 0 ≤ d) (hw : 0 ≤ w) (hS : zT S) (h : (126 ≤ t ∧ t < mN S) ∧ ((126 ≤ t ∧ t < mN S) ∧ (Q (.inl none) (ma_put S 80 3 (.inl ((mI S t 4) + (mI S t 2))))))) : ma_wp X d w 63 0 [(0, .inr (.inr (some 80))), (1, .inr (.inr (some t)))] [] S Q := by
  refine zw_push hm_63 dX5_noteMade_0 (v := .inr (.inr (some 80))) rfl ?_
  refine zw_push hm_63 dX5_noteMade_1 (v := .inr (.inr (some t))) rfl ?_
  obtain ⟨hg, h⟩ := h
  refine zw_gf hm_63 dX5_noteMade_2 (v := .inl (mI S t 4)) (zT_tis hS hg) (zT_tt hS hg) rfl f_5_22_9 rfl ?_
  refine zw_push hm_63 dX5_noteMade_5 (v := .inr (.inr (some t))) rfl ?_
  obtain ⟨hg, h⟩ := h
  refine zw_gf hm_63 dX5_noteMade_6 (v := .inl (mI S t 2)) (zT_tis hS hg) (zT_tt hS hg) rfl f_5_27_9 rfl ?_
  refine zw_stk hm_63 dX5_noteMade_9 (st' := [.inl ((mI S t 4) + (mI S t 2)), .inr (.inr (some 80))]) rfl rfl ?_
  refine zw_pf hm_63 dX5_noteMade_10 (zT_is hS s_80) (zT_t hS s_80) p_5_15_5 zk_int ?_
  exact zw_vret hm_63 dX5_noteMade_13 h
theorem sp_63_80_sl {X : Nat × (Nat → Int32)} {d w : Nat} {f : Nat → Nat → Int32} {r : Nat → Nat → Option Nat} {C Z N : Nat} {Q : Option ma_V ⊕ Nat → ma_S → Prop} {ab : Nat→Nat→Int32} {R : zRT} {y : Int32} {S : ma_S} (t : Nat) (hd : 0 ≤ d) (hw : 0 ≤ w) (hI : zJ80 f r C Z N S) (th_t : 126 ≤ t ∧ t < N) (hpre0 : xB S R) (hpre1 : aL S = ab) (hpre2 : zTa R y = some t) (K : ∀ S', zJ80 f r C Z N S' → (xB S' R) → (aL S' = ma_u ab 87 2 (ab 130 y.toNatClampNeg + ab 128 y.toNatClampNeg)) → Q (.inl none) S') : ma_wp X d w 63 0 [(0, .inr (.inr (some 80))), (1, .inr (.inr (some t)))] [] S Q := by
  refine g_63_80_sl_0 t (by omega) (by omega) (zG_T hI) ?_
  refine ⟨zG_n hI th_t, ?_⟩
  refine ⟨zG_n hI th_t, ?_⟩
  have f2 := zG_th hI th_t
  have f3 := zG_th hI th_t
  first | have e4 : ((mI S t 4) + (mI S t 2)).toInt = (mI S t 4).toInt + (mI S t 2).toInt := i_add (by omega) (by omega) | have b5 := i_bd ((mI S t 4) + (mI S t 2))
  have hI1 : zJ80 f r C Z N (ma_put S 80 3 (.inl ((mI S t 4) + (mI S t 2)))) := zG_sp hI (0) (400000) rfl (by decide) (by decide) (by decide) trivial (by omega) (by omega)
  exact K _ hI1 (show xB (ma_put S 80 3 (.inl ((mI S t 4) + (mI S t 2)))) R from by first | (exact (xC_n (c := 80) (k := 3) (x := ((mI S t 4) + (mI S t 2))) (xC_o (W := 75) hpre0) ⟨by decide, Or.inl ⟨rfl, rfl⟩⟩).2)) (show aL (ma_put S 80 3 (.inl ((mI S t 4) + (mI S t 2)))) = ma_u ab 87 2 (ab 130 y.toNatClampNeg + ab 128 y.toNatClampNeg) from by first | (have ty := xB_th (W := 75) hpre0 hpre2; have f2 : mI S t 2 = ab 128 y.toNatClampNeg := (by rw [← hpre1, aL_o (by decide)]; exact ty.2.2.2.2.1); have f4 : mI S t 4 = ab 130 y.toNatClampNeg := (by rw [← hpre1, aL_o (by decide)]; exact ty.2.2.2.2.2.1); refine (aL_p hpre0).trans ?_; rw [f2, f4, hpre1]))
