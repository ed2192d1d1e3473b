/-! the moving collectors, the class (written by wip/tools/gen15.py) -/
theorem g_31_81_sv_0 {X : Nat × (Nat → Int32)} {d w : Nat} {S : ma_S} {Q : Option ma_V ⊕ Nat → ma_S → Prop} (z : Int32) (hd : 5 ≤ d) (hw : 137 ≤ w) (hS : zT S) (h : if ((mI S 81 3) + (mI S 81 2)) < ((mI S 81 4) + z) then (ma_wp X (d - 1) (w - 23) 33 0 [(0, .inr (.inr (some 81)))] [] S (zi (fun v2 S1 => zT S1 ∧ (if ((mI S1 81 3) + (mI S1 81 2)) < ((mI S1 81 4) + z) then (Q (.inl (some (.inl (-1 : Int32)))) S1) else (Q (.inl (some (.inl (mI S1 81 4)))) S1))) (fun x S9 => Q (.inr x) S9))) else (if ((mI S 81 3) + (mI S 81 2)) < ((mI S 81 4) + z) then (Q (.inl (some (.inl (-1 : Int32)))) S) else (Q (.inl (some (.inl (mI S 81 4)))) S))) : ma_wp X d w 31 0 [(0, .inr (.inr (some 81))), (1, .inl z)] [] S Q := by
  refine zw_push hm_31 dX3_findRoom_0 (v := .inr (.inr (some 81))) rfl ?_
  refine zw_push hm_31 dX3_findRoom_1 (v := .inl z) rfl ?_
  refine zw_cv hm_31 dX3_findRoom_2 v_3_21_3 hm_32 [.inl z] [] rfl (zT_rt hS s_81 rfl) ⟨by omega, by omega⟩ rfl ?_
  show ma_wp X (d - 1) (w - 21) 32 0 [(0, .inr (.inr (some 81))), (1, .inl z)] [] S _
  refine zw_push hm_32 dX3_hasRoom_0 (v := .inr (.inr (some 81))) rfl ?_
  refine zw_gf hm_32 dX3_hasRoom_1 (v := .inl (mI S 81 4)) (zT_is hS s_81) (zT_t hS s_81) rfl f_3_18_3 rfl ?_
  refine zw_push hm_32 dX3_hasRoom_4 (v := .inl z) rfl ?_
  refine zw_stk hm_32 dX3_hasRoom_5 (st' := [.inl ((mI S 81 4) + z)]) rfl rfl ?_
  refine zw_push hm_32 dX3_hasRoom_6 (v := .inr (.inr (some 81))) rfl ?_
  refine zw_gf hm_32 dX3_hasRoom_7 (v := .inl (mI S 81 3)) (zT_is hS s_81) (zT_t hS s_81) rfl f_3_15_3 rfl ?_
  refine zw_push hm_32 dX3_hasRoom_10 (v := .inr (.inr (some 81))) rfl ?_
  refine zw_gf hm_32 dX3_hasRoom_11 (v := .inl (mI S 81 2)) (zT_is hS s_81) (zT_t hS s_81) rfl f_3_9_3 rfl ?_
  refine zw_stk hm_32 dX3_hasRoom_14 (st' := [.inl ((mI S 81 3) + (mI S 81 2)), .inl ((mI S 81 4) + z)]) rfl rfl ?_
  refine zw_if2 hm_32 dX3_hasRoom_15 (t := 22) rfl zc2_gt ?_ ?_
  · intro hc
    rw [if_pos hc] at h
    refine zw_push hm_32 dX3_hasRoom_22 (v := .inl (0 : Int32)) rfl ?_
    refine zw_bret hm_32 dX3_hasRoom_23 (by decide) ?_
    show ma_wp X d w 31 5 [(0, .inr (.inr (some 81))), (1, .inl z)] [.inl (0 : Int32)] S _
    refine zw_if0 hm_31 dX3_findRoom_5 (t := 13) rfl zc0_ne (fun hc => absurd hc (by decide)) (fun _ => ?_)
    refine zw_push hm_31 dX3_findRoom_8 (v := .inr (.inr (some 81))) rfl ?_
    refine zw_cv hm_31 dX3_findRoom_9 v_3_25_3 hm_33 [] [] rfl (zT_rt hS s_81 rfl) ⟨by omega, by omega⟩ rfl (zw_mono h (zi_go ?_ ?_))
    · intro v2 S1 hv
      obtain ⟨hS1, h⟩ := hv
      refine zw_stk hm_31 dX3_findRoom_12 (st' := []) rfl rfl ?_
      refine zw_push hm_31 dX3_findRoom_13 (v := .inr (.inr (some 81))) rfl ?_
      refine zw_push hm_31 dX3_findRoom_14 (v := .inl z) rfl ?_
      refine zw_cv hm_31 dX3_findRoom_15 v_3_21_3 hm_32 [.inl z] [] rfl (zT_rt hS1 s_81 rfl) ⟨by omega, by omega⟩ rfl ?_
      show ma_wp X (d - 1) (w - 21) 32 0 [(0, .inr (.inr (some 81))), (1, .inl z)] [] S1 _
      refine zw_push hm_32 dX3_hasRoom_0 (v := .inr (.inr (some 81))) rfl ?_
      refine zw_gf hm_32 dX3_hasRoom_1 (v := .inl (mI S1 81 4)) (zT_is hS1 s_81) (zT_t hS1 s_81) rfl f_3_18_3 rfl ?_
      refine zw_push hm_32 dX3_hasRoom_4 (v := .inl z) rfl ?_
      refine zw_stk hm_32 dX3_hasRoom_5 (st' := [.inl ((mI S1 81 4) + z)]) rfl rfl ?_
      refine zw_push hm_32 dX3_hasRoom_6 (v := .inr (.inr (some 81))) rfl ?_
      refine zw_gf hm_32 dX3_hasRoom_7 (v := .inl (mI S1 81 3)) (zT_is hS1 s_81) (zT_t hS1 s_81) rfl f_3_15_3 rfl ?_
      refine zw_push hm_32 dX3_hasRoom_10 (v := .inr (.inr (some 81))) rfl ?_
      refine zw_gf hm_32 dX3_hasRoom_11 (v := .inl (mI S1 81 2)) (zT_is hS1 s_81) (zT_t hS1 s_81) rfl f_3_9_3 rfl ?_
      refine zw_stk hm_32 dX3_hasRoom_14 (st' := [.inl ((mI S1 81 3) + (mI S1 81 2)), .inl ((mI S1 81 4) + z)]) rfl rfl ?_
      refine zw_if2 hm_32 dX3_hasRoom_15 (t := 22) rfl zc2_gt ?_ ?_
      · intro hc
        rw [if_pos hc] at h
        refine zw_push hm_32 dX3_hasRoom_22 (v := .inl (0 : Int32)) rfl ?_
        refine zw_bret hm_32 dX3_hasRoom_23 (by decide) ?_
        show ma_wp X d w 31 18 [(0, .inr (.inr (some 81))), (1, .inl z)] [.inl (0 : Int32)] S1 _
        refine zw_if0 hm_31 dX3_findRoom_18 (t := 28) rfl zc0_eq (fun _ => ?_) (fun hc => absurd (by decide) hc)
        refine zw_push hm_31 dX3_findRoom_28 (v := .inl (-1 : Int32)) rfl ?_
        exact zw_iret hm_31 dX3_findRoom_29 h
      · intro hc
        rw [if_neg hc] at h
        refine zw_push hm_32 dX3_hasRoom_18 (v := .inl (1 : Int32)) rfl ?_
        refine zw_goto hm_32 dX3_hasRoom_19 (t := 23) rfl ?_
        refine zw_bret hm_32 dX3_hasRoom_23 (by decide) ?_
        show ma_wp X d w 31 18 [(0, .inr (.inr (some 81))), (1, .inl z)] [.inl (1 : Int32)] S1 _
        refine zw_if0 hm_31 dX3_findRoom_18 (t := 28) rfl zc0_eq (fun hc => absurd hc (by decide)) (fun _ => ?_)
        refine zw_push hm_31 dX3_findRoom_21 (v := .inr (.inr (some 81))) rfl ?_
        refine zw_gf hm_31 dX3_findRoom_22 (v := .inl (mI S1 81 4)) (zT_is hS1 s_81) (zT_t hS1 s_81) rfl f_3_18_3 rfl ?_
        refine zw_goto hm_31 dX3_findRoom_25 (t := 29) rfl ?_
        exact zw_iret hm_31 dX3_findRoom_29 h
    · intro x S9 hx
      exact ⟨by decide, hx⟩
  · intro hc
    rw [if_neg hc] at h
    refine zw_push hm_32 dX3_hasRoom_18 (v := .inl (1 : Int32)) rfl ?_
    refine zw_goto hm_32 dX3_hasRoom_19 (t := 23) rfl ?_
    refine zw_bret hm_32 dX3_hasRoom_23 (by decide) ?_
    show ma_wp X d w 31 5 [(0, .inr (.inr (some 81))), (1, .inl z)] [.inl (1 : Int32)] S _
    refine zw_if0 hm_31 dX3_findRoom_5 (t := 13) rfl zc0_ne (fun _ => ?_) (fun hc => absurd (by decide) hc)
    refine zw_push hm_31 dX3_findRoom_13 (v := .inr (.inr (some 81))) rfl ?_
    refine zw_push hm_31 dX3_findRoom_14 (v := .inl z) rfl ?_
    refine zw_cv hm_31 dX3_findRoom_15 v_3_21_3 hm_32 [.inl z] [] rfl (zT_rt hS s_81 rfl) ⟨by omega, by omega⟩ rfl ?_
    show ma_wp X (d - 1) (w - 21) 32 0 [(0, .inr (.inr (some 81))), (1, .inl z)] [] S _
    refine zw_push hm_32 dX3_hasRoom_0 (v := .inr (.inr (some 81))) rfl ?_
    refine zw_gf hm_32 dX3_hasRoom_1 (v := .inl (mI S 81 4)) (zT_is hS s_81) (zT_t hS s_81) rfl f_3_18_3 rfl ?_
    refine zw_push hm_32 dX3_hasRoom_4 (v := .inl z) rfl ?_
    refine zw_stk hm_32 dX3_hasRoom_5 (st' := [.inl ((mI S 81 4) + z)]) rfl rfl ?_
    refine zw_push hm_32 dX3_hasRoom_6 (v := .inr (.inr (some 81))) rfl ?_
    refine zw_gf hm_32 dX3_hasRoom_7 (v := .inl (mI S 81 3)) (zT_is hS s_81) (zT_t hS s_81) rfl f_3_15_3 rfl ?_
    refine zw_push hm_32 dX3_hasRoom_10 (v := .inr (.inr (some 81))) rfl ?_
    refine zw_gf hm_32 dX3_hasRoom_11 (v := .inl (mI S 81 2)) (zT_is hS s_81) (zT_t hS s_81) rfl f_3_9_3 rfl ?_
    refine zw_stk hm_32 dX3_hasRoom_14 (st' := [.inl ((mI S 81 3) + (mI S 81 2)), .inl ((mI S 81 4) + z)]) rfl rfl ?_
    refine zw_if2 hm_32 dX3_hasRoom_15 (t := 22) rfl zc2_gt ?_ ?_
    · intro hc
      rw [if_pos hc] at h
      refine zw_push hm_32 dX3_hasRoom_22 (v := .inl (0 : Int32)) rfl ?_
      refine zw_bret hm_32 dX3_hasRoom_23 (by decide) ?_
      show ma_wp X d w 31 18 [(0, .inr (.inr (some 81))), (1, .inl z)] [.inl (0 : Int32)] S _
      refine zw_if0 hm_31 dX3_findRoom_18 (t := 28) rfl zc0_eq (fun _ => ?_) (fun hc => absurd (by decide) hc)
      refine zw_push hm_31 dX3_findRoom_28 (v := .inl (-1 : Int32)) rfl ?_
      exact zw_iret hm_31 dX3_findRoom_29 h
    · intro hc
      rw [if_neg hc] at h
      refine zw_push hm_32 dX3_hasRoom_18 (v := .inl (1 : Int32)) rfl ?_
      refine zw_goto hm_32 dX3_hasRoom_19 (t := 23) rfl ?_
      refine zw_bret hm_32 dX3_hasRoom_23 (by decide) ?_
      show ma_wp X d w 31 18 [(0, .inr (.inr (some 81))), (1, .inl z)] [.inl (1 : Int32)] S _
      refine zw_if0 hm_31 dX3_findRoom_18 (t := 28) rfl zc0_eq (fun hc => absurd hc (by decide)) (fun _ => ?_)
      refine zw_push hm_31 dX3_findRoom_21 (v := .inr (.inr (some 81))) rfl ?_
      refine zw_gf hm_31 dX3_findRoom_22 (v := .inl (mI S 81 4)) (zT_is hS s_81) (zT_t hS s_81) rfl f_3_18_3 rfl ?_
      refine zw_goto hm_31 dX3_findRoom_25 (t := 29) rfl ?_
      exact zw_iret hm_31 dX3_findRoom_29 h
theorem sp_31_81_sv {X : Nat × (Nat → Int32)} {d w : Nat} {f : Nat → Nat → Int32} {r : Nat → Nat → Option Nat} {C Z N : Nat} {Q : Option ma_V ⊕ Nat → ma_S → Prop} {ab : Nat→Nat→Int32} {S : ma_S} (z : Int32) (hd : 5 ≤ d) (hw : 137 ≤ w) (hI : zJ81 f r C Z N S) (hpre0 : xB S (mR S 70)) (hpre1 : aH S = ab) (hpre2 : qHv ab) (hpre3 : 1 ≤ z.toInt) (hpre4 : z.toInt ≤ 61) (K : ∀ v S', zJ81 f r C Z N S' → (-1 ≤ v.toInt ∧ v.toInt ≤ 3000) → (xB S' (mR S' 70)) → (aH S' = hRs ab z.toInt ∧ v.toInt = hRp ab z.toInt) → Q (.inl (some (.inl v))) S') : ma_wp X d w 31 0 [(0, .inr (.inr (some 81))), (1, .inl z)] [] S Q := by
  refine g_31_81_sv_0 z (by omega) (by omega) (zG_T hI) ?_
  have x1 : 0 ≤ (mI S 81 3).toInt ∧ (mI S 81 3).toInt ≤ (mI S 81 2).toInt := zG_x hI
  have f2 := zG_s hI (0) (1500) (c := 81) (k := 3) (by decide)
  have f3 := zG_s hI (0) (1500) (c := 81) (k := 2) (by decide)
  first | have e4 : ((mI S 81 3) + (mI S 81 2)).toInt = (mI S 81 3).toInt + (mI S 81 2).toInt := i_add (by omega) (by omega) | have b5 := i_bd ((mI S 81 3) + (mI S 81 2))
  have f6 := zG_s hI (0) (400000) (c := 81) (k := 4) (by decide)
  have b7 := i_bd z
  first | have e8 : ((mI S 81 4) + z).toInt = (mI S 81 4).toInt + z.toInt := i_add (by omega) (by omega) | have b9 := i_bd ((mI S 81 4) + z)
  refine zd (fun h10 => ?_) (fun h10 => ?_)
  · skip
    have g11 := i_lt h10
    refine sp_33_81_sv (ab := (aH S)) (by omega) (by omega) hI (show xB S (mR S 70) from by first | (exact xB_x (xC_o (W := 75) hpre0).2)) (show aH S = (aH S) from by first | (exact rfl)) (show qHv (aH S) from by first | (rw [hpre1]; exact hpre2) | (exact hpre2)) (fun v2 S1 hI_S1 hp_v2 rp0_S1 rp1_S1 => zi_n ⟨zG_T hI_S1, ?_⟩)
    have rp0_S1 : xB S1 (mR S1 70) := rp0_S1
    have rp1_S1 : aH S1 = hCl (aH S) ∧ v2 = aSv (aH S) := rp1_S1
    have x12 : 0 ≤ (mI S1 81 3).toInt ∧ (mI S1 81 3).toInt ≤ (mI S1 81 2).toInt := zG_x hI_S1
    have f13 := zG_s hI_S1 (0) (1500) (c := 81) (k := 3) (by decide)
    have f14 := zG_s hI_S1 (0) (1500) (c := 81) (k := 2) (by decide)
    first | have e15 : ((mI S1 81 3) + (mI S1 81 2)).toInt = (mI S1 81 3).toInt + (mI S1 81 2).toInt := i_add (by omega) (by omega) | have b16 := i_bd ((mI S1 81 3) + (mI S1 81 2))
    have f17 := zG_s hI_S1 (0) (400000) (c := 81) (k := 4) (by decide)
    first | have e18 : ((mI S1 81 4) + z).toInt = (mI S1 81 4).toInt + z.toInt := i_add (by omega) (by omega) | have b19 := i_bd ((mI S1 81 4) + z)
    refine zd (fun h20 => ?_) (fun h20 => ?_)
    · skip
      have g21 := i_lt h20
      have li22 : (-1 : Int32).toInt = -1 := rfl
      exact K ((-1 : Int32)) _ hI_S1 (by omega) (show xB S1 (mR S1 70) from by first | (exact xB_x (xC_o (W := 75) rp0_S1).2)) (show aH S1 = hRs ab z.toInt ∧ (-1 : Int32).toInt = hRp ab z.toInt from by first | (have a3 := congrArg Int32.toInt (show ab 87 3 = mI S 81 3 from by rw [← hpre1]; rfl); have a4 := congrArg Int32.toInt (show ab 87 4 = mI S 81 4 from by rw [← hpre1]; rfl); have a5 := congrArg Int32.toInt (show ab 87 5 = mI S 81 2 from by rw [← hpre1]; rfl); have E := hRs_2 (a := ab) (z := z.toInt) (by unfold hOk; omega); have cl := rp1_S1.1; rw [hpre1] at cl; have b3 := congrArg Int32.toInt (show hCl ab 87 3 = mI S1 81 3 from by rw [← cl]; rfl); have b4 := congrArg Int32.toInt (show hCl ab 87 4 = mI S1 81 4 from by rw [← cl]; rfl); have b5 := congrArg Int32.toInt (show hCl ab 87 5 = mI S1 81 2 from by rw [← cl]; rfl); refine ⟨cl.trans E.symm, ?_⟩; first | (rw [hRp_1 E (by unfold hOk; omega)]; omega) | (rw [hRp_2 E (by unfold hOk; omega)]; rfl)))
    · skip
      have g23 := i_nlt h20
      exact K ((mI S1 81 4)) _ hI_S1 (by omega) (show xB S1 (mR S1 70) from by first | (exact xB_x (xC_o (W := 75) rp0_S1).2)) (show aH S1 = hRs ab z.toInt ∧ (mI S1 81 4).toInt = hRp ab z.toInt from by first | (have a3 := congrArg Int32.toInt (show ab 87 3 = mI S 81 3 from by rw [← hpre1]; rfl); have a4 := congrArg Int32.toInt (show ab 87 4 = mI S 81 4 from by rw [← hpre1]; rfl); have a5 := congrArg Int32.toInt (show ab 87 5 = mI S 81 2 from by rw [← hpre1]; rfl); have E := hRs_2 (a := ab) (z := z.toInt) (by unfold hOk; omega); have cl := rp1_S1.1; rw [hpre1] at cl; have b3 := congrArg Int32.toInt (show hCl ab 87 3 = mI S1 81 3 from by rw [← cl]; rfl); have b4 := congrArg Int32.toInt (show hCl ab 87 4 = mI S1 81 4 from by rw [← cl]; rfl); have b5 := congrArg Int32.toInt (show hCl ab 87 5 = mI S1 81 2 from by rw [← cl]; rfl); refine ⟨cl.trans E.symm, ?_⟩; first | (rw [hRp_1 E (by unfold hOk; omega)]; omega) | (rw [hRp_2 E (by unfold hOk; omega)]; rfl)))
  · skip
    have g24 := i_nlt h10
    refine zd (fun h25 => ?_) (fun h25 => ?_)
    · skip
      have g26 := i_lt h25
      have li27 : (-1 : Int32).toInt = -1 := rfl
      exact K ((-1 : Int32)) _ hI (by omega) (show xB S (mR S 70) from by first | (exact xB_x (xC_o (W := 75) hpre0).2)) (show aH S = hRs ab z.toInt ∧ (-1 : Int32).toInt = hRp ab z.toInt from by first | (have a3 := congrArg Int32.toInt (show ab 87 3 = mI S 81 3 from by rw [← hpre1]; rfl); have a4 := congrArg Int32.toInt (show ab 87 4 = mI S 81 4 from by rw [← hpre1]; rfl); have a5 := congrArg Int32.toInt (show ab 87 5 = mI S 81 2 from by rw [← hpre1]; rfl); have E := hRs_1 (a := ab) (z := z.toInt) (by unfold hOk; omega); refine ⟨hpre1.trans E.symm, ?_⟩; rw [hRp_1 E (by unfold hOk; omega)]; omega) | (have a3 := congrArg Int32.toInt (show ab 87 3 = mI S 81 3 from by rw [← hpre1]; rfl); have a4 := congrArg Int32.toInt (show ab 87 4 = mI S 81 4 from by rw [← hpre1]; rfl); have a5 := congrArg Int32.toInt (show ab 87 5 = mI S 81 2 from by rw [← hpre1]; rfl); exfalso; omega))
    · skip
      have g28 := i_nlt h25
      exact K ((mI S 81 4)) _ hI (by omega) (show xB S (mR S 70) from by first | (exact xB_x (xC_o (W := 75) hpre0).2)) (show aH S = hRs ab z.toInt ∧ (mI S 81 4).toInt = hRp ab z.toInt from by first | (have a3 := congrArg Int32.toInt (show ab 87 3 = mI S 81 3 from by rw [← hpre1]; rfl); have a4 := congrArg Int32.toInt (show ab 87 4 = mI S 81 4 from by rw [← hpre1]; rfl); have a5 := congrArg Int32.toInt (show ab 87 5 = mI S 81 2 from by rw [← hpre1]; rfl); have E := hRs_1 (a := ab) (z := z.toInt) (by unfold hOk; omega); refine ⟨hpre1.trans E.symm, ?_⟩; rw [hRp_1 E (by unfold hOk; omega)]; omega) | (have a3 := congrArg Int32.toInt (show ab 87 3 = mI S 81 3 from by rw [← hpre1]; rfl); have a4 := congrArg Int32.toInt (show ab 87 4 = mI S 81 4 from by rw [← hpre1]; rfl); have a5 := congrArg Int32.toInt (show ab 87 5 = mI S 81 2 from by rw [← hpre1]; rfl); exfalso; omega))
theorem g_159_64_sv_p81_0 {X : Nat × (Nat → Int32)} {d w : Nat} {S : ma_S} {Q : Option ma_V ⊕ Nat → ma_S → Prop}  (hd : 7 ≤ d) (hw : 179 ≤ w) (hS : zT S) (h : mR S 64 11 = some 81 ∧ (mR S 64 11 = some 81 ∧ (ma_wp X (d - 1) (w - 23) 33 0 [(0, .inr (.inr (some 81)))] [] S (zi (fun v2 S1 => zT S1 ∧ (Q (.inl (some (.inl v2))) S1)) (fun _ _ => False))))) : ma_wp X d w 159 0 [(0, .inr (.inr (some 64)))] [] S Q := by
  refine zw_push hm_159 dX11_clean_0 (v := .inr (.inr (some 64))) rfl ?_
  refine zw_cv hm_159 dX11_clean_1 v_11_119_11 hm_144 [] [] rfl (zT_rt hS s_64 rfl) ⟨by omega, by omega⟩ rfl ?_
  show ma_wp X (d - 1) (w - 20) 144 0 [(0, .inr (.inr (some 64)))] [] S _
  refine zw_push hm_144 dX11_needCollector_0 (v := .inr (.inr (some 64))) rfl ?_
  obtain ⟨hg, h⟩ := h
  refine zw_gf hm_144 dX11_needCollector_1 (v := .inr (.inr (some 81))) (zT_is hS s_64) (zT_t hS s_64) rfl f_11_98_11 (congrArg (fun z => Sum.inr (Sum.inr z)) hg) ?_
  refine zw_ifnonnull hm_144 dX11_needCollector_4 (t := 15) rfl (fun z => by cases z) (fun _ _ => ?_)
  refine zw_push hm_144 dX11_needCollector_15 (v := .inr (.inr (some 64))) rfl ?_
  obtain ⟨hg, h⟩ := h
  refine zw_gf hm_144 dX11_needCollector_16 (v := .inr (.inr (some 81))) (zT_is hS s_64) (zT_t hS s_64) rfl f_11_98_11 (congrArg (fun z => Sum.inr (Sum.inr z)) hg) ?_
  refine zw_aret hm_144 dX11_needCollector_19 ?_
  show ma_wp X d w 159 4 [(0, .inr (.inr (some 64)))] [.inr (.inr (some 81))] S _
  refine zw_cv hm_159 dX11_clean_4 v_11_207_3 hm_33 [] [] rfl (zT_rt hS s_81 rfl) ⟨by omega, by omega⟩ rfl (zw_mono h (zi_go ?_ ?_))
  · intro v2 S1 hv
    obtain ⟨hS1, h⟩ := hv
    exact zw_iret hm_159 dX11_clean_7 h
  · intro x S9 hx
    exact hx.elim
theorem sp_159_64_sv_p81 {X : Nat × (Nat → Int32)} {d w : Nat} {f : Nat → Nat → Int32} {r : Nat → Nat → Option Nat} {C Z N : Nat} {Q : Option ma_V ⊕ Nat → ma_S → Prop} {ab : Nat→Nat→Int32} {S : ma_S}  (hd : 7 ≤ d) (hw : 179 ≤ w) (hI : zB f r C Z N S) (hr : r 64 11 = some 81) (hpre0 : xB S (mR S 70)) (hpre1 : aH S = ab) (hpre2 : qHv ab) (K : ∀ v S', zB f r C Z N S' → (True) → (xB S' (mR S' 70)) → (aH S' = hCl ab ∧ v = aSv ab) → Q (.inl (some (.inl v))) S') : ma_wp X d w 159 0 [(0, .inr (.inr (some 64)))] [] S Q := by
  refine g_159_64_sv_p81_0  (by omega) (by omega) (zG_T hI) ?_
  refine ⟨((zG_r hI (by decide)).trans hr), ?_⟩
  refine ⟨((zG_r hI (by decide)).trans hr), ?_⟩
  refine sp_33_81_sv (ab := (aH S)) (by omega) (by omega) (zB_dn_zJ81 hI) (show xB S (mR S 70) from by first | (exact xB_x (xC_o (W := 75) hpre0).2)) (show aH S = (aH S) from by first | (exact rfl)) (show qHv (aH S) from by first | (rw [hpre1]; exact hpre2) | (exact hpre2)) (fun v2 S1 hL_S1 hp_v2 rp0_S1 rp1_S1 => zi_n ⟨zG_T hL_S1, ?_⟩)
  have hI_S1 := zB_up_zJ81 hI hL_S1
  have rp0_S1 : xB S1 (mR S1 70) := by
    have z := rp0_S1
    (try rw [show mI S 65 = f 65 from funext (fun k => zG_z hI rfl)] at z)
    (try rw [show mI S 64 1 = f 64 1 from zG_z hI rfl] at z)
    exact z
  have rp1_S1 : aH S1 = hCl (aH S) ∧ v2 = aSv (aH S) := by
    have z := rp1_S1
    (try rw [show mI S 65 = f 65 from funext (fun k => zG_z hI rfl)] at z)
    (try rw [show mI S 64 1 = f 64 1 from zG_z hI rfl] at z)
    exact z
  have b1 := i_bd v2
  exact K (v2) _ hI_S1 trivial (show xB S1 (mR S1 70) from by first | (exact xB_x (xC_o (W := 75) rp0_S1).2)) (show aH S1 = hCl ab ∧ v2 = aSv ab from by first | (have z := rp1_S1; rw [hpre1] at z; exact z))
theorem g_145_64_81_sv_0 {X : Nat × (Nat → Int32)} {d w : Nat} {S : ma_S} {Q : Option ma_V ⊕ Nat → ma_S → Prop} (i : Int32) (x : Option Nat) (hd : 5 ≤ d) (hw : 110 ≤ w) (hS : zT S) (h : ma_wp X (d - 1) (w - 23) 92 0 [(0, .inr (.inr (some 69))), (1, .inl i), (2, .inr (.inr x))] [] S (zo (fun v2 S1 => zT S1 ∧ (Q (.inl (some (.inr (.inr v2)))) S1)) (fun x S9 => Q (.inr x) S9))) : ma_wp X d w 145 0 [(0, .inr (.inr (some 64))), (1, .inr (.inr (some 81))), (2, .inl i), (3, .inr (.inr x))] [] S Q := by
  refine zw_push hm_145 dX11_changeRoot_0 (v := .inr (.inr (some 64))) rfl ?_
  refine zw_gf hm_145 dX11_changeRoot_1 (v := .inr (.inr (some 69))) (zT_is hS s_64) (zT_t hS s_64) rfl f_11_26_11 (zT_f hS r_64_8) ?_
  refine zw_push hm_145 dX11_changeRoot_4 (v := .inl i) rfl ?_
  refine zw_push hm_145 dX11_changeRoot_5 (v := .inr (.inr x)) rfl ?_
  refine zw_cv hm_145 dX11_changeRoot_6 v_11_379_7 hm_92 [.inr (.inr x), .inl i] [] rfl (zT_rt hS s_69 rfl) ⟨by omega, by omega⟩ rfl (zw_mono h (zo_go ?_ ?_))
  · intro v2 S1 hv
    obtain ⟨hS1, h⟩ := hv
    refine zw_sto hm_145 dX11_changeRoot_9 [(4, .inr (.inr v2)), (0, .inr (.inr (some 64))), (1, .inr (.inr (some 81))), (2, .inl i), (3, .inr (.inr x))] rfl rfl rfl ?_
    refine zw_push hm_145 dX11_changeRoot_11 (v := .inr (.inr (some 81))) rfl ?_
    refine zw_push hm_145 dX11_changeRoot_12 (v := .inr (.inr v2)) rfl ?_
    refine zw_push hm_145 dX11_changeRoot_14 (v := .inr (.inr x)) rfl ?_
    refine zw_cv hm_145 dX11_changeRoot_15 v_11_153_3 hm_265 [.inr (.inr x), .inr (.inr v2)] [] rfl (zT_rt hS1 s_81 rfl) ⟨by omega, by omega⟩ rfl ?_
    show ma_wp X (d - 1) (w - 22) 265 0 [(0, .inr (.inr (some 81))), (1, .inr (.inr v2)), (2, .inr (.inr x))] [] S1 _
    refine zw_vret hm_265 dX1_noteChange_0 ?_
    show ma_wp X d w 145 18 [(4, .inr (.inr v2)), (0, .inr (.inr (some 64))), (1, .inr (.inr (some 81))), (2, .inl i), (3, .inr (.inr x))] [] S1 _
    refine zw_push hm_145 dX11_changeRoot_18 (v := .inr (.inr (some 81))) rfl ?_
    refine zw_push hm_145 dX11_changeRoot_19 (v := .inr (.inr v2)) rfl ?_
    refine zw_cv hm_145 dX11_changeRoot_21 v_11_157_3 hm_266 [.inr (.inr v2)] [] rfl (zT_rt hS1 s_81 rfl) ⟨by omega, by omega⟩ rfl ?_
    show ma_wp X (d - 1) (w - 21) 266 0 [(0, .inr (.inr (some 81))), (1, .inr (.inr v2))] [] S1 _
    refine zw_vret hm_266 dX1_noteFewer_0 ?_
    show ma_wp X d w 145 24 [(4, .inr (.inr v2)), (0, .inr (.inr (some 64))), (1, .inr (.inr (some 81))), (2, .inl i), (3, .inr (.inr x))] [] S1 _
    refine zw_push hm_145 dX11_changeRoot_24 (v := .inr (.inr v2)) rfl ?_
    exact zw_aret hm_145 dX11_changeRoot_26 h
  · intro x S9 hx
    exact ⟨by decide, hx⟩
theorem sp_145_64_81_sv {X : Nat × (Nat → Int32)} {d w : Nat} {f : Nat → Nat → Int32} {r : Nat → Nat → Option Nat} {C Z N : Nat} {Q : Option ma_V ⊕ Nat → ma_S → Prop} {ab : Nat→Nat→Int32} {R : zRT} {y : Int32} {fp : Nat→Int32} {S : ma_S} (i : Int32) (x : Option Nat) (hd : 5 ≤ d) (hw : 110 ≤ w) (hI : zJ81 f r C Z N S) (hq_x : ∀ c, x = some c → 126 ≤ c ∧ c < N) (hpre0 : xB S R) (hpre1 : aS 75 S = ab) (hpre2 : x = zTa R y) (hpre3 : 0 ≤ i.toInt) (hpre4 : i.toInt ≤ 15) (hpre5 : (mI S 81) = fp) (K : ∀ v S', zJ81 f r C Z N S' → (∀ c, v = some c → 126 ≤ c ∧ c < N) → (xB S' R) → (aS 75 S' = aR0 ab i y) → ((mI S' 81) = fp) → Q (.inl (some (.inr (.inr v)))) S') : ma_wp X d w 145 0 [(0, .inr (.inr (some 64))), (1, .inr (.inr (some 81))), (2, .inl i), (3, .inr (.inr x))] [] S Q := by
  refine g_145_64_81_sv_0 i x (by omega) (by omega) (zG_T hI) ?_
  have b1 := i_bd i
  refine sp_92_69_s (ab := (aS 75 S)) (R := R) (W := 75) (y := (y)) (i) (x) (by omega) (by omega) (zJ81_dn hI) hq_x (show xB S R from by first | (exact (xC_o (W := 75) hpre0).2)) (show aS 75 S = (aS 75 S) from by first | (exact rfl)) (show xW 75 from by first | (exact xW88) | (exact xW75)) (show x = zTa R (y) from by first | (exact hpre2)) (by omega) (by omega) (fun v2 S1 hL_S1 hq_v2 rp0_S1 rp1_S1 rp2_S1 => zo_n ⟨zG_T hL_S1, ?_⟩)
  have hI_S1 := zJ81_up hI hL_S1
  have rp0_S1 : xB S1 R := by
    have z := rp0_S1
    (try rw [show mI S 65 = f 65 from funext (fun k => zG_z hI rfl)] at z)
    (try rw [show mI S 64 1 = f 64 1 from zG_z hI rfl] at z)
    exact z
  have rp1_S1 : aS 75 S1 = ma_u (aS 75 S) 72 i.toNatClampNeg (aNm (aS 75 S) (y)) := by
    have z := rp1_S1
    (try rw [show mI S 65 = f 65 from funext (fun k => zG_z hI rfl)] at z)
    (try rw [show mI S 64 1 = f 64 1 from zG_z hI rfl] at z)
    exact z
  have rp2_S1 : v2 = zTa R ((aS 75 S) 72 i.toNatClampNeg) := by
    have z := rp2_S1
    (try rw [show mI S 65 = f 65 from funext (fun k => zG_z hI rfl)] at z)
    (try rw [show mI S 64 1 = f 64 1 from zG_z hI rfl] at z)
    exact z
  exact K (v2) _ hI_S1 hq_v2 (show xB S1 R from by first | (exact (xC_o (W := 75) rp0_S1).2)) (show aS 75 S1 = aR0 ab i y from by first | (rw [rp1_S1, hpre1]; rfl)) (show (mI S1 81) = fp from by first | (exact ((show mI S1 81 = mI S 81 from funext (fun _ => zG_z hL_S1 rfl)).trans hpre5)))
theorem g_34_81_sv_0 {X : Nat × (Nat → Int32)} {d w : Nat} {S : ma_S} {Q : Option ma_V ⊕ Nat → ma_S → Prop} (t : Nat) (hd : 0 ≤ d) (hw : 0 ≤ w) (hS : zT S) (h : (126 ≤ t ∧ t < mN S) ∧ ((126 ≤ t ∧ t < mN S) ∧ (Q (.inl none) (ma_put S 81 4 (.inl ((mI S t 4) + (mI S t 2))))))) : ma_wp X d w 34 0 [(0, .inr (.inr (some 81))), (1, .inr (.inr (some t)))] [] S Q := by
  refine zw_push hm_34 dX3_noteMade_0 (v := .inr (.inr (some 81))) rfl ?_
  refine zw_push hm_34 dX3_noteMade_1 (v := .inr (.inr (some t))) rfl ?_
  obtain ⟨hg, h⟩ := h
  refine zw_gf hm_34 dX3_noteMade_2 (v := .inl (mI S t 4)) (zT_tis hS hg) (zT_tt hS hg) rfl f_3_29_9 rfl ?_
  refine zw_push hm_34 dX3_noteMade_5 (v := .inr (.inr (some t))) rfl ?_
  obtain ⟨hg, h⟩ := h
  refine zw_gf hm_34 dX3_noteMade_6 (v := .inl (mI S t 2)) (zT_tis hS hg) (zT_tt hS hg) rfl f_3_34_9 rfl ?_
  refine zw_stk hm_34 dX3_noteMade_9 (st' := [.inl ((mI S t 4) + (mI S t 2)), .inr (.inr (some 81))]) rfl rfl ?_
  refine zw_pf hm_34 dX3_noteMade_10 (zT_is hS s_81) (zT_t hS s_81) p_3_18_3 zk_int ?_
  exact zw_vret hm_34 dX3_noteMade_13 h
theorem sp_34_81_sv {X : Nat × (Nat → Int32)} {d w : Nat} {f : Nat → Nat → Int32} {r : Nat → Nat → Option Nat} {C Z N : Nat} {Q : Option ma_V ⊕ Nat → ma_S → Prop} {ab : Nat→Nat→Int32} {R : zRT} {y : Int32} {S : ma_S} (t : Nat) (hd : 0 ≤ d) (hw : 0 ≤ w) (hI : zJ81 f r C Z N S) (th_t : 126 ≤ t ∧ t < N) (hpre0 : xB S R) (hpre1 : aH S = ab) (hpre2 : zTa R y = some t) (K : ∀ S', zJ81 f r C Z N S' → (xB S' R) → (aH S' = ma_u ab 87 4 (ab 130 y.toNatClampNeg + ab 128 y.toNatClampNeg)) → Q (.inl none) S') : ma_wp X d w 34 0 [(0, .inr (.inr (some 81))), (1, .inr (.inr (some t)))] [] S Q := by
  refine g_34_81_sv_0 t (by omega) (by omega) (zG_T hI) ?_
  refine ⟨zG_n hI th_t, ?_⟩
  refine ⟨zG_n hI th_t, ?_⟩
  have f2 := zG_th hI th_t
  have f3 := zG_th hI th_t
  first | have e4 : ((mI S t 4) + (mI S t 2)).toInt = (mI S t 4).toInt + (mI S t 2).toInt := i_add (by omega) (by omega) | have b5 := i_bd ((mI S t 4) + (mI S t 2))
  have hI1 : zJ81 f r C Z N (ma_put S 81 4 (.inl ((mI S t 4) + (mI S t 2)))) := zG_sp hI (0) (400000) rfl (by decide) (by decide) (by decide) (show zJ81_x (mI S) from zG_x hI) (by omega) (by omega)
  exact K _ hI1 (show xB (ma_put S 81 4 (.inl ((mI S t 4) + (mI S t 2)))) R from by first | (exact (xC_n (c := 81) (k := 4) (x := ((mI S t 4) + (mI S t 2))) (xC_o (W := 75) hpre0) ⟨by decide, Or.inl ⟨rfl, rfl⟩⟩).2)) (show aH (ma_put S 81 4 (.inl ((mI S t 4) + (mI S t 2)))) = ma_u ab 87 4 (ab 130 y.toNatClampNeg + ab 128 y.toNatClampNeg) from by first | (have ty := xB_th (W := 75) hpre0 hpre2; have f2 : mI S t 2 = ab 128 y.toNatClampNeg := (by rw [← hpre1, aH_o (by decide)]; exact ty.2.2.2.2.1); have f4 : mI S t 4 = ab 130 y.toNatClampNeg := (by rw [← hpre1, aH_o (by decide)]; exact ty.2.2.2.2.2.1); refine (aH_p hpre0).trans ?_; rw [f2, f4, hpre1]))
