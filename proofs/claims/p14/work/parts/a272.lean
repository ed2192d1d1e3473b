/-! from 95.u26 -/
/-! AGES, the class (written by wip/tools/gen15y.py) -/
theorem g_19_82_sy_0 {X : Nat × (Nat → Int32)} {d w : Nat} {S : ma_S} {Q : Option ma_V ⊕ Nat → ma_S → Prop}  (hd : 5 ≤ d) (hw : 180 ≤ w) (hS : zT S) (h : ma_wp X (d - 1) (w - 21) 5 0 [(0, .inr (.inr (some 82)))] [] S (zi (fun v2 S1 => zT S1 ∧ (ma_wp X (d - 1) (w - 21) 11 0 [(0, .inr (.inr (some 82)))] [] S1 (zi (fun v4 S3 => zT S3 ∧ (Q (.inl (some (.inl (v2 + v4)))) S3)) (fun x S9 => Q (.inr x) S9)))) (fun x S9 => Q (.inr x) S9))) : ma_wp X d w 19 0 [(0, .inr (.inr (some 82)))] [] S Q := by
  refine zw_push hm_19 dX0_cleanAll_0 (v := .inr (.inr (some 82))) rfl ?_
  refine zw_cv hm_19 dX0_cleanAll_1 v_1_55_1 hm_5 [] [] rfl (zT_rt hS s_82 rfl) ⟨by omega, by omega⟩ rfl (zw_mono h (zi_go ?_ ?_))
  · intro v2 S1 hv
    obtain ⟨hS1, h⟩ := hv
    refine zw_sto hm_19 dX0_cleanAll_4 [(1, .inl v2), (0, .inr (.inr (some 82)))] rfl rfl rfl ?_
    refine zw_push hm_19 dX0_cleanAll_5 (v := .inl v2) rfl ?_
    refine zw_push hm_19 dX0_cleanAll_6 (v := .inr (.inr (some 82))) rfl ?_
    refine zw_cv hm_19 dX0_cleanAll_7 v_1_51_1 hm_11 [] [.inl v2] rfl (zT_rt hS1 s_82 rfl) ⟨by omega, by omega⟩ rfl (zw_mono h (zi_go ?_ ?_))
    · intro v4 S3 hv
      obtain ⟨hS3, h⟩ := hv
      refine zw_stk hm_19 dX0_cleanAll_10 (st₉ := [.inl (v2 + v4)]) rfl rfl ?_
      exact zw_iret hm_19 dX0_cleanAll_11 h
    · intro x S9 hx
      exact ⟨by decide, hx⟩
  · intro x S9 hx
    exact ⟨by decide, hx⟩
theorem sp_19_82_sy {X : Nat × (Nat → Int32)} {d w : Nat} {f : Nat → Nat → Int32} {r : Nat → Nat → Option Nat} {C Z N : Nat} {Q : Option ma_V ⊕ Nat → ma_S → Prop} {ab : Nat→Nat→Int32} {S : ma_S}  (hd : 5 ≤ d) (hw : 180 ≤ w) (hI : zJ82 f r C Z N S) (hpre0 : xB S (mR S 70)) (hpre1 : aG S = ab) (hpre2 : qAv ab) (K : ∀ v S₉, zJ82 f r C Z N S₉ → (True) → (xB S₉ (mR S₉ 70)) → (aG S₉ = gMi (gMa ab) ∧ v = aSv ab + gVi (gMa ab)) → Q (.inl (some (.inl v))) S₉) : ma_wp X d w 19 0 [(0, .inr (.inr (some 82)))] [] S Q := by
  refine g_19_82_sy_0  (by omega) (by omega) (zG_T hI) ?_
  refine sp_5_82_sy (ab := (aG S)) (by omega) (by omega) hI (show xB S (mR S 70) from by first | (exact xB_x (xC_o (W := 75) hpre0).2)) (show aG S = (aG S) from by first | (exact rfl)) (show qAv (aG S) from by first | (rw [hpre1]; exact hpre2)) (fun v2 S1 hI_S1 hp_v2 rp0_S1 rp1_S1 => zi_n ⟨zG_T hI_S1, ?_⟩)
  have rp0_S1 : xB S1 (mR S1 70) := rp0_S1
  have rp1_S1 : aG S1 = gMa (aG S) ∧ v2 = aSv (aG S) := rp1_S1
  refine sp_11_82_sy (ab := (aG S1)) (by omega) (by omega) hI_S1 (show xB S1 (mR S1 70) from by first | (exact xB_x (xC_o (W := 75) rp0_S1).2)) (show aG S1 = (aG S1) from by first | (exact rfl)) (show qAv (aG S1) from by first | (rw [(rp1_S1.1.trans (congrArg gMa hpre1))]; exact (Av_ma hpre2))) (fun v4 S3 hI_S3 hp_v4 rp0_S3 rp1_S3 => zi_n ⟨zG_T hI_S3, ?_⟩)
  have rp0_S3 : xB S3 (mR S3 70) := rp0_S3
  have rp1_S3 : aG S3 = gMi (aG S1) ∧ v4 = gVi (aG S1) := rp1_S3
  have b1 := i_bd v2
  have b2 := i_bd v4
  first | have e3 : (v2 + v4).toInt = v2.toInt + v4.toInt := i_add (by omega) (by omega) | have b4 := i_bd (v2 + v4)
  exact K ((v2 + v4)) _ hI_S3 trivial (show xB S3 (mR S3 70) from by first | (exact xB_x (xC_o (W := 75) rp0_S3).2)) (show aG S3 = gMi (gMa ab) ∧ (v2 + v4) = aSv ab + gVi (gMa ab) from by first | (have z1 := rp1_S1; have z2 := rp1_S3; rw [z1.1, hpre1] at z2; rw [hpre1] at z1; exact ⟨z2.1, by rw [z1.2, z2.2]⟩))
theorem g_4_82_sy_0 {X : Nat × (Nat → Int32)} {d w : Nat} {S : ma_S} {Q : Option ma_V ⊕ Nat → ma_S → Prop} (z : Int32) (hd : 4 ≤ d) (hw : 159 ≤ w) (hS : zT S) (h : if ((mI S 82 6) + z) ≤ (mI S 82 3) then (if ((mI S 82 6) + z) ≤ (mI S 82 3) then (Q (.inl (some (.inl (mI S 82 6)))) S) else (Q (.inl (some (.inl (-1 : Int32)))) S)) else (ma_wp X (d - 1) (w - 21) 5 0 [(0, .inr (.inr (some 82)))] [] S (zi (fun v2 S1 => zT S1 ∧ (if ((mI S1 82 6) + z) ≤ (mI S1 82 3) then (Q (.inl (some (.inl (mI S1 82 6)))) S1) else (Q (.inl (some (.inl (-1 : Int32)))) S1))) (fun x S9 => Q (.inr x) S9)))) : ma_wp X d w 4 0 [(0, .inr (.inr (some 82))), (1, .inl z)] [] S Q := by
  refine zw_push hm_4 dX0_findOldRoom_0 (v := .inr (.inr (some 82))) rfl ?_
  refine zw_gf hm_4 dX0_findOldRoom_1 (v := .inl (mI S 82 6)) (zT_is hS s_82) (zT_t hS s_82) rfl f_1_28_1 rfl ?_
  refine zw_push hm_4 dX0_findOldRoom_4 (v := .inl z) rfl ?_
  refine zw_stk hm_4 dX0_findOldRoom_5 (st₉ := [.inl ((mI S 82 6) + z)]) rfl rfl ?_
  refine zw_push hm_4 dX0_findOldRoom_6 (v := .inr (.inr (some 82))) rfl ?_
  refine zw_gf hm_4 dX0_findOldRoom_7 (v := .inl (mI S 82 3)) (zT_is hS s_82) (zT_t hS s_82) rfl f_1_19_1 rfl ?_
  refine zw_if2 hm_4 dX0_findOldRoom_10 (t := 18) rfl zc2_le ?_ ?_
  · intro hc
    rw [if_pos hc] at h
    refine zw_push hm_4 dX0_findOldRoom_18 (v := .inr (.inr (some 82))) rfl ?_
    refine zw_gf hm_4 dX0_findOldRoom_19 (v := .inl (mI S 82 6)) (zT_is hS s_82) (zT_t hS s_82) rfl f_1_28_1 rfl ?_
    refine zw_push hm_4 dX0_findOldRoom_22 (v := .inl z) rfl ?_
    refine zw_stk hm_4 dX0_findOldRoom_23 (st₉ := [.inl ((mI S 82 6) + z)]) rfl rfl ?_
    refine zw_push hm_4 dX0_findOldRoom_24 (v := .inr (.inr (some 82))) rfl ?_
    refine zw_gf hm_4 dX0_findOldRoom_25 (v := .inl (mI S 82 3)) (zT_is hS s_82) (zT_t hS s_82) rfl f_1_19_1 rfl ?_
    refine zw_if2 hm_4 dX0_findOldRoom_28 (t := 35) rfl zc2_le ?_ ?_
    · intro hc
      rw [if_pos hc] at h
      refine zw_push hm_4 dX0_findOldRoom_35 (v := .inr (.inr (some 82))) rfl ?_
      refine zw_gf hm_4 dX0_findOldRoom_36 (v := .inl (mI S 82 6)) (zT_is hS s_82) (zT_t hS s_82) rfl f_1_28_1 rfl ?_
      exact zw_iret hm_4 dX0_findOldRoom_39 h
    · intro hc
      rw [if_neg hc] at h
      refine zw_push hm_4 dX0_findOldRoom_31 (v := .inl (-1 : Int32)) rfl ?_
      refine zw_goto hm_4 dX0_findOldRoom_32 (t := 39) rfl ?_
      exact zw_iret hm_4 dX0_findOldRoom_39 h
  · intro hc
    rw [if_neg hc] at h
    refine zw_push hm_4 dX0_findOldRoom_13 (v := .inr (.inr (some 82))) rfl ?_
    refine zw_cv hm_4 dX0_findOldRoom_14 v_1_55_1 hm_5 [] [] rfl (zT_rt hS s_82 rfl) ⟨by omega, by omega⟩ rfl (zw_mono h (zi_go ?_ ?_))
    · intro v2 S1 hv
      obtain ⟨hS1, h⟩ := hv
      refine zw_stk hm_4 dX0_findOldRoom_17 (st₉ := []) rfl rfl ?_
      refine zw_push hm_4 dX0_findOldRoom_18 (v := .inr (.inr (some 82))) rfl ?_
      refine zw_gf hm_4 dX0_findOldRoom_19 (v := .inl (mI S1 82 6)) (zT_is hS1 s_82) (zT_t hS1 s_82) rfl f_1_28_1 rfl ?_
      refine zw_push hm_4 dX0_findOldRoom_22 (v := .inl z) rfl ?_
      refine zw_stk hm_4 dX0_findOldRoom_23 (st₉ := [.inl ((mI S1 82 6) + z)]) rfl rfl ?_
      refine zw_push hm_4 dX0_findOldRoom_24 (v := .inr (.inr (some 82))) rfl ?_
      refine zw_gf hm_4 dX0_findOldRoom_25 (v := .inl (mI S1 82 3)) (zT_is hS1 s_82) (zT_t hS1 s_82) rfl f_1_19_1 rfl ?_
      refine zw_if2 hm_4 dX0_findOldRoom_28 (t := 35) rfl zc2_le ?_ ?_
      · intro hc
        rw [if_pos hc] at h
        refine zw_push hm_4 dX0_findOldRoom_35 (v := .inr (.inr (some 82))) rfl ?_
        refine zw_gf hm_4 dX0_findOldRoom_36 (v := .inl (mI S1 82 6)) (zT_is hS1 s_82) (zT_t hS1 s_82) rfl f_1_28_1 rfl ?_
        exact zw_iret hm_4 dX0_findOldRoom_39 h
      · intro hc
        rw [if_neg hc] at h
        refine zw_push hm_4 dX0_findOldRoom_31 (v := .inl (-1 : Int32)) rfl ?_
        refine zw_goto hm_4 dX0_findOldRoom_32 (t := 39) rfl ?_
        exact zw_iret hm_4 dX0_findOldRoom_39 h
    · intro x S9 hx
      exact ⟨by decide, hx⟩
theorem sp_4_82_sy {X : Nat × (Nat → Int32)} {d w : Nat} {f : Nat → Nat → Int32} {r : Nat → Nat → Option Nat} {C Z N : Nat} {Q : Option ma_V ⊕ Nat → ma_S → Prop} {ab : Nat→Nat→Int32} {S : ma_S} (z : Int32) (hd : 4 ≤ d) (hw : 159 ≤ w) (hI : zJ82 f r C Z N S) (hpre0 : xB S (mR S 70)) (hpre1 : aG S = ab) (hpre2 : qAv ab) (hpre3 : (ab 87 5).toInt / 2 < z.toInt) (hpre4 : 1 ≤ z.toInt) (hpre5 : z.toInt ≤ 61) (K : ∀ v S₉, zJ82 f r C Z N S₉ → (-1 ≤ v.toInt ∧ v.toInt ≤ 1500) → (xB S₉ (mR S₉ 70)) → (aG S₉ = gRs ab z.toInt ∧ v.toInt = gRp ab z.toInt) → Q (.inl (some (.inl v))) S₉) : ma_wp X d w 4 0 [(0, .inr (.inr (some 82))), (1, .inl z)] [] S Q := by
  refine g_4_82_sy_0 z (by omega) (by omega) (zG_T hI) ?_
  have f1 := zG_s hI (0) (400000) (c := 82) (k := 6) (by decide)
  have b2 := i_bd z
  first | have e3 : ((mI S 82 6) + z).toInt = (mI S 82 6).toInt + z.toInt := i_add (by omega) (by omega) | have b4 := i_bd ((mI S 82 6) + z)
  have x5 : (mI S 82 3).toInt ≤ (mI S 82 7).toInt ∧ (mI S 82 7).toInt ≤ (mI S 82 3).toInt + (mI S 82 2).toInt := zG_x hI
  have f6 := zG_s hI (0) (1500) (c := 82) (k := 3) (by decide)
  refine zd (fun h7 => ?_) (fun h7 => ?_)
  · skip
    have g8 := i_le h7
    refine zd (fun h9 => ?_) (fun h9 => ?_)
    · skip
      have g10 := i_le h9
      exact K ((mI S 82 6)) _ hI (by omega) (show xB S (mR S 70) from by first | (exact xB_x (xC_o (W := 75) hpre0).2)) (show aG S = gRs ab z.toInt ∧ (mI S 82 6).toInt = gRp ab z.toInt from by first | (have h0 : aG S = ab := hpre1; have n0_9 : (ab 87 9).toInt = (mI S 82 3).toInt := (by rw [← h0]; rfl); have n0_10 : (ab 87 10).toInt = (mI S 82 6).toInt := (by rw [← h0]; rfl); have n0_4 : (ab 87 4).toInt = (mI S 82 8).toInt := (by rw [← h0]; rfl); have n0_3 : (ab 87 3).toInt = (mI S 82 7).toInt := (by rw [← h0]; rfl); have n0_5 : (ab 87 5).toInt = (mI S 82 2).toInt := (by rw [← h0]; rfl); have E := Rs_go (a := ab) (z := z.toInt) hpre3 (Ro_n (by omega)); refine ⟨h0.trans E.1.symm, ?_⟩; rw [E.2.1 (by omega)]; rfl) | (have h0 : aG S = ab := hpre1; have n0_9 : (ab 87 9).toInt = (mI S 82 3).toInt := (by rw [← h0]; rfl); have n0_10 : (ab 87 10).toInt = (mI S 82 6).toInt := (by rw [← h0]; rfl); have n0_4 : (ab 87 4).toInt = (mI S 82 8).toInt := (by rw [← h0]; rfl); have n0_3 : (ab 87 3).toInt = (mI S 82 7).toInt := (by rw [← h0]; rfl); have n0_5 : (ab 87 5).toInt = (mI S 82 2).toInt := (by rw [← h0]; rfl); have E := Rs_go (a := ab) (z := z.toInt) hpre3 (Ro_n (by omega)); refine ⟨h0.trans E.1.symm, ?_⟩; rw [E.2.2 (by omega)]; omega))
    · skip
      have g11 := i_nle h9
      have li12 : (-1 : Int32).toInt = -1 := rfl
      exact K ((-1 : Int32)) _ hI (by omega) (show xB S (mR S 70) from by first | (exact xB_x (xC_o (W := 75) hpre0).2)) (show aG S = gRs ab z.toInt ∧ (-1 : Int32).toInt = gRp ab z.toInt from by first | (have h0 : aG S = ab := hpre1; have n0_9 : (ab 87 9).toInt = (mI S 82 3).toInt := (by rw [← h0]; rfl); have n0_10 : (ab 87 10).toInt = (mI S 82 6).toInt := (by rw [← h0]; rfl); have n0_4 : (ab 87 4).toInt = (mI S 82 8).toInt := (by rw [← h0]; rfl); have n0_3 : (ab 87 3).toInt = (mI S 82 7).toInt := (by rw [← h0]; rfl); have n0_5 : (ab 87 5).toInt = (mI S 82 2).toInt := (by rw [← h0]; rfl); have E := Rs_go (a := ab) (z := z.toInt) hpre3 (Ro_n (by omega)); refine ⟨h0.trans E.1.symm, ?_⟩; rw [E.2.1 (by omega)]; rfl) | (have h0 : aG S = ab := hpre1; have n0_9 : (ab 87 9).toInt = (mI S 82 3).toInt := (by rw [← h0]; rfl); have n0_10 : (ab 87 10).toInt = (mI S 82 6).toInt := (by rw [← h0]; rfl); have n0_4 : (ab 87 4).toInt = (mI S 82 8).toInt := (by rw [← h0]; rfl); have n0_3 : (ab 87 3).toInt = (mI S 82 7).toInt := (by rw [← h0]; rfl); have n0_5 : (ab 87 5).toInt = (mI S 82 2).toInt := (by rw [← h0]; rfl); have E := Rs_go (a := ab) (z := z.toInt) hpre3 (Ro_n (by omega)); refine ⟨h0.trans E.1.symm, ?_⟩; rw [E.2.2 (by omega)]; omega))
  · skip
    have g13 := i_nle h7
    refine sp_5_82_sy (ab := (aG S)) (by omega) (by omega) hI (show xB S (mR S 70) from by first | (exact xB_x (xC_o (W := 75) hpre0).2)) (show aG S = (aG S) from by first | (exact rfl)) (show qAv (aG S) from by first | (rw [hpre1]; exact hpre2)) (fun v2 S1 hI_S1 hp_v2 rp0_S1 rp1_S1 => zi_n ⟨zG_T hI_S1, ?_⟩)
    have rp0_S1 : xB S1 (mR S1 70) := rp0_S1
    have rp1_S1 : aG S1 = gMa (aG S) ∧ v2 = aSv (aG S) := rp1_S1
    have f14 := zG_s hI_S1 (0) (400000) (c := 82) (k := 6) (by decide)
    first | have e15 : ((mI S1 82 6) + z).toInt = (mI S1 82 6).toInt + z.toInt := i_add (by omega) (by omega) | have b16 := i_bd ((mI S1 82 6) + z)
    have x17 : (mI S1 82 3).toInt ≤ (mI S1 82 7).toInt ∧ (mI S1 82 7).toInt ≤ (mI S1 82 3).toInt + (mI S1 82 2).toInt := zG_x hI_S1
    have f18 := zG_s hI_S1 (0) (1500) (c := 82) (k := 3) (by decide)
    refine zd (fun h19 => ?_) (fun h19 => ?_)
    · skip
      have g20 := i_le h19
      exact K ((mI S1 82 6)) _ hI_S1 (by omega) (show xB S1 (mR S1 70) from by first | (exact xB_x (xC_o (W := 75) rp0_S1).2)) (show aG S1 = gRs ab z.toInt ∧ (mI S1 82 6).toInt = gRp ab z.toInt from by first | (have h0 : aG S = ab := hpre1; have n0_9 : (ab 87 9).toInt = (mI S 82 3).toInt := (by rw [← h0]; rfl); have n0_10 : (ab 87 10).toInt = (mI S 82 6).toInt := (by rw [← h0]; rfl); have n0_4 : (ab 87 4).toInt = (mI S 82 8).toInt := (by rw [← h0]; rfl); have n0_3 : (ab 87 3).toInt = (mI S 82 7).toInt := (by rw [← h0]; rfl); have n0_5 : (ab 87 5).toInt = (mI S 82 2).toInt := (by rw [← h0]; rfl); have h1 : aG S1 = gMa ab := rp1_S1.1.trans (congrArg gMa h0); have n1_9 : ((gMa ab) 87 9).toInt = (mI S1 82 3).toInt := (by rw [← h1]; rfl); have n1_10 : ((gMa ab) 87 10).toInt = (mI S1 82 6).toInt := (by rw [← h1]; rfl); have n1_4 : ((gMa ab) 87 4).toInt = (mI S1 82 8).toInt := (by rw [← h1]; rfl); have n1_3 : ((gMa ab) 87 3).toInt = (mI S1 82 7).toInt := (by rw [← h1]; rfl); have n1_5 : ((gMa ab) 87 5).toInt = (mI S1 82 2).toInt := (by rw [← h1]; rfl); have E := Rs_go (a := ab) (z := z.toInt) hpre3 (gRo_y (by omega)); refine ⟨h1.trans E.1.symm, ?_⟩; rw [E.2.1 (by omega)]; rfl) | (have h0 : aG S = ab := hpre1; have n0_9 : (ab 87 9).toInt = (mI S 82 3).toInt := (by rw [← h0]; rfl); have n0_10 : (ab 87 10).toInt = (mI S 82 6).toInt := (by rw [← h0]; rfl); have n0_4 : (ab 87 4).toInt = (mI S 82 8).toInt := (by rw [← h0]; rfl); have n0_3 : (ab 87 3).toInt = (mI S 82 7).toInt := (by rw [← h0]; rfl); have n0_5 : (ab 87 5).toInt = (mI S 82 2).toInt := (by rw [← h0]; rfl); have h1 : aG S1 = gMa ab := rp1_S1.1.trans (congrArg gMa h0); have n1_9 : ((gMa ab) 87 9).toInt = (mI S1 82 3).toInt := (by rw [← h1]; rfl); have n1_10 : ((gMa ab) 87 10).toInt = (mI S1 82 6).toInt := (by rw [← h1]; rfl); have n1_4 : ((gMa ab) 87 4).toInt = (mI S1 82 8).toInt := (by rw [← h1]; rfl); have n1_3 : ((gMa ab) 87 3).toInt = (mI S1 82 7).toInt := (by rw [← h1]; rfl); have n1_5 : ((gMa ab) 87 5).toInt = (mI S1 82 2).toInt := (by rw [← h1]; rfl); have E := Rs_go (a := ab) (z := z.toInt) hpre3 (gRo_y (by omega)); refine ⟨h1.trans E.1.symm, ?_⟩; rw [E.2.2 (by omega)]; omega))
    · skip
      have g21 := i_nle h19
      have li22 : (-1 : Int32).toInt = -1 := rfl
      exact K ((-1 : Int32)) _ hI_S1 (by omega) (show xB S1 (mR S1 70) from by first | (exact xB_x (xC_o (W := 75) rp0_S1).2)) (show aG S1 = gRs ab z.toInt ∧ (-1 : Int32).toInt = gRp ab z.toInt from by first | (have h0 : aG S = ab := hpre1; have n0_9 : (ab 87 9).toInt = (mI S 82 3).toInt := (by rw [← h0]; rfl); have n0_10 : (ab 87 10).toInt = (mI S 82 6).toInt := (by rw [← h0]; rfl); have n0_4 : (ab 87 4).toInt = (mI S 82 8).toInt := (by rw [← h0]; rfl); have n0_3 : (ab 87 3).toInt = (mI S 82 7).toInt := (by rw [← h0]; rfl); have n0_5 : (ab 87 5).toInt = (mI S 82 2).toInt := (by rw [← h0]; rfl); have h1 : aG S1 = gMa ab := rp1_S1.1.trans (congrArg gMa h0); have n1_9 : ((gMa ab) 87 9).toInt = (mI S1 82 3).toInt := (by rw [← h1]; rfl); have n1_10 : ((gMa ab) 87 10).toInt = (mI S1 82 6).toInt := (by rw [← h1]; rfl); have n1_4 : ((gMa ab) 87 4).toInt = (mI S1 82 8).toInt := (by rw [← h1]; rfl); have n1_3 : ((gMa ab) 87 3).toInt = (mI S1 82 7).toInt := (by rw [← h1]; rfl); have n1_5 : ((gMa ab) 87 5).toInt = (mI S1 82 2).toInt := (by rw [← h1]; rfl); have E := Rs_go (a := ab) (z := z.toInt) hpre3 (gRo_y (by omega)); refine ⟨h1.trans E.1.symm, ?_⟩; rw [E.2.1 (by omega)]; rfl) | (have h0 : aG S = ab := hpre1; have n0_9 : (ab 87 9).toInt = (mI S 82 3).toInt := (by rw [← h0]; rfl); have n0_10 : (ab 87 10).toInt = (mI S 82 6).toInt := (by rw [← h0]; rfl); have n0_4 : (ab 87 4).toInt = (mI S 82 8).toInt := (by rw [← h0]; rfl); have n0_3 : (ab 87 3).toInt = (mI S 82 7).toInt := (by rw [← h0]; rfl); have n0_5 : (ab 87 5).toInt = (mI S 82 2).toInt := (by rw [← h0]; rfl); have h1 : aG S1 = gMa ab := rp1_S1.1.trans (congrArg gMa h0); have n1_9 : ((gMa ab) 87 9).toInt = (mI S1 82 3).toInt := (by rw [← h1]; rfl); have n1_10 : ((gMa ab) 87 10).toInt = (mI S1 82 6).toInt := (by rw [← h1]; rfl); have n1_4 : ((gMa ab) 87 4).toInt = (mI S1 82 8).toInt := (by rw [← h1]; rfl); have n1_3 : ((gMa ab) 87 3).toInt = (mI S1 82 7).toInt := (by rw [← h1]; rfl); have n1_5 : ((gMa ab) 87 5).toInt = (mI S1 82 2).toInt := (by rw [← h1]; rfl); have E := Rs_go (a := ab) (z := z.toInt) hpre3 (gRo_y (by omega)); refine ⟨h1.trans E.1.symm, ?_⟩; rw [E.2.2 (by omega)]; omega))

