/-! AGES, the class (written by wip/tools/gen15y.py) -/
theorem g_14_82_sy_0 {X : Nat × (Nat → Int32)} {d w : Nat} {S : ma_S} {Q : Option ma_V ⊕ Nat → ma_S → Prop} (t : Nat) (hd : 1 ≤ d) (hw : 25 ≤ w) (hS : zT S) (h : ma_wp X d w 14 2 [(0, .inr (.inr (some 82))), (1, .inr (.inr (some t))), (2, .inl (0 : Int32))] [] S Q) : ma_wp X d w 14 0 [(0, .inr (.inr (some 82))), (1, .inr (.inr (some t)))] [] S Q := by
  refine zw_push hm_14 dX0_comeFromDirtyWords_0 (v := .inl (0 : Int32)) rfl ?_
  refine zw_sto hm_14 dX0_comeFromDirtyWords_1 [(2, .inl (0 : Int32)), (0, .inr (.inr (some 82))), (1, .inr (.inr (some t)))] rfl rfl rfl ?_
  exact zw_sub (ma_nd_of (ks := [0, 1, 2]) rfl (by decide)) (ma_nd_of (ks := [2, 0, 1]) rfl (by decide)) (ma_le_cons rfl (ma_le_cons rfl (ma_le_cons rfl (ma_le_nil _)))) h
theorem g_14_82_sy_2 {X : Nat × (Nat → Int32)} {d w : Nat} {S : ma_S} {Q : Option ma_V ⊕ Nat → ma_S → Prop} (l1 : Nat) (l2 : Int32) (hd : 1 ≤ d) (hw : 25 ≤ w) (hS : zT S) (h : (126 ≤ l1 ∧ l1 < mN S) ∧ (if ((mI S l1 2) - (1 : Int32)) ≤ l2 then (Q (.inl none) S) else (if (mI S 82 5) ≤ 0 then (ma_wp X d w 14 2 [(0, .inr (.inr (some 82))), (1, .inr (.inr (some l1))), (2, .inl (l2 + (1 : Int32)))] [] S Q) else ((126 ≤ l1 ∧ l1 < mN S) ∧ ((mI S 82 5) ≠ 0 ∧ (if ((((mI S l1 4) + (1 : Int32)) + l2) / (mI S 82 5)) < 0 then (ma_wp X d w 14 2 [(0, .inr (.inr (some 82))), (1, .inr (.inr (some l1))), (2, .inl (l2 + (1 : Int32)))] [] S Q) else (if (375 : Int32) ≤ ((((mI S l1 4) + (1 : Int32)) + l2) / (mI S 82 5)) then (ma_wp X d w 14 2 [(0, .inr (.inr (some 82))), (1, .inr (.inr (some l1))), (2, .inl (l2 + (1 : Int32)))] [] S Q) else ((0 ≤ ((((mI S l1 4) + (1 : Int32)) + l2) / (mI S 82 5)) ∧ ((((mI S l1 4) + (1 : Int32)) + l2) / (mI S 82 5)).toNatClampNeg < 375) ∧ (if (mI S 83 ((((mI S l1 4) + (1 : Int32)) + l2) / (mI S 82 5)).toNatClampNeg) = 0 then (ma_wp X d w 14 2 [(0, .inr (.inr (some 82))), (1, .inr (.inr (some l1))), (2, .inl (l2 + (1 : Int32)))] [] S Q) else (ma_wp X (d - 1) (w - 25) 82 0 [(0, .inr (.inr (some 69))), (1, .inr (.inr (some l1))), (2, .inl l2)] [] S (zo (fun v2 S1 => zT S1 ∧ (ma_wp X (d - 1) (w - 21) 119 0 [(0, .inr (.inr (some 75))), (1, .inr (.inr v2))] [] S1 (zv (fun S3 => zT S3 ∧ (ma_wp X d w 14 2 [(0, .inr (.inr (some 82))), (1, .inr (.inr (some l1))), (2, .inl (l2 + (1 : Int32)))] [] S3 Q)) (fun x S9 => Q (.inr x) S9)))) (fun x S9 => Q (.inr x) S9)))))))))))) : ma_wp X d w 14 2 [(0, .inr (.inr (some 82))), (1, .inr (.inr (some l1))), (2, .inl l2)] [] S Q := by
  refine zw_push hm_14 dX0_comeFromDirtyWords_2 (v := .inl l2) rfl ?_
  refine zw_push hm_14 dX0_comeFromDirtyWords_3 (v := .inr (.inr (some l1))) rfl ?_
  obtain ⟨hg, h⟩ := h
  refine zw_gf hm_14 dX0_comeFromDirtyWords_4 (v := .inl (mI S l1 2)) (zT_tis hS hg) (zT_tt hS hg) rfl f_1_67_9 rfl ?_
  refine zw_push hm_14 dX0_comeFromDirtyWords_7 (v := .inl (1 : Int32)) rfl ?_
  refine zw_stk hm_14 dX0_comeFromDirtyWords_8 (st' := [.inl ((mI S l1 2) - (1 : Int32)), .inl l2]) rfl rfl ?_
  refine zw_if2 hm_14 dX0_comeFromDirtyWords_9 (t := 61) rfl zc2_ge ?_ ?_
  · intro hc
    rw [if_pos hc] at h
    exact zw_vret hm_14 dX0_comeFromDirtyWords_61 h
  · intro hc
    rw [if_neg hc] at h
    refine zw_push hm_14 dX0_comeFromDirtyWords_12 (v := .inr (.inr (some 82))) rfl ?_
    refine zw_push hm_14 dX0_comeFromDirtyWords_13 (v := .inr (.inr (some l1))) rfl ?_
    refine zw_push hm_14 dX0_comeFromDirtyWords_14 (v := .inl l2) rfl ?_
    refine zw_cv hm_14 dX0_comeFromDirtyWords_15 v_1_136_1 hm_9 [.inl l2, .inr (.inr (some l1))] [] rfl (zT_rt hS s_82 rfl) ⟨by omega, by omega⟩ rfl ?_
    show ma_wp X (d - 1) (w - 22) 9 0 [(0, .inr (.inr (some 82))), (1, .inr (.inr (some l1))), (2, .inl l2)] [] S _
    refine zw_push hm_9 dX0_cardOf_0 (v := .inr (.inr (some 82))) rfl ?_
    refine zw_gf hm_9 dX0_cardOf_1 (v := .inl (mI S 82 5)) (zT_is hS s_82) (zT_t hS s_82) rfl f_1_25_1 rfl ?_
    refine zw_if0 hm_9 dX0_cardOf_4 (t := 23) rfl zc0_le ?_ ?_
    · intro hc
      rw [if_pos hc] at h
      refine zw_push hm_9 dX0_cardOf_23 (v := .inl (-1 : Int32)) rfl ?_
      refine zw_iret hm_9 dX0_cardOf_24 ?_
      show ma_wp X d w 14 18 [(0, .inr (.inr (some 82))), (1, .inr (.inr (some l1))), (2, .inl l2)] [.inl (-1 : Int32)] S _
      refine zw_sto hm_14 dX0_comeFromDirtyWords_18 [(3, .inl (-1 : Int32)), (0, .inr (.inr (some 82))), (1, .inr (.inr (some l1))), (2, .inl l2)] rfl rfl rfl ?_
      refine zw_push hm_14 dX0_comeFromDirtyWords_19 (v := .inl (-1 : Int32)) rfl ?_
      refine zw_if0 hm_14 dX0_comeFromDirtyWords_20 (t := 55) rfl zc0_lt (fun _ => ?_) (fun hc => absurd (by decide) hc)
      refine zw_sto hm_14 dX0_comeFromDirtyWords_55 [(2, .inl (l2 + (1 : Int32))), (3, .inl (-1 : Int32)), (0, .inr (.inr (some 82))), (1, .inr (.inr (some l1)))] rfl rfl rfl ?_
      refine zw_goto hm_14 dX0_comeFromDirtyWords_58 (t := 2) rfl ?_
      exact zw_sub (ma_nd_of (ks := [0, 1, 2]) rfl (by decide)) (ma_nd_of (ks := [2, 3, 0, 1]) rfl (by decide)) (ma_le_cons rfl (ma_le_cons rfl (ma_le_cons rfl (ma_le_nil _)))) h
    · intro hc
      rw [if_neg hc] at h
      refine zw_push hm_9 dX0_cardOf_7 (v := .inr (.inr (some l1))) rfl ?_
      obtain ⟨hg, h⟩ := h
      refine zw_gf hm_9 dX0_cardOf_8 (v := .inl (mI S l1 4)) (zT_tis hS hg) (zT_tt hS hg) rfl f_1_62_9 rfl ?_
      refine zw_push hm_9 dX0_cardOf_11 (v := .inl (1 : Int32)) rfl ?_
      refine zw_stk hm_9 dX0_cardOf_12 (st' := [.inl ((mI S l1 4) + (1 : Int32))]) rfl rfl ?_
      refine zw_push hm_9 dX0_cardOf_13 (v := .inl l2) rfl ?_
      refine zw_stk hm_9 dX0_cardOf_14 (st' := [.inl (((mI S l1 4) + (1 : Int32)) + l2)]) rfl rfl ?_
      refine zw_push hm_9 dX0_cardOf_15 (v := .inr (.inr (some 82))) rfl ?_
      refine zw_gf hm_9 dX0_cardOf_16 (v := .inl (mI S 82 5)) (zT_is hS s_82) (zT_t hS s_82) rfl f_1_25_1 rfl ?_
      obtain ⟨hg, h⟩ := h
      refine zw_stk hm_9 dX0_cardOf_19 (st' := [.inl ((((mI S l1 4) + (1 : Int32)) + l2) / (mI S 82 5))]) rfl (if_neg hg) ?_
      refine zw_goto hm_9 dX0_cardOf_20 (t := 24) rfl ?_
      refine zw_iret hm_9 dX0_cardOf_24 ?_
      show ma_wp X d w 14 18 [(0, .inr (.inr (some 82))), (1, .inr (.inr (some l1))), (2, .inl l2)] [.inl ((((mI S l1 4) + (1 : Int32)) + l2) / (mI S 82 5))] S _
      refine zw_sto hm_14 dX0_comeFromDirtyWords_18 [(3, .inl ((((mI S l1 4) + (1 : Int32)) + l2) / (mI S 82 5))), (0, .inr (.inr (some 82))), (1, .inr (.inr (some l1))), (2, .inl l2)] rfl rfl rfl ?_
      refine zw_push hm_14 dX0_comeFromDirtyWords_19 (v := .inl ((((mI S l1 4) + (1 : Int32)) + l2) / (mI S 82 5))) rfl ?_
      refine zw_if0 hm_14 dX0_comeFromDirtyWords_20 (t := 55) rfl zc0_lt ?_ ?_
      · intro hc
        rw [if_pos hc] at h
        refine zw_sto hm_14 dX0_comeFromDirtyWords_55 [(2, .inl (l2 + (1 : Int32))), (3, .inl ((((mI S l1 4) + (1 : Int32)) + l2) / (mI S 82 5))), (0, .inr (.inr (some 82))), (1, .inr (.inr (some l1)))] rfl rfl rfl ?_
        refine zw_goto hm_14 dX0_comeFromDirtyWords_58 (t := 2) rfl ?_
        exact zw_sub (ma_nd_of (ks := [0, 1, 2]) rfl (by decide)) (ma_nd_of (ks := [2, 3, 0, 1]) rfl (by decide)) (ma_le_cons rfl (ma_le_cons rfl (ma_le_cons rfl (ma_le_nil _)))) h
      · intro hc
        rw [if_neg hc] at h
        refine zw_push hm_14 dX0_comeFromDirtyWords_23 (v := .inl ((((mI S l1 4) + (1 : Int32)) + l2) / (mI S 82 5))) rfl ?_
        refine zw_push hm_14 dX0_comeFromDirtyWords_24 (v := .inl (375 : Int32)) rfl ?_
        refine zw_if2 hm_14 dX0_comeFromDirtyWords_27 (t := 55) rfl zc2_ge ?_ ?_
        · intro hc
          rw [if_pos hc] at h
          refine zw_sto hm_14 dX0_comeFromDirtyWords_55 [(2, .inl (l2 + (1 : Int32))), (3, .inl ((((mI S l1 4) + (1 : Int32)) + l2) / (mI S 82 5))), (0, .inr (.inr (some 82))), (1, .inr (.inr (some l1)))] rfl rfl rfl ?_
          refine zw_goto hm_14 dX0_comeFromDirtyWords_58 (t := 2) rfl ?_
          exact zw_sub (ma_nd_of (ks := [0, 1, 2]) rfl (by decide)) (ma_nd_of (ks := [2, 3, 0, 1]) rfl (by decide)) (ma_le_cons rfl (ma_le_cons rfl (ma_le_cons rfl (ma_le_nil _)))) h
        · intro hc
          rw [if_neg hc] at h
          refine zw_push hm_14 dX0_comeFromDirtyWords_30 (v := .inr (.inr (some 82))) rfl ?_
          refine zw_gf hm_14 dX0_comeFromDirtyWords_31 (v := .inr (.inr (some 83))) (zT_is hS s_82) (zT_t hS s_82) rfl f_1_9_1 (zT_f hS r_82_9) ?_
          refine zw_push hm_14 dX0_comeFromDirtyWords_34 (v := .inl ((((mI S l1 4) + (1 : Int32)) + l2) / (mI S 82 5))) rfl ?_
          obtain ⟨hg, h⟩ := h
          refine zw_ia hm_14 dX0_comeFromDirtyWords_35 (zT_is hS s_83) (zT_h hS s_83) rfl hg ?_
          show ma_wp X d w 14 36 [(3, .inl ((((mI S l1 4) + (1 : Int32)) + l2) / (mI S 82 5))), (0, .inr (.inr (some 82))), (1, .inr (.inr (some l1))), (2, .inl l2)] [.inl (mI S 83 ((((mI S l1 4) + (1 : Int32)) + l2) / (mI S 82 5)).toNatClampNeg)] S _
          refine zw_if0 hm_14 dX0_comeFromDirtyWords_36 (t := 55) rfl zc0_eq ?_ ?_
          · intro hc
            rw [if_pos hc] at h
            refine zw_sto hm_14 dX0_comeFromDirtyWords_55 [(2, .inl (l2 + (1 : Int32))), (3, .inl ((((mI S l1 4) + (1 : Int32)) + l2) / (mI S 82 5))), (0, .inr (.inr (some 82))), (1, .inr (.inr (some l1)))] rfl rfl rfl ?_
            refine zw_goto hm_14 dX0_comeFromDirtyWords_58 (t := 2) rfl ?_
            exact zw_sub (ma_nd_of (ks := [0, 1, 2]) rfl (by decide)) (ma_nd_of (ks := [2, 3, 0, 1]) rfl (by decide)) (ma_le_cons rfl (ma_le_cons rfl (ma_le_cons rfl (ma_le_nil _)))) h
          · intro hc
            rw [if_neg hc] at h
            refine zw_push hm_14 dX0_comeFromDirtyWords_39 (v := .inr (.inr (some 82))) rfl ?_
            refine zw_gf hm_14 dX0_comeFromDirtyWords_40 (v := .inr (.inr (some 75))) (zT_is hS s_82) (zT_t hS s_82) rfl f_1_70_1 (zT_f hS r_82_1) ?_
            refine zw_push hm_14 dX0_comeFromDirtyWords_43 (v := .inr (.inr (some 82))) rfl ?_
            refine zw_gf hm_14 dX0_comeFromDirtyWords_44 (v := .inr (.inr (some 69))) (zT_is hS s_82) (zT_t hS s_82) rfl f_1_80_1 (zT_f hS r_82_0) ?_
            refine zw_push hm_14 dX0_comeFromDirtyWords_47 (v := .inr (.inr (some l1))) rfl ?_
            refine zw_push hm_14 dX0_comeFromDirtyWords_48 (v := .inl l2) rfl ?_
            refine zw_cv hm_14 dX0_comeFromDirtyWords_49 v_1_140_7 hm_82 [.inl l2, .inr (.inr (some l1))] [.inr (.inr (some 75))] rfl (zT_rt hS s_69 rfl) ⟨by omega, by omega⟩ rfl (zw_mono h (zo_go ?_ ?_))
            · intro v2 S1 hv
              obtain ⟨hS1, h⟩ := hv
              refine zw_cv hm_14 dX0_comeFromDirtyWords_52 v_1_144_10 hm_119 [.inr (.inr v2)] [] rfl (zT_rt hS1 s_75 rfl) ⟨by omega, by omega⟩ rfl (zw_mono h (zv_go ?_ ?_))
              · intro S3 hv
                obtain ⟨hS3, h⟩ := hv
                refine zw_sto hm_14 dX0_comeFromDirtyWords_55 [(2, .inl (l2 + (1 : Int32))), (3, .inl ((((mI S l1 4) + (1 : Int32)) + l2) / (mI S 82 5))), (0, .inr (.inr (some 82))), (1, .inr (.inr (some l1)))] rfl rfl rfl ?_
                refine zw_goto hm_14 dX0_comeFromDirtyWords_58 (t := 2) rfl ?_
                exact zw_sub (ma_nd_of (ks := [0, 1, 2]) rfl (by decide)) (ma_nd_of (ks := [2, 3, 0, 1]) rfl (by decide)) (ma_le_cons rfl (ma_le_cons rfl (ma_le_cons rfl (ma_le_nil _)))) h
              · intro x S9 hx
                exact ⟨by decide, hx⟩
            · intro x S9 hx
              exact ⟨by decide, hx⟩
theorem lp_14_82_sy_2 {X : Nat × (Nat → Int32)} {d w : Nat} {f : Nat → Nat → Int32} {r : Nat → Nat → Option Nat} {C Z N : Nat} {Q : Option ma_V ⊕ Nat → ma_S → Prop} {ab : Nat→Nat→Int32} {R : zRT} {y : Int32} (hd : 1 ≤ d) (hw : 25 ≤ w) (K : ∀ S', zI f r C Z N S' → (xB S' R) → (aG S' = gDw ab y.toNatClampNeg 0) → Q (.inl none) S') : ∀ (n : Nat) (S : ma_S) (l1 : Nat) (l2 : Int32), (61 - l2.toInt).toNat = n → zI f r C Z N S → (126 ≤ l1 ∧ l1 < N) → (0 ≤ l2.toInt) → (xB S R) → (zTa R y = some l1) → (gDw (aG S) y.toNatClampNeg l2 = gDw ab y.toNatClampNeg 0) → ma_wp X d w 14 2 [(0, .inr (.inr (some 82))), (1, .inr (.inr (some l1))), (2, .inl l2)] [] S Q := by
  intro n
  induction n using Nat.strongRecOn with
  | _ n IH =>
    intro S l1 l2 hmu hI th_l1 hi0 hi1 hi2 hi3
    refine g_14_82_sy_2 l1 l2 (by omega) (by omega) (zG_T hI) ?_
    refine ⟨zG_n hI th_l1, ?_⟩
    have f1 := zG_th hI th_l1
    first | have e2 : ((mI S l1 2) - (1 : Int32)).toInt = (mI S l1 2).toInt - (1) := i_subk rfl (by omega) (by omega) | have b3 := i_bd ((mI S l1 2) - (1 : Int32))
    have b4 := i_bd l2
    refine zd (fun h5 => ?_) (fun h5 => ?_)
    · skip
      have g6 := i_le h5
      exact K _ hI (show xB S R from by first | (exact (xC_o (W := 75) hi1).2)) (show aG S = gDw ab y.toNatClampNeg 0 from by first | (have ty := xB_th (W := 75) hi1 hi2; have e2 : (aG S 128 y.toNatClampNeg).toInt = (mI S l1 2).toInt := (by rw [aG_o (by decide) (by decide), ← ty.2.2.2.2.1]); exact (gDw_st (by omega)).symm.trans hi3))
    · skip
      have g7 := i_nle h5
      have b8 := i_bd (mI S 82 5)
      have li9 : (0 : Int32).toInt = 0 := rfl
      refine zd (fun h10 => ?_) (fun h10 => ?_)
      · skip
        have g11 := i_le h10
        first | have e12 : (l2 + (1 : Int32)).toInt = l2.toInt + (1) := i_addk rfl (by omega) (by omega) | have b13 := i_bd (l2 + (1 : Int32))
        exact IH _ (by omega) _ l1 ((l2 + (1 : Int32))) rfl hI th_l1 (by omega) (show xB S R from by first | (exact (xC_o (W := 75) hi1).2)) (show zTa R y = some l1 from by first | (exact hi2)) (show gDw (aG S) y.toNatClampNeg ((l2 + (1 : Int32))) = gDw ab y.toNatClampNeg 0 from by first | (have ty := xB_th (W := 75) hi1 hi2; have e2 : (aG S 128 y.toNatClampNeg).toInt = (mI S l1 2).toInt := (by rw [aG_o (by decide) (by decide), ← ty.2.2.2.2.1]); have hx : (l2 + (1 : Int32)).toInt = l2.toInt + 1 := i_p1 (by omega); have d := dy_n hi1 hi2 (by omega) (by omega) (by omega) (Or.inl (by omega)); exact (gDw_n (by omega) hx d).symm.trans hi3) | (have ty := xB_th (W := 75) hi1 hi2; have e2 : (aG S 128 y.toNatClampNeg).toInt = (mI S l1 2).toInt := (by rw [aG_o (by decide) (by decide), ← ty.2.2.2.2.1]); have hx : (l2 + (1 : Int32)).toInt = l2.toInt + 1 := i_p1 (by omega); have d := dy_n hi1 hi2 (by omega) (by omega) (by omega) (Or.inr (Or.inl (by omega))); exact (gDw_n (by omega) hx d).symm.trans hi3) | (have ty := xB_th (W := 75) hi1 hi2; have e2 : (aG S 128 y.toNatClampNeg).toInt = (mI S l1 2).toInt := (by rw [aG_o (by decide) (by decide), ← ty.2.2.2.2.1]); have hx : (l2 + (1 : Int32)).toInt = l2.toInt + 1 := i_p1 (by omega); have d := dy_n hi1 hi2 (by omega) (by omega) (by omega) (Or.inr (Or.inr (by omega))); exact (gDw_n (by omega) hx d).symm.trans hi3) | (exfalso; omega))
      · skip
        have g14 := i_nle h10
        refine ⟨zG_n hI th_l1, ?_⟩
        refine ⟨i_nz (by omega), ?_⟩
        have f15 := zG_th hI th_l1
        first | have e16 : ((mI S l1 4) + (1 : Int32)).toInt = (mI S l1 4).toInt + (1) := i_addk rfl (by omega) (by omega) | have b17 := i_bd ((mI S l1 4) + (1 : Int32))
        first | have e18 : (((mI S l1 4) + (1 : Int32)) + l2).toInt = ((mI S l1 4) + (1 : Int32)).toInt + l2.toInt := i_add (by omega) (by omega) | have b19 := i_bd (((mI S l1 4) + (1 : Int32)) + l2)
        first | have f20 := i_div (x := (((mI S l1 4) + (1 : Int32)) + l2)) (y := (mI S 82 5)) (by omega) (by omega) | have b21 := i_bd ((((mI S l1 4) + (1 : Int32)) + l2) / (mI S 82 5))
        refine zd (fun h22 => ?_) (fun h22 => ?_)
        · skip
          have g23 := i_lt h22
          first | have e24 : (l2 + (1 : Int32)).toInt = l2.toInt + (1) := i_addk rfl (by omega) (by omega) | have b25 := i_bd (l2 + (1 : Int32))
          exact IH _ (by omega) _ l1 ((l2 + (1 : Int32))) rfl hI th_l1 (by omega) (show xB S R from by first | (exact (xC_o (W := 75) hi1).2)) (show zTa R y = some l1 from by first | (exact hi2)) (show gDw (aG S) y.toNatClampNeg ((l2 + (1 : Int32))) = gDw ab y.toNatClampNeg 0 from by first | (have ty := xB_th (W := 75) hi1 hi2; have e2 : (aG S 128 y.toNatClampNeg).toInt = (mI S l1 2).toInt := (by rw [aG_o (by decide) (by decide), ← ty.2.2.2.2.1]); have hx : (l2 + (1 : Int32)).toInt = l2.toInt + 1 := i_p1 (by omega); have d := dy_n hi1 hi2 (by omega) (by omega) (by omega) (Or.inl (by omega)); exact (gDw_n (by omega) hx d).symm.trans hi3) | (have ty := xB_th (W := 75) hi1 hi2; have e2 : (aG S 128 y.toNatClampNeg).toInt = (mI S l1 2).toInt := (by rw [aG_o (by decide) (by decide), ← ty.2.2.2.2.1]); have hx : (l2 + (1 : Int32)).toInt = l2.toInt + 1 := i_p1 (by omega); have d := dy_n hi1 hi2 (by omega) (by omega) (by omega) (Or.inr (Or.inl (by omega))); exact (gDw_n (by omega) hx d).symm.trans hi3) | (have ty := xB_th (W := 75) hi1 hi2; have e2 : (aG S 128 y.toNatClampNeg).toInt = (mI S l1 2).toInt := (by rw [aG_o (by decide) (by decide), ← ty.2.2.2.2.1]); have hx : (l2 + (1 : Int32)).toInt = l2.toInt + 1 := i_p1 (by omega); have d := dy_n hi1 hi2 (by omega) (by omega) (by omega) (Or.inr (Or.inr (by omega))); exact (gDw_n (by omega) hx d).symm.trans hi3) | (exfalso; omega))
        · skip
          have g26 := i_nlt h22
          have li27 : (375 : Int32).toInt = 375 := rfl
          refine zd (fun h28 => ?_) (fun h28 => ?_)
          · skip
            have g29 := i_le h28
            first | have e30 : (l2 + (1 : Int32)).toInt = l2.toInt + (1) := i_addk rfl (by omega) (by omega) | have b31 := i_bd (l2 + (1 : Int32))
            exact IH _ (by omega) _ l1 ((l2 + (1 : Int32))) rfl hI th_l1 (by omega) (show xB S R from by first | (exact (xC_o (W := 75) hi1).2)) (show zTa R y = some l1 from by first | (exact hi2)) (show gDw (aG S) y.toNatClampNeg ((l2 + (1 : Int32))) = gDw ab y.toNatClampNeg 0 from by first | (have ty := xB_th (W := 75) hi1 hi2; have e2 : (aG S 128 y.toNatClampNeg).toInt = (mI S l1 2).toInt := (by rw [aG_o (by decide) (by decide), ← ty.2.2.2.2.1]); have hx : (l2 + (1 : Int32)).toInt = l2.toInt + 1 := i_p1 (by omega); have d := dy_n hi1 hi2 (by omega) (by omega) (by omega) (Or.inl (by omega)); exact (gDw_n (by omega) hx d).symm.trans hi3) | (have ty := xB_th (W := 75) hi1 hi2; have e2 : (aG S 128 y.toNatClampNeg).toInt = (mI S l1 2).toInt := (by rw [aG_o (by decide) (by decide), ← ty.2.2.2.2.1]); have hx : (l2 + (1 : Int32)).toInt = l2.toInt + 1 := i_p1 (by omega); have d := dy_n hi1 hi2 (by omega) (by omega) (by omega) (Or.inr (Or.inl (by omega))); exact (gDw_n (by omega) hx d).symm.trans hi3) | (have ty := xB_th (W := 75) hi1 hi2; have e2 : (aG S 128 y.toNatClampNeg).toInt = (mI S l1 2).toInt := (by rw [aG_o (by decide) (by decide), ← ty.2.2.2.2.1]); have hx : (l2 + (1 : Int32)).toInt = l2.toInt + 1 := i_p1 (by omega); have d := dy_n hi1 hi2 (by omega) (by omega) (by omega) (Or.inr (Or.inr (by omega))); exact (gDw_n (by omega) hx d).symm.trans hi3) | (exfalso; omega))
          · skip
            have g32 := i_nle h28
            refine ⟨i_ix (by omega) (by omega), ?_⟩
            have b33 := i_bd (mI S 83 ((((mI S l1 4) + (1 : Int32)) + l2) / (mI S 82 5)).toNatClampNeg)
            refine zd (fun h34 => ?_) (fun h34 => ?_)
            · skip
              have g35 := i_eq h34
              first | have e36 : (l2 + (1 : Int32)).toInt = l2.toInt + (1) := i_addk rfl (by omega) (by omega) | have b37 := i_bd (l2 + (1 : Int32))
              exact IH _ (by omega) _ l1 ((l2 + (1 : Int32))) rfl hI th_l1 (by omega) (show xB S R from by first | (exact (xC_o (W := 75) hi1).2)) (show zTa R y = some l1 from by first | (exact hi2)) (show gDw (aG S) y.toNatClampNeg ((l2 + (1 : Int32))) = gDw ab y.toNatClampNeg 0 from by first | (have ty := xB_th (W := 75) hi1 hi2; have e2 : (aG S 128 y.toNatClampNeg).toInt = (mI S l1 2).toInt := (by rw [aG_o (by decide) (by decide), ← ty.2.2.2.2.1]); have hx : (l2 + (1 : Int32)).toInt = l2.toInt + 1 := i_p1 (by omega); have d := dy_n hi1 hi2 (by omega) (by omega) (by omega) (Or.inl (by omega)); exact (gDw_n (by omega) hx d).symm.trans hi3) | (have ty := xB_th (W := 75) hi1 hi2; have e2 : (aG S 128 y.toNatClampNeg).toInt = (mI S l1 2).toInt := (by rw [aG_o (by decide) (by decide), ← ty.2.2.2.2.1]); have hx : (l2 + (1 : Int32)).toInt = l2.toInt + 1 := i_p1 (by omega); have d := dy_n hi1 hi2 (by omega) (by omega) (by omega) (Or.inr (Or.inl (by omega))); exact (gDw_n (by omega) hx d).symm.trans hi3) | (have ty := xB_th (W := 75) hi1 hi2; have e2 : (aG S 128 y.toNatClampNeg).toInt = (mI S l1 2).toInt := (by rw [aG_o (by decide) (by decide), ← ty.2.2.2.2.1]); have hx : (l2 + (1 : Int32)).toInt = l2.toInt + 1 := i_p1 (by omega); have d := dy_n hi1 hi2 (by omega) (by omega) (by omega) (Or.inr (Or.inr (by omega))); exact (gDw_n (by omega) hx d).symm.trans hi3) | (exfalso; omega))
            · skip
              have g38 := i_ne h34
              refine sp_82_69_s (R := R) (W := 75) (y := y) l1 (l2) (by omega) (by omega) hI th_l1 (show xB S R from by first | (exact (xC_o (W := 75) hi1).2)) (show zTa R y = some l1 from by first | (exact hi2)) (by omega) (fun v2 S1 eS_S1 hq_v2 rp0_S1 => zo_n ⟨(by rw [eS_S1]; exact zG_T hI), ?_⟩)
              replace eS_S1 := eS_S1.symm; subst eS_S1
              have rp0_S1 : v2 = zTa R (aRef (aS 75 S) y.toNatClampNeg l2) := rp0_S1
              refine sp_119_75_s (ab := (aS 75 S)) (R := R) (y := ((aRef (aS 75 S) y.toNatClampNeg l2))) (a8 := (aS 88 S)) (v2) (by omega) (by omega) hI hq_v2 (show xB S R from by first | (exact (xC_o (W := 75) hi1).2)) (show aS 75 S = (aS 75 S) from by first | (exact rfl)) (show v2 = zTa R ((aRef (aS 75 S) y.toNatClampNeg l2)) from by first | (exact rp0_S1)) (show aS 88 S = (aS 88 S) from by first | (exact rfl)) (fun S3 hI_S3 rp0_S3 rp1_S3 rp2_S3 => zv_n ⟨zG_T hI_S3, ?_⟩)
              have rp0_S3 : xB S3 R := rp0_S3
              have rp1_S3 : aS 75 S3 = aCm (aS 75 S) ((aRef (aS 75 S) y.toNatClampNeg l2)) := rp1_S3
              have rp2_S3 : aS 88 S3 = (aS 88 S) := rp2_S3
              first | have e39 : (l2 + (1 : Int32)).toInt = l2.toInt + (1) := i_addk rfl (by omega) (by omega) | have b40 := i_bd (l2 + (1 : Int32))
              exact IH _ (by omega) _ l1 ((l2 + (1 : Int32))) rfl hI_S3 th_l1 (by omega) (show xB S3 R from by first | (exact (xC_o (W := 75) rp0_S3).2)) (show zTa R y = some l1 from by first | (exact hi2)) (show gDw (aG S3) y.toNatClampNeg ((l2 + (1 : Int32))) = gDw ab y.toNatClampNeg 0 from by first | (have ty := xB_th (W := 75) hi1 hi2; have e2 : (aG S 128 y.toNatClampNeg).toInt = (mI S l1 2).toInt := (by rw [aG_o (by decide) (by decide), ← ty.2.2.2.2.1]); have hx : (l2 + (1 : Int32)).toInt = l2.toInt + 1 := i_p1 (by omega); have d := dy_y hi1 hi2 (by omega) (by omega) (by omega) (by omega) (by omega) (by omega); rw [G_cm rp1_S3 (show mI S3 82 = mI S 82 from funext (fun _ => (zG_z hI_S3 rfl).trans (zG_z hI rfl).symm)) (show mI S3 83 = mI S 83 from funext (fun _ => (zG_z hI_S3 rfl).trans (zG_z hI rfl).symm)), G_rf]; exact (gDw_y (by omega) hx d).symm.trans hi3))
theorem sp_14_82_sy {X : Nat × (Nat → Int32)} {d w : Nat} {f : Nat → Nat → Int32} {r : Nat → Nat → Option Nat} {C Z N : Nat} {Q : Option ma_V ⊕ Nat → ma_S → Prop} {ab : Nat→Nat→Int32} {R : zRT} {y : Int32} {S : ma_S} (t : Nat) (hd : 1 ≤ d) (hw : 25 ≤ w) (hI : zI f r C Z N S) (th_t : 126 ≤ t ∧ t < N) (hpre0 : xB S R) (hpre1 : aG S = ab) (hpre2 : zTa R y = some t) (K : ∀ S', zI f r C Z N S' → (xB S' R) → (aG S' = gDw ab y.toNatClampNeg 0) → Q (.inl none) S') : ma_wp X d w 14 0 [(0, .inr (.inr (some 82))), (1, .inr (.inr (some t)))] [] S Q := by
  refine g_14_82_sy_0 t (by omega) (by omega) (zG_T hI) ?_
  have li1 : (0 : Int32).toInt = 0 := rfl
  exact lp_14_82_sy_2 (by omega) (by omega) K _ _ t ((0 : Int32)) rfl hI th_t (by omega) (show xB S R from by first | (exact (xC_o (W := 75) hpre0).2)) (show zTa R y = some t from by first | (exact hpre2)) (show gDw (aG S) y.toNatClampNeg ((0 : Int32)) = gDw ab y.toNatClampNeg 0 from by first | (rw [hpre1]))
