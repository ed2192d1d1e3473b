/-! AGES, the class (written by wip/tools/gen15y.py) -/
theorem g_13_82_sy_0 {X : Nat × (Nat → Int32)} {d w : Nat} {S : ma_S} {Q : Option ma_V ⊕ Nat → ma_S → Prop}  (hd : 2 ≤ d) (hw : 48 ≤ w) (hS : zT S) (h : ma_wp X d w 13 2 [(0, .inr (.inr (some 82))), (1, .inl (0 : Int32))] [] S Q) : ma_wp X d w 13 0 [(0, .inr (.inr (some 82)))] [] S Q := by
  refine zw_push hm_13 dX0_comeFromDirty_0 (v := .inl (0 : Int32)) rfl ?_
  refine zw_sto hm_13 dX0_comeFromDirty_1 [(1, .inl (0 : Int32)), (0, .inr (.inr (some 82)))] rfl rfl rfl ?_
  exact zw_sub (ma_nd_of (ks := [0, 1]) rfl (by decide)) (ma_nd_of (ks := [1, 0]) rfl (by decide)) (ma_le_cons rfl (ma_le_cons rfl (ma_le_nil _))) h
theorem g_13_82_sy_2 {X : Nat × (Nat → Int32)} {d w : Nat} {S : ma_S} {Q : Option ma_V ⊕ Nat → ma_S → Prop} (l1 : Int32) (hd : 2 ≤ d) (hw : 48 ≤ w) (hS : zT S) (h : if (mI S 82 6) ≤ l1 then (Q (.inl none) S) else (if l1 < 0 then (ma_wp X d w 13 2 [(0, .inr (.inr (some 82))), (1, .inl (l1 + (1 : Int32)))] [] S Q) else (if (4500 : Int32) ≤ l1 then (ma_wp X d w 13 2 [(0, .inr (.inr (some 82))), (1, .inl (l1 + (1 : Int32)))] [] S Q) else ((0 ≤ l1 ∧ l1.toNatClampNeg < 4500) ∧ (if (mI S 71 l1.toNatClampNeg) < 0 then (ma_wp X d w 13 2 [(0, .inr (.inr (some 82))), (1, .inl (l1 + (1 : Int32)))] [] S Q) else (if (512 : Int32) ≤ (mI S 71 l1.toNatClampNeg) then (ma_wp X d w 13 2 [(0, .inr (.inr (some 82))), (1, .inl (l1 + (1 : Int32)))] [] S Q) else ((0 ≤ (mI S 71 l1.toNatClampNeg) ∧ (mI S 71 l1.toNatClampNeg).toNatClampNeg < 512) ∧ (((mR S 70 (mI S 71 l1.toNatClampNeg).toNatClampNeg) = none → ma_wp X d w 13 2 [(0, .inr (.inr (some 82))), (1, .inl (l1 + (1 : Int32)))] [] S Q) ∧ (∀ c1, (mR S 70 (mI S 71 l1.toNatClampNeg).toNatClampNeg) = some c1 → (126 ≤ c1 ∧ c1 < mN S) ∧ (ma_wp X (d - 1) (w - 23) 14 0 [(0, .inr (.inr (some 82))), (1, .inr (.inr (some c1)))] [] S (zv (fun S2 => zT S2 ∧ (ma_wp X d w 13 2 [(0, .inr (.inr (some 82))), (1, .inl (l1 + (mI S c1 2)))] [] S2 Q)) (fun x S9 => Q (.inr x) S9)))))))))))) : ma_wp X d w 13 2 [(0, .inr (.inr (some 82))), (1, .inl l1)] [] S Q := by
  refine zw_push hm_13 dX0_comeFromDirty_2 (v := .inl l1) rfl ?_
  refine zw_push hm_13 dX0_comeFromDirty_3 (v := .inr (.inr (some 82))) rfl ?_
  refine zw_gf hm_13 dX0_comeFromDirty_4 (v := .inl (mI S 82 6)) (zT_is hS s_82) (zT_t hS s_82) rfl f_1_28_1 rfl ?_
  refine zw_if2 hm_13 dX0_comeFromDirty_7 (t := 44) rfl zc2_ge ?_ ?_
  · intro hc
    rw [if_pos hc] at h
    exact zw_vret hm_13 dX0_comeFromDirty_44 h
  · intro hc
    rw [if_neg hc] at h
    refine zw_push hm_13 dX0_comeFromDirty_10 (v := .inr (.inr (some 82))) rfl ?_
    refine zw_gf hm_13 dX0_comeFromDirty_11 (v := .inr (.inr (some 69))) (zT_is hS s_82) (zT_t hS s_82) rfl f_1_80_1 (zT_f hS r_82_0) ?_
    refine zw_push hm_13 dX0_comeFromDirty_14 (v := .inl l1) rfl ?_
    refine zw_cv hm_13 dX0_comeFromDirty_15 v_1_129_7 hm_89 [.inl l1] [] rfl (zT_rt hS s_69 rfl) ⟨by omega, by omega⟩ rfl ?_
    show ma_wp X (d - 1) (w - 22) 89 0 [(0, .inr (.inr (some 69))), (1, .inl l1)] [] S _
    refine zw_push hm_89 dX7_thingFrom_0 (v := .inl l1) rfl ?_
    refine zw_if0 hm_89 dX7_thingFrom_1 (t := 20) rfl zc0_lt ?_ ?_
    · intro hc
      rw [if_pos hc] at h
      refine zw_push hm_89 dX7_thingFrom_20 (v := .inl (-1 : Int32)) rfl ?_
      refine zw_sto hm_89 dX7_thingFrom_21 [(2, .inl (-1 : Int32)), (0, .inr (.inr (some 69))), (1, .inl l1)] rfl rfl rfl ?_
      refine zw_push hm_89 dX7_thingFrom_22 (v := .inl (-1 : Int32)) rfl ?_
      refine zw_if0 hm_89 dX7_thingFrom_23 (t := 42) rfl zc0_lt (fun _ => ?_) (fun hc => absurd (by decide) hc)
      refine zw_push hm_89 dX7_thingFrom_42 (v := .inr (.inr none)) rfl ?_
      refine zw_aret hm_89 dX7_thingFrom_43 ?_
      show ma_wp X d w 13 18 [(0, .inr (.inr (some 82))), (1, .inl l1)] [.inr (.inr none)] S _
      refine zw_sto hm_13 dX0_comeFromDirty_18 [(2, .inr (.inr none)), (0, .inr (.inr (some 82))), (1, .inl l1)] rfl rfl rfl ?_
      refine zw_push hm_13 dX0_comeFromDirty_19 (v := .inr (.inr none)) rfl ?_
      refine zw_ifnonnull hm_13 dX0_comeFromDirty_20 (t := 29) rfl (fun _ => ?_) (fun _ z => by cases z)
      refine zw_sto hm_13 dX0_comeFromDirty_23 [(1, .inl (l1 + (1 : Int32))), (2, .inr (.inr none)), (0, .inr (.inr (some 82)))] rfl rfl rfl ?_
      refine zw_goto hm_13 dX0_comeFromDirty_26 (t := 41) rfl ?_
      refine zw_goto hm_13 dX0_comeFromDirty_41 (t := 2) rfl ?_
      exact zw_sub (ma_nd_of (ks := [0, 1]) rfl (by decide)) (ma_nd_of (ks := [1, 2, 0]) rfl (by decide)) (ma_le_cons rfl (ma_le_cons rfl (ma_le_nil _))) h
    · intro hc
      rw [if_neg hc] at h
      refine zw_push hm_89 dX7_thingFrom_4 (v := .inl l1) rfl ?_
      refine zw_push hm_89 dX7_thingFrom_5 (v := .inl (4500 : Int32)) rfl ?_
      refine zw_if2 hm_89 dX7_thingFrom_8 (t := 20) rfl zc2_ge ?_ ?_
      · intro hc
        rw [if_pos hc] at h
        refine zw_push hm_89 dX7_thingFrom_20 (v := .inl (-1 : Int32)) rfl ?_
        refine zw_sto hm_89 dX7_thingFrom_21 [(2, .inl (-1 : Int32)), (0, .inr (.inr (some 69))), (1, .inl l1)] rfl rfl rfl ?_
        refine zw_push hm_89 dX7_thingFrom_22 (v := .inl (-1 : Int32)) rfl ?_
        refine zw_if0 hm_89 dX7_thingFrom_23 (t := 42) rfl zc0_lt (fun _ => ?_) (fun hc => absurd (by decide) hc)
        refine zw_push hm_89 dX7_thingFrom_42 (v := .inr (.inr none)) rfl ?_
        refine zw_aret hm_89 dX7_thingFrom_43 ?_
        show ma_wp X d w 13 18 [(0, .inr (.inr (some 82))), (1, .inl l1)] [.inr (.inr none)] S _
        refine zw_sto hm_13 dX0_comeFromDirty_18 [(2, .inr (.inr none)), (0, .inr (.inr (some 82))), (1, .inl l1)] rfl rfl rfl ?_
        refine zw_push hm_13 dX0_comeFromDirty_19 (v := .inr (.inr none)) rfl ?_
        refine zw_ifnonnull hm_13 dX0_comeFromDirty_20 (t := 29) rfl (fun _ => ?_) (fun _ z => by cases z)
        refine zw_sto hm_13 dX0_comeFromDirty_23 [(1, .inl (l1 + (1 : Int32))), (2, .inr (.inr none)), (0, .inr (.inr (some 82)))] rfl rfl rfl ?_
        refine zw_goto hm_13 dX0_comeFromDirty_26 (t := 41) rfl ?_
        refine zw_goto hm_13 dX0_comeFromDirty_41 (t := 2) rfl ?_
        exact zw_sub (ma_nd_of (ks := [0, 1]) rfl (by decide)) (ma_nd_of (ks := [1, 2, 0]) rfl (by decide)) (ma_le_cons rfl (ma_le_cons rfl (ma_le_nil _))) h
      · intro hc
        rw [if_neg hc] at h
        refine zw_push hm_89 dX7_thingFrom_11 (v := .inr (.inr (some 69))) rfl ?_
        refine zw_gf hm_89 dX7_thingFrom_12 (v := .inr (.inr (some 71))) (zT_is hS s_69) (zT_t hS s_69) rfl f_7_17_7 (zT_f hS r_69_1) ?_
        refine zw_push hm_89 dX7_thingFrom_15 (v := .inl l1) rfl ?_
        obtain ⟨hg, h⟩ := h
        refine zw_ia hm_89 dX7_thingFrom_16 (zT_is hS s_71) (zT_h hS s_71) rfl hg ?_
        show ma_wp X (d - 1) (w - 22) 89 17 [(0, .inr (.inr (some 69))), (1, .inl l1)] [.inl (mI S 71 l1.toNatClampNeg)] S _
        refine zw_goto hm_89 dX7_thingFrom_17 (t := 21) rfl ?_
        refine zw_sto hm_89 dX7_thingFrom_21 [(2, .inl (mI S 71 l1.toNatClampNeg)), (0, .inr (.inr (some 69))), (1, .inl l1)] rfl rfl rfl ?_
        refine zw_push hm_89 dX7_thingFrom_22 (v := .inl (mI S 71 l1.toNatClampNeg)) rfl ?_
        refine zw_if0 hm_89 dX7_thingFrom_23 (t := 42) rfl zc0_lt ?_ ?_
        · intro hc
          rw [if_pos hc] at h
          refine zw_push hm_89 dX7_thingFrom_42 (v := .inr (.inr none)) rfl ?_
          refine zw_aret hm_89 dX7_thingFrom_43 ?_
          show ma_wp X d w 13 18 [(0, .inr (.inr (some 82))), (1, .inl l1)] [.inr (.inr none)] S _
          refine zw_sto hm_13 dX0_comeFromDirty_18 [(2, .inr (.inr none)), (0, .inr (.inr (some 82))), (1, .inl l1)] rfl rfl rfl ?_
          refine zw_push hm_13 dX0_comeFromDirty_19 (v := .inr (.inr none)) rfl ?_
          refine zw_ifnonnull hm_13 dX0_comeFromDirty_20 (t := 29) rfl (fun _ => ?_) (fun _ z => by cases z)
          refine zw_sto hm_13 dX0_comeFromDirty_23 [(1, .inl (l1 + (1 : Int32))), (2, .inr (.inr none)), (0, .inr (.inr (some 82)))] rfl rfl rfl ?_
          refine zw_goto hm_13 dX0_comeFromDirty_26 (t := 41) rfl ?_
          refine zw_goto hm_13 dX0_comeFromDirty_41 (t := 2) rfl ?_
          exact zw_sub (ma_nd_of (ks := [0, 1]) rfl (by decide)) (ma_nd_of (ks := [1, 2, 0]) rfl (by decide)) (ma_le_cons rfl (ma_le_cons rfl (ma_le_nil _))) h
        · intro hc
          rw [if_neg hc] at h
          refine zw_push hm_89 dX7_thingFrom_26 (v := .inl (mI S 71 l1.toNatClampNeg)) rfl ?_
          refine zw_push hm_89 dX7_thingFrom_27 (v := .inl (512 : Int32)) rfl ?_
          refine zw_if2 hm_89 dX7_thingFrom_30 (t := 42) rfl zc2_ge ?_ ?_
          · intro hc
            rw [if_pos hc] at h
            refine zw_push hm_89 dX7_thingFrom_42 (v := .inr (.inr none)) rfl ?_
            refine zw_aret hm_89 dX7_thingFrom_43 ?_
            show ma_wp X d w 13 18 [(0, .inr (.inr (some 82))), (1, .inl l1)] [.inr (.inr none)] S _
            refine zw_sto hm_13 dX0_comeFromDirty_18 [(2, .inr (.inr none)), (0, .inr (.inr (some 82))), (1, .inl l1)] rfl rfl rfl ?_
            refine zw_push hm_13 dX0_comeFromDirty_19 (v := .inr (.inr none)) rfl ?_
            refine zw_ifnonnull hm_13 dX0_comeFromDirty_20 (t := 29) rfl (fun _ => ?_) (fun _ z => by cases z)
            refine zw_sto hm_13 dX0_comeFromDirty_23 [(1, .inl (l1 + (1 : Int32))), (2, .inr (.inr none)), (0, .inr (.inr (some 82)))] rfl rfl rfl ?_
            refine zw_goto hm_13 dX0_comeFromDirty_26 (t := 41) rfl ?_
            refine zw_goto hm_13 dX0_comeFromDirty_41 (t := 2) rfl ?_
            exact zw_sub (ma_nd_of (ks := [0, 1]) rfl (by decide)) (ma_nd_of (ks := [1, 2, 0]) rfl (by decide)) (ma_le_cons rfl (ma_le_cons rfl (ma_le_nil _))) h
          · intro hc
            rw [if_neg hc] at h
            refine zw_push hm_89 dX7_thingFrom_33 (v := .inr (.inr (some 69))) rfl ?_
            refine zw_gf hm_89 dX7_thingFrom_34 (v := .inr (.inr (some 70))) (zT_is hS s_69) (zT_t hS s_69) rfl f_7_11_7 (zT_f hS r_69_0) ?_
            refine zw_push hm_89 dX7_thingFrom_37 (v := .inl (mI S 71 l1.toNatClampNeg)) rfl ?_
            obtain ⟨hg, h⟩ := h
            refine zw_aa hm_89 dX7_thingFrom_38 (zT_is hS s_70) (zT_h hS s_70) rfl rfl hg rfl ?_
            show ma_wp X (d - 1) (w - 22) 89 39 [(2, .inl (mI S 71 l1.toNatClampNeg)), (0, .inr (.inr (some 69))), (1, .inl l1)] [.inr (.inr (mR S 70 (mI S 71 l1.toNatClampNeg).toNatClampNeg))] S _
            refine zw_goto hm_89 dX7_thingFrom_39 (t := 43) rfl ?_
            refine zw_aret hm_89 dX7_thingFrom_43 ?_
            show ma_wp X d w 13 18 [(0, .inr (.inr (some 82))), (1, .inl l1)] [.inr (.inr (mR S 70 (mI S 71 l1.toNatClampNeg).toNatClampNeg))] S _
            refine zw_sto hm_13 dX0_comeFromDirty_18 [(2, .inr (.inr (mR S 70 (mI S 71 l1.toNatClampNeg).toNatClampNeg))), (0, .inr (.inr (some 82))), (1, .inl l1)] rfl rfl rfl ?_
            refine zw_push hm_13 dX0_comeFromDirty_19 (v := .inr (.inr (mR S 70 (mI S 71 l1.toNatClampNeg).toNatClampNeg))) rfl ?_
            refine zw_ifnonnull hm_13 dX0_comeFromDirty_20 (t := 29) rfl ?_ ?_
            · intro hc
              have h := h.1 hc
              (try rw [hc])
              show ma_wp X d w 13 23 [(2, .inr (.inr none)), (0, .inr (.inr (some 82))), (1, .inl l1)] [] S _
              refine zw_sto hm_13 dX0_comeFromDirty_23 [(1, .inl (l1 + (1 : Int32))), (2, .inr (.inr none)), (0, .inr (.inr (some 82)))] rfl rfl rfl ?_
              refine zw_goto hm_13 dX0_comeFromDirty_26 (t := 41) rfl ?_
              refine zw_goto hm_13 dX0_comeFromDirty_41 (t := 2) rfl ?_
              exact zw_sub (ma_nd_of (ks := [0, 1]) rfl (by decide)) (ma_nd_of (ks := [1, 2, 0]) rfl (by decide)) (ma_le_cons rfl (ma_le_cons rfl (ma_le_nil _))) h
            · intro c1 hc
              have h := h.2 c1 hc
              (try rw [hc])
              show ma_wp X d w 13 29 [(2, .inr (.inr (some c1))), (0, .inr (.inr (some 82))), (1, .inl l1)] [] S _
              refine zw_push hm_13 dX0_comeFromDirty_29 (v := .inl l1) rfl ?_
              refine zw_push hm_13 dX0_comeFromDirty_30 (v := .inr (.inr (some c1))) rfl ?_
              obtain ⟨hg, h⟩ := h
              refine zw_gf hm_13 dX0_comeFromDirty_31 (v := .inl (mI S c1 2)) (zT_tis hS hg) (zT_tt hS hg) rfl f_1_67_9 rfl ?_
              refine zw_stk hm_13 dX0_comeFromDirty_34 (st' := [.inl (l1 + (mI S c1 2))]) rfl rfl ?_
              refine zw_sto hm_13 dX0_comeFromDirty_35 [(1, .inl (l1 + (mI S c1 2))), (2, .inr (.inr (some c1))), (0, .inr (.inr (some 82)))] rfl rfl rfl ?_
              refine zw_push hm_13 dX0_comeFromDirty_36 (v := .inr (.inr (some 82))) rfl ?_
              refine zw_push hm_13 dX0_comeFromDirty_37 (v := .inr (.inr (some c1))) rfl ?_
              refine zw_cv hm_13 dX0_comeFromDirty_38 v_1_132_1 hm_14 [.inr (.inr (some c1))] [] rfl (zT_rt hS s_82 rfl) ⟨by omega, by omega⟩ rfl (zw_mono h (zv_go ?_ ?_))
              · intro S2 hv
                obtain ⟨hS2, h⟩ := hv
                refine zw_goto hm_13 dX0_comeFromDirty_41 (t := 2) rfl ?_
                exact zw_sub (ma_nd_of (ks := [0, 1]) rfl (by decide)) (ma_nd_of (ks := [1, 2, 0]) rfl (by decide)) (ma_le_cons rfl (ma_le_cons rfl (ma_le_nil _))) h
              · intro x S9 hx
                exact ⟨by decide, hx⟩
theorem lp_13_82_sy_2 {X : Nat × (Nat → Int32)} {d w : Nat} {f : Nat → Nat → Int32} {r : Nat → Nat → Option Nat} {C Z N : Nat} {Q : Option ma_V ⊕ Nat → ma_S → Prop} {ab : Nat→Nat→Int32} {R : zRT} (hd : 2 ≤ d) (hw : 48 ≤ w) (K : ∀ S', zI f r C Z N S' → (xB S' R) → (aG S' = gDp ab (ab 87 10).toInt 0) → Q (.inl none) S') : ∀ (n : Nat) (S : ma_S) (l1 : Int32), (400000 - l1.toInt).toNat = n → zI f r C Z N S → (0 ≤ l1.toInt) → ((mI S 82 6).toInt ≤ 400000) → (xB S R) → (zS1 (aG S)) → (gDp (aG S) (mI S 82 6).toInt l1.toInt = gDp ab (ab 87 10).toInt 0) → ma_wp X d w 13 2 [(0, .inr (.inr (some 82))), (1, .inl l1)] [] S Q := by
  intro n
  induction n using Nat.strongRecOn with
  | _ n IH =>
    intro S l1 hmu hI  hi0 hi1 hi2 hi3 hi4
    refine g_13_82_sy_2 l1 (by omega) (by omega) (zG_T hI) ?_
    have q1 : (mI S 82 6).toInt = (f 82 6).toInt := zG_zi hI rfl
    have b2 := i_bd (mI S 82 6)
    have b3 := i_bd l1
    refine zd (fun h4 => ?_) (fun h4 => ?_)
    · skip
      have g5 := i_le h4
      exact K _ hI (show xB S R from by first | (exact (xC_o (W := 75) hi2).2)) (show aG S = gDp ab (ab 87 10).toInt 0 from by first | (exact (Dp_e (by omega)).symm.trans hi4))
    · skip
      have g6 := i_nle h4
      have li7 : (0 : Int32).toInt = 0 := rfl
      refine zd (fun h8 => ?_) (fun h8 => ?_)
      · skip
        have g9 := i_lt h8
        first | have e10 : (l1 + (1 : Int32)).toInt = l1.toInt + (1) := i_addk rfl (by omega) (by omega) | have b11 := i_bd (l1 + (1 : Int32))
        exact IH _ (by omega) _ ((l1 + (1 : Int32))) rfl hI (by omega) (show (mI S 82 6).toInt ≤ 400000 from by omega) (show xB S R from by first | (exact (xC_o (W := 75) hi2).2)) (show zS1 (aG S) from by first | (exact hi3)) (show gDp (aG S) (mI S 82 6).toInt ((l1 + (1 : Int32))).toInt = gDp ab (ab 87 10).toInt 0 from by first | (have o := (ob_n1 (a := aG S) (p := l1.toInt) (by omega)); rw [show (l1 + (1 : Int32)).toInt = l1.toInt + 1 from by omega]; exact (Dp_fr (by omega) (ob_neg o)).symm.trans hi4) | (have o := (yb_n2 (S := S) (x := l1) (by omega)); rw [show (l1 + (1 : Int32)).toInt = l1.toInt + 1 from by omega]; exact (Dp_fr (by omega) (ob_neg o)).symm.trans hi4))
      · skip
        have g12 := i_nlt h8
        have li13 : (4500 : Int32).toInt = 4500 := rfl
        refine zd (fun h14 => ?_) (fun h14 => ?_)
        · skip
          have g15 := i_le h14
          first | have e16 : (l1 + (1 : Int32)).toInt = l1.toInt + (1) := i_addk rfl (by omega) (by omega) | have b17 := i_bd (l1 + (1 : Int32))
          exact IH _ (by omega) _ ((l1 + (1 : Int32))) rfl hI (by omega) (show (mI S 82 6).toInt ≤ 400000 from by omega) (show xB S R from by first | (exact (xC_o (W := 75) hi2).2)) (show zS1 (aG S) from by first | (exact hi3)) (show gDp (aG S) (mI S 82 6).toInt ((l1 + (1 : Int32))).toInt = gDp ab (ab 87 10).toInt 0 from by first | (have o := (ob_n1 (a := aG S) (p := l1.toInt) (by omega)); rw [show (l1 + (1 : Int32)).toInt = l1.toInt + 1 from by omega]; exact (Dp_fr (by omega) (ob_neg o)).symm.trans hi4) | (have o := (yb_n2 (S := S) (x := l1) (by omega)); rw [show (l1 + (1 : Int32)).toInt = l1.toInt + 1 from by omega]; exact (Dp_fr (by omega) (ob_neg o)).symm.trans hi4))
        · skip
          have g18 := i_nle h14
          refine ⟨i_ix (by omega) (by omega), ?_⟩
          have b19 := i_bd (mI S 71 l1.toNatClampNeg)
          refine zd (fun h20 => ?_) (fun h20 => ?_)
          · skip
            have g21 := i_lt h20
            first | have e22 : (l1 + (1 : Int32)).toInt = l1.toInt + (1) := i_addk rfl (by omega) (by omega) | have b23 := i_bd (l1 + (1 : Int32))
            exact IH _ (by omega) _ ((l1 + (1 : Int32))) rfl hI (by omega) (show (mI S 82 6).toInt ≤ 400000 from by omega) (show xB S R from by first | (exact (xC_o (W := 75) hi2).2)) (show zS1 (aG S) from by first | (exact hi3)) (show gDp (aG S) (mI S 82 6).toInt ((l1 + (1 : Int32))).toInt = gDp ab (ab 87 10).toInt 0 from by first | (have o := (ob_n1 (a := aG S) (p := l1.toInt) (by omega)); rw [show (l1 + (1 : Int32)).toInt = l1.toInt + 1 from by omega]; exact (Dp_fr (by omega) (ob_neg o)).symm.trans hi4) | (have o := (yb_n2 (S := S) (x := l1) (by omega)); rw [show (l1 + (1 : Int32)).toInt = l1.toInt + 1 from by omega]; exact (Dp_fr (by omega) (ob_neg o)).symm.trans hi4))
          · skip
            have g24 := i_nlt h20
            have li25 : (512 : Int32).toInt = 512 := rfl
            refine zd (fun h26 => ?_) (fun h26 => ?_)
            · skip
              have g27 := i_le h26
              first | have e28 : (l1 + (1 : Int32)).toInt = l1.toInt + (1) := i_addk rfl (by omega) (by omega) | have b29 := i_bd (l1 + (1 : Int32))
              exact IH _ (by omega) _ ((l1 + (1 : Int32))) rfl hI (by omega) (show (mI S 82 6).toInt ≤ 400000 from by omega) (show xB S R from by first | (exact (xC_o (W := 75) hi2).2)) (show zS1 (aG S) from by first | (exact hi3)) (show gDp (aG S) (mI S 82 6).toInt ((l1 + (1 : Int32))).toInt = gDp ab (ab 87 10).toInt 0 from by first | (have o := (ob_n1 (a := aG S) (p := l1.toInt) (by omega)); rw [show (l1 + (1 : Int32)).toInt = l1.toInt + 1 from by omega]; exact (Dp_fr (by omega) (ob_neg o)).symm.trans hi4) | (have o := (yb_n2 (S := S) (x := l1) (by omega)); rw [show (l1 + (1 : Int32)).toInt = l1.toInt + 1 from by omega]; exact (Dp_fr (by omega) (ob_neg o)).symm.trans hi4))
            · skip
              have g30 := i_nle h26
              refine ⟨i_ix (by omega) (by omega), ?_⟩
              refine ⟨fun hc => ?_, fun c1 hc => ?_⟩
              · skip
                have rn_c1 : zTa R (mI S 71 l1.toNatClampNeg) = none := (ta_rd (y := (mI S 71 l1.toNatClampNeg)) hi2 (by omega) (by omega)).symm.trans hc
                first | have e31 : (l1 + (1 : Int32)).toInt = l1.toInt + (1) := i_addk rfl (by omega) (by omega) | have b32 := i_bd (l1 + (1 : Int32))
                exact IH _ (by omega) _ ((l1 + (1 : Int32))) rfl hI (by omega) (show (mI S 82 6).toInt ≤ 400000 from by omega) (show xB S R from by first | (exact (xC_o (W := 75) hi2).2)) (show zS1 (aG S) from by first | (exact hi3)) (show gDp (aG S) (mI S 82 6).toInt ((l1 + (1 : Int32))).toInt = gDp ab (ab 87 10).toInt 0 from by first | (have o := (yb_n3 (x := l1) hi2 rn_c1); rw [show (l1 + (1 : Int32)).toInt = l1.toInt + 1 from by omega]; exact (Dp_fr (by omega) (ob_neg o)).symm.trans hi4))
              · skip
                have th_c1 := (fun _ z => zG_70 hI (c := 70) (by decide) z) c1 hc
                have rg_c1 : zTa R (mI S 71 l1.toNatClampNeg) = some c1 := (ta_rd (y := (mI S 71 l1.toNatClampNeg)) hi2 (by omega) (by omega)).symm.trans hc
                refine ⟨zG_n hI th_c1, ?_⟩
                refine sp_14_82_sy (ab := (aG S)) (R := R) (y := ((mI S 71 l1.toNatClampNeg))) c1 (by omega) (by omega) hI th_c1 (show xB S R from by first | (exact (xC_o (W := 75) hi2).2)) (show aG S = (aG S) from by first | (exact rfl)) (show zTa R ((mI S 71 l1.toNatClampNeg)) = some c1 from by first | (exact rg_c1)) (fun S2 hI_S2 rp0_S2 rp1_S2 => zv_n ⟨zG_T hI_S2, ?_⟩)
                have rp0_S2 : xB S2 R := rp0_S2
                have rp1_S2 : aG S2 = gDw (aG S) ((mI S 71 l1.toNatClampNeg)).toNatClampNeg 0 := rp1_S2
                have f33 := zG_th hI th_c1
                first | have e34 : (l1 + (mI S c1 2)).toInt = l1.toInt + (mI S c1 2).toInt := i_add (by omega) (by omega) | have b35 := i_bd (l1 + (mI S c1 2))
                have q36 : (mI S2 82 6).toInt = (f 82 6).toInt := zG_zi hI_S2 rfl
                have b37 := i_bd (mI S2 82 6)
                exact IH _ (by omega) _ ((l1 + (mI S c1 2))) rfl hI_S2 (by omega) (show (mI S2 82 6).toInt ≤ 400000 from by omega) (show xB S2 R from by first | (exact (xC_o (W := 75) rp0_S2).2)) (show zS1 (aG S2) from by first | (rw [rp1_S2]; exact S1_dw hi3)) (show gDp (aG S2) (mI S2 82 6).toInt ((l1 + (mI S c1 2))).toInt = gDp ab (ab 87 10).toInt 0 from by first | (have o := yb_y (x := l1) hi2 rg_c1 (by omega) (by omega); have ty := xB_th (W := 75) hi2 rg_c1; have ob0 : 0 ≤ (zOb (aG S) l1.toInt).toInt := (by rw [o.1]; exact ty.1); have z := Dp_go (e := (mI S 82 6).toInt) hi3 (by omega) ob0; rw [o.1, o.2] at z; rw [rp1_S2, (show mI S2 82 6 = mI S 82 6 from (zG_z hI_S2 rfl).trans (zG_z hI rfl).symm)]; refine Eq.trans ?_ (z.symm.trans hi4); congr 1 <;> omega))
theorem sp_13_82_sy {X : Nat × (Nat → Int32)} {d w : Nat} {f : Nat → Nat → Int32} {r : Nat → Nat → Option Nat} {C Z N : Nat} {Q : Option ma_V ⊕ Nat → ma_S → Prop} {ab : Nat→Nat→Int32} {R : zRT} {S : ma_S}  (hd : 2 ≤ d) (hw : 48 ≤ w) (hI : zI f r C Z N S) (hpre0 : xB S R) (hpre1 : aG S = ab) (hpre2 : zS1 (aG S)) (hpre3 : (mI S 82 6).toInt ≤ 400000) (K : ∀ S', zI f r C Z N S' → (xB S' R) → (aG S' = gDp ab (ab 87 10).toInt 0) → Q (.inl none) S') : ma_wp X d w 13 0 [(0, .inr (.inr (some 82)))] [] S Q := by
  refine g_13_82_sy_0  (by omega) (by omega) (zG_T hI) ?_
  have q1 : (mI S 82 6).toInt = (f 82 6).toInt := zG_zi hI rfl
  have b2 := i_bd (mI S 82 6)
  have li3 : (0 : Int32).toInt = 0 := rfl
  exact lp_13_82_sy_2 (by omega) (by omega) K _ _ ((0 : Int32)) rfl hI (by omega) (show (mI S 82 6).toInt ≤ 400000 from by omega) (show xB S R from by first | (exact (xC_o (W := 75) hpre0).2)) (show zS1 (aG S) from by first | (exact hpre2)) (show gDp (aG S) (mI S 82 6).toInt ((0 : Int32)).toInt = gDp ab (ab 87 10).toInt 0 from by first | (have e10 : (ab 87 10).toInt = (mI S 82 6).toInt := (by rw [← hpre1]; rfl); rw [hpre1, e10]; rfl))
