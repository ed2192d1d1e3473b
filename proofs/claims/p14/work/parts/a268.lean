/-! from 95.u19 -/
/-! AGES, the class (written by wip/tools/gen15y.py) -/
theorem g_13_82_sy_0 {X : Nat × (Nat → Int32)} {d w : Nat} {S : ma_S} {Q : Option ma_V ⊕ Nat → ma_S → Prop}  (hd : 2 ≤ d) (hw : 48 ≤ w) (hS : zT S) (h : ma_wp X d w 13 2 [(0, .inr (.inr (some 82))), (1, .inl (0 : Int32))] [] S Q) : ma_wp X d w 13 0 [(0, .inr (.inr (some 82)))] [] S Q := by
  refine zw_push hm_13 dX0_comeFromDirty_0 (v := .inl (0 : Int32)) rfl ?_
  refine zw_sto hm_13 dX0_comeFromDirty_1 [(1, .inl (0 : Int32)), (0, .inr (.inr (some 82)))] rfl rfl rfl ?_
  exact zw_sub (ma_nd_of (ks := [0, 1]) rfl (by decide)) (ma_nd_of (ks := [1, 0]) rfl (by decide)) (ma_le_cons rfl (ma_le_cons rfl (ma_le_nil _))) h
theorem g_13_82_sy_2 {X : Nat × (Nat → Int32)} {d w : Nat} {S : ma_S} {Q : Option ma_V ⊕ Nat → ma_S → Prop} (l1 : Int32) (hd : 2 ≤ d) (hw : 48 ≤ w) (hS : zT S) (h : if (mI S 82 6) ≤ l1 then (Q (.inl none) S) else (if l1 < 0 then (ma_wp X d w 13 2 [(0, .inr (.inr (some 82))), (1, .inl (l1 + (1 : Int32)))] [] S Q) else (if (4500 : Int32) ≤ l1 then (ma_wp X d w 13 2 [(0, .inr (.inr (some 82))), (1, .inl (l1 + (1 : Int32)))] [] S Q) else ((0 ≤ l1 ∧ l1.toNatClampNeg < 4500) ∧ (if (mI S 71 l1.toNatClampNeg) < 0 then (ma_wp X d w 13 2 [(0, .inr (.inr (some 82))), (1, .inl (l1 + (1 : Int32)))] [] S Q) else (if (512 : Int32) ≤ (mI S 71 l1.toNatClampNeg) then (ma_wp X d w 13 2 [(0, .inr (.inr (some 82))), (1, .inl (l1 + (1 : Int32)))] [] S Q) else ((0 ≤ (mI S 71 l1.toNatClampNeg) ∧ (mI S 71 l1.toNatClampNeg).toNatClampNeg < 512) ∧ (((mR S 70 (mI S 71 l1.toNatClampNeg).toNatClampNeg) = none → ma_wp X d w 13 2 [(0, .inr (.inr (some 82))), (1, .inl (l1 + (1 : Int32)))] [] S Q) ∧ (∀ c1, (mR S 70 (mI S 71 l1.toNatClampNeg).toNatClampNeg) = some c1 → (126 ≤ c1 ∧ c1 < mN S) ∧ (ma_wp X (d - 1) (w - 23) 14 0 [(0, .inr (.inr (some 82))), (1, .inr (.inr (some c1)))] [] S (zv (fun S2 => zT S2 ∧ (ma_wp X d w 13 2 [(0, .inr (.inr (some 82))), (1, .inl (l1 + (mI S c1 2)))] [] S2 Q)) (fun x S9 => Q (.inr x) S9)))))))))))) : ma_wp X d w 13 2 [(0, .inr (.inr (some 82))), (1, .inl l1)] [] S Q := by
  refine zw_push hm_13 dX0_comeFromDirty_2 (v := .inl l1) rfl ?_
  refine zw_push hm_13 dX0_comeFromDirty_3 (v := .inr (.inr (some 82))) rfl ?_
  refine zw_gf hm_13 dX0_comeFromDirty_4 (v := .inl (mI S 82 6)) (zT_is hS s_82) (zT_t hS s_82) rfl f_1_28_1 rfl ?_
  refine zw_if2 hm_13 dX0_comeFromDirty_7 (t := 44) rfl zc2_ge ?_ ?_
  · intro hc
    rw [if_pos hc] at h
    exact zw_vret hm_13 dX0_comeFromDirty_44 h
  · intro hc
    rw [if_neg hc] at h
    refine zw_push hm_13 dX0_comeFromDirty_10 (v := .inr (.inr (some 82))) rfl ?_
    refine zw_gf hm_13 dX0_comeFromDirty_11 (v := .inr (.inr (some 69))) (zT_is hS s_82) (zT_t hS s_82) rfl f_1_80_1 (zT_f hS r_82_0) ?_
    refine zw_push hm_13 dX0_comeFromDirty_14 (v := .inl l1) rfl ?_
    refine zw_cv hm_13 dX0_comeFromDirty_15 v_1_129_7 hm_89 [.inl l1] [] rfl (zT_rt hS s_69 rfl) ⟨by omega, by omega⟩ rfl ?_
    show ma_wp X (d - 1) (w - 22) 89 0 [(0, .inr (.inr (some 69))), (1, .inl l1)] [] S _
    refine zw_push hm_89 dX7_thingFrom_0 (v := .inl l1) rfl ?_
    refine zw_if0 hm_89 dX7_thingFrom_1 (t := 20) rfl zc0_lt ?_ ?_
    · intro hc
      rw [if_pos hc] at h
      refine zw_push hm_89 dX7_thingFrom_20 (v := .inl (-1 : Int32)) rfl ?_
      refine zw_sto hm_89 dX7_thingFrom_21 [(2, .inl (-1 : Int32)), (0, .inr (.inr (some 69))), (1, .inl l1)] rfl rfl rfl ?_
      refine zw_push hm_89 dX7_thingFrom_22 (v := .inl (-1 : Int32)) rfl ?_
      refine zw_if0 hm_89 dX7_thingFrom_23 (t := 42) rfl zc0_lt (fun _ => ?_) (fun hc => absurd (by decide) hc)
      refine zw_push hm_89 dX7_thingFrom_42 (v := .inr (.inr none)) rfl ?_
      refine zw_aret hm_89 dX7_thingFrom_43 ?_
      show ma_wp X d w 13 18 [(0, .inr (.inr (some 82))), (1, .inl l1)] [.inr (.inr none)] S _
      refine zw_sto hm_13 dX0_comeFromDirty_18 [(2, .inr (.inr none)), (0, .inr (.inr (some 82))), (1, .inl l1)] rfl rfl rfl ?_
      refine zw_push hm_13 dX0_comeFromDirty_19 (v := .inr (.inr none)) rfl ?_
      refine zw_ifnonnull hm_13 dX0_comeFromDirty_20 (t := 29) rfl (fun _ => ?_) (fun _ z => by cases z)
      refine zw_sto hm_13 dX0_comeFromDirty_23 [(1, .inl (l1 + (1 : Int32))), (2, .inr (.inr none)), (0, .inr (.inr (some 82)))] rfl rfl rfl ?_
      refine zw_goto hm_13 dX0_comeFromDirty_26 (t := 41) rfl ?_
      refine zw_goto hm_13 dX0_comeFromDirty_41 (t := 2) rfl ?_
      exact zw_sub (ma_nd_of (ks := [0, 1]) rfl (by decide)) (ma_nd_of (ks := [1, 2, 0]) rfl (by decide)) (ma_le_cons rfl (ma_le_cons rfl (ma_le_nil _))) h
    · intro hc
      rw [if_neg hc] at h
      refine zw_push hm_89 dX7_thingFrom_4 (v := .inl l1) rfl ?_
      refine zw_push hm_89 dX7_thingFrom_5 (v := .inl (4500 : Int32)) rfl ?_
      refine zw_if2 hm_89 dX7_thingFrom_8 (t := 20) rfl zc2_ge ?_ ?_
      · intro hc
        rw [if_pos hc] at h
        refine zw_push hm_89 dX7_thingFrom_20 (v := .inl (-1 : Int32)) rfl ?_
        refine zw_sto hm_89 dX7_thingFrom_21 [(2, .inl (-1 : Int32)), (0, .inr (.inr (some 69))), (1, .inl l1)] rfl rfl rfl ?_
        refine zw_push hm_89 dX7_thingFrom_22 (v := .inl (-1 : Int32)) rfl ?_
        refine zw_if0 hm_89 dX7_thingFrom_23 (t := 42) rfl zc0_lt (fun _ => ?_) (fun hc => absurd (by decide) hc)
        refine zw_push hm_89 dX7_thingFrom_42 (v := .inr (.inr none)) rfl ?_
        refine zw_aret hm_89 dX7_thingFrom_43 ?_
        show ma_wp X d w 13 18 [(0, .inr (.inr (some 82))), (1, .inl l1)] [.inr (.inr none)] S _
        refine zw_sto hm_13 dX0_comeFromDirty_18 [(2, .inr (.inr none)), (0, .inr (.inr (some 82))), (1, .inl l1)] rfl rfl rfl ?_
        refine zw_push hm_13 dX0_comeFromDirty_19 (v := .inr (.inr none)) rfl ?_
        refine zw_ifnonnull hm_13 dX0_comeFromDirty_20 (t := 29) rfl (fun _ => ?_) (fun _ z => by cases z)
        refine zw_sto hm_13 dX0_comeFromDirty_23 [(1, .inl (l1 + (1 : Int32))), (2, .inr (.inr none)), (0, .inr (.inr (some 82)))] rfl rfl rfl ?_
        refine zw_goto hm_13 dX0_comeFromDirty_26 (t := 41) rfl ?_
        refine zw_goto hm_13 dX0_comeFromDirty_41 (t := 2) rfl ?_
        exact zw_sub (ma_nd_of (ks := [0, 1]) rfl (by decide)) (ma_nd_of (ks := [1, 2, 0]) rfl (by decide)) (ma_le_cons rfl (ma_le_cons rfl (ma_le_nil _))) h
      · intro hc
        rw [if_neg hc] at h
        refine zw_push hm_89 dX7_thingFrom_11 (v := .inr (.inr (some 69))) rfl ?_
        refine zw_gf hm_89 dX7_thingFrom_12 (v := .inr (.inr (some 71))) (zT_is hS s_69) (zT_t hS s_69) rfl f_7_17_7 (zT_f hS r_69_1) ?_
        refine zw_push hm_89 dX7_thingFrom_15 (v := .inl l1) rfl ?_
        obtain ⟨hg, h⟩ := h
        refine zw_ia hm_89 dX7_thingFrom_16 (zT_is hS s_71) (zT_h hS s_71) rfl hg ?_
        show ma_wp X (d - 1) (w - 22) 89 17 [(0, .inr (.inr (some 69))), (1, .inl l1)] [.inl (mI S 71 l1.toNatClampNeg)] S _
        refine zw_goto hm_89 dX7_thingFrom_17 (t := 21) rfl ?_
        refine zw_sto hm_89 dX7_thingFrom_21 [(2, .inl (mI S 71 l1.toNatClampNeg)), (0, .inr (.inr (some 69))), (1, .inl l1)] rfl rfl rfl ?_
        refine zw_push hm_89 dX7_thingFrom_22 (v := .inl (mI S 71 l1.toNatClampNeg)) rfl ?_
        refine zw_if0 hm_89 dX7_thingFrom_23 (t := 42) rfl zc0_lt ?_ ?_
        · intro hc
          rw [if_pos hc] at h
          refine zw_push hm_89 dX7_thingFrom_42 (v := .inr (.inr none)) rfl ?_
          refine zw_aret hm_89 dX7_thingFrom_43 ?_
          show ma_wp X d w 13 18 [(0, .inr (.inr (some 82))), (1, .inl l1)] [.inr (.inr none)] S _
          refine zw_sto hm_13 dX0_comeFromDirty_18 [(2, .inr (.inr none)), (0, .inr (.inr (some 82))), (1, .inl l1)] rfl rfl rfl ?_
          refine zw_push hm_13 dX0_comeFromDirty_19 (v := .inr (.inr none)) rfl ?_
          refine zw_ifnonnull hm_13 dX0_comeFromDirty_20 (t := 29) rfl (fun _ => ?_) (fun _ z => by cases z)
          refine zw_sto hm_13 dX0_comeFromDirty_23 [(1, .inl (l1 + (1 : Int32))), (2, .inr (.inr none)), (0, .inr (.inr (some 82)))] rfl rfl rfl ?_
          refine zw_goto hm_13 dX0_comeFromDirty_26 (t := 41) rfl ?_
          refine zw_goto hm_13 dX0_comeFromDirty_41 (t := 2) rfl ?_
          exact zw_sub (ma_nd_of (ks := [0, 1]) rfl (by decide)) (ma_nd_of (ks := [1, 2, 0]) rfl (by decide)) (ma_le_cons rfl (ma_le_cons rfl (ma_le_nil _))) h
        · intro hc
          rw [if_neg hc] at h
          refine zw_push hm_89 dX7_thingFrom_26 (v := .inl (mI S 71 l1.toNatClampNeg)) rfl ?_
          refine zw_push hm_89 dX7_thingFrom_27 (v := .inl (512 : Int32)) rfl ?_
          refine zw_if2 hm_89 dX7_thingFrom_30 (t := 42) rfl zc2_ge ?_ ?_
          · intro hc
            rw [if_pos hc] at h
            refine zw_push hm_89 dX7_thingFrom_42 (v := .inr (.inr none)) rfl ?_
            refine zw_aret hm_89 dX7_thingFrom_43 ?_
            show ma_wp X d w 13 18 [(0, .inr (.inr (some 82))), (1, .inl l1)] [.inr (.inr none)] S _
            refine zw_sto hm_13 dX0_comeFromDirty_18 [(2, .inr (.inr none)), (0, .inr (.inr (some 82))), (1, .inl l1)] rfl rfl rfl ?_
            refine zw_push hm_13 dX0_comeFromDirty_19 (v := .inr (.inr none)) rfl ?_
            refine zw_ifnonnull hm_13 dX0_comeFromDirty_20 (t := 29) rfl (fun _ => ?_) (fun _ z => by cases z)
            refine zw_sto hm_13 dX0_comeFromDirty_23 [(1, .inl (l1 + (1 : Int32))), (2, .inr (.inr none)), (0, .inr (.inr (some 82)))] rfl rfl rfl ?_
            refine zw_goto hm_13 dX0_comeFromDirty_26 (t := 41) rfl ?_
            refine zw_goto hm_13 dX0_comeFromDirty_41 (t := 2) rfl ?_
            exact zw_sub (ma_nd_of (ks := [0, 1]) rfl (by decide)) (ma_nd_of (ks := [1, 2, 0]) rfl (by decide)) (ma_le_cons rfl (ma_le_cons rfl (ma_le_nil _))) h
          · intro hc
            rw [if_neg hc] at h
            refine zw_push hm_89 dX7_thingFrom_33 (v := .inr (.inr (some 69))) rfl ?_
            refine zw_gf hm_89 dX7_thingFrom_34 (v := .inr (.inr (some 70))) (zT_is hS s_69) (zT_t hS s_69) rfl f_7_11_7 (zT_f hS r_69_0) ?_
            refine zw_push hm_89 dX7_thingFrom_37 (v := .inl (mI S 71 l1.toNatClampNeg)) rfl ?_
            obtain ⟨hg, h⟩ := h
            refine zw_aa hm_89 dX7_thingFrom_38 (zT_is hS s_70) (zT_h hS s_70) rfl rfl hg rfl ?_
            show ma_wp X (d - 1) (w - 22) 89 39 [(2, .inl (mI S 71 l1.toNatClampNeg)), (0, .inr (.inr (some 69))), (1, .inl l1)] [.inr (.inr (mR S 70 (mI S 71 l1.toNatClampNeg).toNatClampNeg))] S _
            refine zw_goto hm_89 dX7_thingFrom_39 (t := 43) rfl ?_
            refine zw_aret hm_89 dX7_thingFrom_43 ?_
            show ma_wp X d w 13 18 [(0, .inr (.inr (some 82))), (1, .inl l1)] [.inr (.inr (mR S 70 (mI S 71 l1.toNatClampNeg).toNatClampNeg))] S _
            refine zw_sto hm_13 dX0_comeFromDirty_18 [(2, .inr (.inr (mR S 70 (mI S 71 l1.toNatClampNeg).toNatClampNeg))), (0, .inr (.inr (some 82))), (1, .inl l1)] rfl rfl rfl ?_
            refine zw_push hm_13 dX0_comeFromDirty_19 (v := .inr (.inr (mR S 70 (mI S 71 l1.toNatClampNeg).toNatClampNeg))) rfl ?_
            refine zw_ifnonnull hm_13 dX0_comeFromDirty_20 (t := 29) rfl ?_ ?_
            · intro hc
              have h := h.1 hc
              (try rw [hc])
              show ma_wp X d w 13 23 [(2, .inr (.inr none)), (0, .inr (.inr (some 82))), (1, .inl l1)] [] S _
              refine zw_sto hm_13 dX0_comeFromDirty_23 [(1, .inl (l1 + (1 : Int32))), (2, .inr (.inr none)), (0, .inr (.inr (some 82)))] rfl rfl rfl ?_
              refine zw_goto hm_13 dX0_comeFromDirty_26 (t := 41) rfl ?_
              refine zw_goto hm_13 dX0_comeFromDirty_41 (t := 2) rfl ?_
              exact zw_sub (ma_nd_of (ks := [0, 1]) rfl (by decide)) (ma_nd_of (ks := [1, 2, 0]) rfl (by decide)) (ma_le_cons rfl (ma_le_cons rfl (ma_le_nil _))) h
            · intro c1 hc
              have h := h.2 c1 hc
              (try rw [hc])
              show ma_wp X d w 13 29 [(2, .inr (.inr (some c1))), (0, .inr (.inr (some 82))), (1, .inl l1)] [] S _
              refine zw_push hm_13 dX0_comeFromDirty_29 (v := .inl l1) rfl ?_
              refine zw_push hm_13 dX0_comeFromDirty_30 (v := .inr (.inr (some c1))) rfl ?_
              obtain ⟨hg, h⟩ := h
              refine zw_gf hm_13 dX0_comeFromDirty_31 (v := .inl (mI S c1 2)) (zT_tis hS hg) (zT_tt hS hg) rfl f_1_67_9 rfl ?_
              refine zw_stk hm_13 dX0_comeFromDirty_34 (st₉ := [.inl (l1 + (mI S c1 2))]) rfl rfl ?_
              refine zw_sto hm_13 dX0_comeFromDirty_35 [(1, .inl (l1 + (mI S c1 2))), (2, .inr (.inr (some c1))), (0, .inr (.inr (some 82)))] rfl rfl rfl ?_
              refine zw_push hm_13 dX0_comeFromDirty_36 (v := .inr (.inr (some 82))) rfl ?_
              refine zw_push hm_13 dX0_comeFromDirty_37 (v := .inr (.inr (some c1))) rfl ?_
              refine zw_cv hm_13 dX0_comeFromDirty_38 v_1_132_1 hm_14 [.inr (.inr (some c1))] [] rfl (zT_rt hS s_82 rfl) ⟨by omega, by omega⟩ rfl (zw_mono h (zv_go ?_ ?_))
              · intro S2 hv
                obtain ⟨hS2, h⟩ := hv
                refine zw_goto hm_13 dX0_comeFromDirty_41 (t := 2) rfl ?_
                exact zw_sub (ma_nd_of (ks := [0, 1]) rfl (by decide)) (ma_nd_of (ks := [1, 2, 0]) rfl (by decide)) (ma_le_cons rfl (ma_le_cons rfl (ma_le_nil _))) h
              · intro x S9 hx
                exact ⟨by decide, hx⟩
theorem lp_13_82_sy_2 {X : Nat × (Nat → Int32)} {d w : Nat} {f : Nat → Nat → Int32} {r : Nat → Nat → Option Nat} {C Z N : Nat} {Q : Option ma_V ⊕ Nat → ma_S → Prop} {ab : Nat→Nat→Int32} {R : zRT} (hd : 2 ≤ d) (hw : 48 ≤ w) (K : ∀ S₉, zI f r C Z N S₉ → (xB S₉ R) → (aG S₉ = gDp ab (ab 87 10).toInt 0) → Q (.inl none) S₉) : ∀ (n : Nat) (S : ma_S) (l1 : Int32), (400000 - l1.toInt).toNat = n → zI f r C Z N S → (0 ≤ l1.toInt) → ((mI S 82 6).toInt ≤ 400000) → (xB S R) → (zS1 (aG S)) → (gDp (aG S) (mI S 82 6).toInt l1.toInt = gDp ab (ab 87 10).toInt 0) → ma_wp X d w 13 2 [(0, .inr (.inr (some 82))), (1, .inl l1)] [] S Q := by
  intro n
  induction n using Nat.strongRecOn with
  | _ n IH =>
    intro S l1 hmu hI  hi0 hi1 hi2 hi3 hi4
    refine g_13_82_sy_2 l1 (by omega) (by omega) (zG_T hI) ?_
    have q1 : (mI S 82 6).toInt = (f 82 6).toInt := zG_zi hI rfl
    have b2 := i_bd (mI S 82 6)
    have b3 := i_bd l1
    refine zd (fun h4 => ?_) (fun h4 => ?_)
    · skip
      have g5 := i_le h4
      exact K _ hI (show xB S R from by first | (exact (xC_o (W := 75) hi2).2)) (show aG S = gDp ab (ab 87 10).toInt 0 from by first | (exact (Dp_e (by omega)).symm.trans hi4))
    · skip
      have g6 := i_nle h4
      have li7 : (0 : Int32).toInt = 0 := rfl
      refine zd (fun h8 => ?_) (fun h8 => ?_)
      · skip
        have g9 := i_lt h8
        first | have e10 : (l1 + (1 : Int32)).toInt = l1.toInt + (1) := i_addk rfl (by omega) (by omega) | have b11 := i_bd (l1 + (1 : Int32))
        exact IH _ (by omega) _ ((l1 + (1 : Int32))) rfl hI (by omega) (show (mI S 82 6).toInt ≤ 400000 from by omega) (show xB S R from by first | (exact (xC_o (W := 75) hi2).2)) (show zS1 (aG S) from by first | (exact hi3)) (show gDp (aG S) (mI S 82 6).toInt ((l1 + (1 : Int32))).toInt = gDp ab (ab 87 10).toInt 0 from by first | (have o := (ob_n1 (a := aG S) (p := l1.toInt) (by omega)); rw [show (l1 + (1 : Int32)).toInt = l1.toInt + 1 from by omega]; exact (Dp_fr (by omega) (ob_neg o)).symm.trans hi4) | (have o := (yb_n2 (S := S) (x := l1) (by omega)); rw [show (l1 + (1 : Int32)).toInt = l1.toInt + 1 from by omega]; exact (Dp_fr (by omega) (ob_neg o)).symm.trans hi4))
      · skip
        have g12 := i_nlt h8
        have li13 : (4500 : Int32).toInt = 4500 := rfl
        refine zd (fun h14 => ?_) (fun h14 => ?_)
        · skip
          have g15 := i_le h14
          first | have e16 : (l1 + (1 : Int32)).toInt = l1.toInt + (1) := i_addk rfl (by omega) (by omega) | have b17 := i_bd (l1 + (1 : Int32))
          exact IH _ (by omega) _ ((l1 + (1 : Int32))) rfl hI (by omega) (show (mI S 82 6).toInt ≤ 400000 from by omega) (show xB S R from by first | (exact (xC_o (W := 75) hi2).2)) (show zS1 (aG S) from by first | (exact hi3)) (show gDp (aG S) (mI S 82 6).toInt ((l1 + (1 : Int32))).toInt = gDp ab (ab 87 10).toInt 0 from by first | (have o := (ob_n1 (a := aG S) (p := l1.toInt) (by omega)); rw [show (l1 + (1 : Int32)).toInt = l1.toInt + 1 from by omega]; exact (Dp_fr (by omega) (ob_neg o)).symm.trans hi4) | (have o := (yb_n2 (S := S) (x := l1) (by omega)); rw [show (l1 + (1 : Int32)).toInt = l1.toInt + 1 from by omega]; exact (Dp_fr (by omega) (ob_neg o)).symm.trans hi4))
        · skip
          have g18 := i_nle h14
          refine ⟨i_ix (by omega) (by omega), ?_⟩
          have b19 := i_bd (mI S 71 l1.toNatClampNeg)
          refine zd (fun h20 => ?_) (fun h20 => ?_)
          · skip
            have g21 := i_lt h20
            first | have e22 : (l1 + (1 : Int32)).toInt = l1.toInt + (1) := i_addk rfl (by omega) (by omega) | have b23 := i_bd (l1 + (1 : Int32))
            exact IH _ (by omega) _ ((l1 + (1 : Int32))) rfl hI (by omega) (show (mI S 82 6).toInt ≤ 400000 from by omega) (show xB S R from by first | (exact (xC_o (W := 75) hi2).2)) (show zS1 (aG S) from by first | (exact hi3)) (show gDp (aG S) (mI S 82 6).toInt ((l1 + (1 : Int32))).toInt = gDp ab (ab 87 10).toInt 0 from by first | (have o := (ob_n1 (a := aG S) (p := l1.toInt) (by omega)); rw [show (l1 + (1 : Int32)).toInt = l1.toInt + 1 from by omega]; exact (Dp_fr (by omega) (ob_neg o)).symm.trans hi4) | (have o := (yb_n2 (S := S) (x := l1) (by omega)); rw [show (l1 + (1 : Int32)).toInt = l1.toInt + 1 from by omega]; exact (Dp_fr (by omega) (ob_neg o)).symm.trans hi4))
          · skip
            have g24 := i_nlt h20
            have li25 : (512 : Int32).toInt = 512 := rfl
            refine zd (fun h26 => ?_) (fun h26 => ?_)
            · skip
              have g27 := i_le h26
              first | have e28 : (l1 + (1 : Int32)).toInt = l1.toInt + (1) := i_addk rfl (by omega) (by omega) | have b29 := i_bd (l1 + (1 : Int32))
              exact IH _ (by omega) _ ((l1 + (1 : Int32))) rfl hI (by omega) (show (mI S 82 6).toInt ≤ 400000 from by omega) (show xB S R from by first | (exact (xC_o (W := 75) hi2).2)) (show zS1 (aG S) from by first | (exact hi3)) (show gDp (aG S) (mI S 82 6).toInt ((l1 + (1 : Int32))).toInt = gDp ab (ab 87 10).toInt 0 from by first | (have o := (ob_n1 (a := aG S) (p := l1.toInt) (by omega)); rw [show (l1 + (1 : Int32)).toInt = l1.toInt + 1 from by omega]; exact (Dp_fr (by omega) (ob_neg o)).symm.trans hi4) | (have o := (yb_n2 (S := S) (x := l1) (by omega)); rw [show (l1 + (1 : Int32)).toInt = l1.toInt + 1 from by omega]; exact (Dp_fr (by omega) (ob_neg o)).symm.trans hi4))
            · skip
              have g30 := i_nle h26
              refine ⟨i_ix (by omega) (by omega), ?_⟩
              refine ⟨fun hc => ?_, fun c1 hc => ?_⟩
              · skip
                have rn_c1 : zTa R (mI S 71 l1.toNatClampNeg) = none := (ta_rd (y := (mI S 71 l1.toNatClampNeg)) hi2 (by omega) (by omega)).symm.trans hc
                first | have e31 : (l1 + (1 : Int32)).toInt = l1.toInt + (1) := i_addk rfl (by omega) (by omega) | have b32 := i_bd (l1 + (1 : Int32))
                exact IH _ (by omega) _ ((l1 + (1 : Int32))) rfl hI (by omega) (show (mI S 82 6).toInt ≤ 400000 from by omega) (show xB S R from by first | (exact (xC_o (W := 75) hi2).2)) (show zS1 (aG S) from by first | (exact hi3)) (show gDp (aG S) (mI S 82 6).toInt ((l1 + (1 : Int32))).toInt = gDp ab (ab 87 10).toInt 0 from by first | (have o := (yb_n3 (x := l1) hi2 rn_c1); rw [show (l1 + (1 : Int32)).toInt = l1.toInt + 1 from by omega]; exact (Dp_fr (by omega) (ob_neg o)).symm.trans hi4))
              · skip
                have th_c1 := (fun _ z => zG_70 hI (c := 70) (by decide) z) c1 hc
                have rg_c1 : zTa R (mI S 71 l1.toNatClampNeg) = some c1 := (ta_rd (y := (mI S 71 l1.toNatClampNeg)) hi2 (by omega) (by omega)).symm.trans hc
                refine ⟨zG_n hI th_c1, ?_⟩
                refine sp_14_82_sy (ab := (aG S)) (R := R) (y := ((mI S 71 l1.toNatClampNeg))) c1 (by omega) (by omega) hI th_c1 (show xB S R from by first | (exact (xC_o (W := 75) hi2).2)) (show aG S = (aG S) from by first | (exact rfl)) (show zTa R ((mI S 71 l1.toNatClampNeg)) = some c1 from by first | (exact rg_c1)) (fun S2 hI_S2 rp0_S2 rp1_S2 => zv_n ⟨zG_T hI_S2, ?_⟩)
                have rp0_S2 : xB S2 R := rp0_S2
                have rp1_S2 : aG S2 = gDw (aG S) ((mI S 71 l1.toNatClampNeg)).toNatClampNeg 0 := rp1_S2
                have f33 := zG_th hI th_c1
                first | have e34 : (l1 + (mI S c1 2)).toInt = l1.toInt + (mI S c1 2).toInt := i_add (by omega) (by omega) | have b35 := i_bd (l1 + (mI S c1 2))
                have q36 : (mI S2 82 6).toInt = (f 82 6).toInt := zG_zi hI_S2 rfl
                have b37 := i_bd (mI S2 82 6)
                exact IH _ (by omega) _ ((l1 + (mI S c1 2))) rfl hI_S2 (by omega) (show (mI S2 82 6).toInt ≤ 400000 from by omega) (show xB S2 R from by first | (exact (xC_o (W := 75) rp0_S2).2)) (show zS1 (aG S2) from by first | (rw [rp1_S2]; exact S1_dw hi3)) (show gDp (aG S2) (mI S2 82 6).toInt ((l1 + (mI S c1 2))).toInt = gDp ab (ab 87 10).toInt 0 from by first | (have o := yb_y (x := l1) hi2 rg_c1 (by omega) (by omega); have ty := xB_th (W := 75) hi2 rg_c1; have ob0 : 0 ≤ (zOb (aG S) l1.toInt).toInt := (by rw [o.1]; exact ty.1); have z := Dp_go (e := (mI S 82 6).toInt) hi3 (by omega) ob0; rw [o.1, o.2] at z; rw [rp1_S2, (show mI S2 82 6 = mI S 82 6 from (zG_z hI_S2 rfl).trans (zG_z hI rfl).symm)]; refine Eq.trans ?_ (z.symm.trans hi4); congr 1 <;> omega))
theorem sp_13_82_sy {X : Nat × (Nat → Int32)} {d w : Nat} {f : Nat → Nat → Int32} {r : Nat → Nat → Option Nat} {C Z N : Nat} {Q : Option ma_V ⊕ Nat → ma_S → Prop} {ab : Nat→Nat→Int32} {R : zRT} {S : ma_S}  (hd : 2 ≤ d) (hw : 48 ≤ w) (hI : zI f r C Z N S) (hpre0 : xB S R) (hpre1 : aG S = ab) (hpre2 : zS1 (aG S)) (hpre3 : (mI S 82 6).toInt ≤ 400000) (K : ∀ S₉, zI f r C Z N S₉ → (xB S₉ R) → (aG S₉ = gDp ab (ab 87 10).toInt 0) → Q (.inl none) S₉) : ma_wp X d w 13 0 [(0, .inr (.inr (some 82)))] [] S Q := by
  refine g_13_82_sy_0  (by omega) (by omega) (zG_T hI) ?_
  have q1 : (mI S 82 6).toInt = (f 82 6).toInt := zG_zi hI rfl
  have b2 := i_bd (mI S 82 6)
  have li3 : (0 : Int32).toInt = 0 := rfl
  exact lp_13_82_sy_2 (by omega) (by omega) K _ _ ((0 : Int32)) rfl hI (by omega) (show (mI S 82 6).toInt ≤ 400000 from by omega) (show xB S R from by first | (exact (xC_o (W := 75) hpre0).2)) (show zS1 (aG S) from by first | (exact hpre2)) (show gDp (aG S) (mI S 82 6).toInt ((0 : Int32)).toInt = gDp ab (ab 87 10).toInt 0 from by first | (have e10 : (ab 87 10).toInt = (mI S 82 6).toInt := (by rw [← hpre1]; rfl); rw [hpre1, e10]; rfl))

/-! from 95.u20 -/
/-! AGES, the class (written by wip/tools/gen15y.py) -/
theorem g_8_82_sy_0 {X : Nat × (Nat → Int32)} {d w : Nat} {S : ma_S} {Q : Option ma_V ⊕ Nat → ma_S → Prop} (t : Nat) (i : Int32) (x : Option Nat) (hd : 1 ≤ d) (hw : 22 ≤ w) (hS : zT S) (h : if (mI S 82 5) ≤ 0 then ((x = none → Q (.inl none) S) ∧ (∀ c1, x = some c1 → (126 ≤ t ∧ t < mN S) ∧ (if (mI S t 4) < (mI S 82 3) then ((126 ≤ c1 ∧ c1 < mN S) ∧ (if (mI S c1 4) < (mI S 82 3) then (Q (.inl none) S) else (Q (.inl none) S))) else (Q (.inl none) S)))) else ((126 ≤ t ∧ t < mN S) ∧ ((mI S 82 5) ≠ 0 ∧ ((x = none → Q (.inl none) S) ∧ (∀ c2, x = some c2 → (126 ≤ t ∧ t < mN S) ∧ (if (mI S t 4) < (mI S 82 3) then ((126 ≤ c2 ∧ c2 < mN S) ∧ (if (mI S c2 4) < (mI S 82 3) then (Q (.inl none) S) else (if ((((mI S t 4) + (1 : Int32)) + i) / (mI S 82 5)) < 0 then (Q (.inl none) S) else (if (375 : Int32) ≤ ((((mI S t 4) + (1 : Int32)) + i) / (mI S 82 5)) then (Q (.inl none) S) else ((0 ≤ ((((mI S t 4) + (1 : Int32)) + i) / (mI S 82 5)) ∧ ((((mI S t 4) + (1 : Int32)) + i) / (mI S 82 5)).toNatClampNeg < 375) ∧ (Q (.inl none) (ma_put S 83 ((((mI S t 4) + (1 : Int32)) + i) / (mI S 82 5)).toNatClampNeg (.inl (1 : Int32))))))))) else (Q (.inl none) S))))))) : ma_wp X d w 8 0 [(0, .inr (.inr (some 82))), (1, .inr (.inr (some t))), (2, .inl i), (3, .inr (.inr x))] [] S Q := by
  refine zw_push hm_8 dX0_noteReference_0 (v := .inr (.inr (some 82))) rfl ?_
  refine zw_push hm_8 dX0_noteReference_1 (v := .inr (.inr (some t))) rfl ?_
  refine zw_push hm_8 dX0_noteReference_2 (v := .inl i) rfl ?_
  refine zw_cv hm_8 dX0_noteReference_3 v_1_136_1 hm_9 [.inl i, .inr (.inr (some t))] [] rfl (zT_rt hS s_82 rfl) ⟨by omega, by omega⟩ rfl ?_
  show ma_wp X (d - 1) (w - 22) 9 0 [(0, .inr (.inr (some 82))), (1, .inr (.inr (some t))), (2, .inl i)] [] S _
  refine zw_push hm_9 dX0_cardOf_0 (v := .inr (.inr (some 82))) rfl ?_
  refine zw_gf hm_9 dX0_cardOf_1 (v := .inl (mI S 82 5)) (zT_is hS s_82) (zT_t hS s_82) rfl f_1_25_1 rfl ?_
  refine zw_if0 hm_9 dX0_cardOf_4 (t := 23) rfl zc0_le ?_ ?_
  · intro hc
    rw [if_pos hc] at h
    refine zw_push hm_9 dX0_cardOf_23 (v := .inl (-1 : Int32)) rfl ?_
    refine zw_iret hm_9 dX0_cardOf_24 ?_
    show ma_wp X d w 8 6 [(0, .inr (.inr (some 82))), (1, .inr (.inr (some t))), (2, .inl i), (3, .inr (.inr x))] [.inl (-1 : Int32)] S _
    refine zw_sto hm_8 dX0_noteReference_6 [(4, .inl (-1 : Int32)), (0, .inr (.inr (some 82))), (1, .inr (.inr (some t))), (2, .inl i), (3, .inr (.inr x))] rfl rfl rfl ?_
    refine zw_push hm_8 dX0_noteReference_8 (v := .inr (.inr x)) rfl ?_
    refine zw_ifnull hm_8 dX0_noteReference_9 (t := 49) rfl ?_ ?_
    · intro hc
      have h := h.1 hc
      (try rw [hc])
      show ma_wp X d w 8 49 [(4, .inl (-1 : Int32)), (0, .inr (.inr (some 82))), (1, .inr (.inr (some t))), (2, .inl i), (3, .inr (.inr none))] [] S _
      exact zw_vret hm_8 dX0_noteReference_49 h
    · intro c1 hc
      have h := h.2 c1 hc
      (try rw [hc])
      show ma_wp X d w 8 12 [(4, .inl (-1 : Int32)), (0, .inr (.inr (some 82))), (1, .inr (.inr (some t))), (2, .inl i), (3, .inr (.inr (some c1)))] [] S _
      refine zw_push hm_8 dX0_noteReference_12 (v := .inr (.inr (some 82))) rfl ?_
      refine zw_push hm_8 dX0_noteReference_13 (v := .inr (.inr (some t))) rfl ?_
      refine zw_cv hm_8 dX0_noteReference_14 v_1_58_1 hm_7 [.inr (.inr (some t))] [] rfl (zT_rt hS s_82 rfl) ⟨by omega, by omega⟩ rfl ?_
      show ma_wp X (d - 1) (w - 21) 7 0 [(0, .inr (.inr (some 82))), (1, .inr (.inr (some t)))] [] S _
      refine zw_push hm_7 dX0_isYoung_0 (v := .inr (.inr (some t))) rfl ?_
      obtain ⟨hg, h⟩ := h
      refine zw_gf hm_7 dX0_isYoung_1 (v := .inl (mI S t 4)) (zT_tis hS hg) (zT_tt hS hg) rfl f_1_62_9 rfl ?_
      refine zw_push hm_7 dX0_isYoung_4 (v := .inr (.inr (some 82))) rfl ?_
      refine zw_gf hm_7 dX0_isYoung_5 (v := .inl (mI S 82 3)) (zT_is hS s_82) (zT_t hS s_82) rfl f_1_19_1 rfl ?_
      refine zw_if2 hm_7 dX0_isYoung_8 (t := 15) rfl zc2_lt ?_ ?_
      · intro hc
        rw [if_pos hc] at h
        refine zw_push hm_7 dX0_isYoung_15 (v := .inl (0 : Int32)) rfl ?_
        refine zw_bret hm_7 dX0_isYoung_16 (by decide) ?_
        show ma_wp X d w 8 17 [(4, .inl (-1 : Int32)), (0, .inr (.inr (some 82))), (1, .inr (.inr (some t))), (2, .inl i), (3, .inr (.inr (some c1)))] [.inl (0 : Int32)] S _
        refine zw_if0 hm_8 dX0_noteReference_17 (t := 49) rfl zc0_ne (fun hc => absurd hc (by decide)) (fun _ => ?_)
        refine zw_push hm_8 dX0_noteReference_20 (v := .inr (.inr (some 82))) rfl ?_
        refine zw_push hm_8 dX0_noteReference_21 (v := .inr (.inr (some c1))) rfl ?_
        refine zw_cv hm_8 dX0_noteReference_22 v_1_58_1 hm_7 [.inr (.inr (some c1))] [] rfl (zT_rt hS s_82 rfl) ⟨by omega, by omega⟩ rfl ?_
        show ma_wp X (d - 1) (w - 21) 7 0 [(0, .inr (.inr (some 82))), (1, .inr (.inr (some c1)))] [] S _
        refine zw_push hm_7 dX0_isYoung_0 (v := .inr (.inr (some c1))) rfl ?_
        obtain ⟨hg, h⟩ := h
        refine zw_gf hm_7 dX0_isYoung_1 (v := .inl (mI S c1 4)) (zT_tis hS hg) (zT_tt hS hg) rfl f_1_62_9 rfl ?_
        refine zw_push hm_7 dX0_isYoung_4 (v := .inr (.inr (some 82))) rfl ?_
        refine zw_gf hm_7 dX0_isYoung_5 (v := .inl (mI S 82 3)) (zT_is hS s_82) (zT_t hS s_82) rfl f_1_19_1 rfl ?_
        refine zw_if2 hm_7 dX0_isYoung_8 (t := 15) rfl zc2_lt ?_ ?_
        · intro hc
          rw [if_pos hc] at h
          refine zw_push hm_7 dX0_isYoung_15 (v := .inl (0 : Int32)) rfl ?_
          refine zw_bret hm_7 dX0_isYoung_16 (by decide) ?_
          show ma_wp X d w 8 25 [(4, .inl (-1 : Int32)), (0, .inr (.inr (some 82))), (1, .inr (.inr (some t))), (2, .inl i), (3, .inr (.inr (some c1)))] [.inl (0 : Int32)] S _
          refine zw_if0 hm_8 dX0_noteReference_25 (t := 49) rfl zc0_eq (fun _ => ?_) (fun hc => absurd (by decide) hc)
          exact zw_vret hm_8 dX0_noteReference_49 h
        · intro hc
          rw [if_neg hc] at h
          refine zw_push hm_7 dX0_isYoung_11 (v := .inl (1 : Int32)) rfl ?_
          refine zw_goto hm_7 dX0_isYoung_12 (t := 16) rfl ?_
          refine zw_bret hm_7 dX0_isYoung_16 (by decide) ?_
          show ma_wp X d w 8 25 [(4, .inl (-1 : Int32)), (0, .inr (.inr (some 82))), (1, .inr (.inr (some t))), (2, .inl i), (3, .inr (.inr (some c1)))] [.inl (1 : Int32)] S _
          refine zw_if0 hm_8 dX0_noteReference_25 (t := 49) rfl zc0_eq (fun hc => absurd hc (by decide)) (fun _ => ?_)
          refine zw_push hm_8 dX0_noteReference_28 (v := .inl (-1 : Int32)) rfl ?_
          refine zw_if0 hm_8 dX0_noteReference_30 (t := 49) rfl zc0_lt (fun _ => ?_) (fun hc => absurd (by decide) hc)
          exact zw_vret hm_8 dX0_noteReference_49 h
      · intro hc
        rw [if_neg hc] at h
        refine zw_push hm_7 dX0_isYoung_11 (v := .inl (1 : Int32)) rfl ?_
        refine zw_goto hm_7 dX0_isYoung_12 (t := 16) rfl ?_
        refine zw_bret hm_7 dX0_isYoung_16 (by decide) ?_
        show ma_wp X d w 8 17 [(4, .inl (-1 : Int32)), (0, .inr (.inr (some 82))), (1, .inr (.inr (some t))), (2, .inl i), (3, .inr (.inr (some c1)))] [.inl (1 : Int32)] S _
        refine zw_if0 hm_8 dX0_noteReference_17 (t := 49) rfl zc0_ne (fun _ => ?_) (fun hc => absurd (by decide) hc)
        exact zw_vret hm_8 dX0_noteReference_49 h
  · intro hc
    rw [if_neg hc] at h
    refine zw_push hm_9 dX0_cardOf_7 (v := .inr (.inr (some t))) rfl ?_
    obtain ⟨hg, h⟩ := h
    refine zw_gf hm_9 dX0_cardOf_8 (v := .inl (mI S t 4)) (zT_tis hS hg) (zT_tt hS hg) rfl f_1_62_9 rfl ?_
    refine zw_push hm_9 dX0_cardOf_11 (v := .inl (1 : Int32)) rfl ?_
    refine zw_stk hm_9 dX0_cardOf_12 (st₉ := [.inl ((mI S t 4) + (1 : Int32))]) rfl rfl ?_
    refine zw_push hm_9 dX0_cardOf_13 (v := .inl i) rfl ?_
    refine zw_stk hm_9 dX0_cardOf_14 (st₉ := [.inl (((mI S t 4) + (1 : Int32)) + i)]) rfl rfl ?_
    refine zw_push hm_9 dX0_cardOf_15 (v := .inr (.inr (some 82))) rfl ?_
    refine zw_gf hm_9 dX0_cardOf_16 (v := .inl (mI S 82 5)) (zT_is hS s_82) (zT_t hS s_82) rfl f_1_25_1 rfl ?_
    obtain ⟨hg, h⟩ := h
    refine zw_stk hm_9 dX0_cardOf_19 (st₉ := [.inl ((((mI S t 4) + (1 : Int32)) + i) / (mI S 82 5))]) rfl (if_neg hg) ?_
    refine zw_goto hm_9 dX0_cardOf_20 (t := 24) rfl ?_
    refine zw_iret hm_9 dX0_cardOf_24 ?_
    show ma_wp X d w 8 6 [(0, .inr (.inr (some 82))), (1, .inr (.inr (some t))), (2, .inl i), (3, .inr (.inr x))] [.inl ((((mI S t 4) + (1 : Int32)) + i) / (mI S 82 5))] S _
    refine zw_sto hm_8 dX0_noteReference_6 [(4, .inl ((((mI S t 4) + (1 : Int32)) + i) / (mI S 82 5))), (0, .inr (.inr (some 82))), (1, .inr (.inr (some t))), (2, .inl i), (3, .inr (.inr x))] rfl rfl rfl ?_
    refine zw_push hm_8 dX0_noteReference_8 (v := .inr (.inr x)) rfl ?_
    refine zw_ifnull hm_8 dX0_noteReference_9 (t := 49) rfl ?_ ?_
    · intro hc
      have h := h.1 hc
      (try rw [hc])
      show ma_wp X d w 8 49 [(4, .inl ((((mI S t 4) + (1 : Int32)) + i) / (mI S 82 5))), (0, .inr (.inr (some 82))), (1, .inr (.inr (some t))), (2, .inl i), (3, .inr (.inr none))] [] S _
      exact zw_vret hm_8 dX0_noteReference_49 h
    · intro c2 hc
      have h := h.2 c2 hc
      (try rw [hc])
      show ma_wp X d w 8 12 [(4, .inl ((((mI S t 4) + (1 : Int32)) + i) / (mI S 82 5))), (0, .inr (.inr (some 82))), (1, .inr (.inr (some t))), (2, .inl i), (3, .inr (.inr (some c2)))] [] S _
      refine zw_push hm_8 dX0_noteReference_12 (v := .inr (.inr (some 82))) rfl ?_
      refine zw_push hm_8 dX0_noteReference_13 (v := .inr (.inr (some t))) rfl ?_
      refine zw_cv hm_8 dX0_noteReference_14 v_1_58_1 hm_7 [.inr (.inr (some t))] [] rfl (zT_rt hS s_82 rfl) ⟨by omega, by omega⟩ rfl ?_
      show ma_wp X (d - 1) (w - 21) 7 0 [(0, .inr (.inr (some 82))), (1, .inr (.inr (some t)))] [] S _
      refine zw_push hm_7 dX0_isYoung_0 (v := .inr (.inr (some t))) rfl ?_
      obtain ⟨hg, h⟩ := h
      refine zw_gf hm_7 dX0_isYoung_1 (v := .inl (mI S t 4)) (zT_tis hS hg) (zT_tt hS hg) rfl f_1_62_9 rfl ?_
      refine zw_push hm_7 dX0_isYoung_4 (v := .inr (.inr (some 82))) rfl ?_
      refine zw_gf hm_7 dX0_isYoung_5 (v := .inl (mI S 82 3)) (zT_is hS s_82) (zT_t hS s_82) rfl f_1_19_1 rfl ?_
      refine zw_if2 hm_7 dX0_isYoung_8 (t := 15) rfl zc2_lt ?_ ?_
      · intro hc
        rw [if_pos hc] at h
        refine zw_push hm_7 dX0_isYoung_15 (v := .inl (0 : Int32)) rfl ?_
        refine zw_bret hm_7 dX0_isYoung_16 (by decide) ?_
        show ma_wp X d w 8 17 [(4, .inl ((((mI S t 4) + (1 : Int32)) + i) / (mI S 82 5))), (0, .inr (.inr (some 82))), (1, .inr (.inr (some t))), (2, .inl i), (3, .inr (.inr (some c2)))] [.inl (0 : Int32)] S _
        refine zw_if0 hm_8 dX0_noteReference_17 (t := 49) rfl zc0_ne (fun hc => absurd hc (by decide)) (fun _ => ?_)
        refine zw_push hm_8 dX0_noteReference_20 (v := .inr (.inr (some 82))) rfl ?_
        refine zw_push hm_8 dX0_noteReference_21 (v := .inr (.inr (some c2))) rfl ?_
        refine zw_cv hm_8 dX0_noteReference_22 v_1_58_1 hm_7 [.inr (.inr (some c2))] [] rfl (zT_rt hS s_82 rfl) ⟨by omega, by omega⟩ rfl ?_
        show ma_wp X (d - 1) (w - 21) 7 0 [(0, .inr (.inr (some 82))), (1, .inr (.inr (some c2)))] [] S _
        refine zw_push hm_7 dX0_isYoung_0 (v := .inr (.inr (some c2))) rfl ?_
        obtain ⟨hg, h⟩ := h
        refine zw_gf hm_7 dX0_isYoung_1 (v := .inl (mI S c2 4)) (zT_tis hS hg) (zT_tt hS hg) rfl f_1_62_9 rfl ?_
        refine zw_push hm_7 dX0_isYoung_4 (v := .inr (.inr (some 82))) rfl ?_
        refine zw_gf hm_7 dX0_isYoung_5 (v := .inl (mI S 82 3)) (zT_is hS s_82) (zT_t hS s_82) rfl f_1_19_1 rfl ?_
        refine zw_if2 hm_7 dX0_isYoung_8 (t := 15) rfl zc2_lt ?_ ?_
        · intro hc
          rw [if_pos hc] at h
          refine zw_push hm_7 dX0_isYoung_15 (v := .inl (0 : Int32)) rfl ?_
          refine zw_bret hm_7 dX0_isYoung_16 (by decide) ?_
          show ma_wp X d w 8 25 [(4, .inl ((((mI S t 4) + (1 : Int32)) + i) / (mI S 82 5))), (0, .inr (.inr (some 82))), (1, .inr (.inr (some t))), (2, .inl i), (3, .inr (.inr (some c2)))] [.inl (0 : Int32)] S _
          refine zw_if0 hm_8 dX0_noteReference_25 (t := 49) rfl zc0_eq (fun _ => ?_) (fun hc => absurd (by decide) hc)
          exact zw_vret hm_8 dX0_noteReference_49 h
        · intro hc
          rw [if_neg hc] at h
          refine zw_push hm_7 dX0_isYoung_11 (v := .inl (1 : Int32)) rfl ?_
          refine zw_goto hm_7 dX0_isYoung_12 (t := 16) rfl ?_
          refine zw_bret hm_7 dX0_isYoung_16 (by decide) ?_
          show ma_wp X d w 8 25 [(4, .inl ((((mI S t 4) + (1 : Int32)) + i) / (mI S 82 5))), (0, .inr (.inr (some 82))), (1, .inr (.inr (some t))), (2, .inl i), (3, .inr (.inr (some c2)))] [.inl (1 : Int32)] S _
          refine zw_if0 hm_8 dX0_noteReference_25 (t := 49) rfl zc0_eq (fun hc => absurd hc (by decide)) (fun _ => ?_)
          refine zw_push hm_8 dX0_noteReference_28 (v := .inl ((((mI S t 4) + (1 : Int32)) + i) / (mI S 82 5))) rfl ?_
          refine zw_if0 hm_8 dX0_noteReference_30 (t := 49) rfl zc0_lt ?_ ?_
          · intro hc
            rw [if_pos hc] at h
            exact zw_vret hm_8 dX0_noteReference_49 h
          · intro hc
            rw [if_neg hc] at h
            refine zw_push hm_8 dX0_noteReference_33 (v := .inl ((((mI S t 4) + (1 : Int32)) + i) / (mI S 82 5))) rfl ?_
            refine zw_push hm_8 dX0_noteReference_35 (v := .inl (375 : Int32)) rfl ?_
            refine zw_if2 hm_8 dX0_noteReference_38 (t := 49) rfl zc2_ge ?_ ?_
            · intro hc
              rw [if_pos hc] at h
              exact zw_vret hm_8 dX0_noteReference_49 h
            · intro hc
              rw [if_neg hc] at h
              refine zw_push hm_8 dX0_noteReference_41 (v := .inr (.inr (some 82))) rfl ?_
              refine zw_gf hm_8 dX0_noteReference_42 (v := .inr (.inr (some 83))) (zT_is hS s_82) (zT_t hS s_82) rfl f_1_9_1 (zT_f hS r_82_9) ?_
              refine zw_push hm_8 dX0_noteReference_45 (v := .inl ((((mI S t 4) + (1 : Int32)) + i) / (mI S 82 5))) rfl ?_
              refine zw_push hm_8 dX0_noteReference_47 (v := .inl (1 : Int32)) rfl ?_
              obtain ⟨hg, h⟩ := h
              refine zw_ias hm_8 dX0_noteReference_48 (zT_is hS s_83) (zT_h hS s_83) rfl hg ?_
              exact zw_vret hm_8 dX0_noteReference_49 h
      · intro hc
        rw [if_neg hc] at h
        refine zw_push hm_7 dX0_isYoung_11 (v := .inl (1 : Int32)) rfl ?_
        refine zw_goto hm_7 dX0_isYoung_12 (t := 16) rfl ?_
        refine zw_bret hm_7 dX0_isYoung_16 (by decide) ?_
        show ma_wp X d w 8 17 [(4, .inl ((((mI S t 4) + (1 : Int32)) + i) / (mI S 82 5))), (0, .inr (.inr (some 82))), (1, .inr (.inr (some t))), (2, .inl i), (3, .inr (.inr (some c2)))] [.inl (1 : Int32)] S _
        refine zw_if0 hm_8 dX0_noteReference_17 (t := 49) rfl zc0_ne (fun _ => ?_) (fun hc => absurd (by decide) hc)
        exact zw_vret hm_8 dX0_noteReference_49 h
theorem sp_8_82_sy {X : Nat × (Nat → Int32)} {d w : Nat} {f : Nat → Nat → Int32} {r : Nat → Nat → Option Nat} {C Z N : Nat} {Q : Option ma_V ⊕ Nat → ma_S → Prop} {ab : Nat→Nat→Int32} {R : zRT} {yt : Int32} {y : Int32} {S : ma_S} (t : Nat) (i : Int32) (x : Option Nat) (hd : 1 ≤ d) (hw : 22 ≤ w) (hI : zJ82 f r C Z N S) (th_t : 126 ≤ t ∧ t < N) (hq_x : ∀ c, x = some c → 126 ≤ c ∧ c < N) (hpre0 : xB S R) (hpre1 : aG S = ab) (hpre2 : zTa R yt = some t) (hpre3 : x = zTa R y) (hpre4 : 0 ≤ i.toInt) (hpre5 : i.toInt ≤ 61) (K : ∀ S₉, zJ82 f r C Z N S₉ → (xB S₉ R) → (aG S₉ = (gNr ab yt.toNatClampNeg i.toInt y)) → Q (.inl none) S₉) : ma_wp X d w 8 0 [(0, .inr (.inr (some 82))), (1, .inr (.inr (some t))), (2, .inl i), (3, .inr (.inr x))] [] S Q := by
  refine g_8_82_sy_0 t i x (by omega) (by omega) (zG_T hI) ?_
  have b1 := i_bd (mI S 82 5)
  have li2 : (0 : Int32).toInt = 0 := rfl
  refine zd (fun h3 => ?_) (fun h3 => ?_)
  · skip
    have g4 := i_le h3
    refine ⟨fun hc => ?_, fun c1 hc => ?_⟩
    · skip
      have rn_c1 : zTa R y = none := hpre3.symm.trans hc
      exact K _ hI (show xB S R from by first | (exact (xC_o (W := 75) hpre0).2)) (show aG S = (gNr ab yt.toNatClampNeg i.toInt y) from by first | (have tt := xB_th (W := 75) hpre0 hpre2; have e9 : (ab 87 9).toInt = (mI S 82 3).toInt := (by rw [← hpre1]; rfl); have e12 : (ab 87 12).toInt = (mI S 82 5).toInt := (by rw [← hpre1]; rfl); have et : (ab 130 yt.toNatClampNeg).toInt = (mI S t 4).toInt := (by rw [← hpre1, aG_o (by decide) (by decide), ← tt.2.2.2.2.2.1]); unfold gNr; rw [if_neg (fun z => ?_)]; (exact hpre1); (exact xB_nt (W := 75) hpre0 rn_c1 ⟨z.1.1, z.1.2.1, by rw [← aG_o (by decide) (by decide), hpre1]; exact z.1.2.2.1⟩)) | (exfalso; omega))
    · skip
      have th_c1 := hq_x c1 hc
      have rg_c1 : zTa R y = some c1 := hpre3.symm.trans hc
      subst hc
      refine ⟨zG_n hI th_t, ?_⟩
      have f5 := zG_th hI th_t
      have x6 : (mI S 82 3).toInt ≤ (mI S 82 7).toInt ∧ (mI S 82 7).toInt ≤ (mI S 82 3).toInt + (mI S 82 2).toInt := zG_x hI
      have f7 := zG_s hI (0) (1500) (c := 82) (k := 3) (by decide)
      refine zd (fun h8 => ?_) (fun h8 => ?_)
      · skip
        have g9 := i_lt h8
        refine ⟨zG_n hI th_c1, ?_⟩
        have f10 := zG_th hI th_c1
        refine zd (fun h11 => ?_) (fun h11 => ?_)
        · skip
          have g12 := i_lt h11
          exact K _ hI (show xB S R from by first | (exact (xC_o (W := 75) hpre0).2)) (show aG S = (gNr ab yt.toNatClampNeg i.toInt y) from by first | (have tt := xB_th (W := 75) hpre0 hpre2; have e9 : (ab 87 9).toInt = (mI S 82 3).toInt := (by rw [← hpre1]; rfl); have e12 : (ab 87 12).toInt = (mI S 82 5).toInt := (by rw [← hpre1]; rfl); have et : (ab 130 yt.toNatClampNeg).toInt = (mI S t 4).toInt := (by rw [← hpre1, aG_o (by decide) (by decide), ← tt.2.2.2.2.2.1]); have tx := xB_th (W := 75) hpre0 rg_c1; have ex : (ab 130 y.toNatClampNeg).toInt = (mI S c1 4).toInt := (by rw [← hpre1, aG_o (by decide) (by decide), ← tx.2.2.2.2.2.1]); have ea : ab 126 y.toNatClampNeg ≠ 0 := (by rw [← hpre1, aG_o (by decide) (by decide), tx.2.2.2.2.2.2.2.2]; decide); unfold gNr; rw [if_neg (fun z => ?_)]; (exact hpre1); omega) | (have tt := xB_th (W := 75) hpre0 hpre2; have e9 : (ab 87 9).toInt = (mI S 82 3).toInt := (by rw [← hpre1]; rfl); have e12 : (ab 87 12).toInt = (mI S 82 5).toInt := (by rw [← hpre1]; rfl); have et : (ab 130 yt.toNatClampNeg).toInt = (mI S t 4).toInt := (by rw [← hpre1, aG_o (by decide) (by decide), ← tt.2.2.2.2.2.1]); have tx := xB_th (W := 75) hpre0 rg_c1; have ex : (ab 130 y.toNatClampNeg).toInt = (mI S c1 4).toInt := (by rw [← hpre1, aG_o (by decide) (by decide), ← tx.2.2.2.2.2.1]); have ea : ab 126 y.toNatClampNeg ≠ 0 := (by rw [← hpre1, aG_o (by decide) (by decide), tx.2.2.2.2.2.2.2.2]; decide); have d := dy_e hpre0 hpre2 (i := i) (by omega) (by omega) (by omega) (by omega); rw [hpre1] at d; unfold gNr; rw [if_neg (fun z => ?_)]; (exact hpre1); omega) | (exfalso; omega))
        · skip
          have g13 := i_nlt h11
          exact K _ hI (show xB S R from by first | (exact (xC_o (W := 75) hpre0).2)) (show aG S = (gNr ab yt.toNatClampNeg i.toInt y) from by first | (have tt := xB_th (W := 75) hpre0 hpre2; have e9 : (ab 87 9).toInt = (mI S 82 3).toInt := (by rw [← hpre1]; rfl); have e12 : (ab 87 12).toInt = (mI S 82 5).toInt := (by rw [← hpre1]; rfl); have et : (ab 130 yt.toNatClampNeg).toInt = (mI S t 4).toInt := (by rw [← hpre1, aG_o (by decide) (by decide), ← tt.2.2.2.2.2.1]); have tx := xB_th (W := 75) hpre0 rg_c1; have ex : (ab 130 y.toNatClampNeg).toInt = (mI S c1 4).toInt := (by rw [← hpre1, aG_o (by decide) (by decide), ← tx.2.2.2.2.2.1]); have ea : ab 126 y.toNatClampNeg ≠ 0 := (by rw [← hpre1, aG_o (by decide) (by decide), tx.2.2.2.2.2.2.2.2]; decide); unfold gNr; rw [if_neg (fun z => ?_)]; (exact hpre1); omega) | (have tt := xB_th (W := 75) hpre0 hpre2; have e9 : (ab 87 9).toInt = (mI S 82 3).toInt := (by rw [← hpre1]; rfl); have e12 : (ab 87 12).toInt = (mI S 82 5).toInt := (by rw [← hpre1]; rfl); have et : (ab 130 yt.toNatClampNeg).toInt = (mI S t 4).toInt := (by rw [← hpre1, aG_o (by decide) (by decide), ← tt.2.2.2.2.2.1]); have tx := xB_th (W := 75) hpre0 rg_c1; have ex : (ab 130 y.toNatClampNeg).toInt = (mI S c1 4).toInt := (by rw [← hpre1, aG_o (by decide) (by decide), ← tx.2.2.2.2.2.1]); have ea : ab 126 y.toNatClampNeg ≠ 0 := (by rw [← hpre1, aG_o (by decide) (by decide), tx.2.2.2.2.2.2.2.2]; decide); have d := dy_e hpre0 hpre2 (i := i) (by omega) (by omega) (by omega) (by omega); rw [hpre1] at d; unfold gNr; rw [if_neg (fun z => ?_)]; (exact hpre1); omega) | (exfalso; omega))
      · skip
        have g14 := i_nlt h8
        exact K _ hI (show xB S R from by first | (exact (xC_o (W := 75) hpre0).2)) (show aG S = (gNr ab yt.toNatClampNeg i.toInt y) from by first | (have tt := xB_th (W := 75) hpre0 hpre2; have e9 : (ab 87 9).toInt = (mI S 82 3).toInt := (by rw [← hpre1]; rfl); have e12 : (ab 87 12).toInt = (mI S 82 5).toInt := (by rw [← hpre1]; rfl); have et : (ab 130 yt.toNatClampNeg).toInt = (mI S t 4).toInt := (by rw [← hpre1, aG_o (by decide) (by decide), ← tt.2.2.2.2.2.1]); have tx := xB_th (W := 75) hpre0 rg_c1; have ex : (ab 130 y.toNatClampNeg).toInt = (mI S c1 4).toInt := (by rw [← hpre1, aG_o (by decide) (by decide), ← tx.2.2.2.2.2.1]); have ea : ab 126 y.toNatClampNeg ≠ 0 := (by rw [← hpre1, aG_o (by decide) (by decide), tx.2.2.2.2.2.2.2.2]; decide); unfold gNr; rw [if_neg (fun z => ?_)]; (exact hpre1); omega) | (have tt := xB_th (W := 75) hpre0 hpre2; have e9 : (ab 87 9).toInt = (mI S 82 3).toInt := (by rw [← hpre1]; rfl); have e12 : (ab 87 12).toInt = (mI S 82 5).toInt := (by rw [← hpre1]; rfl); have et : (ab 130 yt.toNatClampNeg).toInt = (mI S t 4).toInt := (by rw [← hpre1, aG_o (by decide) (by decide), ← tt.2.2.2.2.2.1]); have tx := xB_th (W := 75) hpre0 rg_c1; have ex : (ab 130 y.toNatClampNeg).toInt = (mI S c1 4).toInt := (by rw [← hpre1, aG_o (by decide) (by decide), ← tx.2.2.2.2.2.1]); have ea : ab 126 y.toNatClampNeg ≠ 0 := (by rw [← hpre1, aG_o (by decide) (by decide), tx.2.2.2.2.2.2.2.2]; decide); have d := dy_e hpre0 hpre2 (i := i) (by omega) (by omega) (by omega) (by omega); rw [hpre1] at d; unfold gNr; rw [if_neg (fun z => ?_)]; (exact hpre1); omega) | (exfalso; omega))
  · skip
    have g15 := i_nle h3
    refine ⟨zG_n hI th_t, ?_⟩
    refine ⟨i_nz (by omega), ?_⟩
    refine ⟨fun hc => ?_, fun c2 hc => ?_⟩
    · skip
      have rn_c2 : zTa R y = none := hpre3.symm.trans hc
      exact K _ hI (show xB S R from by first | (exact (xC_o (W := 75) hpre0).2)) (show aG S = (gNr ab yt.toNatClampNeg i.toInt y) from by first | (have tt := xB_th (W := 75) hpre0 hpre2; have e9 : (ab 87 9).toInt = (mI S 82 3).toInt := (by rw [← hpre1]; rfl); have e12 : (ab 87 12).toInt = (mI S 82 5).toInt := (by rw [← hpre1]; rfl); have et : (ab 130 yt.toNatClampNeg).toInt = (mI S t 4).toInt := (by rw [← hpre1, aG_o (by decide) (by decide), ← tt.2.2.2.2.2.1]); unfold gNr; rw [if_neg (fun z => ?_)]; (exact hpre1); (exact xB_nt (W := 75) hpre0 rn_c2 ⟨z.1.1, z.1.2.1, by rw [← aG_o (by decide) (by decide), hpre1]; exact z.1.2.2.1⟩)) | (exfalso; omega))
    · skip
      have th_c2 := hq_x c2 hc
      have rg_c2 : zTa R y = some c2 := hpre3.symm.trans hc
      subst hc
      refine ⟨zG_n hI th_t, ?_⟩
      have f16 := zG_th hI th_t
      have x17 : (mI S 82 3).toInt ≤ (mI S 82 7).toInt ∧ (mI S 82 7).toInt ≤ (mI S 82 3).toInt + (mI S 82 2).toInt := zG_x hI
      have f18 := zG_s hI (0) (1500) (c := 82) (k := 3) (by decide)
      refine zd (fun h19 => ?_) (fun h19 => ?_)
      · skip
        have g20 := i_lt h19
        refine ⟨zG_n hI th_c2, ?_⟩
        have f21 := zG_th hI th_c2
        refine zd (fun h22 => ?_) (fun h22 => ?_)
        · skip
          have g23 := i_lt h22
          exact K _ hI (show xB S R from by first | (exact (xC_o (W := 75) hpre0).2)) (show aG S = (gNr ab yt.toNatClampNeg i.toInt y) from by first | (have tt := xB_th (W := 75) hpre0 hpre2; have e9 : (ab 87 9).toInt = (mI S 82 3).toInt := (by rw [← hpre1]; rfl); have e12 : (ab 87 12).toInt = (mI S 82 5).toInt := (by rw [← hpre1]; rfl); have et : (ab 130 yt.toNatClampNeg).toInt = (mI S t 4).toInt := (by rw [← hpre1, aG_o (by decide) (by decide), ← tt.2.2.2.2.2.1]); have tx := xB_th (W := 75) hpre0 rg_c2; have ex : (ab 130 y.toNatClampNeg).toInt = (mI S c2 4).toInt := (by rw [← hpre1, aG_o (by decide) (by decide), ← tx.2.2.2.2.2.1]); have ea : ab 126 y.toNatClampNeg ≠ 0 := (by rw [← hpre1, aG_o (by decide) (by decide), tx.2.2.2.2.2.2.2.2]; decide); unfold gNr; rw [if_neg (fun z => ?_)]; (exact hpre1); omega) | (have tt := xB_th (W := 75) hpre0 hpre2; have e9 : (ab 87 9).toInt = (mI S 82 3).toInt := (by rw [← hpre1]; rfl); have e12 : (ab 87 12).toInt = (mI S 82 5).toInt := (by rw [← hpre1]; rfl); have et : (ab 130 yt.toNatClampNeg).toInt = (mI S t 4).toInt := (by rw [← hpre1, aG_o (by decide) (by decide), ← tt.2.2.2.2.2.1]); have tx := xB_th (W := 75) hpre0 rg_c2; have ex : (ab 130 y.toNatClampNeg).toInt = (mI S c2 4).toInt := (by rw [← hpre1, aG_o (by decide) (by decide), ← tx.2.2.2.2.2.1]); have ea : ab 126 y.toNatClampNeg ≠ 0 := (by rw [← hpre1, aG_o (by decide) (by decide), tx.2.2.2.2.2.2.2.2]; decide); have d := dy_e hpre0 hpre2 (i := i) (by omega) (by omega) (by omega) (by omega); rw [hpre1] at d; unfold gNr; rw [if_neg (fun z => ?_)]; (exact hpre1); omega) | (exfalso; omega))
        · skip
          have g24 := i_nlt h22
          first | have e25 : ((mI S t 4) + (1 : Int32)).toInt = (mI S t 4).toInt + (1) := i_addk rfl (by omega) (by omega) | have b26 := i_bd ((mI S t 4) + (1 : Int32))
          have b27 := i_bd i
          first | have e28 : (((mI S t 4) + (1 : Int32)) + i).toInt = ((mI S t 4) + (1 : Int32)).toInt + i.toInt := i_add (by omega) (by omega) | have b29 := i_bd (((mI S t 4) + (1 : Int32)) + i)
          first | have f30 := i_div (x := (((mI S t 4) + (1 : Int32)) + i)) (y := (mI S 82 5)) (by omega) (by omega) | have b31 := i_bd ((((mI S t 4) + (1 : Int32)) + i) / (mI S 82 5))
          refine zd (fun h32 => ?_) (fun h32 => ?_)
          · skip
            have g33 := i_lt h32
            exact K _ hI (show xB S R from by first | (exact (xC_o (W := 75) hpre0).2)) (show aG S = (gNr ab yt.toNatClampNeg i.toInt y) from by first | (have tt := xB_th (W := 75) hpre0 hpre2; have e9 : (ab 87 9).toInt = (mI S 82 3).toInt := (by rw [← hpre1]; rfl); have e12 : (ab 87 12).toInt = (mI S 82 5).toInt := (by rw [← hpre1]; rfl); have et : (ab 130 yt.toNatClampNeg).toInt = (mI S t 4).toInt := (by rw [← hpre1, aG_o (by decide) (by decide), ← tt.2.2.2.2.2.1]); have tx := xB_th (W := 75) hpre0 rg_c2; have ex : (ab 130 y.toNatClampNeg).toInt = (mI S c2 4).toInt := (by rw [← hpre1, aG_o (by decide) (by decide), ← tx.2.2.2.2.2.1]); have ea : ab 126 y.toNatClampNeg ≠ 0 := (by rw [← hpre1, aG_o (by decide) (by decide), tx.2.2.2.2.2.2.2.2]; decide); unfold gNr; rw [if_neg (fun z => ?_)]; (exact hpre1); omega) | (have tt := xB_th (W := 75) hpre0 hpre2; have e9 : (ab 87 9).toInt = (mI S 82 3).toInt := (by rw [← hpre1]; rfl); have e12 : (ab 87 12).toInt = (mI S 82 5).toInt := (by rw [← hpre1]; rfl); have et : (ab 130 yt.toNatClampNeg).toInt = (mI S t 4).toInt := (by rw [← hpre1, aG_o (by decide) (by decide), ← tt.2.2.2.2.2.1]); have tx := xB_th (W := 75) hpre0 rg_c2; have ex : (ab 130 y.toNatClampNeg).toInt = (mI S c2 4).toInt := (by rw [← hpre1, aG_o (by decide) (by decide), ← tx.2.2.2.2.2.1]); have ea : ab 126 y.toNatClampNeg ≠ 0 := (by rw [← hpre1, aG_o (by decide) (by decide), tx.2.2.2.2.2.2.2.2]; decide); have d := dy_e hpre0 hpre2 (i := i) (by omega) (by omega) (by omega) (by omega); rw [hpre1] at d; unfold gNr; rw [if_neg (fun z => ?_)]; (exact hpre1); omega) | (exfalso; omega))
          · skip
            have g34 := i_nlt h32
            have li35 : (375 : Int32).toInt = 375 := rfl
            refine zd (fun h36 => ?_) (fun h36 => ?_)
            · skip
              have g37 := i_le h36
              exact K _ hI (show xB S R from by first | (exact (xC_o (W := 75) hpre0).2)) (show aG S = (gNr ab yt.toNatClampNeg i.toInt y) from by first | (have tt := xB_th (W := 75) hpre0 hpre2; have e9 : (ab 87 9).toInt = (mI S 82 3).toInt := (by rw [← hpre1]; rfl); have e12 : (ab 87 12).toInt = (mI S 82 5).toInt := (by rw [← hpre1]; rfl); have et : (ab 130 yt.toNatClampNeg).toInt = (mI S t 4).toInt := (by rw [← hpre1, aG_o (by decide) (by decide), ← tt.2.2.2.2.2.1]); have tx := xB_th (W := 75) hpre0 rg_c2; have ex : (ab 130 y.toNatClampNeg).toInt = (mI S c2 4).toInt := (by rw [← hpre1, aG_o (by decide) (by decide), ← tx.2.2.2.2.2.1]); have ea : ab 126 y.toNatClampNeg ≠ 0 := (by rw [← hpre1, aG_o (by decide) (by decide), tx.2.2.2.2.2.2.2.2]; decide); unfold gNr; rw [if_neg (fun z => ?_)]; (exact hpre1); omega) | (have tt := xB_th (W := 75) hpre0 hpre2; have e9 : (ab 87 9).toInt = (mI S 82 3).toInt := (by rw [← hpre1]; rfl); have e12 : (ab 87 12).toInt = (mI S 82 5).toInt := (by rw [← hpre1]; rfl); have et : (ab 130 yt.toNatClampNeg).toInt = (mI S t 4).toInt := (by rw [← hpre1, aG_o (by decide) (by decide), ← tt.2.2.2.2.2.1]); have tx := xB_th (W := 75) hpre0 rg_c2; have ex : (ab 130 y.toNatClampNeg).toInt = (mI S c2 4).toInt := (by rw [← hpre1, aG_o (by decide) (by decide), ← tx.2.2.2.2.2.1]); have ea : ab 126 y.toNatClampNeg ≠ 0 := (by rw [← hpre1, aG_o (by decide) (by decide), tx.2.2.2.2.2.2.2.2]; decide); have d := dy_e hpre0 hpre2 (i := i) (by omega) (by omega) (by omega) (by omega); rw [hpre1] at d; unfold gNr; rw [if_neg (fun z => ?_)]; (exact hpre1); omega) | (exfalso; omega))
            · skip
              have g38 := i_nle h36
              refine ⟨i_ix (by omega) (by omega), ?_⟩
              have hI39 : zJ82 f r C Z N (ma_put S 83 ((((mI S t 4) + (1 : Int32)) + i) / (mI S 82 5)).toNatClampNeg (.inl (1 : Int32))) := zG_fa hI rfl (by decide) (by decide) (by decide) (show zJ82_x (mI S) from zG_x hI)
              exact K _ hI39 (show xB (ma_put S 83 ((((mI S t 4) + (1 : Int32)) + i) / (mI S 82 5)).toNatClampNeg (.inl (1 : Int32))) R from by first | (exact (xC_n (c := 83) (k := ((((mI S t 4) + (1 : Int32)) + i) / (mI S 82 5)).toNatClampNeg) (x := (1 : Int32)) (xC_o (W := 75) hpre0) ⟨by decide, Or.inl ⟨rfl, rfl⟩⟩).2)) (show aG (ma_put S 83 ((((mI S t 4) + (1 : Int32)) + i) / (mI S 82 5)).toNatClampNeg (.inl (1 : Int32))) = (gNr ab yt.toNatClampNeg i.toInt y) from by first | (have tt := xB_th (W := 75) hpre0 hpre2; have e9 : (ab 87 9).toInt = (mI S 82 3).toInt := (by rw [← hpre1]; rfl); have e12 : (ab 87 12).toInt = (mI S 82 5).toInt := (by rw [← hpre1]; rfl); have et : (ab 130 yt.toNatClampNeg).toInt = (mI S t 4).toInt := (by rw [← hpre1, aG_o (by decide) (by decide), ← tt.2.2.2.2.2.1]); have tx := xB_th (W := 75) hpre0 rg_c2; have ex : (ab 130 y.toNatClampNeg).toInt = (mI S c2 4).toInt := (by rw [← hpre1, aG_o (by decide) (by decide), ← tx.2.2.2.2.2.1]); have ea : ab 126 y.toNatClampNeg ≠ 0 := (by rw [← hpre1, aG_o (by decide) (by decide), tx.2.2.2.2.2.2.2.2]; decide); have d := dy_e hpre0 hpre2 (i := i) (by omega) (by omega) (by omega) (by omega); rw [hpre1] at d; have tc := tn_cast (x := (mI S t 4 + (1 : Int32) + i) / mI S 82 5) (by omega); unfold gNr; rw [if_pos ⟨⟨tx.1, tx.2.1, ea, by omega⟩, by omega, by omega, by omega⟩, ((G_p8 (n := ((((mI S t 4) + (1 : Int32)) + i) / (mI S 82 5)).toNatClampNeg) (x := (1 : Int32)) (xC_o (W := 75) hpre0).2).trans (congrArg (fun q => ma_u q 83 ((((mI S t 4) + (1 : Int32)) + i) / (mI S 82 5)).toNatClampNeg (1 : Int32)) (show aG S = aG S from rfl))), hpre1, show (gCx ab yt.toNatClampNeg i.toInt).toNat = ((mI S t 4 + (1 : Int32) + i) / mI S 82 5).toNatClampNeg from by omega]) | (exfalso; omega))
      · skip
        have g40 := i_nlt h19
        exact K _ hI (show xB S R from by first | (exact (xC_o (W := 75) hpre0).2)) (show aG S = (gNr ab yt.toNatClampNeg i.toInt y) from by first | (have tt := xB_th (W := 75) hpre0 hpre2; have e9 : (ab 87 9).toInt = (mI S 82 3).toInt := (by rw [← hpre1]; rfl); have e12 : (ab 87 12).toInt = (mI S 82 5).toInt := (by rw [← hpre1]; rfl); have et : (ab 130 yt.toNatClampNeg).toInt = (mI S t 4).toInt := (by rw [← hpre1, aG_o (by decide) (by decide), ← tt.2.2.2.2.2.1]); have tx := xB_th (W := 75) hpre0 rg_c2; have ex : (ab 130 y.toNatClampNeg).toInt = (mI S c2 4).toInt := (by rw [← hpre1, aG_o (by decide) (by decide), ← tx.2.2.2.2.2.1]); have ea : ab 126 y.toNatClampNeg ≠ 0 := (by rw [← hpre1, aG_o (by decide) (by decide), tx.2.2.2.2.2.2.2.2]; decide); unfold gNr; rw [if_neg (fun z => ?_)]; (exact hpre1); omega) | (have tt := xB_th (W := 75) hpre0 hpre2; have e9 : (ab 87 9).toInt = (mI S 82 3).toInt := (by rw [← hpre1]; rfl); have e12 : (ab 87 12).toInt = (mI S 82 5).toInt := (by rw [← hpre1]; rfl); have et : (ab 130 yt.toNatClampNeg).toInt = (mI S t 4).toInt := (by rw [← hpre1, aG_o (by decide) (by decide), ← tt.2.2.2.2.2.1]); have tx := xB_th (W := 75) hpre0 rg_c2; have ex : (ab 130 y.toNatClampNeg).toInt = (mI S c2 4).toInt := (by rw [← hpre1, aG_o (by decide) (by decide), ← tx.2.2.2.2.2.1]); have ea : ab 126 y.toNatClampNeg ≠ 0 := (by rw [← hpre1, aG_o (by decide) (by decide), tx.2.2.2.2.2.2.2.2]; decide); have d := dy_e hpre0 hpre2 (i := i) (by omega) (by omega) (by omega) (by omega); rw [hpre1] at d; unfold gNr; rw [if_neg (fun z => ?_)]; (exact hpre1); omega) | (exfalso; omega))

