/-! collectors, by what they keep (written by wip/tools/gen93b.py) -/
theorem zp_th {S : ma_S} {c' k' c k : Nat} {x : Int32} (hc : 126 ≤ c') (h : c < 126) : (mI (ma_put S c' k' (.inl x)) c k).toInt = (mI S c k).toInt := by
  have : mI (ma_put S c' k' (.inl x)) c k = mI S c k := if_neg (fun z => by omega)
  rw [this]
theorem g_12_82_0 {X : Nat × (Nat → Int32)} {d w : Nat} {S : ma_S} {Q : Option ma_V ⊕ Nat → ma_S → Prop}  (hd : 1 ≤ d) (hw : 21 ≤ w) (hS : zT S) (h : ma_wp X d w 12 4 [(0, .inr (.inr (some 82))), (1, .inl (0 : Int32)), (2, .inl (0 : Int32))] [] S Q) : ma_wp X d w 12 0 [(0, .inr (.inr (some 82)))] [] S Q := by
  refine zw_push hm_12 dX0_wordsGrowingOld_0 (v := .inl (0 : Int32)) rfl ?_
  refine zw_sto hm_12 dX0_wordsGrowingOld_1 [(1, .inl (0 : Int32)), (0, .inr (.inr (some 82)))] rfl rfl rfl ?_
  refine zw_push hm_12 dX0_wordsGrowingOld_2 (v := .inl (0 : Int32)) rfl ?_
  refine zw_sto hm_12 dX0_wordsGrowingOld_3 [(2, .inl (0 : Int32)), (1, .inl (0 : Int32)), (0, .inr (.inr (some 82)))] rfl rfl rfl ?_
  exact zw_sub (ma_nd_of (ks := [0, 1, 2]) rfl (by decide)) (ma_nd_of (ks := [2, 1, 0]) rfl (by decide)) (ma_le_cons rfl (ma_le_cons rfl (ma_le_cons rfl (ma_le_nil _)))) h
theorem g_12_82_4 {X : Nat × (Nat → Int32)} {d w : Nat} {S : ma_S} {Q : Option ma_V ⊕ Nat → ma_S → Prop} (l1 : Int32) (l2 : Int32) (hd : 1 ≤ d) (hw : 21 ≤ w) (hS : zT S) (h : if (mI S 69 6) ≤ l2 then (Q (.inl (some (.inl l1))) S) else (if l2 < 0 then (ma_wp X d w 12 4 [(0, .inr (.inr (some 82))), (1, .inl l1), (2, .inl (l2 + (1 : Int32)))] [] S Q) else (if (512 : Int32) ≤ l2 then (ma_wp X d w 12 4 [(0, .inr (.inr (some 82))), (1, .inl l1), (2, .inl (l2 + (1 : Int32)))] [] S Q) else ((0 ≤ l2 ∧ l2.toNatClampNeg < 512) ∧ (((mR S 70 l2.toNatClampNeg) = none → ma_wp X d w 12 4 [(0, .inr (.inr (some 82))), (1, .inl l1), (2, .inl (l2 + (1 : Int32)))] [] S Q) ∧ (∀ c1, (mR S 70 l2.toNatClampNeg) = some c1 → (126 ≤ c1 ∧ c1 < mN S) ∧ (if (mI S c1 4) < (mI S 82 3) then (ma_wp X d w 12 4 [(0, .inr (.inr (some 82))), (1, .inl l1), (2, .inl (l2 + (1 : Int32)))] [] S Q) else ((126 ≤ c1 ∧ c1 < mN S) ∧ (if ((mI S c1 5) + (1 : Int32)) < (mI S 82 4) then (ma_wp X d w 12 4 [(0, .inr (.inr (some 82))), (1, .inl l1), (2, .inl (l2 + (1 : Int32)))] [] S Q) else ((126 ≤ c1 ∧ c1 < mN S) ∧ (ma_wp X d w 12 4 [(0, .inr (.inr (some 82))), (1, .inl (l1 + (mI S c1 2))), (2, .inl (l2 + (1 : Int32)))] [] S Q))))))))))) : ma_wp X d w 12 4 [(0, .inr (.inr (some 82))), (1, .inl l1), (2, .inl l2)] [] S Q := by
  refine zw_push hm_12 dX0_wordsGrowingOld_4 (v := .inl l2) rfl ?_
  refine zw_push hm_12 dX0_wordsGrowingOld_5 (v := .inr (.inr (some 82))) rfl ?_
  refine zw_gf hm_12 dX0_wordsGrowingOld_6 (v := .inr (.inr (some 69))) (zT_is hS s_82) (zT_t hS s_82) rfl f_1_80_1 (zT_f hS r_82_0) ?_
  refine zw_gf hm_12 dX0_wordsGrowingOld_9 (v := .inl (mI S 69 6)) (zT_is hS s_69) (zT_t hS s_69) rfl f_1_119_7 rfl ?_
  refine zw_if2 hm_12 dX0_wordsGrowingOld_12 (t := 62) rfl zc2_ge ?_ ?_
  · intro hc
    rw [if_pos hc] at h
    refine zw_push hm_12 dX0_wordsGrowingOld_62 (v := .inl l1) rfl ?_
    exact zw_iret hm_12 dX0_wordsGrowingOld_63 h
  · intro hc
    rw [if_neg hc] at h
    refine zw_push hm_12 dX0_wordsGrowingOld_15 (v := .inr (.inr (some 82))) rfl ?_
    refine zw_gf hm_12 dX0_wordsGrowingOld_16 (v := .inr (.inr (some 69))) (zT_is hS s_82) (zT_t hS s_82) rfl f_1_80_1 (zT_f hS r_82_0) ?_
    refine zw_push hm_12 dX0_wordsGrowingOld_19 (v := .inl l2) rfl ?_
    refine zw_cv hm_12 dX0_wordsGrowingOld_20 v_1_122_7 hm_81 [.inl l2] [] rfl (zT_rt hS s_69 rfl) ⟨by omega, by omega⟩ rfl ?_
    show ma_wp X (d - 1) (w - 21) 81 0 [(0, .inr (.inr (some 69))), (1, .inl l2)] [] S _
    refine zw_push hm_81 dX7_thingAt_0 (v := .inl l2) rfl ?_
    refine zw_if0 hm_81 dX7_thingAt_1 (t := 20) rfl zc0_lt ?_ ?_
    · intro hc
      rw [if_pos hc] at h
      refine zw_push hm_81 dX7_thingAt_20 (v := .inr (.inr none)) rfl ?_
      refine zw_aret hm_81 dX7_thingAt_21 ?_
      show ma_wp X d w 12 23 [(0, .inr (.inr (some 82))), (1, .inl l1), (2, .inl l2)] [.inr (.inr none)] S _
      refine zw_sto hm_12 dX0_wordsGrowingOld_23 [(3, .inr (.inr none)), (0, .inr (.inr (some 82))), (1, .inl l1), (2, .inl l2)] rfl rfl rfl ?_
      refine zw_push hm_12 dX0_wordsGrowingOld_24 (v := .inr (.inr none)) rfl ?_
      refine zw_ifnull hm_12 dX0_wordsGrowingOld_25 (t := 56) rfl (fun _ => ?_) (fun _ z => by cases z)
      refine zw_sto hm_12 dX0_wordsGrowingOld_56 [(2, .inl (l2 + (1 : Int32))), (3, .inr (.inr none)), (0, .inr (.inr (some 82))), (1, .inl l1)] rfl rfl rfl ?_
      refine zw_goto hm_12 dX0_wordsGrowingOld_59 (t := 4) rfl ?_
      exact zw_sub (ma_nd_of (ks := [0, 1, 2]) rfl (by decide)) (ma_nd_of (ks := [2, 3, 0, 1]) rfl (by decide)) (ma_le_cons rfl (ma_le_cons rfl (ma_le_cons rfl (ma_le_nil _)))) h
    · intro hc
      rw [if_neg hc] at h
      refine zw_push hm_81 dX7_thingAt_4 (v := .inl l2) rfl ?_
      refine zw_push hm_81 dX7_thingAt_5 (v := .inl (512 : Int32)) rfl ?_
      refine zw_if2 hm_81 dX7_thingAt_8 (t := 20) rfl zc2_ge ?_ ?_
      · intro hc
        rw [if_pos hc] at h
        refine zw_push hm_81 dX7_thingAt_20 (v := .inr (.inr none)) rfl ?_
        refine zw_aret hm_81 dX7_thingAt_21 ?_
        show ma_wp X d w 12 23 [(0, .inr (.inr (some 82))), (1, .inl l1), (2, .inl l2)] [.inr (.inr none)] S _
        refine zw_sto hm_12 dX0_wordsGrowingOld_23 [(3, .inr (.inr none)), (0, .inr (.inr (some 82))), (1, .inl l1), (2, .inl l2)] rfl rfl rfl ?_
        refine zw_push hm_12 dX0_wordsGrowingOld_24 (v := .inr (.inr none)) rfl ?_
        refine zw_ifnull hm_12 dX0_wordsGrowingOld_25 (t := 56) rfl (fun _ => ?_) (fun _ z => by cases z)
        refine zw_sto hm_12 dX0_wordsGrowingOld_56 [(2, .inl (l2 + (1 : Int32))), (3, .inr (.inr none)), (0, .inr (.inr (some 82))), (1, .inl l1)] rfl rfl rfl ?_
        refine zw_goto hm_12 dX0_wordsGrowingOld_59 (t := 4) rfl ?_
        exact zw_sub (ma_nd_of (ks := [0, 1, 2]) rfl (by decide)) (ma_nd_of (ks := [2, 3, 0, 1]) rfl (by decide)) (ma_le_cons rfl (ma_le_cons rfl (ma_le_cons rfl (ma_le_nil _)))) h
      · intro hc
        rw [if_neg hc] at h
        refine zw_push hm_81 dX7_thingAt_11 (v := .inr (.inr (some 69))) rfl ?_
        refine zw_gf hm_81 dX7_thingAt_12 (v := .inr (.inr (some 70))) (zT_is hS s_69) (zT_t hS s_69) rfl f_7_11_7 (zT_f hS r_69_0) ?_
        refine zw_push hm_81 dX7_thingAt_15 (v := .inl l2) rfl ?_
        obtain ⟨hg, h⟩ := h
        refine zw_aa hm_81 dX7_thingAt_16 (zT_is hS s_70) (zT_h hS s_70) rfl rfl hg rfl ?_
        show ma_wp X (d - 1) (w - 21) 81 17 [(0, .inr (.inr (some 69))), (1, .inl l2)] [.inr (.inr (mR S 70 l2.toNatClampNeg))] S _
        refine zw_goto hm_81 dX7_thingAt_17 (t := 21) rfl ?_
        refine zw_aret hm_81 dX7_thingAt_21 ?_
        show ma_wp X d w 12 23 [(0, .inr (.inr (some 82))), (1, .inl l1), (2, .inl l2)] [.inr (.inr (mR S 70 l2.toNatClampNeg))] S _
        refine zw_sto hm_12 dX0_wordsGrowingOld_23 [(3, .inr (.inr (mR S 70 l2.toNatClampNeg))), (0, .inr (.inr (some 82))), (1, .inl l1), (2, .inl l2)] rfl rfl rfl ?_
        refine zw_push hm_12 dX0_wordsGrowingOld_24 (v := .inr (.inr (mR S 70 l2.toNatClampNeg))) rfl ?_
        refine zw_ifnull hm_12 dX0_wordsGrowingOld_25 (t := 56) rfl ?_ ?_
        · intro hc
          have h := h.1 hc
          (try rw [hc])
          show ma_wp X d w 12 56 [(3, .inr (.inr none)), (0, .inr (.inr (some 82))), (1, .inl l1), (2, .inl l2)] [] S _
          refine zw_sto hm_12 dX0_wordsGrowingOld_56 [(2, .inl (l2 + (1 : Int32))), (3, .inr (.inr none)), (0, .inr (.inr (some 82))), (1, .inl l1)] rfl rfl rfl ?_
          refine zw_goto hm_12 dX0_wordsGrowingOld_59 (t := 4) rfl ?_
          exact zw_sub (ma_nd_of (ks := [0, 1, 2]) rfl (by decide)) (ma_nd_of (ks := [2, 3, 0, 1]) rfl (by decide)) (ma_le_cons rfl (ma_le_cons rfl (ma_le_cons rfl (ma_le_nil _)))) h
        · intro c1 hc
          have h := h.2 c1 hc
          (try rw [hc])
          show ma_wp X d w 12 28 [(3, .inr (.inr (some c1))), (0, .inr (.inr (some 82))), (1, .inl l1), (2, .inl l2)] [] S _
          refine zw_push hm_12 dX0_wordsGrowingOld_28 (v := .inr (.inr (some 82))) rfl ?_
          refine zw_push hm_12 dX0_wordsGrowingOld_29 (v := .inr (.inr (some c1))) rfl ?_
          refine zw_cv hm_12 dX0_wordsGrowingOld_30 v_1_58_1 hm_7 [.inr (.inr (some c1))] [] rfl (zT_rt hS s_82 rfl) ⟨by omega, by omega⟩ rfl ?_
          show ma_wp X (d - 1) (w - 21) 7 0 [(0, .inr (.inr (some 82))), (1, .inr (.inr (some c1)))] [] S _
          refine zw_push hm_7 dX0_isYoung_0 (v := .inr (.inr (some c1))) rfl ?_
          obtain ⟨hg, h⟩ := h
          refine zw_gf hm_7 dX0_isYoung_1 (v := .inl (mI S c1 4)) (zT_tis hS hg) (zT_tt hS hg) rfl f_1_62_9 rfl ?_
          refine zw_push hm_7 dX0_isYoung_4 (v := .inr (.inr (some 82))) rfl ?_
          refine zw_gf hm_7 dX0_isYoung_5 (v := .inl (mI S 82 3)) (zT_is hS s_82) (zT_t hS s_82) rfl f_1_19_1 rfl ?_
          refine zw_if2 hm_7 dX0_isYoung_8 (t := 15) rfl zc2_lt ?_ ?_
          · intro hc
            rw [if_pos hc] at h
            refine zw_push hm_7 dX0_isYoung_15 (v := .inl (0 : Int32)) rfl ?_
            refine zw_bret hm_7 dX0_isYoung_16 (by decide) ?_
            show ma_wp X d w 12 33 [(3, .inr (.inr (some c1))), (0, .inr (.inr (some 82))), (1, .inl l1), (2, .inl l2)] [.inl (0 : Int32)] S _
            refine zw_if0 hm_12 dX0_wordsGrowingOld_33 (t := 56) rfl zc0_eq (fun _ => ?_) (fun hc => absurd (by decide) hc)
            refine zw_sto hm_12 dX0_wordsGrowingOld_56 [(2, .inl (l2 + (1 : Int32))), (3, .inr (.inr (some c1))), (0, .inr (.inr (some 82))), (1, .inl l1)] rfl rfl rfl ?_
            refine zw_goto hm_12 dX0_wordsGrowingOld_59 (t := 4) rfl ?_
            exact zw_sub (ma_nd_of (ks := [0, 1, 2]) rfl (by decide)) (ma_nd_of (ks := [2, 3, 0, 1]) rfl (by decide)) (ma_le_cons rfl (ma_le_cons rfl (ma_le_cons rfl (ma_le_nil _)))) h
          · intro hc
            rw [if_neg hc] at h
            refine zw_push hm_7 dX0_isYoung_11 (v := .inl (1 : Int32)) rfl ?_
            refine zw_goto hm_7 dX0_isYoung_12 (t := 16) rfl ?_
            refine zw_bret hm_7 dX0_isYoung_16 (by decide) ?_
            show ma_wp X d w 12 33 [(3, .inr (.inr (some c1))), (0, .inr (.inr (some 82))), (1, .inl l1), (2, .inl l2)] [.inl (1 : Int32)] S _
            refine zw_if0 hm_12 dX0_wordsGrowingOld_33 (t := 56) rfl zc0_eq (fun hc => absurd hc (by decide)) (fun _ => ?_)
            refine zw_push hm_12 dX0_wordsGrowingOld_36 (v := .inr (.inr (some c1))) rfl ?_
            obtain ⟨hg, h⟩ := h
            refine zw_gf hm_12 dX0_wordsGrowingOld_37 (v := .inl (mI S c1 5)) (zT_tis hS hg) (zT_tt hS hg) rfl f_1_126_9 rfl ?_
            refine zw_push hm_12 dX0_wordsGrowingOld_40 (v := .inl (1 : Int32)) rfl ?_
            refine zw_stk hm_12 dX0_wordsGrowingOld_41 (st' := [.inl ((mI S c1 5) + (1 : Int32))]) rfl rfl ?_
            refine zw_push hm_12 dX0_wordsGrowingOld_42 (v := .inr (.inr (some 82))) rfl ?_
            refine zw_gf hm_12 dX0_wordsGrowingOld_43 (v := .inl (mI S 82 4)) (zT_is hS s_82) (zT_t hS s_82) rfl f_1_22_1 rfl ?_
            refine zw_if2 hm_12 dX0_wordsGrowingOld_46 (t := 56) rfl zc2_lt ?_ ?_
            · intro hc
              rw [if_pos hc] at h
              refine zw_sto hm_12 dX0_wordsGrowingOld_56 [(2, .inl (l2 + (1 : Int32))), (3, .inr (.inr (some c1))), (0, .inr (.inr (some 82))), (1, .inl l1)] rfl rfl rfl ?_
              refine zw_goto hm_12 dX0_wordsGrowingOld_59 (t := 4) rfl ?_
              exact zw_sub (ma_nd_of (ks := [0, 1, 2]) rfl (by decide)) (ma_nd_of (ks := [2, 3, 0, 1]) rfl (by decide)) (ma_le_cons rfl (ma_le_cons rfl (ma_le_cons rfl (ma_le_nil _)))) h
            · intro hc
              rw [if_neg hc] at h
              refine zw_push hm_12 dX0_wordsGrowingOld_49 (v := .inl l1) rfl ?_
              refine zw_push hm_12 dX0_wordsGrowingOld_50 (v := .inr (.inr (some c1))) rfl ?_
              obtain ⟨hg, h⟩ := h
              refine zw_gf hm_12 dX0_wordsGrowingOld_51 (v := .inl (mI S c1 2)) (zT_tis hS hg) (zT_tt hS hg) rfl f_1_67_9 rfl ?_
              refine zw_stk hm_12 dX0_wordsGrowingOld_54 (st' := [.inl (l1 + (mI S c1 2))]) rfl rfl ?_
              refine zw_sto hm_12 dX0_wordsGrowingOld_55 [(1, .inl (l1 + (mI S c1 2))), (3, .inr (.inr (some c1))), (0, .inr (.inr (some 82))), (2, .inl l2)] rfl rfl rfl ?_
              refine zw_sto hm_12 dX0_wordsGrowingOld_56 [(2, .inl (l2 + (1 : Int32))), (1, .inl (l1 + (mI S c1 2))), (3, .inr (.inr (some c1))), (0, .inr (.inr (some 82)))] rfl rfl rfl ?_
              refine zw_goto hm_12 dX0_wordsGrowingOld_59 (t := 4) rfl ?_
              exact zw_sub (ma_nd_of (ks := [0, 1, 2]) rfl (by decide)) (ma_nd_of (ks := [2, 1, 3, 0]) rfl (by decide)) (ma_le_cons rfl (ma_le_cons rfl (ma_le_cons rfl (ma_le_nil _)))) h
theorem lp_12_82_4 {X : Nat × (Nat → Int32)} {d w : Nat} {f : Nat → Nat → Int32} {r : Nat → Nat → Option Nat} {C Z N : Nat} {Q : Option ma_V ⊕ Nat → ma_S → Prop} (hd : 1 ≤ d) (hw : 21 ≤ w) (K : ∀ v S', zI f r C Z N S' → (0 ≤ v.toInt ∧ v.toInt ≤ 40000) → Q (.inl (some (.inl v))) S') : ∀ (n : Nat) (S : ma_S) (l1 : Int32) (l2 : Int32), (512 - l2.toInt).toNat = n → zI f r C Z N S → (0 ≤ l2.toInt) → (l2.toInt ≤ 512) → (0 ≤ l1.toInt) → (l1.toInt ≤ 61 * l2.toInt) → ma_wp X d w 12 4 [(0, .inr (.inr (some 82))), (1, .inl l1), (2, .inl l2)] [] S Q := by
  intro n
  induction n using Nat.strongRecOn with
  | _ n IH =>
    intro S l1 l2 hmu hI  hi0 hi1 hi2 hi3
    refine g_12_82_4 l1 l2 (by omega) (by omega) (zG_T hI) ?_
    have f1 := zG_s hI (0) (512) (c := 69) (k := 6) (by decide)
    have b2 := i_bd l2
    refine zd (fun h3 => ?_) (fun h3 => ?_)
    · skip
      have g4 := i_le h3
      have b5 := i_bd l1
      exact K (l1) _ hI (by omega)
    · skip
      have g6 := i_nle h3
      have li7 : (0 : Int32).toInt = 0 := rfl
      refine zd (fun h8 => ?_) (fun h8 => ?_)
      · skip
        have g9 := i_lt h8
        have b10 := i_bd l1
        first | have e11 : (l2 + (1 : Int32)).toInt = l2.toInt + (1) := i_addk rfl (by omega) (by omega) | have b12 := i_bd (l2 + (1 : Int32))
        exact IH _ (by omega) _ (l1) ((l2 + (1 : Int32))) rfl hI (by omega) (by omega) (by omega) (by omega)
      · skip
        have g13 := i_nlt h8
        have li14 : (512 : Int32).toInt = 512 := rfl
        refine zd (fun h15 => ?_) (fun h15 => ?_)
        · skip
          have g16 := i_le h15
          have b17 := i_bd l1
          first | have e18 : (l2 + (1 : Int32)).toInt = l2.toInt + (1) := i_addk rfl (by omega) (by omega) | have b19 := i_bd (l2 + (1 : Int32))
          exact IH _ (by omega) _ (l1) ((l2 + (1 : Int32))) rfl hI (by omega) (by omega) (by omega) (by omega)
        · skip
          have g20 := i_nle h15
          refine ⟨i_ix (by omega) (by omega), ?_⟩
          refine ⟨fun _ => ?_, fun c1 hc => ?_⟩
          · skip
            have b21 := i_bd l1
            first | have e22 : (l2 + (1 : Int32)).toInt = l2.toInt + (1) := i_addk rfl (by omega) (by omega) | have b23 := i_bd (l2 + (1 : Int32))
            exact IH _ (by omega) _ (l1) ((l2 + (1 : Int32))) rfl hI (by omega) (by omega) (by omega) (by omega)
          · skip
            have th_c1 := (fun _ z => zG_70 hI (c := 70) (by decide) z) c1 hc
            refine ⟨zG_n hI th_c1, ?_⟩
            have f24 := zG_th hI th_c1
            have b25 := i_bd (mI S 82 3)
            refine zd (fun h26 => ?_) (fun h26 => ?_)
            · skip
              have g27 := i_lt h26
              have b28 := i_bd l1
              first | have e29 : (l2 + (1 : Int32)).toInt = l2.toInt + (1) := i_addk rfl (by omega) (by omega) | have b30 := i_bd (l2 + (1 : Int32))
              exact IH _ (by omega) _ (l1) ((l2 + (1 : Int32))) rfl hI (by omega) (by omega) (by omega) (by omega)
            · skip
              have g31 := i_nlt h26
              refine ⟨zG_n hI th_c1, ?_⟩
              have b32 := i_bd (mI S c1 5)
              first | have e33 : ((mI S c1 5) + (1 : Int32)).toInt = (mI S c1 5).toInt + (1) := i_addk rfl (by omega) (by omega) | have b34 := i_bd ((mI S c1 5) + (1 : Int32))
              have b35 := i_bd (mI S 82 4)
              refine zd (fun h36 => ?_) (fun h36 => ?_)
              · skip
                have g37 := i_lt h36
                have b38 := i_bd l1
                first | have e39 : (l2 + (1 : Int32)).toInt = l2.toInt + (1) := i_addk rfl (by omega) (by omega) | have b40 := i_bd (l2 + (1 : Int32))
                exact IH _ (by omega) _ (l1) ((l2 + (1 : Int32))) rfl hI (by omega) (by omega) (by omega) (by omega)
              · skip
                have g41 := i_nlt h36
                refine ⟨zG_n hI th_c1, ?_⟩
                have b42 := i_bd l1
                have f43 := zG_th hI th_c1
                first | have e44 : (l1 + (mI S c1 2)).toInt = l1.toInt + (mI S c1 2).toInt := i_add (by omega) (by omega) | have b45 := i_bd (l1 + (mI S c1 2))
                first | have e46 : (l2 + (1 : Int32)).toInt = l2.toInt + (1) := i_addk rfl (by omega) (by omega) | have b47 := i_bd (l2 + (1 : Int32))
                exact IH _ (by omega) _ ((l1 + (mI S c1 2))) ((l2 + (1 : Int32))) rfl hI (by omega) (by omega) (by omega) (by omega)
theorem sp_12_82 {X : Nat × (Nat → Int32)} {d w : Nat} {f : Nat → Nat → Int32} {r : Nat → Nat → Option Nat} {C Z N : Nat} {Q : Option ma_V ⊕ Nat → ma_S → Prop} {S : ma_S}  (hd : 1 ≤ d) (hw : 21 ≤ w) (hI : zI f r C Z N S)  (K : ∀ v S', zI f r C Z N S' → (0 ≤ v.toInt ∧ v.toInt ≤ 40000) → Q (.inl (some (.inl v))) S') : ma_wp X d w 12 0 [(0, .inr (.inr (some 82)))] [] S Q := by
  refine g_12_82_0  (by omega) (by omega) (zG_T hI) ?_
  have li1 : (0 : Int32).toInt = 0 := rfl
  exact lp_12_82_4 (by omega) (by omega) K _ _ ((0 : Int32)) ((0 : Int32)) rfl hI (by omega) (by omega) (by omega) (by omega)
theorem g_14_82_0 {X : Nat × (Nat → Int32)} {d w : Nat} {S : ma_S} {Q : Option ma_V ⊕ Nat → ma_S → Prop} (t : Nat) (hd : 1 ≤ d) (hw : 25 ≤ w) (hS : zT S) (h : ma_wp X d w 14 2 [(0, .inr (.inr (some 82))), (1, .inr (.inr (some t))), (2, .inl (0 : Int32))] [] S Q) : ma_wp X d w 14 0 [(0, .inr (.inr (some 82))), (1, .inr (.inr (some t)))] [] S Q := by
  refine zw_push hm_14 dX0_comeFromDirtyWords_0 (v := .inl (0 : Int32)) rfl ?_
  refine zw_sto hm_14 dX0_comeFromDirtyWords_1 [(2, .inl (0 : Int32)), (0, .inr (.inr (some 82))), (1, .inr (.inr (some t)))] rfl rfl rfl ?_
  exact zw_sub (ma_nd_of (ks := [0, 1, 2]) rfl (by decide)) (ma_nd_of (ks := [2, 0, 1]) rfl (by decide)) (ma_le_cons rfl (ma_le_cons rfl (ma_le_cons rfl (ma_le_nil _)))) h
theorem g_14_82_2 {X : Nat × (Nat → Int32)} {d w : Nat} {S : ma_S} {Q : Option ma_V ⊕ Nat → ma_S → Prop} (l1 : Nat) (l2 : Int32) (hd : 1 ≤ d) (hw : 25 ≤ w) (hS : zT S) (h : (126 ≤ l1 ∧ l1 < mN S) ∧ (if ((mI S l1 2) - (1 : Int32)) ≤ l2 then (Q (.inl none) S) else (if (mI S 82 5) ≤ 0 then (ma_wp X d w 14 2 [(0, .inr (.inr (some 82))), (1, .inr (.inr (some l1))), (2, .inl (l2 + (1 : Int32)))] [] S Q) else ((126 ≤ l1 ∧ l1 < mN S) ∧ ((mI S 82 5) ≠ 0 ∧ (if ((((mI S l1 4) + (1 : Int32)) + l2) / (mI S 82 5)) < 0 then (ma_wp X d w 14 2 [(0, .inr (.inr (some 82))), (1, .inr (.inr (some l1))), (2, .inl (l2 + (1 : Int32)))] [] S Q) else (if (375 : Int32) ≤ ((((mI S l1 4) + (1 : Int32)) + l2) / (mI S 82 5)) then (ma_wp X d w 14 2 [(0, .inr (.inr (some 82))), (1, .inr (.inr (some l1))), (2, .inl (l2 + (1 : Int32)))] [] S Q) else ((0 ≤ ((((mI S l1 4) + (1 : Int32)) + l2) / (mI S 82 5)) ∧ ((((mI S l1 4) + (1 : Int32)) + l2) / (mI S 82 5)).toNatClampNeg < 375) ∧ (if (mI S 83 ((((mI S l1 4) + (1 : Int32)) + l2) / (mI S 82 5)).toNatClampNeg) = 0 then (ma_wp X d w 14 2 [(0, .inr (.inr (some 82))), (1, .inr (.inr (some l1))), (2, .inl (l2 + (1 : Int32)))] [] S Q) else (ma_wp X (d - 1) (w - 25) 82 0 [(0, .inr (.inr (some 69))), (1, .inr (.inr (some l1))), (2, .inl l2)] [] S (zo (fun v2 S1 => zT S1 ∧ (ma_wp X (d - 1) (w - 21) 119 0 [(0, .inr (.inr (some 75))), (1, .inr (.inr v2))] [] S1 (zv (fun S3 => zT S3 ∧ (ma_wp X d w 14 2 [(0, .inr (.inr (some 82))), (1, .inr (.inr (some l1))), (2, .inl (l2 + (1 : Int32)))] [] S3 Q)) (fun x S9 => Q (.inr x) S9)))) (fun x S9 => Q (.inr x) S9)))))))))))) : ma_wp X d w 14 2 [(0, .inr (.inr (some 82))), (1, .inr (.inr (some l1))), (2, .inl l2)] [] S Q := by
  refine zw_push hm_14 dX0_comeFromDirtyWords_2 (v := .inl l2) rfl ?_
  refine zw_push hm_14 dX0_comeFromDirtyWords_3 (v := .inr (.inr (some l1))) rfl ?_
  obtain ⟨hg, h⟩ := h
  refine zw_gf hm_14 dX0_comeFromDirtyWords_4 (v := .inl (mI S l1 2)) (zT_tis hS hg) (zT_tt hS hg) rfl f_1_67_9 rfl ?_
  refine zw_push hm_14 dX0_comeFromDirtyWords_7 (v := .inl (1 : Int32)) rfl ?_
  refine zw_stk hm_14 dX0_comeFromDirtyWords_8 (st' := [.inl ((mI S l1 2) - (1 : Int32)), .inl l2]) rfl rfl ?_
  refine zw_if2 hm_14 dX0_comeFromDirtyWords_9 (t := 61) rfl zc2_ge ?_ ?_
  · intro hc
    rw [if_pos hc] at h
    exact zw_vret hm_14 dX0_comeFromDirtyWords_61 h
  · intro hc
    rw [if_neg hc] at h
    refine zw_push hm_14 dX0_comeFromDirtyWords_12 (v := .inr (.inr (some 82))) rfl ?_
    refine zw_push hm_14 dX0_comeFromDirtyWords_13 (v := .inr (.inr (some l1))) rfl ?_
    refine zw_push hm_14 dX0_comeFromDirtyWords_14 (v := .inl l2) rfl ?_
    refine zw_cv hm_14 dX0_comeFromDirtyWords_15 v_1_136_1 hm_9 [.inl l2, .inr (.inr (some l1))] [] rfl (zT_rt hS s_82 rfl) ⟨by omega, by omega⟩ rfl ?_
    show ma_wp X (d - 1) (w - 22) 9 0 [(0, .inr (.inr (some 82))), (1, .inr (.inr (some l1))), (2, .inl l2)] [] S _
    refine zw_push hm_9 dX0_cardOf_0 (v := .inr (.inr (some 82))) rfl ?_
    refine zw_gf hm_9 dX0_cardOf_1 (v := .inl (mI S 82 5)) (zT_is hS s_82) (zT_t hS s_82) rfl f_1_25_1 rfl ?_
    refine zw_if0 hm_9 dX0_cardOf_4 (t := 23) rfl zc0_le ?_ ?_
    · intro hc
      rw [if_pos hc] at h
      refine zw_push hm_9 dX0_cardOf_23 (v := .inl (-1 : Int32)) rfl ?_
      refine zw_iret hm_9 dX0_cardOf_24 ?_
      show ma_wp X d w 14 18 [(0, .inr (.inr (some 82))), (1, .inr (.inr (some l1))), (2, .inl l2)] [.inl (-1 : Int32)] S _
      refine zw_sto hm_14 dX0_comeFromDirtyWords_18 [(3, .inl (-1 : Int32)), (0, .inr (.inr (some 82))), (1, .inr (.inr (some l1))), (2, .inl l2)] rfl rfl rfl ?_
      refine zw_push hm_14 dX0_comeFromDirtyWords_19 (v := .inl (-1 : Int32)) rfl ?_
      refine zw_if0 hm_14 dX0_comeFromDirtyWords_20 (t := 55) rfl zc0_lt (fun _ => ?_) (fun hc => absurd (by decide) hc)
      refine zw_sto hm_14 dX0_comeFromDirtyWords_55 [(2, .inl (l2 + (1 : Int32))), (3, .inl (-1 : Int32)), (0, .inr (.inr (some 82))), (1, .inr (.inr (some l1)))] rfl rfl rfl ?_
      refine zw_goto hm_14 dX0_comeFromDirtyWords_58 (t := 2) rfl ?_
      exact zw_sub (ma_nd_of (ks := [0, 1, 2]) rfl (by decide)) (ma_nd_of (ks := [2, 3, 0, 1]) rfl (by decide)) (ma_le_cons rfl (ma_le_cons rfl (ma_le_cons rfl (ma_le_nil _)))) h
    · intro hc
      rw [if_neg hc] at h
      refine zw_push hm_9 dX0_cardOf_7 (v := .inr (.inr (some l1))) rfl ?_
      obtain ⟨hg, h⟩ := h
      refine zw_gf hm_9 dX0_cardOf_8 (v := .inl (mI S l1 4)) (zT_tis hS hg) (zT_tt hS hg) rfl f_1_62_9 rfl ?_
      refine zw_push hm_9 dX0_cardOf_11 (v := .inl (1 : Int32)) rfl ?_
      refine zw_stk hm_9 dX0_cardOf_12 (st' := [.inl ((mI S l1 4) + (1 : Int32))]) rfl rfl ?_
      refine zw_push hm_9 dX0_cardOf_13 (v := .inl l2) rfl ?_
      refine zw_stk hm_9 dX0_cardOf_14 (st' := [.inl (((mI S l1 4) + (1 : Int32)) + l2)]) rfl rfl ?_
      refine zw_push hm_9 dX0_cardOf_15 (v := .inr (.inr (some 82))) rfl ?_
      refine zw_gf hm_9 dX0_cardOf_16 (v := .inl (mI S 82 5)) (zT_is hS s_82) (zT_t hS s_82) rfl f_1_25_1 rfl ?_
      obtain ⟨hg, h⟩ := h
      refine zw_stk hm_9 dX0_cardOf_19 (st' := [.inl ((((mI S l1 4) + (1 : Int32)) + l2) / (mI S 82 5))]) rfl (if_neg hg) ?_
      refine zw_goto hm_9 dX0_cardOf_20 (t := 24) rfl ?_
      refine zw_iret hm_9 dX0_cardOf_24 ?_
      show ma_wp X d w 14 18 [(0, .inr (.inr (some 82))), (1, .inr (.inr (some l1))), (2, .inl l2)] [.inl ((((mI S l1 4) + (1 : Int32)) + l2) / (mI S 82 5))] S _
      refine zw_sto hm_14 dX0_comeFromDirtyWords_18 [(3, .inl ((((mI S l1 4) + (1 : Int32)) + l2) / (mI S 82 5))), (0, .inr (.inr (some 82))), (1, .inr (.inr (some l1))), (2, .inl l2)] rfl rfl rfl ?_
      refine zw_push hm_14 dX0_comeFromDirtyWords_19 (v := .inl ((((mI S l1 4) + (1 : Int32)) + l2) / (mI S 82 5))) rfl ?_
      refine zw_if0 hm_14 dX0_comeFromDirtyWords_20 (t := 55) rfl zc0_lt ?_ ?_
      · intro hc
        rw [if_pos hc] at h
        refine zw_sto hm_14 dX0_comeFromDirtyWords_55 [(2, .inl (l2 + (1 : Int32))), (3, .inl ((((mI S l1 4) + (1 : Int32)) + l2) / (mI S 82 5))), (0, .inr (.inr (some 82))), (1, .inr (.inr (some l1)))] rfl rfl rfl ?_
        refine zw_goto hm_14 dX0_comeFromDirtyWords_58 (t := 2) rfl ?_
        exact zw_sub (ma_nd_of (ks := [0, 1, 2]) rfl (by decide)) (ma_nd_of (ks := [2, 3, 0, 1]) rfl (by decide)) (ma_le_cons rfl (ma_le_cons rfl (ma_le_cons rfl (ma_le_nil _)))) h
      · intro hc
        rw [if_neg hc] at h
        refine zw_push hm_14 dX0_comeFromDirtyWords_23 (v := .inl ((((mI S l1 4) + (1 : Int32)) + l2) / (mI S 82 5))) rfl ?_
        refine zw_push hm_14 dX0_comeFromDirtyWords_24 (v := .inl (375 : Int32)) rfl ?_
        refine zw_if2 hm_14 dX0_comeFromDirtyWords_27 (t := 55) rfl zc2_ge ?_ ?_
        · intro hc
          rw [if_pos hc] at h
          refine zw_sto hm_14 dX0_comeFromDirtyWords_55 [(2, .inl (l2 + (1 : Int32))), (3, .inl ((((mI S l1 4) + (1 : Int32)) + l2) / (mI S 82 5))), (0, .inr (.inr (some 82))), (1, .inr (.inr (some l1)))] rfl rfl rfl ?_
          refine zw_goto hm_14 dX0_comeFromDirtyWords_58 (t := 2) rfl ?_
          exact zw_sub (ma_nd_of (ks := [0, 1, 2]) rfl (by decide)) (ma_nd_of (ks := [2, 3, 0, 1]) rfl (by decide)) (ma_le_cons rfl (ma_le_cons rfl (ma_le_cons rfl (ma_le_nil _)))) h
        · intro hc
          rw [if_neg hc] at h
          refine zw_push hm_14 dX0_comeFromDirtyWords_30 (v := .inr (.inr (some 82))) rfl ?_
          refine zw_gf hm_14 dX0_comeFromDirtyWords_31 (v := .inr (.inr (some 83))) (zT_is hS s_82) (zT_t hS s_82) rfl f_1_9_1 (zT_f hS r_82_9) ?_
          refine zw_push hm_14 dX0_comeFromDirtyWords_34 (v := .inl ((((mI S l1 4) + (1 : Int32)) + l2) / (mI S 82 5))) rfl ?_
          obtain ⟨hg, h⟩ := h
          refine zw_ia hm_14 dX0_comeFromDirtyWords_35 (zT_is hS s_83) (zT_h hS s_83) rfl hg ?_
          show ma_wp X d w 14 36 [(3, .inl ((((mI S l1 4) + (1 : Int32)) + l2) / (mI S 82 5))), (0, .inr (.inr (some 82))), (1, .inr (.inr (some l1))), (2, .inl l2)] [.inl (mI S 83 ((((mI S l1 4) + (1 : Int32)) + l2) / (mI S 82 5)).toNatClampNeg)] S _
          refine zw_if0 hm_14 dX0_comeFromDirtyWords_36 (t := 55) rfl zc0_eq ?_ ?_
          · intro hc
            rw [if_pos hc] at h
            refine zw_sto hm_14 dX0_comeFromDirtyWords_55 [(2, .inl (l2 + (1 : Int32))), (3, .inl ((((mI S l1 4) + (1 : Int32)) + l2) / (mI S 82 5))), (0, .inr (.inr (some 82))), (1, .inr (.inr (some l1)))] rfl rfl rfl ?_
            refine zw_goto hm_14 dX0_comeFromDirtyWords_58 (t := 2) rfl ?_
            exact zw_sub (ma_nd_of (ks := [0, 1, 2]) rfl (by decide)) (ma_nd_of (ks := [2, 3, 0, 1]) rfl (by decide)) (ma_le_cons rfl (ma_le_cons rfl (ma_le_cons rfl (ma_le_nil _)))) h
          · intro hc
            rw [if_neg hc] at h
            refine zw_push hm_14 dX0_comeFromDirtyWords_39 (v := .inr (.inr (some 82))) rfl ?_
            refine zw_gf hm_14 dX0_comeFromDirtyWords_40 (v := .inr (.inr (some 75))) (zT_is hS s_82) (zT_t hS s_82) rfl f_1_70_1 (zT_f hS r_82_1) ?_
            refine zw_push hm_14 dX0_comeFromDirtyWords_43 (v := .inr (.inr (some 82))) rfl ?_
            refine zw_gf hm_14 dX0_comeFromDirtyWords_44 (v := .inr (.inr (some 69))) (zT_is hS s_82) (zT_t hS s_82) rfl f_1_80_1 (zT_f hS r_82_0) ?_
            refine zw_push hm_14 dX0_comeFromDirtyWords_47 (v := .inr (.inr (some l1))) rfl ?_
            refine zw_push hm_14 dX0_comeFromDirtyWords_48 (v := .inl l2) rfl ?_
            refine zw_cv hm_14 dX0_comeFromDirtyWords_49 v_1_140_7 hm_82 [.inl l2, .inr (.inr (some l1))] [.inr (.inr (some 75))] rfl (zT_rt hS s_69 rfl) ⟨by omega, by omega⟩ rfl (zw_mono h (zo_go ?_ ?_))
            · intro v2 S1 hv
              obtain ⟨hS1, h⟩ := hv
              refine zw_cv hm_14 dX0_comeFromDirtyWords_52 v_1_144_10 hm_119 [.inr (.inr v2)] [] rfl (zT_rt hS1 s_75 rfl) ⟨by omega, by omega⟩ rfl (zw_mono h (zv_go ?_ ?_))
              · intro S3 hv
                obtain ⟨hS3, h⟩ := hv
                refine zw_sto hm_14 dX0_comeFromDirtyWords_55 [(2, .inl (l2 + (1 : Int32))), (3, .inl ((((mI S l1 4) + (1 : Int32)) + l2) / (mI S 82 5))), (0, .inr (.inr (some 82))), (1, .inr (.inr (some l1)))] rfl rfl rfl ?_
                refine zw_goto hm_14 dX0_comeFromDirtyWords_58 (t := 2) rfl ?_
                exact zw_sub (ma_nd_of (ks := [0, 1, 2]) rfl (by decide)) (ma_nd_of (ks := [2, 3, 0, 1]) rfl (by decide)) (ma_le_cons rfl (ma_le_cons rfl (ma_le_cons rfl (ma_le_nil _)))) h
              · intro x S9 hx
                exact ⟨by decide, hx⟩
            · intro x S9 hx
              exact ⟨by decide, hx⟩
theorem lp_14_82_2 {X : Nat × (Nat → Int32)} {d w : Nat} {f : Nat → Nat → Int32} {r : Nat → Nat → Option Nat} {C Z N : Nat} {Q : Option ma_V ⊕ Nat → ma_S → Prop} (hd : 1 ≤ d) (hw : 25 ≤ w) (K : ∀ S', zI f r C Z N S' → Q (.inl none) S') : ∀ (n : Nat) (S : ma_S) (l1 : Nat) (l2 : Int32), (61 - l2.toInt).toNat = n → zI f r C Z N S → (126 ≤ l1 ∧ l1 < N) → ma_wp X d w 14 2 [(0, .inr (.inr (some 82))), (1, .inr (.inr (some l1))), (2, .inl l2)] [] S Q := by
  intro n
  induction n using Nat.strongRecOn with
  | _ n IH =>
    intro S l1 l2 hmu hI th_l1 
    refine g_14_82_2 l1 l2 (by omega) (by omega) (zG_T hI) ?_
    refine ⟨zG_n hI th_l1, ?_⟩
    have f1 := zG_th hI th_l1
    first | have e2 : ((mI S l1 2) - (1 : Int32)).toInt = (mI S l1 2).toInt - (1) := i_subk rfl (by omega) (by omega) | have b3 := i_bd ((mI S l1 2) - (1 : Int32))
    have b4 := i_bd l2
    refine zd (fun h5 => ?_) (fun h5 => ?_)
    · skip
      have g6 := i_le h5
      exact K _ hI
    · skip
      have g7 := i_nle h5
      have b8 := i_bd (mI S 82 5)
      have li9 : (0 : Int32).toInt = 0 := rfl
      refine zd (fun h10 => ?_) (fun h10 => ?_)
      · skip
        have g11 := i_le h10
        first | have e12 : (l2 + (1 : Int32)).toInt = l2.toInt + (1) := i_addk rfl (by omega) (by omega) | have b13 := i_bd (l2 + (1 : Int32))
        exact IH _ (by omega) _ l1 ((l2 + (1 : Int32))) rfl hI th_l1
      · skip
        have g14 := i_nle h10
        refine ⟨zG_n hI th_l1, ?_⟩
        refine ⟨i_nz (by omega), ?_⟩
        have f15 := zG_th hI th_l1
        first | have e16 : ((mI S l1 4) + (1 : Int32)).toInt = (mI S l1 4).toInt + (1) := i_addk rfl (by omega) (by omega) | have b17 := i_bd ((mI S l1 4) + (1 : Int32))
        first | have e18 : (((mI S l1 4) + (1 : Int32)) + l2).toInt = ((mI S l1 4) + (1 : Int32)).toInt + l2.toInt := i_add (by omega) (by omega) | have b19 := i_bd (((mI S l1 4) + (1 : Int32)) + l2)
        first | have f20 := i_div (x := (((mI S l1 4) + (1 : Int32)) + l2)) (y := (mI S 82 5)) (by omega) (by omega) | have b21 := i_bd ((((mI S l1 4) + (1 : Int32)) + l2) / (mI S 82 5))
        refine zd (fun h22 => ?_) (fun h22 => ?_)
        · skip
          have g23 := i_lt h22
          first | have e24 : (l2 + (1 : Int32)).toInt = l2.toInt + (1) := i_addk rfl (by omega) (by omega) | have b25 := i_bd (l2 + (1 : Int32))
          exact IH _ (by omega) _ l1 ((l2 + (1 : Int32))) rfl hI th_l1
        · skip
          have g26 := i_nlt h22
          have li27 : (375 : Int32).toInt = 375 := rfl
          refine zd (fun h28 => ?_) (fun h28 => ?_)
          · skip
            have g29 := i_le h28
            first | have e30 : (l2 + (1 : Int32)).toInt = l2.toInt + (1) := i_addk rfl (by omega) (by omega) | have b31 := i_bd (l2 + (1 : Int32))
            exact IH _ (by omega) _ l1 ((l2 + (1 : Int32))) rfl hI th_l1
          · skip
            have g32 := i_nle h28
            refine ⟨i_ix (by omega) (by omega), ?_⟩
            have b33 := i_bd (mI S 83 ((((mI S l1 4) + (1 : Int32)) + l2) / (mI S 82 5)).toNatClampNeg)
            refine zd (fun h34 => ?_) (fun h34 => ?_)
            · skip
              have g35 := i_eq h34
              first | have e36 : (l2 + (1 : Int32)).toInt = l2.toInt + (1) := i_addk rfl (by omega) (by omega) | have b37 := i_bd (l2 + (1 : Int32))
              exact IH _ (by omega) _ l1 ((l2 + (1 : Int32))) rfl hI th_l1
            · skip
              have g38 := i_ne h34
              refine sp_82_69 l1 (l2) (by omega) (by omega) hI th_l1 (fun v2 S1 hI_S1 hq_v2 => zo_n ⟨zG_T hI_S1, ?_⟩)
              refine sp_119_75 (v2) (by omega) (by omega) hI_S1 hq_v2 (fun S3 hI_S3 => zv_n ⟨zG_T hI_S3, ?_⟩)
              first | have e39 : (l2 + (1 : Int32)).toInt = l2.toInt + (1) := i_addk rfl (by omega) (by omega) | have b40 := i_bd (l2 + (1 : Int32))
              exact IH _ (by omega) _ l1 ((l2 + (1 : Int32))) rfl hI_S3 th_l1
theorem sp_14_82 {X : Nat × (Nat → Int32)} {d w : Nat} {f : Nat → Nat → Int32} {r : Nat → Nat → Option Nat} {C Z N : Nat} {Q : Option ma_V ⊕ Nat → ma_S → Prop} {S : ma_S} (t : Nat) (hd : 1 ≤ d) (hw : 25 ≤ w) (hI : zI f r C Z N S) (th_t : 126 ≤ t ∧ t < N) (K : ∀ S', zI f r C Z N S' → Q (.inl none) S') : ma_wp X d w 14 0 [(0, .inr (.inr (some 82))), (1, .inr (.inr (some t)))] [] S Q := by
  refine g_14_82_0 t (by omega) (by omega) (zG_T hI) ?_
  have li1 : (0 : Int32).toInt = 0 := rfl
  exact lp_14_82_2 (by omega) (by omega) K _ _ t ((0 : Int32)) rfl hI th_t
theorem g_13_82_0 {X : Nat × (Nat → Int32)} {d w : Nat} {S : ma_S} {Q : Option ma_V ⊕ Nat → ma_S → Prop}  (hd : 2 ≤ d) (hw : 48 ≤ w) (hS : zT S) (h : ma_wp X d w 13 2 [(0, .inr (.inr (some 82))), (1, .inl (0 : Int32))] [] S Q) : ma_wp X d w 13 0 [(0, .inr (.inr (some 82)))] [] S Q := by
  refine zw_push hm_13 dX0_comeFromDirty_0 (v := .inl (0 : Int32)) rfl ?_
  refine zw_sto hm_13 dX0_comeFromDirty_1 [(1, .inl (0 : Int32)), (0, .inr (.inr (some 82)))] rfl rfl rfl ?_
  exact zw_sub (ma_nd_of (ks := [0, 1]) rfl (by decide)) (ma_nd_of (ks := [1, 0]) rfl (by decide)) (ma_le_cons rfl (ma_le_cons rfl (ma_le_nil _))) h
theorem g_13_82_2 {X : Nat × (Nat → Int32)} {d w : Nat} {S : ma_S} {Q : Option ma_V ⊕ Nat → ma_S → Prop} (l1 : Int32) (hd : 2 ≤ d) (hw : 48 ≤ w) (hS : zT S) (h : if (mI S 82 6) ≤ l1 then (Q (.inl none) S) else (if l1 < 0 then (ma_wp X d w 13 2 [(0, .inr (.inr (some 82))), (1, .inl (l1 + (1 : Int32)))] [] S Q) else (if (4500 : Int32) ≤ l1 then (ma_wp X d w 13 2 [(0, .inr (.inr (some 82))), (1, .inl (l1 + (1 : Int32)))] [] S Q) else ((0 ≤ l1 ∧ l1.toNatClampNeg < 4500) ∧ (if (mI S 71 l1.toNatClampNeg) < 0 then (ma_wp X d w 13 2 [(0, .inr (.inr (some 82))), (1, .inl (l1 + (1 : Int32)))] [] S Q) else (if (512 : Int32) ≤ (mI S 71 l1.toNatClampNeg) then (ma_wp X d w 13 2 [(0, .inr (.inr (some 82))), (1, .inl (l1 + (1 : Int32)))] [] S Q) else ((0 ≤ (mI S 71 l1.toNatClampNeg) ∧ (mI S 71 l1.toNatClampNeg).toNatClampNeg < 512) ∧ (((mR S 70 (mI S 71 l1.toNatClampNeg).toNatClampNeg) = none → ma_wp X d w 13 2 [(0, .inr (.inr (some 82))), (1, .inl (l1 + (1 : Int32)))] [] S Q) ∧ (∀ c1, (mR S 70 (mI S 71 l1.toNatClampNeg).toNatClampNeg) = some c1 → (126 ≤ c1 ∧ c1 < mN S) ∧ (ma_wp X (d - 1) (w - 23) 14 0 [(0, .inr (.inr (some 82))), (1, .inr (.inr (some c1)))] [] S (zv (fun S2 => zT S2 ∧ (ma_wp X d w 13 2 [(0, .inr (.inr (some 82))), (1, .inl (l1 + (mI S c1 2)))] [] S2 Q)) (fun x S9 => Q (.inr x) S9)))))))))))) : ma_wp X d w 13 2 [(0, .inr (.inr (some 82))), (1, .inl l1)] [] S Q := by
  refine zw_push hm_13 dX0_comeFromDirty_2 (v := .inl l1) rfl ?_
  refine zw_push hm_13 dX0_comeFromDirty_3 (v := .inr (.inr (some 82))) rfl ?_
  refine zw_gf hm_13 dX0_comeFromDirty_4 (v := .inl (mI S 82 6)) (zT_is hS s_82) (zT_t hS s_82) rfl f_1_28_1 rfl ?_
  refine zw_if2 hm_13 dX0_comeFromDirty_7 (t := 44) rfl zc2_ge ?_ ?_
  · intro hc
    rw [if_pos hc] at h
    exact zw_vret hm_13 dX0_comeFromDirty_44 h
  · intro hc
    rw [if_neg hc] at h
    refine zw_push hm_13 dX0_comeFromDirty_10 (v := .inr (.inr (some 82))) rfl ?_
    refine zw_gf hm_13 dX0_comeFromDirty_11 (v := .inr (.inr (some 69))) (zT_is hS s_82) (zT_t hS s_82) rfl f_1_80_1 (zT_f hS r_82_0) ?_
    refine zw_push hm_13 dX0_comeFromDirty_14 (v := .inl l1) rfl ?_
    refine zw_cv hm_13 dX0_comeFromDirty_15 v_1_129_7 hm_89 [.inl l1] [] rfl (zT_rt hS s_69 rfl) ⟨by omega, by omega⟩ rfl ?_
    show ma_wp X (d - 1) (w - 22) 89 0 [(0, .inr (.inr (some 69))), (1, .inl l1)] [] S _
    refine zw_push hm_89 dX7_thingFrom_0 (v := .inl l1) rfl ?_
    refine zw_if0 hm_89 dX7_thingFrom_1 (t := 20) rfl zc0_lt ?_ ?_
    · intro hc
      rw [if_pos hc] at h
      refine zw_push hm_89 dX7_thingFrom_20 (v := .inl (-1 : Int32)) rfl ?_
      refine zw_sto hm_89 dX7_thingFrom_21 [(2, .inl (-1 : Int32)), (0, .inr (.inr (some 69))), (1, .inl l1)] rfl rfl rfl ?_
      refine zw_push hm_89 dX7_thingFrom_22 (v := .inl (-1 : Int32)) rfl ?_
      refine zw_if0 hm_89 dX7_thingFrom_23 (t := 42) rfl zc0_lt (fun _ => ?_) (fun hc => absurd (by decide) hc)
      refine zw_push hm_89 dX7_thingFrom_42 (v := .inr (.inr none)) rfl ?_
      refine zw_aret hm_89 dX7_thingFrom_43 ?_
      show ma_wp X d w 13 18 [(0, .inr (.inr (some 82))), (1, .inl l1)] [.inr (.inr none)] S _
      refine zw_sto hm_13 dX0_comeFromDirty_18 [(2, .inr (.inr none)), (0, .inr (.inr (some 82))), (1, .inl l1)] rfl rfl rfl ?_
      refine zw_push hm_13 dX0_comeFromDirty_19 (v := .inr (.inr none)) rfl ?_
      refine zw_ifnonnull hm_13 dX0_comeFromDirty_20 (t := 29) rfl (fun _ => ?_) (fun _ z => by cases z)
      refine zw_sto hm_13 dX0_comeFromDirty_23 [(1, .inl (l1 + (1 : Int32))), (2, .inr (.inr none)), (0, .inr (.inr (some 82)))] rfl rfl rfl ?_
      refine zw_goto hm_13 dX0_comeFromDirty_26 (t := 41) rfl ?_
      refine zw_goto hm_13 dX0_comeFromDirty_41 (t := 2) rfl ?_
      exact zw_sub (ma_nd_of (ks := [0, 1]) rfl (by decide)) (ma_nd_of (ks := [1, 2, 0]) rfl (by decide)) (ma_le_cons rfl (ma_le_cons rfl (ma_le_nil _))) h
    · intro hc
      rw [if_neg hc] at h
      refine zw_push hm_89 dX7_thingFrom_4 (v := .inl l1) rfl ?_
      refine zw_push hm_89 dX7_thingFrom_5 (v := .inl (4500 : Int32)) rfl ?_
      refine zw_if2 hm_89 dX7_thingFrom_8 (t := 20) rfl zc2_ge ?_ ?_
      · intro hc
        rw [if_pos hc] at h
        refine zw_push hm_89 dX7_thingFrom_20 (v := .inl (-1 : Int32)) rfl ?_
        refine zw_sto hm_89 dX7_thingFrom_21 [(2, .inl (-1 : Int32)), (0, .inr (.inr (some 69))), (1, .inl l1)] rfl rfl rfl ?_
        refine zw_push hm_89 dX7_thingFrom_22 (v := .inl (-1 : Int32)) rfl ?_
        refine zw_if0 hm_89 dX7_thingFrom_23 (t := 42) rfl zc0_lt (fun _ => ?_) (fun hc => absurd (by decide) hc)
        refine zw_push hm_89 dX7_thingFrom_42 (v := .inr (.inr none)) rfl ?_
        refine zw_aret hm_89 dX7_thingFrom_43 ?_
        show ma_wp X d w 13 18 [(0, .inr (.inr (some 82))), (1, .inl l1)] [.inr (.inr none)] S _
        refine zw_sto hm_13 dX0_comeFromDirty_18 [(2, .inr (.inr none)), (0, .inr (.inr (some 82))), (1, .inl l1)] rfl rfl rfl ?_
        refine zw_push hm_13 dX0_comeFromDirty_19 (v := .inr (.inr none)) rfl ?_
        refine zw_ifnonnull hm_13 dX0_comeFromDirty_20 (t := 29) rfl (fun _ => ?_) (fun _ z => by cases z)
        refine zw_sto hm_13 dX0_comeFromDirty_23 [(1, .inl (l1 + (1 : Int32))), (2, .inr (.inr none)), (0, .inr (.inr (some 82)))] rfl rfl rfl ?_
        refine zw_goto hm_13 dX0_comeFromDirty_26 (t := 41) rfl ?_
        refine zw_goto hm_13 dX0_comeFromDirty_41 (t := 2) rfl ?_
        exact zw_sub (ma_nd_of (ks := [0, 1]) rfl (by decide)) (ma_nd_of (ks := [1, 2, 0]) rfl (by decide)) (ma_le_cons rfl (ma_le_cons rfl (ma_le_nil _))) h
      · intro hc
        rw [if_neg hc] at h
        refine zw_push hm_89 dX7_thingFrom_11 (v := .inr (.inr (some 69))) rfl ?_
        refine zw_gf hm_89 dX7_thingFrom_12 (v := .inr (.inr (some 71))) (zT_is hS s_69) (zT_t hS s_69) rfl f_7_17_7 (zT_f hS r_69_1) ?_
        refine zw_push hm_89 dX7_thingFrom_15 (v := .inl l1) rfl ?_
        obtain ⟨hg, h⟩ := h
        refine zw_ia hm_89 dX7_thingFrom_16 (zT_is hS s_71) (zT_h hS s_71) rfl hg ?_
        show ma_wp X (d - 1) (w - 22) 89 17 [(0, .inr (.inr (some 69))), (1, .inl l1)] [.inl (mI S 71 l1.toNatClampNeg)] S _
        refine zw_goto hm_89 dX7_thingFrom_17 (t := 21) rfl ?_
        refine zw_sto hm_89 dX7_thingFrom_21 [(2, .inl (mI S 71 l1.toNatClampNeg)), (0, .inr (.inr (some 69))), (1, .inl l1)] rfl rfl rfl ?_
        refine zw_push hm_89 dX7_thingFrom_22 (v := .inl (mI S 71 l1.toNatClampNeg)) rfl ?_
        refine zw_if0 hm_89 dX7_thingFrom_23 (t := 42) rfl zc0_lt ?_ ?_
        · intro hc
          rw [if_pos hc] at h
          refine zw_push hm_89 dX7_thingFrom_42 (v := .inr (.inr none)) rfl ?_
          refine zw_aret hm_89 dX7_thingFrom_43 ?_
          show ma_wp X d w 13 18 [(0, .inr (.inr (some 82))), (1, .inl l1)] [.inr (.inr none)] S _
          refine zw_sto hm_13 dX0_comeFromDirty_18 [(2, .inr (.inr none)), (0, .inr (.inr (some 82))), (1, .inl l1)] rfl rfl rfl ?_
          refine zw_push hm_13 dX0_comeFromDirty_19 (v := .inr (.inr none)) rfl ?_
          refine zw_ifnonnull hm_13 dX0_comeFromDirty_20 (t := 29) rfl (fun _ => ?_) (fun _ z => by cases z)
          refine zw_sto hm_13 dX0_comeFromDirty_23 [(1, .inl (l1 + (1 : Int32))), (2, .inr (.inr none)), (0, .inr (.inr (some 82)))] rfl rfl rfl ?_
          refine zw_goto hm_13 dX0_comeFromDirty_26 (t := 41) rfl ?_
          refine zw_goto hm_13 dX0_comeFromDirty_41 (t := 2) rfl ?_
          exact zw_sub (ma_nd_of (ks := [0, 1]) rfl (by decide)) (ma_nd_of (ks := [1, 2, 0]) rfl (by decide)) (ma_le_cons rfl (ma_le_cons rfl (ma_le_nil _))) h
        · intro hc
          rw [if_neg hc] at h
          refine zw_push hm_89 dX7_thingFrom_26 (v := .inl (mI S 71 l1.toNatClampNeg)) rfl ?_
          refine zw_push hm_89 dX7_thingFrom_27 (v := .inl (512 : Int32)) rfl ?_
          refine zw_if2 hm_89 dX7_thingFrom_30 (t := 42) rfl zc2_ge ?_ ?_
          · intro hc
            rw [if_pos hc] at h
            refine zw_push hm_89 dX7_thingFrom_42 (v := .inr (.inr none)) rfl ?_
            refine zw_aret hm_89 dX7_thingFrom_43 ?_
            show ma_wp X d w 13 18 [(0, .inr (.inr (some 82))), (1, .inl l1)] [.inr (.inr none)] S _
            refine zw_sto hm_13 dX0_comeFromDirty_18 [(2, .inr (.inr none)), (0, .inr (.inr (some 82))), (1, .inl l1)] rfl rfl rfl ?_
            refine zw_push hm_13 dX0_comeFromDirty_19 (v := .inr (.inr none)) rfl ?_
            refine zw_ifnonnull hm_13 dX0_comeFromDirty_20 (t := 29) rfl (fun _ => ?_) (fun _ z => by cases z)
            refine zw_sto hm_13 dX0_comeFromDirty_23 [(1, .inl (l1 + (1 : Int32))), (2, .inr (.inr none)), (0, .inr (.inr (some 82)))] rfl rfl rfl ?_
            refine zw_goto hm_13 dX0_comeFromDirty_26 (t := 41) rfl ?_
            refine zw_goto hm_13 dX0_comeFromDirty_41 (t := 2) rfl ?_
            exact zw_sub (ma_nd_of (ks := [0, 1]) rfl (by decide)) (ma_nd_of (ks := [1, 2, 0]) rfl (by decide)) (ma_le_cons rfl (ma_le_cons rfl (ma_le_nil _))) h
          · intro hc
            rw [if_neg hc] at h
            refine zw_push hm_89 dX7_thingFrom_33 (v := .inr (.inr (some 69))) rfl ?_
            refine zw_gf hm_89 dX7_thingFrom_34 (v := .inr (.inr (some 70))) (zT_is hS s_69) (zT_t hS s_69) rfl f_7_11_7 (zT_f hS r_69_0) ?_
            refine zw_push hm_89 dX7_thingFrom_37 (v := .inl (mI S 71 l1.toNatClampNeg)) rfl ?_
            obtain ⟨hg, h⟩ := h
            refine zw_aa hm_89 dX7_thingFrom_38 (zT_is hS s_70) (zT_h hS s_70) rfl rfl hg rfl ?_
            show ma_wp X (d - 1) (w - 22) 89 39 [(2, .inl (mI S 71 l1.toNatClampNeg)), (0, .inr (.inr (some 69))), (1, .inl l1)] [.inr (.inr (mR S 70 (mI S 71 l1.toNatClampNeg).toNatClampNeg))] S _
            refine zw_goto hm_89 dX7_thingFrom_39 (t := 43) rfl ?_
            refine zw_aret hm_89 dX7_thingFrom_43 ?_
            show ma_wp X d w 13 18 [(0, .inr (.inr (some 82))), (1, .inl l1)] [.inr (.inr (mR S 70 (mI S 71 l1.toNatClampNeg).toNatClampNeg))] S _
            refine zw_sto hm_13 dX0_comeFromDirty_18 [(2, .inr (.inr (mR S 70 (mI S 71 l1.toNatClampNeg).toNatClampNeg))), (0, .inr (.inr (some 82))), (1, .inl l1)] rfl rfl rfl ?_
            refine zw_push hm_13 dX0_comeFromDirty_19 (v := .inr (.inr (mR S 70 (mI S 71 l1.toNatClampNeg).toNatClampNeg))) rfl ?_
            refine zw_ifnonnull hm_13 dX0_comeFromDirty_20 (t := 29) rfl ?_ ?_
            · intro hc
              have h := h.1 hc
              (try rw [hc])
              show ma_wp X d w 13 23 [(2, .inr (.inr none)), (0, .inr (.inr (some 82))), (1, .inl l1)] [] S _
              refine zw_sto hm_13 dX0_comeFromDirty_23 [(1, .inl (l1 + (1 : Int32))), (2, .inr (.inr none)), (0, .inr (.inr (some 82)))] rfl rfl rfl ?_
              refine zw_goto hm_13 dX0_comeFromDirty_26 (t := 41) rfl ?_
              refine zw_goto hm_13 dX0_comeFromDirty_41 (t := 2) rfl ?_
              exact zw_sub (ma_nd_of (ks := [0, 1]) rfl (by decide)) (ma_nd_of (ks := [1, 2, 0]) rfl (by decide)) (ma_le_cons rfl (ma_le_cons rfl (ma_le_nil _))) h
            · intro c1 hc
              have h := h.2 c1 hc
              (try rw [hc])
              show ma_wp X d w 13 29 [(2, .inr (.inr (some c1))), (0, .inr (.inr (some 82))), (1, .inl l1)] [] S _
              refine zw_push hm_13 dX0_comeFromDirty_29 (v := .inl l1) rfl ?_
              refine zw_push hm_13 dX0_comeFromDirty_30 (v := .inr (.inr (some c1))) rfl ?_
              obtain ⟨hg, h⟩ := h
              refine zw_gf hm_13 dX0_comeFromDirty_31 (v := .inl (mI S c1 2)) (zT_tis hS hg) (zT_tt hS hg) rfl f_1_67_9 rfl ?_
              refine zw_stk hm_13 dX0_comeFromDirty_34 (st' := [.inl (l1 + (mI S c1 2))]) rfl rfl ?_
              refine zw_sto hm_13 dX0_comeFromDirty_35 [(1, .inl (l1 + (mI S c1 2))), (2, .inr (.inr (some c1))), (0, .inr (.inr (some 82)))] rfl rfl rfl ?_
              refine zw_push hm_13 dX0_comeFromDirty_36 (v := .inr (.inr (some 82))) rfl ?_
              refine zw_push hm_13 dX0_comeFromDirty_37 (v := .inr (.inr (some c1))) rfl ?_
              refine zw_cv hm_13 dX0_comeFromDirty_38 v_1_132_1 hm_14 [.inr (.inr (some c1))] [] rfl (zT_rt hS s_82 rfl) ⟨by omega, by omega⟩ rfl (zw_mono h (zv_go ?_ ?_))
              · intro S2 hv
                obtain ⟨hS2, h⟩ := hv
                refine zw_goto hm_13 dX0_comeFromDirty_41 (t := 2) rfl ?_
                exact zw_sub (ma_nd_of (ks := [0, 1]) rfl (by decide)) (ma_nd_of (ks := [1, 2, 0]) rfl (by decide)) (ma_le_cons rfl (ma_le_cons rfl (ma_le_nil _))) h
              · intro x S9 hx
                exact ⟨by decide, hx⟩
theorem lp_13_82_2 {X : Nat × (Nat → Int32)} {d w : Nat} {f : Nat → Nat → Int32} {r : Nat → Nat → Option Nat} {C Z N : Nat} {Q : Option ma_V ⊕ Nat → ma_S → Prop} (hd : 2 ≤ d) (hw : 48 ≤ w) (K : ∀ S', zI f r C Z N S' → Q (.inl none) S') : ∀ (n : Nat) (S : ma_S) (l1 : Int32), (400000 - l1.toInt).toNat = n → zI f r C Z N S → (0 ≤ l1.toInt) → ((mI S 82 6).toInt ≤ 400000) → ma_wp X d w 13 2 [(0, .inr (.inr (some 82))), (1, .inl l1)] [] S Q := by
  intro n
  induction n using Nat.strongRecOn with
  | _ n IH =>
    intro S l1 hmu hI  hi0 hi1
    refine g_13_82_2 l1 (by omega) (by omega) (zG_T hI) ?_
    have q1 : (mI S 82 6).toInt = (f 82 6).toInt := zG_zi hI rfl
    have b2 := i_bd (mI S 82 6)
    have b3 := i_bd l1
    refine zd (fun h4 => ?_) (fun h4 => ?_)
    · skip
      have g5 := i_le h4
      exact K _ hI
    · skip
      have g6 := i_nle h4
      have li7 : (0 : Int32).toInt = 0 := rfl
      refine zd (fun h8 => ?_) (fun h8 => ?_)
      · skip
        have g9 := i_lt h8
        first | have e10 : (l1 + (1 : Int32)).toInt = l1.toInt + (1) := i_addk rfl (by omega) (by omega) | have b11 := i_bd (l1 + (1 : Int32))
        exact IH _ (by omega) _ ((l1 + (1 : Int32))) rfl hI (by omega) (show (mI S 82 6).toInt ≤ 400000 from by omega)
      · skip
        have g12 := i_nlt h8
        have li13 : (4500 : Int32).toInt = 4500 := rfl
        refine zd (fun h14 => ?_) (fun h14 => ?_)
        · skip
          have g15 := i_le h14
          first | have e16 : (l1 + (1 : Int32)).toInt = l1.toInt + (1) := i_addk rfl (by omega) (by omega) | have b17 := i_bd (l1 + (1 : Int32))
          exact IH _ (by omega) _ ((l1 + (1 : Int32))) rfl hI (by omega) (show (mI S 82 6).toInt ≤ 400000 from by omega)
        · skip
          have g18 := i_nle h14
          refine ⟨i_ix (by omega) (by omega), ?_⟩
          have b19 := i_bd (mI S 71 l1.toNatClampNeg)
          refine zd (fun h20 => ?_) (fun h20 => ?_)
          · skip
            have g21 := i_lt h20
            first | have e22 : (l1 + (1 : Int32)).toInt = l1.toInt + (1) := i_addk rfl (by omega) (by omega) | have b23 := i_bd (l1 + (1 : Int32))
            exact IH _ (by omega) _ ((l1 + (1 : Int32))) rfl hI (by omega) (show (mI S 82 6).toInt ≤ 400000 from by omega)
          · skip
            have g24 := i_nlt h20
            have li25 : (512 : Int32).toInt = 512 := rfl
            refine zd (fun h26 => ?_) (fun h26 => ?_)
            · skip
              have g27 := i_le h26
              first | have e28 : (l1 + (1 : Int32)).toInt = l1.toInt + (1) := i_addk rfl (by omega) (by omega) | have b29 := i_bd (l1 + (1 : Int32))
              exact IH _ (by omega) _ ((l1 + (1 : Int32))) rfl hI (by omega) (show (mI S 82 6).toInt ≤ 400000 from by omega)
            · skip
              have g30 := i_nle h26
              refine ⟨i_ix (by omega) (by omega), ?_⟩
              refine ⟨fun _ => ?_, fun c1 hc => ?_⟩
              · skip
                first | have e31 : (l1 + (1 : Int32)).toInt = l1.toInt + (1) := i_addk rfl (by omega) (by omega) | have b32 := i_bd (l1 + (1 : Int32))
                exact IH _ (by omega) _ ((l1 + (1 : Int32))) rfl hI (by omega) (show (mI S 82 6).toInt ≤ 400000 from by omega)
              · skip
                have th_c1 := (fun _ z => zG_70 hI (c := 70) (by decide) z) c1 hc
                refine ⟨zG_n hI th_c1, ?_⟩
                refine sp_14_82 c1 (by omega) (by omega) hI th_c1 (fun S2 hI_S2 => zv_n ⟨zG_T hI_S2, ?_⟩)
                have f33 := zG_th hI th_c1
                first | have e34 : (l1 + (mI S c1 2)).toInt = l1.toInt + (mI S c1 2).toInt := i_add (by omega) (by omega) | have b35 := i_bd (l1 + (mI S c1 2))
                have q36 : (mI S2 82 6).toInt = (f 82 6).toInt := zG_zi hI_S2 rfl
                have b37 := i_bd (mI S2 82 6)
                exact IH _ (by omega) _ ((l1 + (mI S c1 2))) rfl hI_S2 (by omega) (show (mI S2 82 6).toInt ≤ 400000 from by omega)
theorem sp_13_82 {X : Nat × (Nat → Int32)} {d w : Nat} {f : Nat → Nat → Int32} {r : Nat → Nat → Option Nat} {C Z N : Nat} {Q : Option ma_V ⊕ Nat → ma_S → Prop} {S : ma_S}  (hd : 2 ≤ d) (hw : 48 ≤ w) (hI : zI f r C Z N S) (hpre0 : (mI S 82 6).toInt ≤ 400000) (K : ∀ S', zI f r C Z N S' → Q (.inl none) S') : ma_wp X d w 13 0 [(0, .inr (.inr (some 82)))] [] S Q := by
  refine g_13_82_0  (by omega) (by omega) (zG_T hI) ?_
  have q1 : (mI S 82 6).toInt = (f 82 6).toInt := zG_zi hI rfl
  have b2 := i_bd (mI S 82 6)
  have li3 : (0 : Int32).toInt = 0 := rfl
  exact lp_13_82_2 (by omega) (by omega) K _ _ ((0 : Int32)) rfl hI (by omega) (show (mI S 82 6).toInt ≤ 400000 from by omega)
theorem g_15_82_0 {X : Nat × (Nat → Int32)} {d w : Nat} {S : ma_S} {Q : Option ma_V ⊕ Nat → ma_S → Prop}  (hd : 3 ≤ d) (hw : 113 ≤ w) (hS : zT S) (h : ma_wp X d w 15 33 [(0, .inr (.inr (some 82))), (1, .inl (0 : Int32))] [] (ma_put (ma_put S 82 7 (.inl ((((mI S 82 3) + (mI S 82 2)) + (mI S 82 3)) - (mI S 82 7)))) 82 8 (.inl ((((mI S 82 3) + (mI S 82 2)) + (mI S 82 3)) - (mI S 82 7)))) Q) : ma_wp X d w 15 0 [(0, .inr (.inr (some 82)))] [] S Q := by
  refine zw_push hm_15 dX0_moveKept_0 (v := .inr (.inr (some 82))) rfl ?_
  refine zw_push hm_15 dX0_moveKept_1 (v := .inr (.inr (some 82))) rfl ?_
  refine zw_gf hm_15 dX0_moveKept_2 (v := .inl (mI S 82 3)) (zT_is hS s_82) (zT_t hS s_82) rfl f_1_19_1 rfl ?_
  refine zw_push hm_15 dX0_moveKept_5 (v := .inr (.inr (some 82))) rfl ?_
  refine zw_gf hm_15 dX0_moveKept_6 (v := .inl (mI S 82 2)) (zT_is hS s_82) (zT_t hS s_82) rfl f_1_15_1 rfl ?_
  refine zw_stk hm_15 dX0_moveKept_9 (st' := [.inl ((mI S 82 3) + (mI S 82 2)), .inr (.inr (some 82))]) rfl rfl ?_
  refine zw_push hm_15 dX0_moveKept_10 (v := .inr (.inr (some 82))) rfl ?_
  refine zw_gf hm_15 dX0_moveKept_11 (v := .inl (mI S 82 3)) (zT_is hS s_82) (zT_t hS s_82) rfl f_1_19_1 rfl ?_
  refine zw_stk hm_15 dX0_moveKept_14 (st' := [.inl (((mI S 82 3) + (mI S 82 2)) + (mI S 82 3)), .inr (.inr (some 82))]) rfl rfl ?_
  refine zw_push hm_15 dX0_moveKept_15 (v := .inr (.inr (some 82))) rfl ?_
  refine zw_gf hm_15 dX0_moveKept_16 (v := .inl (mI S 82 7)) (zT_is hS s_82) (zT_t hS s_82) rfl f_1_31_1 rfl ?_
  refine zw_stk hm_15 dX0_moveKept_19 (st' := [.inl ((((mI S 82 3) + (mI S 82 2)) + (mI S 82 3)) - (mI S 82 7)), .inr (.inr (some 82))]) rfl rfl ?_
  refine zw_pf hm_15 dX0_moveKept_20 (zT_is hS s_82) (zT_t hS s_82) p_1_31_1 zk_int ?_
  refine zw_push hm_15 dX0_moveKept_23 (v := .inr (.inr (some 82))) rfl ?_
  refine zw_push hm_15 dX0_moveKept_24 (v := .inr (.inr (some 82))) rfl ?_
  refine zw_gf hm_15 dX0_moveKept_25 (v := .inl ((((mI S 82 3) + (mI S 82 2)) + (mI S 82 3)) - (mI S 82 7))) (zT_is (zT_pi hS) s_82) (zT_t (zT_pi hS) s_82) rfl f_1_31_1 rfl ?_
  refine zw_pf hm_15 dX0_moveKept_28 (zT_is (zT_pi hS) s_82) (zT_t (zT_pi hS) s_82) p_1_34_1 zk_int ?_
  refine zw_push hm_15 dX0_moveKept_31 (v := .inl (0 : Int32)) rfl ?_
  refine zw_sto hm_15 dX0_moveKept_32 [(1, .inl (0 : Int32)), (0, .inr (.inr (some 82)))] rfl rfl rfl ?_
  exact zw_sub (ma_nd_of (ks := [0, 1]) rfl (by decide)) (ma_nd_of (ks := [1, 0]) rfl (by decide)) (ma_le_cons rfl (ma_le_cons rfl (ma_le_nil _))) h
theorem g_15_82_33 {X : Nat × (Nat → Int32)} {d w : Nat} {S : ma_S} {Q : Option ma_V ⊕ Nat → ma_S → Prop} (l1 : Int32) (hd : 3 ≤ d) (hw : 135 ≤ w) (hS : zT S) (h : if (mI S 75 4) ≤ l1 then (Q (.inl none) S) else (ma_wp X (d - 1) (w - 21) 124 0 [(0, .inr (.inr (some 75))), (1, .inl l1)] [] S (zo (fun v2 S1 => zT S1 ∧ ((v2 = none → ma_wp X d w 15 33 [(0, .inr (.inr (some 82))), (1, .inl (l1 + (1 : Int32)))] [] S1 Q) ∧ (∀ c3, v2 = some c3 → (126 ≤ c3 ∧ c3 < mN S1) ∧ ((126 ≤ c3 ∧ c3 < mN S1) ∧ ((126 ≤ c3 ∧ c3 < mN (ma_put S1 c3 5 (.inl ((mI S1 c3 5) + (1 : Int32))))) ∧ (if (mI (ma_put S1 c3 5 (.inl ((mI S1 c3 5) + (1 : Int32)))) c3 5) < (mI (ma_put S1 c3 5 (.inl ((mI S1 c3 5) + (1 : Int32)))) 82 4) then (ma_wp X ((d - 1) - 1) ((w - 21) - 24) 90 0 [(0, .inr (.inr (some 69))), (1, .inr (.inr (some c3))), (2, .inl (mI (ma_put S1 c3 5 (.inl ((mI S1 c3 5) + (1 : Int32)))) 82 8))] [] (ma_put S1 c3 5 (.inl ((mI S1 c3 5) + (1 : Int32)))) (zv (fun S4 => zT S4 ∧ ((126 ≤ c3 ∧ c3 < mN S4) ∧ (ma_wp X d w 15 33 [(0, .inr (.inr (some 82))), (1, .inl (l1 + (1 : Int32)))] [] (ma_put S4 82 8 (.inl ((mI S4 82 8) + (mI S4 c3 2)))) Q))) (fun _ _ => False))) else (ma_wp X ((d - 1) - 1) ((w - 21) - 24) 90 0 [(0, .inr (.inr (some 69))), (1, .inr (.inr (some c3))), (2, .inl (mI (ma_put S1 c3 5 (.inl ((mI S1 c3 5) + (1 : Int32)))) 82 6))] [] (ma_put S1 c3 5 (.inl ((mI S1 c3 5) + (1 : Int32)))) (zv (fun S6 => zT S6 ∧ ((126 ≤ c3 ∧ c3 < mN S6) ∧ (ma_wp X d w 15 33 [(0, .inr (.inr (some 82))), (1, .inl (l1 + (1 : Int32)))] [] (ma_put S6 82 6 (.inl ((mI S6 82 6) + (mI S6 c3 2)))) Q))) (fun _ _ => False))))))))) (fun x S9 => Q (.inr x) S9)))) : ma_wp X d w 15 33 [(0, .inr (.inr (some 82))), (1, .inl l1)] [] S Q := by
  refine zw_push hm_15 dX0_moveKept_33 (v := .inl l1) rfl ?_
  refine zw_push hm_15 dX0_moveKept_34 (v := .inr (.inr (some 82))) rfl ?_
  refine zw_gf hm_15 dX0_moveKept_35 (v := .inr (.inr (some 75))) (zT_is hS s_82) (zT_t hS s_82) rfl f_1_70_1 (zT_f hS r_82_1) ?_
  refine zw_gf hm_15 dX0_moveKept_38 (v := .inl (mI S 75 4)) (zT_is hS s_75) (zT_t hS s_75) rfl f_1_147_10 rfl ?_
  refine zw_if2 hm_15 dX0_moveKept_41 (t := 68) rfl zc2_ge ?_ ?_
  · intro hc
    rw [if_pos hc] at h
    exact zw_vret hm_15 dX0_moveKept_68 h
  · intro hc
    rw [if_neg hc] at h
    refine zw_push hm_15 dX0_moveKept_44 (v := .inr (.inr (some 82))) rfl ?_
    refine zw_gf hm_15 dX0_moveKept_45 (v := .inr (.inr (some 75))) (zT_is hS s_82) (zT_t hS s_82) rfl f_1_70_1 (zT_f hS r_82_1) ?_
    refine zw_push hm_15 dX0_moveKept_48 (v := .inl l1) rfl ?_
    refine zw_cv hm_15 dX0_moveKept_49 v_1_150_10 hm_124 [.inl l1] [] rfl (zT_rt hS s_75 rfl) ⟨by omega, by omega⟩ rfl (zw_mono h (zo_go ?_ ?_))
    · intro v2 S1 hv
      obtain ⟨hS1, h⟩ := hv
      refine zw_sto hm_15 dX0_moveKept_52 [(2, .inr (.inr v2)), (0, .inr (.inr (some 82))), (1, .inl l1)] rfl rfl rfl ?_
      refine zw_push hm_15 dX0_moveKept_53 (v := .inr (.inr v2)) rfl ?_
      refine zw_ifnull hm_15 dX0_moveKept_54 (t := 62) rfl ?_ ?_
      · intro hc
        have h := h.1 hc
        (try rw [hc])
        show ma_wp X d w 15 62 [(2, .inr (.inr none)), (0, .inr (.inr (some 82))), (1, .inl l1)] [] S1 _
        refine zw_sto hm_15 dX0_moveKept_62 [(1, .inl (l1 + (1 : Int32))), (2, .inr (.inr none)), (0, .inr (.inr (some 82)))] rfl rfl rfl ?_
        refine zw_goto hm_15 dX0_moveKept_65 (t := 33) rfl ?_
        exact zw_sub (ma_nd_of (ks := [0, 1]) rfl (by decide)) (ma_nd_of (ks := [1, 2, 0]) rfl (by decide)) (ma_le_cons rfl (ma_le_cons rfl (ma_le_nil _))) h
      · intro c3 hc
        have h := h.2 c3 hc
        (try rw [hc])
        show ma_wp X d w 15 57 [(2, .inr (.inr (some c3))), (0, .inr (.inr (some 82))), (1, .inl l1)] [] S1 _
        refine zw_push hm_15 dX0_moveKept_57 (v := .inr (.inr (some 82))) rfl ?_
        refine zw_push hm_15 dX0_moveKept_58 (v := .inr (.inr (some c3))) rfl ?_
        refine zw_cv hm_15 dX0_moveKept_59 v_1_153_1 hm_16 [.inr (.inr (some c3))] [] rfl (zT_rt hS1 s_82 rfl) ⟨by omega, by omega⟩ rfl ?_
        show ma_wp X (d - 1) (w - 21) 16 0 [(0, .inr (.inr (some 82))), (1, .inr (.inr (some c3)))] [] S1 _
        refine zw_push hm_16 dX0_moveOlder_0 (v := .inr (.inr (some c3))) rfl ?_
        refine zw_stk hm_16 dX0_moveOlder_1 (st' := [.inr (.inr (some c3)), .inr (.inr (some c3))]) rfl rfl ?_
        obtain ⟨hg, h⟩ := h
        refine zw_gf hm_16 dX0_moveOlder_2 (v := .inl (mI S1 c3 5)) (zT_tis hS1 hg) (zT_tt hS1 hg) rfl f_1_126_9 rfl ?_
        refine zw_push hm_16 dX0_moveOlder_5 (v := .inl (1 : Int32)) rfl ?_
        refine zw_stk hm_16 dX0_moveOlder_6 (st' := [.inl ((mI S1 c3 5) + (1 : Int32)), .inr (.inr (some c3))]) rfl rfl ?_
        obtain ⟨hg, h⟩ := h
        refine zw_pf hm_16 dX0_moveOlder_7 (zT_tis hS1 hg) (zT_tt hS1 hg) p_1_126_9 zk_int ?_
        refine zw_push hm_16 dX0_moveOlder_10 (v := .inr (.inr (some c3))) rfl ?_
        obtain ⟨hg, h⟩ := h
        refine zw_gf hm_16 dX0_moveOlder_11 (v := .inl (mI (ma_put S1 c3 5 (.inl ((mI S1 c3 5) + (1 : Int32)))) c3 5)) (zT_tis (zT_pi hS1) hg) (zT_tt (zT_pi hS1) hg) rfl f_1_126_9 rfl ?_
        refine zw_push hm_16 dX0_moveOlder_14 (v := .inr (.inr (some 82))) rfl ?_
        refine zw_gf hm_16 dX0_moveOlder_15 (v := .inl (mI (ma_put S1 c3 5 (.inl ((mI S1 c3 5) + (1 : Int32)))) 82 4)) (zT_is (zT_pi hS1) s_82) (zT_t (zT_pi hS1) s_82) rfl f_1_22_1 rfl ?_
        refine zw_if2 hm_16 dX0_moveOlder_18 (t := 49) rfl zc2_lt ?_ ?_
        · intro hc
          rw [if_pos hc] at h
          refine zw_push hm_16 dX0_moveOlder_49 (v := .inr (.inr (some 82))) rfl ?_
          refine zw_gf hm_16 dX0_moveOlder_50 (v := .inr (.inr (some 69))) (zT_is (zT_pi hS1) s_82) (zT_t (zT_pi hS1) s_82) rfl f_1_80_1 (zT_f (zT_pi hS1) r_82_0) ?_
          refine zw_push hm_16 dX0_moveOlder_53 (v := .inr (.inr (some c3))) rfl ?_
          refine zw_push hm_16 dX0_moveOlder_54 (v := .inr (.inr (some 82))) rfl ?_
          refine zw_gf hm_16 dX0_moveOlder_55 (v := .inl (mI (ma_put S1 c3 5 (.inl ((mI S1 c3 5) + (1 : Int32)))) 82 8)) (zT_is (zT_pi hS1) s_82) (zT_t (zT_pi hS1) s_82) rfl f_1_34_1 rfl ?_
          refine zw_cv hm_16 dX0_moveOlder_58 v_1_156_7 hm_90 [.inl (mI (ma_put S1 c3 5 (.inl ((mI S1 c3 5) + (1 : Int32)))) 82 8), .inr (.inr (some c3))] [] rfl (zT_rt (zT_pi hS1) s_69 rfl) ⟨by omega, by omega⟩ rfl (zw_mono h (zv_go ?_ ?_))
          · intro S4 hv
            obtain ⟨hS4, h⟩ := hv
            refine zw_push hm_16 dX0_moveOlder_61 (v := .inr (.inr (some 82))) rfl ?_
            refine zw_stk hm_16 dX0_moveOlder_62 (st' := [.inr (.inr (some 82)), .inr (.inr (some 82))]) rfl rfl ?_
            refine zw_gf hm_16 dX0_moveOlder_63 (v := .inl (mI S4 82 8)) (zT_is hS4 s_82) (zT_t hS4 s_82) rfl f_1_34_1 rfl ?_
            refine zw_push hm_16 dX0_moveOlder_66 (v := .inr (.inr (some c3))) rfl ?_
            obtain ⟨hg, h⟩ := h
            refine zw_gf hm_16 dX0_moveOlder_67 (v := .inl (mI S4 c3 2)) (zT_tis hS4 hg) (zT_tt hS4 hg) rfl f_1_67_9 rfl ?_
            refine zw_stk hm_16 dX0_moveOlder_70 (st' := [.inl ((mI S4 82 8) + (mI S4 c3 2)), .inr (.inr (some 82))]) rfl rfl ?_
            refine zw_pf hm_16 dX0_moveOlder_71 (zT_is hS4 s_82) (zT_t hS4 s_82) p_1_34_1 zk_int ?_
            refine zw_vret hm_16 dX0_moveOlder_74 ?_
            show ma_wp X d w 15 62 [(2, .inr (.inr (some c3))), (0, .inr (.inr (some 82))), (1, .inl l1)] [] (ma_put S4 82 8 (.inl ((mI S4 82 8) + (mI S4 c3 2)))) _
            refine zw_sto hm_15 dX0_moveKept_62 [(1, .inl (l1 + (1 : Int32))), (2, .inr (.inr (some c3))), (0, .inr (.inr (some 82)))] rfl rfl rfl ?_
            refine zw_goto hm_15 dX0_moveKept_65 (t := 33) rfl ?_
            exact zw_sub (ma_nd_of (ks := [0, 1]) rfl (by decide)) (ma_nd_of (ks := [1, 2, 0]) rfl (by decide)) (ma_le_cons rfl (ma_le_cons rfl (ma_le_nil _))) h
          · intro x S9 hx
            exact hx.elim
        · intro hc
          rw [if_neg hc] at h
          refine zw_push hm_16 dX0_moveOlder_21 (v := .inr (.inr (some 82))) rfl ?_
          refine zw_gf hm_16 dX0_moveOlder_22 (v := .inr (.inr (some 69))) (zT_is (zT_pi hS1) s_82) (zT_t (zT_pi hS1) s_82) rfl f_1_80_1 (zT_f (zT_pi hS1) r_82_0) ?_
          refine zw_push hm_16 dX0_moveOlder_25 (v := .inr (.inr (some c3))) rfl ?_
          refine zw_push hm_16 dX0_moveOlder_26 (v := .inr (.inr (some 82))) rfl ?_
          refine zw_gf hm_16 dX0_moveOlder_27 (v := .inl (mI (ma_put S1 c3 5 (.inl ((mI S1 c3 5) + (1 : Int32)))) 82 6)) (zT_is (zT_pi hS1) s_82) (zT_t (zT_pi hS1) s_82) rfl f_1_28_1 rfl ?_
          refine zw_cv hm_16 dX0_moveOlder_30 v_1_156_7 hm_90 [.inl (mI (ma_put S1 c3 5 (.inl ((mI S1 c3 5) + (1 : Int32)))) 82 6), .inr (.inr (some c3))] [] rfl (zT_rt (zT_pi hS1) s_69 rfl) ⟨by omega, by omega⟩ rfl (zw_mono h (zv_go ?_ ?_))
          · intro S6 hv
            obtain ⟨hS6, h⟩ := hv
            refine zw_push hm_16 dX0_moveOlder_33 (v := .inr (.inr (some 82))) rfl ?_
            refine zw_stk hm_16 dX0_moveOlder_34 (st' := [.inr (.inr (some 82)), .inr (.inr (some 82))]) rfl rfl ?_
            refine zw_gf hm_16 dX0_moveOlder_35 (v := .inl (mI S6 82 6)) (zT_is hS6 s_82) (zT_t hS6 s_82) rfl f_1_28_1 rfl ?_
            refine zw_push hm_16 dX0_moveOlder_38 (v := .inr (.inr (some c3))) rfl ?_
            obtain ⟨hg, h⟩ := h
            refine zw_gf hm_16 dX0_moveOlder_39 (v := .inl (mI S6 c3 2)) (zT_tis hS6 hg) (zT_tt hS6 hg) rfl f_1_67_9 rfl ?_
            refine zw_stk hm_16 dX0_moveOlder_42 (st' := [.inl ((mI S6 82 6) + (mI S6 c3 2)), .inr (.inr (some 82))]) rfl rfl ?_
            refine zw_pf hm_16 dX0_moveOlder_43 (zT_is hS6 s_82) (zT_t hS6 s_82) p_1_28_1 zk_int ?_
            refine zw_goto hm_16 dX0_moveOlder_46 (t := 74) rfl ?_
            refine zw_vret hm_16 dX0_moveOlder_74 ?_
            show ma_wp X d w 15 62 [(2, .inr (.inr (some c3))), (0, .inr (.inr (some 82))), (1, .inl l1)] [] (ma_put S6 82 6 (.inl ((mI S6 82 6) + (mI S6 c3 2)))) _
            refine zw_sto hm_15 dX0_moveKept_62 [(1, .inl (l1 + (1 : Int32))), (2, .inr (.inr (some c3))), (0, .inr (.inr (some 82)))] rfl rfl rfl ?_
            refine zw_goto hm_15 dX0_moveKept_65 (t := 33) rfl ?_
            exact zw_sub (ma_nd_of (ks := [0, 1]) rfl (by decide)) (ma_nd_of (ks := [1, 2, 0]) rfl (by decide)) (ma_le_cons rfl (ma_le_cons rfl (ma_le_nil _))) h
          · intro x S9 hx
            exact hx.elim
    · intro x S9 hx
      exact ⟨by decide, hx⟩
theorem lp_15_82_33 {X : Nat × (Nat → Int32)} {d w : Nat} {f : Nat → Nat → Int32} {r : Nat → Nat → Option Nat} {C Z N : Nat} {Q : Option ma_V ⊕ Nat → ma_S → Prop} (hd : 3 ≤ d) (hw : 135 ≤ w) (K : ∀ S', zJ82 f r C Z N S' → Q (.inl none) S') : ∀ (n : Nat) (S : ma_S) (l1 : Int32), (512 - l1.toInt).toNat = n → zJ82 f r C Z N S → (0 ≤ l1.toInt) → ((mI S 82 6).toInt ≤ 1500 + 61 * l1.toInt) → ((mI S 82 8).toInt ≤ 3000 + 61 * l1.toInt) → ma_wp X d w 15 33 [(0, .inr (.inr (some 82))), (1, .inl l1)] [] S Q := by
  intro n
  induction n using Nat.strongRecOn with
  | _ n IH =>
    intro S l1 hmu hI  hi0 hi1 hi2
    refine g_15_82_33 l1 (by omega) (by omega) (zG_T hI) ?_
    have f1 := zG_s hI (0) (512) (c := 75) (k := 4) (by decide)
    have b2 := i_bd l1
    refine zd (fun h3 => ?_) (fun h3 => ?_)
    · skip
      have g4 := i_le h3
      exact K _ hI
    · skip
      have g5 := i_nle h3
      refine sp_124_75 (l1) (by omega) (by omega) (zJ82_dn hI)  (fun v2 S1 hL_S1 hq_v2 => zo_n ⟨zG_T hL_S1, ?_⟩)
      have hI_S1 := zJ82_up hI hL_S1
      refine ⟨fun _ => ?_, fun c3 hc => ?_⟩
      · skip
        first | have e6 : (l1 + (1 : Int32)).toInt = l1.toInt + (1) := i_addk rfl (by omega) (by omega) | have b7 := i_bd (l1 + (1 : Int32))
        have f8 := zG_s hI (0) (400000) (c := 82) (k := 6) (by decide)
        have q9 : (mI S1 82 6).toInt = (mI S 82 6).toInt := zG_zi hL_S1 rfl
        have f10 := zG_s hI_S1 (0) (400000) (c := 82) (k := 6) (by decide)
        have f11 := zG_s hI (0) (400000) (c := 82) (k := 8) (by decide)
        have q12 : (mI S1 82 8).toInt = (mI S 82 8).toInt := zG_zi hL_S1 rfl
        have f13 := zG_s hI_S1 (0) (400000) (c := 82) (k := 8) (by decide)
        exact IH _ (by omega) _ ((l1 + (1 : Int32))) rfl hI_S1 (by omega) (show (mI S1 82 6).toInt ≤ 1500 + 61 * ((l1 + (1 : Int32))).toInt from by omega) (show (mI S1 82 8).toInt ≤ 3000 + 61 * ((l1 + (1 : Int32))).toInt from by omega)
      · skip
        have th_c3 := hq_v2 c3 hc
        subst hc
        refine ⟨zG_n hI_S1 th_c3, ?_⟩
        refine ⟨zG_n hI_S1 th_c3, ?_⟩
        have hI14 : zJ82 f r C Z N (ma_put S1 c3 5 (.inl ((mI S1 c3 5) + (1 : Int32)))) := zG_tf hI_S1 th_c3.1 zJ82_t (by decide) (by decide) (zJ82_xt (S := S1) th_c3.1 (zG_x hI_S1)) (by decide) (by decide) (by decide)
        refine ⟨zG_n hI14 th_c3, ?_⟩
        have b15 := i_bd (mI (ma_put S1 c3 5 (.inl ((mI S1 c3 5) + (1 : Int32)))) c3 5)
        have b16 := i_bd (mI S 82 4)
        have q17 : (mI S1 82 4).toInt = (mI S 82 4).toInt := zG_zi hL_S1 rfl
        have b18 := i_bd (mI S1 82 4)
        have q19 : (mI (ma_put S1 c3 5 (.inl ((mI S1 c3 5) + (1 : Int32)))) 82 4).toInt = (mI S1 82 4).toInt := zp_th th_c3.1 (by decide)
        have b20 := i_bd (mI (ma_put S1 c3 5 (.inl ((mI S1 c3 5) + (1 : Int32)))) 82 4)
        refine zd (fun h21 => ?_) (fun h21 => ?_)
        · skip
          have g22 := i_lt h21
          have f23 := zG_s hI (0) (400000) (c := 82) (k := 8) (by decide)
          have q24 : (mI S1 82 8).toInt = (mI S 82 8).toInt := zG_zi hL_S1 rfl
          have f25 := zG_s hI_S1 (0) (400000) (c := 82) (k := 8) (by decide)
          have q26 : (mI (ma_put S1 c3 5 (.inl ((mI S1 c3 5) + (1 : Int32)))) 82 8).toInt = (mI S1 82 8).toInt := zp_th th_c3.1 (by decide)
          have f27 := zG_s hI14 (0) (400000) (c := 82) (k := 8) (by decide)
          refine sp_90_69 c3 ((mI (ma_put S1 c3 5 (.inl ((mI S1 c3 5) + (1 : Int32)))) 82 8)) (by omega) (by omega) (zJ82_dn hI14) th_c3 (by omega) (fun S4 hL_S4 => zv_n ⟨zG_T hL_S4, ?_⟩)
          have hI_S4 := zJ82_up hI14 hL_S4
          refine ⟨zG_n hI_S4 th_c3, ?_⟩
          have q29 : (mI S4 82 8).toInt = (mI (ma_put S1 c3 5 (.inl ((mI S1 c3 5) + (1 : Int32)))) 82 8).toInt := zG_zi hL_S4 rfl
          have f30 := zG_s hI_S4 (0) (400000) (c := 82) (k := 8) (by decide)
          have f31 := zG_th hI_S4 th_c3
          first | have e32 : ((mI S4 82 8) + (mI S4 c3 2)).toInt = (mI S4 82 8).toInt + (mI S4 c3 2).toInt := i_add (by omega) (by omega) | have b33 := i_bd ((mI S4 82 8) + (mI S4 c3 2))
          have hI28 : zJ82 f r C Z N (ma_put S4 82 8 (.inl ((mI S4 82 8) + (mI S4 c3 2)))) := zG_sp hI_S4 (0) (400000) rfl (by decide) (by decide) (by decide) (show zJ82_x (mI S4) from zG_x hI_S4) (by omega) (by omega)
          first | have e34 : (l1 + (1 : Int32)).toInt = l1.toInt + (1) := i_addk rfl (by omega) (by omega) | have b35 := i_bd (l1 + (1 : Int32))
          have f36 := zG_s hI (0) (400000) (c := 82) (k := 6) (by decide)
          have q37 : (mI S1 82 6).toInt = (mI S 82 6).toInt := zG_zi hL_S1 rfl
          have f38 := zG_s hI_S1 (0) (400000) (c := 82) (k := 6) (by decide)
          have q39 : (mI (ma_put S1 c3 5 (.inl ((mI S1 c3 5) + (1 : Int32)))) 82 6).toInt = (mI S1 82 6).toInt := zp_th th_c3.1 (by decide)
          have f40 := zG_s hI14 (0) (400000) (c := 82) (k := 6) (by decide)
          have q41 : (mI S4 82 6).toInt = (mI (ma_put S1 c3 5 (.inl ((mI S1 c3 5) + (1 : Int32)))) 82 6).toInt := zG_zi hL_S4 rfl
          have f42 := zG_s hI_S4 (0) (400000) (c := 82) (k := 6) (by decide)
          exact IH _ (by omega) _ ((l1 + (1 : Int32))) rfl hI28 (by omega) (show (mI S4 82 6).toInt ≤ 1500 + 61 * ((l1 + (1 : Int32))).toInt from by omega) (show ((mI S4 82 8) + (mI S4 c3 2)).toInt ≤ 3000 + 61 * ((l1 + (1 : Int32))).toInt from by omega)
        · skip
          have g43 := i_nlt h21
          have f44 := zG_s hI (0) (400000) (c := 82) (k := 6) (by decide)
          have q45 : (mI S1 82 6).toInt = (mI S 82 6).toInt := zG_zi hL_S1 rfl
          have f46 := zG_s hI_S1 (0) (400000) (c := 82) (k := 6) (by decide)
          have q47 : (mI (ma_put S1 c3 5 (.inl ((mI S1 c3 5) + (1 : Int32)))) 82 6).toInt = (mI S1 82 6).toInt := zp_th th_c3.1 (by decide)
          have f48 := zG_s hI14 (0) (400000) (c := 82) (k := 6) (by decide)
          refine sp_90_69 c3 ((mI (ma_put S1 c3 5 (.inl ((mI S1 c3 5) + (1 : Int32)))) 82 6)) (by omega) (by omega) (zJ82_dn hI14) th_c3 (by omega) (fun S6 hL_S6 => zv_n ⟨zG_T hL_S6, ?_⟩)
          have hI_S6 := zJ82_up hI14 hL_S6
          refine ⟨zG_n hI_S6 th_c3, ?_⟩
          have q50 : (mI S6 82 6).toInt = (mI (ma_put S1 c3 5 (.inl ((mI S1 c3 5) + (1 : Int32)))) 82 6).toInt := zG_zi hL_S6 rfl
          have f51 := zG_s hI_S6 (0) (400000) (c := 82) (k := 6) (by decide)
          have f52 := zG_th hI_S6 th_c3
          first | have e53 : ((mI S6 82 6) + (mI S6 c3 2)).toInt = (mI S6 82 6).toInt + (mI S6 c3 2).toInt := i_add (by omega) (by omega) | have b54 := i_bd ((mI S6 82 6) + (mI S6 c3 2))
          have hI49 : zJ82 f r C Z N (ma_put S6 82 6 (.inl ((mI S6 82 6) + (mI S6 c3 2)))) := zG_sp hI_S6 (0) (400000) rfl (by decide) (by decide) (by decide) (show zJ82_x (mI S6) from zG_x hI_S6) (by omega) (by omega)
          first | have e55 : (l1 + (1 : Int32)).toInt = l1.toInt + (1) := i_addk rfl (by omega) (by omega) | have b56 := i_bd (l1 + (1 : Int32))
          have f57 := zG_s hI (0) (400000) (c := 82) (k := 8) (by decide)
          have q58 : (mI S1 82 8).toInt = (mI S 82 8).toInt := zG_zi hL_S1 rfl
          have f59 := zG_s hI_S1 (0) (400000) (c := 82) (k := 8) (by decide)
          have q60 : (mI (ma_put S1 c3 5 (.inl ((mI S1 c3 5) + (1 : Int32)))) 82 8).toInt = (mI S1 82 8).toInt := zp_th th_c3.1 (by decide)
          have f61 := zG_s hI14 (0) (400000) (c := 82) (k := 8) (by decide)
          have q62 : (mI S6 82 8).toInt = (mI (ma_put S1 c3 5 (.inl ((mI S1 c3 5) + (1 : Int32)))) 82 8).toInt := zG_zi hL_S6 rfl
          have f63 := zG_s hI_S6 (0) (400000) (c := 82) (k := 8) (by decide)
          exact IH _ (by omega) _ ((l1 + (1 : Int32))) rfl hI49 (by omega) (show ((mI S6 82 6) + (mI S6 c3 2)).toInt ≤ 1500 + 61 * ((l1 + (1 : Int32))).toInt from by omega) (show (mI S6 82 8).toInt ≤ 3000 + 61 * ((l1 + (1 : Int32))).toInt from by omega)
theorem sp_15_82 {X : Nat × (Nat → Int32)} {d w : Nat} {f : Nat → Nat → Int32} {r : Nat → Nat → Option Nat} {C Z N : Nat} {Q : Option ma_V ⊕ Nat → ma_S → Prop} {S : ma_S}  (hd : 3 ≤ d) (hw : 135 ≤ w) (hI : zJ82 f r C Z N S) (hpre0 : (mI S 82 6).toInt ≤ 1500) (K : ∀ S', zJ82 f r C Z N S' → Q (.inl none) S') : ma_wp X d w 15 0 [(0, .inr (.inr (some 82)))] [] S Q := by
  refine g_15_82_0  (by omega) (by omega) (zG_T hI) ?_
  have x2 : (mI S 82 3).toInt ≤ (mI S 82 7).toInt ∧ (mI S 82 7).toInt ≤ (mI S 82 3).toInt + (mI S 82 2).toInt := zG_x hI
  have f3 := zG_s hI (0) (1500) (c := 82) (k := 3) (by decide)
  have f4 := zG_s hI (0) (1500) (c := 82) (k := 2) (by decide)
  first | have e5 : ((mI S 82 3) + (mI S 82 2)).toInt = (mI S 82 3).toInt + (mI S 82 2).toInt := i_add (by omega) (by omega) | have b6 := i_bd ((mI S 82 3) + (mI S 82 2))
  first | have e7 : (((mI S 82 3) + (mI S 82 2)) + (mI S 82 3)).toInt = ((mI S 82 3) + (mI S 82 2)).toInt + (mI S 82 3).toInt := i_add (by omega) (by omega) | have b8 := i_bd (((mI S 82 3) + (mI S 82 2)) + (mI S 82 3))
  have f9 := zG_s hI (0) (3000) (c := 82) (k := 7) (by decide)
  first | have e10 : ((((mI S 82 3) + (mI S 82 2)) + (mI S 82 3)) - (mI S 82 7)).toInt = (((mI S 82 3) + (mI S 82 2)) + (mI S 82 3)).toInt - (mI S 82 7).toInt := i_sub (by omega) (by omega) | have b11 := i_bd ((((mI S 82 3) + (mI S 82 2)) + (mI S 82 3)) - (mI S 82 7))
  have hI1 : zJ82 f r C Z N (ma_put S 82 7 (.inl ((((mI S 82 3) + (mI S 82 2)) + (mI S 82 3)) - (mI S 82 7)))) := zG_sp hI (0) (3000) rfl (by decide) (by decide) (by decide) (show (mI S 82 3).toInt ≤ ((((mI S 82 3) + (mI S 82 2)) + (mI S 82 3)) - (mI S 82 7)).toInt ∧ ((((mI S 82 3) + (mI S 82 2)) + (mI S 82 3)) - (mI S 82 7)).toInt ≤ (mI S 82 3).toInt + (mI S 82 2).toInt from by omega) (by omega) (by omega)
  have hI12 : zJ82 f r C Z N (ma_put (ma_put S 82 7 (.inl ((((mI S 82 3) + (mI S 82 2)) + (mI S 82 3)) - (mI S 82 7)))) 82 8 (.inl ((((mI S 82 3) + (mI S 82 2)) + (mI S 82 3)) - (mI S 82 7)))) := zG_sp hI1 (0) (400000) rfl (by decide) (by decide) (by decide) (show zJ82_x (mI (ma_put S 82 7 (.inl ((((mI S 82 3) + (mI S 82 2)) + (mI S 82 3)) - (mI S 82 7))))) from zG_x hI1) (by omega) (by omega)
  have li13 : (0 : Int32).toInt = 0 := rfl
  have f14 := zG_s hI (0) (400000) (c := 82) (k := 6) (by decide)
  exact lp_15_82_33 (by omega) (by omega) K _ _ ((0 : Int32)) rfl hI12 (by omega) (show (mI S 82 6).toInt ≤ 1500 + 61 * ((0 : Int32)).toInt from by omega) (show ((((mI S 82 3) + (mI S 82 2)) + (mI S 82 3)) - (mI S 82 7)).toInt ≤ 3000 + 61 * ((0 : Int32)).toInt from by omega)
theorem g_11_82_0 {X : Nat × (Nat → Int32)} {d w : Nat} {S : ma_S} {Q : Option ma_V ⊕ Nat → ma_S → Prop}  (hd : 4 ≤ d) (hw : 159 ≤ w) (hS : zT S) (h : ma_wp X (d - 1) (w - 23) 12 0 [(0, .inr (.inr (some 82)))] [] S (zi (fun v2 S1 => zT S1 ∧ (if ((mI S 82 6) + v2) ≤ (mI S1 82 3) then (ma_wp X (d - 1) (w - 23) 12 0 [(0, .inr (.inr (some 82)))] [] S1 (zi (fun v4 S3 => zT S3 ∧ (if ((mI S1 82 6) + v4) ≤ (mI S3 82 3) then (ma_wp X (d - 1) (w - 21) 117 0 [(0, .inr (.inr (some 75))), (1, .inl (mI S3 82 3))] [] S3 (zv (fun S5 => zT S5 ∧ (ma_wp X (d - 1) (w - 22) 118 0 [(0, .inr (.inr (some 75)))] [] S5 (zv (fun S7 => zT S7 ∧ (ma_wp X (d - 1) (w - 22) 13 0 [(0, .inr (.inr (some 82)))] [] S7 (zv (fun S9 => zT S9 ∧ (ma_wp X (d - 1) (w - 24) 120 0 [(0, .inr (.inr (some 75))), (1, .inl (512 : Int32))] [] S9 (zi (fun v12 S11 => zT S11 ∧ (ma_wp X (d - 1) (w - 23) 83 0 [(0, .inr (.inr (some 69))), (1, .inr (.inr (some 75)))] [] S11 (zv (fun S13 => zT S13 ∧ (ma_wp X (d - 1) (w - 24) 86 0 [(0, .inr (.inr (some 69))), (1, .inr (.inr (some 75)))] [] S13 (zi (fun v16 S15 => zT S15 ∧ (ma_wp X (d - 1) (w - 22) 15 0 [(0, .inr (.inr (some 82)))] [] S15 (zv (fun S17 => zT S17 ∧ (ma_wp X (d - 1) (w - 23) 6 0 [(0, .inr (.inr (some 82)))] [] S17 (zv (fun S19 => zT S19 ∧ (Q (.inl (some (.inl ((0 : Int32) + v16)))) S19)) (fun x S9 => Q (.inr x) S9)))) (fun x S9 => Q (.inr x) S9)))) (fun x S9 => Q (.inr x) S9)))) (fun x S9 => Q (.inr x) S9)))) (fun x S9 => Q (.inr x) S9)))) (fun x S9 => Q (.inr x) S9)))) (fun x S9 => Q (.inr x) S9)))) (fun x S9 => Q (.inr x) S9))) else (Q (.inl (some (.inl (0 : Int32)))) S3))) (fun x S9 => Q (.inr x) S9))) else (ma_wp X (d - 1) (w - 21) 5 0 [(0, .inr (.inr (some 82)))] [] S1 (zi (fun v22 S21 => zT S21 ∧ (ma_wp X (d - 1) (w - 23) 12 0 [(0, .inr (.inr (some 82)))] [] S21 (zi (fun v24 S23 => zT S23 ∧ (if ((mI S21 82 6) + v24) ≤ (mI S23 82 3) then (ma_wp X (d - 1) (w - 21) 117 0 [(0, .inr (.inr (some 75))), (1, .inl (mI S23 82 3))] [] S23 (zv (fun S25 => zT S25 ∧ (ma_wp X (d - 1) (w - 22) 118 0 [(0, .inr (.inr (some 75)))] [] S25 (zv (fun S27 => zT S27 ∧ (ma_wp X (d - 1) (w - 22) 13 0 [(0, .inr (.inr (some 82)))] [] S27 (zv (fun S29 => zT S29 ∧ (ma_wp X (d - 1) (w - 24) 120 0 [(0, .inr (.inr (some 75))), (1, .inl (512 : Int32))] [] S29 (zi (fun v32 S31 => zT S31 ∧ (ma_wp X (d - 1) (w - 23) 83 0 [(0, .inr (.inr (some 69))), (1, .inr (.inr (some 75)))] [] S31 (zv (fun S33 => zT S33 ∧ (ma_wp X (d - 1) (w - 24) 86 0 [(0, .inr (.inr (some 69))), (1, .inr (.inr (some 75)))] [] S33 (zi (fun v36 S35 => zT S35 ∧ (ma_wp X (d - 1) (w - 22) 15 0 [(0, .inr (.inr (some 82)))] [] S35 (zv (fun S37 => zT S37 ∧ (ma_wp X (d - 1) (w - 23) 6 0 [(0, .inr (.inr (some 82)))] [] S37 (zv (fun S39 => zT S39 ∧ (Q (.inl (some (.inl (v22 + v36)))) S39)) (fun x S9 => Q (.inr x) S9)))) (fun x S9 => Q (.inr x) S9)))) (fun x S9 => Q (.inr x) S9)))) (fun x S9 => Q (.inr x) S9)))) (fun x S9 => Q (.inr x) S9)))) (fun x S9 => Q (.inr x) S9)))) (fun x S9 => Q (.inr x) S9)))) (fun x S9 => Q (.inr x) S9))) else (Q (.inl (some (.inl v22))) S23))) (fun x S9 => Q (.inr x) S9)))) (fun x S9 => Q (.inr x) S9))))) (fun x S9 => Q (.inr x) S9))) : ma_wp X d w 11 0 [(0, .inr (.inr (some 82)))] [] S Q := by
  refine zw_push hm_11 dX0_cleanYoung_0 (v := .inl (0 : Int32)) rfl ?_
  refine zw_sto hm_11 dX0_cleanYoung_1 [(1, .inl (0 : Int32)), (0, .inr (.inr (some 82)))] rfl rfl rfl ?_
  refine zw_push hm_11 dX0_cleanYoung_2 (v := .inr (.inr (some 82))) rfl ?_
  refine zw_gf hm_11 dX0_cleanYoung_3 (v := .inl (mI S 82 6)) (zT_is hS s_82) (zT_t hS s_82) rfl f_1_28_1 rfl ?_
  refine zw_push hm_11 dX0_cleanYoung_6 (v := .inr (.inr (some 82))) rfl ?_
  refine zw_cv hm_11 dX0_cleanYoung_7 v_1_100_1 hm_12 [] [.inl (mI S 82 6)] rfl (zT_rt hS s_82 rfl) ⟨by omega, by omega⟩ rfl (zw_mono h (zi_go ?_ ?_))
  · intro v2 S1 hv
    obtain ⟨hS1, h⟩ := hv
    refine zw_stk hm_11 dX0_cleanYoung_10 (st' := [.inl ((mI S 82 6) + v2)]) rfl rfl ?_
    refine zw_push hm_11 dX0_cleanYoung_11 (v := .inr (.inr (some 82))) rfl ?_
    refine zw_gf hm_11 dX0_cleanYoung_12 (v := .inl (mI S1 82 3)) (zT_is hS1 s_82) (zT_t hS1 s_82) rfl f_1_19_1 rfl ?_
    refine zw_if2 hm_11 dX0_cleanYoung_15 (t := 23) rfl zc2_le ?_ ?_
    · intro hc
      rw [if_pos hc] at h
      refine zw_push hm_11 dX0_cleanYoung_23 (v := .inr (.inr (some 82))) rfl ?_
      refine zw_gf hm_11 dX0_cleanYoung_24 (v := .inl (mI S1 82 6)) (zT_is hS1 s_82) (zT_t hS1 s_82) rfl f_1_28_1 rfl ?_
      refine zw_push hm_11 dX0_cleanYoung_27 (v := .inr (.inr (some 82))) rfl ?_
      refine zw_cv hm_11 dX0_cleanYoung_28 v_1_100_1 hm_12 [] [.inl (mI S1 82 6)] rfl (zT_rt hS1 s_82 rfl) ⟨by omega, by omega⟩ rfl (zw_mono h (zi_go ?_ ?_))
      · intro v4 S3 hv
        obtain ⟨hS3, h⟩ := hv
        refine zw_stk hm_11 dX0_cleanYoung_31 (st' := [.inl ((mI S1 82 6) + v4)]) rfl rfl ?_
        refine zw_push hm_11 dX0_cleanYoung_32 (v := .inr (.inr (some 82))) rfl ?_
        refine zw_gf hm_11 dX0_cleanYoung_33 (v := .inl (mI S3 82 3)) (zT_is hS3 s_82) (zT_t hS3 s_82) rfl f_1_19_1 rfl ?_
        refine zw_if2 hm_11 dX0_cleanYoung_36 (t := 41) rfl zc2_le ?_ ?_
        · intro hc
          rw [if_pos hc] at h
          refine zw_push hm_11 dX0_cleanYoung_41 (v := .inr (.inr (some 82))) rfl ?_
          refine zw_gf hm_11 dX0_cleanYoung_42 (v := .inr (.inr (some 75))) (zT_is hS3 s_82) (zT_t hS3 s_82) rfl f_1_70_1 (zT_f hS3 r_82_1) ?_
          refine zw_push hm_11 dX0_cleanYoung_45 (v := .inr (.inr (some 82))) rfl ?_
          refine zw_gf hm_11 dX0_cleanYoung_46 (v := .inl (mI S3 82 3)) (zT_is hS3 s_82) (zT_t hS3 s_82) rfl f_1_19_1 rfl ?_
          refine zw_cv hm_11 dX0_cleanYoung_49 v_1_103_10 hm_117 [.inl (mI S3 82 3)] [] rfl (zT_rt hS3 s_75 rfl) ⟨by omega, by omega⟩ rfl (zw_mono h (zv_go ?_ ?_))
          · intro S5 hv
            obtain ⟨hS5, h⟩ := hv
            refine zw_push hm_11 dX0_cleanYoung_52 (v := .inr (.inr (some 82))) rfl ?_
            refine zw_gf hm_11 dX0_cleanYoung_53 (v := .inr (.inr (some 75))) (zT_is hS5 s_82) (zT_t hS5 s_82) rfl f_1_70_1 (zT_f hS5 r_82_1) ?_
            refine zw_cv hm_11 dX0_cleanYoung_56 v_1_107_10 hm_118 [] [] rfl (zT_rt hS5 s_75 rfl) ⟨by omega, by omega⟩ rfl (zw_mono h (zv_go ?_ ?_))
            · intro S7 hv
              obtain ⟨hS7, h⟩ := hv
              refine zw_push hm_11 dX0_cleanYoung_59 (v := .inr (.inr (some 82))) rfl ?_
              refine zw_cv hm_11 dX0_cleanYoung_60 v_1_110_1 hm_13 [] [] rfl (zT_rt hS7 s_82 rfl) ⟨by omega, by omega⟩ rfl (zw_mono h (zv_go ?_ ?_))
              · intro S9 hv
                obtain ⟨hS9, h⟩ := hv
                refine zw_push hm_11 dX0_cleanYoung_63 (v := .inr (.inr (some 82))) rfl ?_
                refine zw_gf hm_11 dX0_cleanYoung_64 (v := .inr (.inr (some 75))) (zT_is hS9 s_82) (zT_t hS9 s_82) rfl f_1_70_1 (zT_f hS9 r_82_1) ?_
                refine zw_push hm_11 dX0_cleanYoung_67 (v := .inl (512 : Int32)) rfl ?_
                refine zw_cv hm_11 dX0_cleanYoung_70 v_1_113_10 hm_120 [.inl (512 : Int32)] [] rfl (zT_rt hS9 s_75 rfl) ⟨by omega, by omega⟩ rfl (zw_mono h (zi_go ?_ ?_))
                · intro v12 S11 hv
                  obtain ⟨hS11, h⟩ := hv
                  refine zw_stk hm_11 dX0_cleanYoung_73 (st' := []) rfl rfl ?_
                  refine zw_push hm_11 dX0_cleanYoung_74 (v := .inr (.inr (some 82))) rfl ?_
                  refine zw_gf hm_11 dX0_cleanYoung_75 (v := .inr (.inr (some 69))) (zT_is hS11 s_82) (zT_t hS11 s_82) rfl f_1_80_1 (zT_f hS11 r_82_0) ?_
                  refine zw_push hm_11 dX0_cleanYoung_78 (v := .inr (.inr (some 82))) rfl ?_
                  refine zw_gf hm_11 dX0_cleanYoung_79 (v := .inr (.inr (some 75))) (zT_is hS11 s_82) (zT_t hS11 s_82) rfl f_1_70_1 (zT_f hS11 r_82_1) ?_
                  refine zw_cv hm_11 dX0_cleanYoung_82 v_1_84_7 hm_83 [.inr (.inr (some 75))] [] rfl (zT_rt hS11 s_69 rfl) ⟨by omega, by omega⟩ rfl (zw_mono h (zv_go ?_ ?_))
                  · intro S13 hv
                    obtain ⟨hS13, h⟩ := hv
                    refine zw_push hm_11 dX0_cleanYoung_85 (v := .inl (0 : Int32)) rfl ?_
                    refine zw_push hm_11 dX0_cleanYoung_86 (v := .inr (.inr (some 82))) rfl ?_
                    refine zw_gf hm_11 dX0_cleanYoung_87 (v := .inr (.inr (some 69))) (zT_is hS13 s_82) (zT_t hS13 s_82) rfl f_1_80_1 (zT_f hS13 r_82_0) ?_
                    refine zw_push hm_11 dX0_cleanYoung_90 (v := .inr (.inr (some 82))) rfl ?_
                    refine zw_gf hm_11 dX0_cleanYoung_91 (v := .inr (.inr (some 75))) (zT_is hS13 s_82) (zT_t hS13 s_82) rfl f_1_70_1 (zT_f hS13 r_82_1) ?_
                    refine zw_cv hm_11 dX0_cleanYoung_94 v_1_90_7 hm_86 [.inr (.inr (some 75))] [.inl (0 : Int32)] rfl (zT_rt hS13 s_69 rfl) ⟨by omega, by omega⟩ rfl (zw_mono h (zi_go ?_ ?_))
                    · intro v16 S15 hv
                      obtain ⟨hS15, h⟩ := hv
                      refine zw_stk hm_11 dX0_cleanYoung_97 (st' := [.inl ((0 : Int32) + v16)]) rfl rfl ?_
                      refine zw_sto hm_11 dX0_cleanYoung_98 [(1, .inl ((0 : Int32) + v16)), (0, .inr (.inr (some 82)))] rfl rfl rfl ?_
                      refine zw_push hm_11 dX0_cleanYoung_99 (v := .inr (.inr (some 82))) rfl ?_
                      refine zw_cv hm_11 dX0_cleanYoung_100 v_1_116_1 hm_15 [] [] rfl (zT_rt hS15 s_82 rfl) ⟨by omega, by omega⟩ rfl (zw_mono h (zv_go ?_ ?_))
                      · intro S17 hv
                        obtain ⟨hS17, h⟩ := hv
                        refine zw_push hm_11 dX0_cleanYoung_103 (v := .inr (.inr (some 82))) rfl ?_
                        refine zw_cv hm_11 dX0_cleanYoung_104 v_1_97_1 hm_6 [] [] rfl (zT_rt hS17 s_82 rfl) ⟨by omega, by omega⟩ rfl (zw_mono h (zv_go ?_ ?_))
                        · intro S19 hv
                          obtain ⟨hS19, h⟩ := hv
                          refine zw_push hm_11 dX0_cleanYoung_107 (v := .inl ((0 : Int32) + v16)) rfl ?_
                          exact zw_iret hm_11 dX0_cleanYoung_108 h
                        · intro x S9 hx
                          exact ⟨by decide, hx⟩
                      · intro x S9 hx
                        exact ⟨by decide, hx⟩
                    · intro x S9 hx
                      exact ⟨by decide, hx⟩
                  · intro x S9 hx
                    exact ⟨by decide, hx⟩
                · intro x S9 hx
                  exact ⟨by decide, hx⟩
              · intro x S9 hx
                exact ⟨by decide, hx⟩
            · intro x S9 hx
              exact ⟨by decide, hx⟩
          · intro x S9 hx
            exact ⟨by decide, hx⟩
        · intro hc
          rw [if_neg hc] at h
          refine zw_push hm_11 dX0_cleanYoung_39 (v := .inl (0 : Int32)) rfl ?_
          exact zw_iret hm_11 dX0_cleanYoung_40 h
      · intro x S9 hx
        exact ⟨by decide, hx⟩
    · intro hc
      rw [if_neg hc] at h
      refine zw_push hm_11 dX0_cleanYoung_18 (v := .inr (.inr (some 82))) rfl ?_
      refine zw_cv hm_11 dX0_cleanYoung_19 v_1_55_1 hm_5 [] [] rfl (zT_rt hS1 s_82 rfl) ⟨by omega, by omega⟩ rfl (zw_mono h (zi_go ?_ ?_))
      · intro v22 S21 hv
        obtain ⟨hS21, h⟩ := hv
        refine zw_sto hm_11 dX0_cleanYoung_22 [(1, .inl v22), (0, .inr (.inr (some 82)))] rfl rfl rfl ?_
        refine zw_push hm_11 dX0_cleanYoung_23 (v := .inr (.inr (some 82))) rfl ?_
        refine zw_gf hm_11 dX0_cleanYoung_24 (v := .inl (mI S21 82 6)) (zT_is hS21 s_82) (zT_t hS21 s_82) rfl f_1_28_1 rfl ?_
        refine zw_push hm_11 dX0_cleanYoung_27 (v := .inr (.inr (some 82))) rfl ?_
        refine zw_cv hm_11 dX0_cleanYoung_28 v_1_100_1 hm_12 [] [.inl (mI S21 82 6)] rfl (zT_rt hS21 s_82 rfl) ⟨by omega, by omega⟩ rfl (zw_mono h (zi_go ?_ ?_))
        · intro v24 S23 hv
          obtain ⟨hS23, h⟩ := hv
          refine zw_stk hm_11 dX0_cleanYoung_31 (st' := [.inl ((mI S21 82 6) + v24)]) rfl rfl ?_
          refine zw_push hm_11 dX0_cleanYoung_32 (v := .inr (.inr (some 82))) rfl ?_
          refine zw_gf hm_11 dX0_cleanYoung_33 (v := .inl (mI S23 82 3)) (zT_is hS23 s_82) (zT_t hS23 s_82) rfl f_1_19_1 rfl ?_
          refine zw_if2 hm_11 dX0_cleanYoung_36 (t := 41) rfl zc2_le ?_ ?_
          · intro hc
            rw [if_pos hc] at h
            refine zw_push hm_11 dX0_cleanYoung_41 (v := .inr (.inr (some 82))) rfl ?_
            refine zw_gf hm_11 dX0_cleanYoung_42 (v := .inr (.inr (some 75))) (zT_is hS23 s_82) (zT_t hS23 s_82) rfl f_1_70_1 (zT_f hS23 r_82_1) ?_
            refine zw_push hm_11 dX0_cleanYoung_45 (v := .inr (.inr (some 82))) rfl ?_
            refine zw_gf hm_11 dX0_cleanYoung_46 (v := .inl (mI S23 82 3)) (zT_is hS23 s_82) (zT_t hS23 s_82) rfl f_1_19_1 rfl ?_
            refine zw_cv hm_11 dX0_cleanYoung_49 v_1_103_10 hm_117 [.inl (mI S23 82 3)] [] rfl (zT_rt hS23 s_75 rfl) ⟨by omega, by omega⟩ rfl (zw_mono h (zv_go ?_ ?_))
            · intro S25 hv
              obtain ⟨hS25, h⟩ := hv
              refine zw_push hm_11 dX0_cleanYoung_52 (v := .inr (.inr (some 82))) rfl ?_
              refine zw_gf hm_11 dX0_cleanYoung_53 (v := .inr (.inr (some 75))) (zT_is hS25 s_82) (zT_t hS25 s_82) rfl f_1_70_1 (zT_f hS25 r_82_1) ?_
              refine zw_cv hm_11 dX0_cleanYoung_56 v_1_107_10 hm_118 [] [] rfl (zT_rt hS25 s_75 rfl) ⟨by omega, by omega⟩ rfl (zw_mono h (zv_go ?_ ?_))
              · intro S27 hv
                obtain ⟨hS27, h⟩ := hv
                refine zw_push hm_11 dX0_cleanYoung_59 (v := .inr (.inr (some 82))) rfl ?_
                refine zw_cv hm_11 dX0_cleanYoung_60 v_1_110_1 hm_13 [] [] rfl (zT_rt hS27 s_82 rfl) ⟨by omega, by omega⟩ rfl (zw_mono h (zv_go ?_ ?_))
                · intro S29 hv
                  obtain ⟨hS29, h⟩ := hv
                  refine zw_push hm_11 dX0_cleanYoung_63 (v := .inr (.inr (some 82))) rfl ?_
                  refine zw_gf hm_11 dX0_cleanYoung_64 (v := .inr (.inr (some 75))) (zT_is hS29 s_82) (zT_t hS29 s_82) rfl f_1_70_1 (zT_f hS29 r_82_1) ?_
                  refine zw_push hm_11 dX0_cleanYoung_67 (v := .inl (512 : Int32)) rfl ?_
                  refine zw_cv hm_11 dX0_cleanYoung_70 v_1_113_10 hm_120 [.inl (512 : Int32)] [] rfl (zT_rt hS29 s_75 rfl) ⟨by omega, by omega⟩ rfl (zw_mono h (zi_go ?_ ?_))
                  · intro v32 S31 hv
                    obtain ⟨hS31, h⟩ := hv
                    refine zw_stk hm_11 dX0_cleanYoung_73 (st' := []) rfl rfl ?_
                    refine zw_push hm_11 dX0_cleanYoung_74 (v := .inr (.inr (some 82))) rfl ?_
                    refine zw_gf hm_11 dX0_cleanYoung_75 (v := .inr (.inr (some 69))) (zT_is hS31 s_82) (zT_t hS31 s_82) rfl f_1_80_1 (zT_f hS31 r_82_0) ?_
                    refine zw_push hm_11 dX0_cleanYoung_78 (v := .inr (.inr (some 82))) rfl ?_
                    refine zw_gf hm_11 dX0_cleanYoung_79 (v := .inr (.inr (some 75))) (zT_is hS31 s_82) (zT_t hS31 s_82) rfl f_1_70_1 (zT_f hS31 r_82_1) ?_
                    refine zw_cv hm_11 dX0_cleanYoung_82 v_1_84_7 hm_83 [.inr (.inr (some 75))] [] rfl (zT_rt hS31 s_69 rfl) ⟨by omega, by omega⟩ rfl (zw_mono h (zv_go ?_ ?_))
                    · intro S33 hv
                      obtain ⟨hS33, h⟩ := hv
                      refine zw_push hm_11 dX0_cleanYoung_85 (v := .inl v22) rfl ?_
                      refine zw_push hm_11 dX0_cleanYoung_86 (v := .inr (.inr (some 82))) rfl ?_
                      refine zw_gf hm_11 dX0_cleanYoung_87 (v := .inr (.inr (some 69))) (zT_is hS33 s_82) (zT_t hS33 s_82) rfl f_1_80_1 (zT_f hS33 r_82_0) ?_
                      refine zw_push hm_11 dX0_cleanYoung_90 (v := .inr (.inr (some 82))) rfl ?_
                      refine zw_gf hm_11 dX0_cleanYoung_91 (v := .inr (.inr (some 75))) (zT_is hS33 s_82) (zT_t hS33 s_82) rfl f_1_70_1 (zT_f hS33 r_82_1) ?_
                      refine zw_cv hm_11 dX0_cleanYoung_94 v_1_90_7 hm_86 [.inr (.inr (some 75))] [.inl v22] rfl (zT_rt hS33 s_69 rfl) ⟨by omega, by omega⟩ rfl (zw_mono h (zi_go ?_ ?_))
                      · intro v36 S35 hv
                        obtain ⟨hS35, h⟩ := hv
                        refine zw_stk hm_11 dX0_cleanYoung_97 (st' := [.inl (v22 + v36)]) rfl rfl ?_
                        refine zw_sto hm_11 dX0_cleanYoung_98 [(1, .inl (v22 + v36)), (0, .inr (.inr (some 82)))] rfl rfl rfl ?_
                        refine zw_push hm_11 dX0_cleanYoung_99 (v := .inr (.inr (some 82))) rfl ?_
                        refine zw_cv hm_11 dX0_cleanYoung_100 v_1_116_1 hm_15 [] [] rfl (zT_rt hS35 s_82 rfl) ⟨by omega, by omega⟩ rfl (zw_mono h (zv_go ?_ ?_))
                        · intro S37 hv
                          obtain ⟨hS37, h⟩ := hv
                          refine zw_push hm_11 dX0_cleanYoung_103 (v := .inr (.inr (some 82))) rfl ?_
                          refine zw_cv hm_11 dX0_cleanYoung_104 v_1_97_1 hm_6 [] [] rfl (zT_rt hS37 s_82 rfl) ⟨by omega, by omega⟩ rfl (zw_mono h (zv_go ?_ ?_))
                          · intro S39 hv
                            obtain ⟨hS39, h⟩ := hv
                            refine zw_push hm_11 dX0_cleanYoung_107 (v := .inl (v22 + v36)) rfl ?_
                            exact zw_iret hm_11 dX0_cleanYoung_108 h
                          · intro x S9 hx
                            exact ⟨by decide, hx⟩
                        · intro x S9 hx
                          exact ⟨by decide, hx⟩
                      · intro x S9 hx
                        exact ⟨by decide, hx⟩
                    · intro x S9 hx
                      exact ⟨by decide, hx⟩
                  · intro x S9 hx
                    exact ⟨by decide, hx⟩
                · intro x S9 hx
                  exact ⟨by decide, hx⟩
              · intro x S9 hx
                exact ⟨by decide, hx⟩
            · intro x S9 hx
              exact ⟨by decide, hx⟩
          · intro hc
            rw [if_neg hc] at h
            refine zw_push hm_11 dX0_cleanYoung_39 (v := .inl v22) rfl ?_
            exact zw_iret hm_11 dX0_cleanYoung_40 h
        · intro x S9 hx
          exact ⟨by decide, hx⟩
      · intro x S9 hx
        exact ⟨by decide, hx⟩
  · intro x S9 hx
    exact ⟨by decide, hx⟩
theorem sp_11_82 {X : Nat × (Nat → Int32)} {d w : Nat} {f : Nat → Nat → Int32} {r : Nat → Nat → Option Nat} {C Z N : Nat} {Q : Option ma_V ⊕ Nat → ma_S → Prop} {S : ma_S}  (hd : 4 ≤ d) (hw : 159 ≤ w) (hI : zJ82 f r C Z N S)  (K : ∀ v S', zJ82 f r C Z N S' → (True) → Q (.inl (some (.inl v))) S') : ma_wp X d w 11 0 [(0, .inr (.inr (some 82)))] [] S Q := by
  refine g_11_82_0  (by omega) (by omega) (zG_T hI) ?_
  refine sp_12_82  (by omega) (by omega) (zJ82_dn hI)  (fun v2 S1 hL_S1 hp_v2 => zi_n ⟨zG_T hL_S1, ?_⟩)
  have hI_S1 := zJ82_up hI hL_S1
  have f1 := zG_s hI (0) (400000) (c := 82) (k := 6) (by decide)
  have b2 := i_bd v2
  first | have e3 : ((mI S 82 6) + v2).toInt = (mI S 82 6).toInt + v2.toInt := i_add (by omega) (by omega) | have b4 := i_bd ((mI S 82 6) + v2)
  have x5 : (mI S 82 3).toInt ≤ (mI S 82 7).toInt ∧ (mI S 82 7).toInt ≤ (mI S 82 3).toInt + (mI S 82 2).toInt := zG_x hI
  have f6 := zG_s hI (0) (1500) (c := 82) (k := 3) (by decide)
  have q7 : (mI S1 82 3).toInt = (mI S 82 3).toInt := zG_zi hL_S1 rfl
  have x8 : (mI S1 82 3).toInt ≤ (mI S1 82 7).toInt ∧ (mI S1 82 7).toInt ≤ (mI S1 82 3).toInt + (mI S1 82 2).toInt := zG_x hI_S1
  have f9 := zG_s hI_S1 (0) (1500) (c := 82) (k := 3) (by decide)
  refine zd (fun h10 => ?_) (fun h10 => ?_)
  · skip
    have g11 := i_le h10
    refine sp_12_82  (by omega) (by omega) (zJ82_dn hI_S1)  (fun v4 S3 hL_S3 hp_v4 => zi_n ⟨zG_T hL_S3, ?_⟩)
    have hI_S3 := zJ82_up hI_S1 hL_S3
    have q12 : (mI S1 82 6).toInt = (mI S 82 6).toInt := zG_zi hL_S1 rfl
    have f13 := zG_s hI_S1 (0) (400000) (c := 82) (k := 6) (by decide)
    have b14 := i_bd v4
    first | have e15 : ((mI S1 82 6) + v4).toInt = (mI S1 82 6).toInt + v4.toInt := i_add (by omega) (by omega) | have b16 := i_bd ((mI S1 82 6) + v4)
    have q17 : (mI S3 82 3).toInt = (mI S1 82 3).toInt := zG_zi hL_S3 rfl
    have x18 : (mI S3 82 3).toInt ≤ (mI S3 82 7).toInt ∧ (mI S3 82 7).toInt ≤ (mI S3 82 3).toInt + (mI S3 82 2).toInt := zG_x hI_S3
    have f19 := zG_s hI_S3 (0) (1500) (c := 82) (k := 3) (by decide)
    refine zd (fun h20 => ?_) (fun h20 => ?_)
    · skip
      have g21 := i_le h20
      refine sp_117_75 ((mI S3 82 3)) (by omega) (by omega) (zJ82_dn hI_S3)  (fun S5 hL_S5 => zv_n ⟨zG_T hL_S5, ?_⟩)
      have hI_S5 := zJ82_up hI_S3 hL_S5
      refine sp_118_75  (by omega) (by omega) (zJ82_dn hI_S5)  (fun S7 hL_S7 => zv_n ⟨zG_T hL_S7, ?_⟩)
      have hI_S7 := zJ82_up hI_S5 hL_S7
      have q22 : (mI S3 82 6).toInt = (mI S1 82 6).toInt := zG_zi hL_S3 rfl
      have f23 := zG_s hI_S3 (0) (400000) (c := 82) (k := 6) (by decide)
      have q24 : (mI S5 82 6).toInt = (mI S3 82 6).toInt := zG_zi hL_S5 rfl
      have f25 := zG_s hI_S5 (0) (400000) (c := 82) (k := 6) (by decide)
      have q26 : (mI S7 82 6).toInt = (mI S5 82 6).toInt := zG_zi hL_S7 rfl
      have f27 := zG_s hI_S7 (0) (400000) (c := 82) (k := 6) (by decide)
      refine sp_13_82  (by omega) (by omega) (zJ82_dn hI_S7) (show (mI S7 82 6).toInt ≤ 400000 from by omega) (fun S9 hL_S9 => zv_n ⟨zG_T hL_S9, ?_⟩)
      have hI_S9 := zJ82_up hI_S7 hL_S9
      have li28 : (512 : Int32).toInt = 512 := rfl
      refine sp_120_75 ((512 : Int32)) (by omega) (by omega) (zJ82_dn hI_S9)  (fun v12 S11 hL_S11 hp_v12 => zi_n ⟨zG_T hL_S11, ?_⟩)
      have hI_S11 := zJ82_up hI_S9 hL_S11
      refine sp_83_69_75  (by omega) (by omega) (zJ82_dn hI_S11)  (fun S13 hL_S13 => zv_n ⟨zG_T hL_S13, ?_⟩)
      have hI_S13 := zJ82_up hI_S11 hL_S13
      refine sp_86_69_75  (by omega) (by omega) (zJ82_dn hI_S13)  (fun v16 S15 hL_S15 hp_v16 => zi_n ⟨zG_T hL_S15, ?_⟩)
      have hI_S15 := zJ82_up hI_S13 hL_S15
      have q29 : (mI S9 82 6).toInt = (mI S7 82 6).toInt := zG_zi hL_S9 rfl
      have f30 := zG_s hI_S9 (0) (400000) (c := 82) (k := 6) (by decide)
      have q31 : (mI S11 82 6).toInt = (mI S9 82 6).toInt := zG_zi hL_S11 rfl
      have f32 := zG_s hI_S11 (0) (400000) (c := 82) (k := 6) (by decide)
      have q33 : (mI S13 82 6).toInt = (mI S11 82 6).toInt := zG_zi hL_S13 rfl
      have f34 := zG_s hI_S13 (0) (400000) (c := 82) (k := 6) (by decide)
      have q35 : (mI S15 82 6).toInt = (mI S13 82 6).toInt := zG_zi hL_S15 rfl
      have f36 := zG_s hI_S15 (0) (400000) (c := 82) (k := 6) (by decide)
      refine sp_15_82  (by omega) (by omega) hI_S15 (show (mI S15 82 6).toInt ≤ 1500 from by omega) (fun S17 hI_S17 => zv_n ⟨zG_T hI_S17, ?_⟩)
      refine sp_6_82  (by omega) (by omega) hI_S17  (fun S19 hI_S19 => zv_n ⟨zG_T hI_S19, ?_⟩)
      have li37 : (0 : Int32).toInt = 0 := rfl
      have b38 := i_bd v16
      first | have e39 : ((0 : Int32) + v16).toInt = (0 : Int32).toInt + v16.toInt := i_add (by omega) (by omega) | have b40 := i_bd ((0 : Int32) + v16)
      exact K (((0 : Int32) + v16)) _ hI_S19 trivial
    · skip
      have g41 := i_nle h20
      have li42 : (0 : Int32).toInt = 0 := rfl
      exact K ((0 : Int32)) _ hI_S3 trivial
  · skip
    have g43 := i_nle h10
    refine sp_5_82  (by omega) (by omega) hI_S1  (fun v22 S21 hI_S21 hp_v22 => zi_n ⟨zG_T hI_S21, ?_⟩)
    refine sp_12_82  (by omega) (by omega) (zJ82_dn hI_S21)  (fun v24 S23 hL_S23 hp_v24 => zi_n ⟨zG_T hL_S23, ?_⟩)
    have hI_S23 := zJ82_up hI_S21 hL_S23
    have f44 := zG_s hI_S21 (0) (400000) (c := 82) (k := 6) (by decide)
    have b45 := i_bd v24
    first | have e46 : ((mI S21 82 6) + v24).toInt = (mI S21 82 6).toInt + v24.toInt := i_add (by omega) (by omega) | have b47 := i_bd ((mI S21 82 6) + v24)
    have x48 : (mI S21 82 3).toInt ≤ (mI S21 82 7).toInt ∧ (mI S21 82 7).toInt ≤ (mI S21 82 3).toInt + (mI S21 82 2).toInt := zG_x hI_S21
    have f49 := zG_s hI_S21 (0) (1500) (c := 82) (k := 3) (by decide)
    have q50 : (mI S23 82 3).toInt = (mI S21 82 3).toInt := zG_zi hL_S23 rfl
    have x51 : (mI S23 82 3).toInt ≤ (mI S23 82 7).toInt ∧ (mI S23 82 7).toInt ≤ (mI S23 82 3).toInt + (mI S23 82 2).toInt := zG_x hI_S23
    have f52 := zG_s hI_S23 (0) (1500) (c := 82) (k := 3) (by decide)
    refine zd (fun h53 => ?_) (fun h53 => ?_)
    · skip
      have g54 := i_le h53
      refine sp_117_75 ((mI S23 82 3)) (by omega) (by omega) (zJ82_dn hI_S23)  (fun S25 hL_S25 => zv_n ⟨zG_T hL_S25, ?_⟩)
      have hI_S25 := zJ82_up hI_S23 hL_S25
      refine sp_118_75  (by omega) (by omega) (zJ82_dn hI_S25)  (fun S27 hL_S27 => zv_n ⟨zG_T hL_S27, ?_⟩)
      have hI_S27 := zJ82_up hI_S25 hL_S27
      have q55 : (mI S23 82 6).toInt = (mI S21 82 6).toInt := zG_zi hL_S23 rfl
      have f56 := zG_s hI_S23 (0) (400000) (c := 82) (k := 6) (by decide)
      have q57 : (mI S25 82 6).toInt = (mI S23 82 6).toInt := zG_zi hL_S25 rfl
      have f58 := zG_s hI_S25 (0) (400000) (c := 82) (k := 6) (by decide)
      have q59 : (mI S27 82 6).toInt = (mI S25 82 6).toInt := zG_zi hL_S27 rfl
      have f60 := zG_s hI_S27 (0) (400000) (c := 82) (k := 6) (by decide)
      refine sp_13_82  (by omega) (by omega) (zJ82_dn hI_S27) (show (mI S27 82 6).toInt ≤ 400000 from by omega) (fun S29 hL_S29 => zv_n ⟨zG_T hL_S29, ?_⟩)
      have hI_S29 := zJ82_up hI_S27 hL_S29
      have li61 : (512 : Int32).toInt = 512 := rfl
      refine sp_120_75 ((512 : Int32)) (by omega) (by omega) (zJ82_dn hI_S29)  (fun v32 S31 hL_S31 hp_v32 => zi_n ⟨zG_T hL_S31, ?_⟩)
      have hI_S31 := zJ82_up hI_S29 hL_S31
      refine sp_83_69_75  (by omega) (by omega) (zJ82_dn hI_S31)  (fun S33 hL_S33 => zv_n ⟨zG_T hL_S33, ?_⟩)
      have hI_S33 := zJ82_up hI_S31 hL_S33
      refine sp_86_69_75  (by omega) (by omega) (zJ82_dn hI_S33)  (fun v36 S35 hL_S35 hp_v36 => zi_n ⟨zG_T hL_S35, ?_⟩)
      have hI_S35 := zJ82_up hI_S33 hL_S35
      have q62 : (mI S29 82 6).toInt = (mI S27 82 6).toInt := zG_zi hL_S29 rfl
      have f63 := zG_s hI_S29 (0) (400000) (c := 82) (k := 6) (by decide)
      have q64 : (mI S31 82 6).toInt = (mI S29 82 6).toInt := zG_zi hL_S31 rfl
      have f65 := zG_s hI_S31 (0) (400000) (c := 82) (k := 6) (by decide)
      have q66 : (mI S33 82 6).toInt = (mI S31 82 6).toInt := zG_zi hL_S33 rfl
      have f67 := zG_s hI_S33 (0) (400000) (c := 82) (k := 6) (by decide)
      have q68 : (mI S35 82 6).toInt = (mI S33 82 6).toInt := zG_zi hL_S35 rfl
      have f69 := zG_s hI_S35 (0) (400000) (c := 82) (k := 6) (by decide)
      refine sp_15_82  (by omega) (by omega) hI_S35 (show (mI S35 82 6).toInt ≤ 1500 from by omega) (fun S37 hI_S37 => zv_n ⟨zG_T hI_S37, ?_⟩)
      refine sp_6_82  (by omega) (by omega) hI_S37  (fun S39 hI_S39 => zv_n ⟨zG_T hI_S39, ?_⟩)
      have b70 := i_bd v22
      have b71 := i_bd v36
      first | have e72 : (v22 + v36).toInt = v22.toInt + v36.toInt := i_add (by omega) (by omega) | have b73 := i_bd (v22 + v36)
      exact K ((v22 + v36)) _ hI_S39 trivial
    · skip
      have g74 := i_nle h53
      have b75 := i_bd v22
      exact K (v22) _ hI_S23 trivial
theorem g_19_82_0 {X : Nat × (Nat → Int32)} {d w : Nat} {S : ma_S} {Q : Option ma_V ⊕ Nat → ma_S → Prop}  (hd : 5 ≤ d) (hw : 180 ≤ w) (hS : zT S) (h : ma_wp X (d - 1) (w - 21) 5 0 [(0, .inr (.inr (some 82)))] [] S (zi (fun v2 S1 => zT S1 ∧ (ma_wp X (d - 1) (w - 21) 11 0 [(0, .inr (.inr (some 82)))] [] S1 (zi (fun v4 S3 => zT S3 ∧ (Q (.inl (some (.inl (v2 + v4)))) S3)) (fun x S9 => Q (.inr x) S9)))) (fun x S9 => Q (.inr x) S9))) : ma_wp X d w 19 0 [(0, .inr (.inr (some 82)))] [] S Q := by
  refine zw_push hm_19 dX0_cleanAll_0 (v := .inr (.inr (some 82))) rfl ?_
  refine zw_cv hm_19 dX0_cleanAll_1 v_1_55_1 hm_5 [] [] rfl (zT_rt hS s_82 rfl) ⟨by omega, by omega⟩ rfl (zw_mono h (zi_go ?_ ?_))
  · intro v2 S1 hv
    obtain ⟨hS1, h⟩ := hv
    refine zw_sto hm_19 dX0_cleanAll_4 [(1, .inl v2), (0, .inr (.inr (some 82)))] rfl rfl rfl ?_
    refine zw_push hm_19 dX0_cleanAll_5 (v := .inl v2) rfl ?_
    refine zw_push hm_19 dX0_cleanAll_6 (v := .inr (.inr (some 82))) rfl ?_
    refine zw_cv hm_19 dX0_cleanAll_7 v_1_51_1 hm_11 [] [.inl v2] rfl (zT_rt hS1 s_82 rfl) ⟨by omega, by omega⟩ rfl (zw_mono h (zi_go ?_ ?_))
    · intro v4 S3 hv
      obtain ⟨hS3, h⟩ := hv
      refine zw_stk hm_19 dX0_cleanAll_10 (st' := [.inl (v2 + v4)]) rfl rfl ?_
      exact zw_iret hm_19 dX0_cleanAll_11 h
    · intro x S9 hx
      exact ⟨by decide, hx⟩
  · intro x S9 hx
    exact ⟨by decide, hx⟩
theorem sp_19_82 {X : Nat × (Nat → Int32)} {d w : Nat} {f : Nat → Nat → Int32} {r : Nat → Nat → Option Nat} {C Z N : Nat} {Q : Option ma_V ⊕ Nat → ma_S → Prop} {S : ma_S}  (hd : 5 ≤ d) (hw : 180 ≤ w) (hI : zJ82 f r C Z N S)  (K : ∀ v S', zJ82 f r C Z N S' → (True) → Q (.inl (some (.inl v))) S') : ma_wp X d w 19 0 [(0, .inr (.inr (some 82)))] [] S Q := by
  refine g_19_82_0  (by omega) (by omega) (zG_T hI) ?_
  refine sp_5_82  (by omega) (by omega) hI  (fun v2 S1 hI_S1 hp_v2 => zi_n ⟨zG_T hI_S1, ?_⟩)
  refine sp_11_82  (by omega) (by omega) hI_S1  (fun v4 S3 hI_S3 hp_v4 => zi_n ⟨zG_T hI_S3, ?_⟩)
  have b1 := i_bd v2
  have b2 := i_bd v4
  first | have e3 : (v2 + v4).toInt = v2.toInt + v4.toInt := i_add (by omega) (by omega) | have b4 := i_bd (v2 + v4)
  exact K ((v2 + v4)) _ hI_S3 trivial
theorem g_3_82_0 {X : Nat × (Nat → Int32)} {d w : Nat} {S : ma_S} {Q : Option ma_V ⊕ Nat → ma_S → Prop} (n : Int32) (hd : 5 ≤ d) (hw : 180 ≤ w) (hS : zT S) (h : if n ≤ ((mI S 82 2) / (2 : Int32)) then (if ((mI S 82 7) + (mI S 82 2)) < ((mI S 82 8) + n) then (ma_wp X (d - 1) (w - 21) 11 0 [(0, .inr (.inr (some 82)))] [] S (zi (fun v2 S1 => zT S1 ∧ (if ((mI S1 82 7) + (mI S1 82 2)) < ((mI S1 82 8) + n) then (ma_wp X (d - 1) (w - 21) 5 0 [(0, .inr (.inr (some 82)))] [] S1 (zi (fun v4 S3 => zT S3 ∧ (ma_wp X (d - 1) (w - 21) 11 0 [(0, .inr (.inr (some 82)))] [] S3 (zi (fun v6 S5 => zT S5 ∧ (if ((mI S5 82 7) + (mI S5 82 2)) < ((mI S5 82 8) + n) then (Q (.inl (some (.inl (-1 : Int32)))) S5) else (Q (.inl (some (.inl (mI S5 82 8)))) S5))) (fun x S9 => Q (.inr x) S9)))) (fun x S9 => Q (.inr x) S9))) else (if ((mI S1 82 7) + (mI S1 82 2)) < ((mI S1 82 8) + n) then (Q (.inl (some (.inl (-1 : Int32)))) S1) else (Q (.inl (some (.inl (mI S1 82 8)))) S1)))) (fun x S9 => Q (.inr x) S9))) else (if ((mI S 82 7) + (mI S 82 2)) < ((mI S 82 8) + n) then (ma_wp X (d - 1) (w - 21) 5 0 [(0, .inr (.inr (some 82)))] [] S (zi (fun v8 S7 => zT S7 ∧ (ma_wp X (d - 1) (w - 21) 11 0 [(0, .inr (.inr (some 82)))] [] S7 (zi (fun v10 S9 => zT S9 ∧ (if ((mI S9 82 7) + (mI S9 82 2)) < ((mI S9 82 8) + n) then (Q (.inl (some (.inl (-1 : Int32)))) S9) else (Q (.inl (some (.inl (mI S9 82 8)))) S9))) (fun x S9 => Q (.inr x) S9)))) (fun x S9 => Q (.inr x) S9))) else (if ((mI S 82 7) + (mI S 82 2)) < ((mI S 82 8) + n) then (Q (.inl (some (.inl (-1 : Int32)))) S) else (Q (.inl (some (.inl (mI S 82 8)))) S)))) else (ma_wp X (d - 1) (w - 21) 4 0 [(0, .inr (.inr (some 82))), (1, .inl n)] [] S (zi (fun v12 S11 => zT S11 ∧ (Q (.inl (some (.inl v12))) S11)) (fun x S9 => Q (.inr x) S9)))) : ma_wp X d w 3 0 [(0, .inr (.inr (some 82))), (1, .inl n)] [] S Q := by
  refine zw_push hm_3 dX0_findRoom_0 (v := .inl n) rfl ?_
  refine zw_push hm_3 dX0_findRoom_1 (v := .inr (.inr (some 82))) rfl ?_
  refine zw_gf hm_3 dX0_findRoom_2 (v := .inl (mI S 82 2)) (zT_is hS s_82) (zT_t hS s_82) rfl f_1_15_1 rfl ?_
  refine zw_push hm_3 dX0_findRoom_5 (v := .inl (2 : Int32)) rfl ?_
  refine zw_stk hm_3 dX0_findRoom_6 (st' := [.inl ((mI S 82 2) / (2 : Int32)), .inl n]) rfl rfl ?_
  refine zw_if2 hm_3 dX0_findRoom_7 (t := 16) rfl zc2_le ?_ ?_
  · intro hc
    rw [if_pos hc] at h
    refine zw_push hm_3 dX0_findRoom_16 (v := .inr (.inr (some 82))) rfl ?_
    refine zw_push hm_3 dX0_findRoom_17 (v := .inl n) rfl ?_
    refine zw_cv hm_3 dX0_findRoom_18 v_1_47_1 hm_10 [.inl n] [] rfl (zT_rt hS s_82 rfl) ⟨by omega, by omega⟩ rfl ?_
    show ma_wp X (d - 1) (w - 21) 10 0 [(0, .inr (.inr (some 82))), (1, .inl n)] [] S _
    refine zw_push hm_10 dX0_hasYoungRoom_0 (v := .inr (.inr (some 82))) rfl ?_
    refine zw_gf hm_10 dX0_hasYoungRoom_1 (v := .inl (mI S 82 8)) (zT_is hS s_82) (zT_t hS s_82) rfl f_1_34_1 rfl ?_
    refine zw_push hm_10 dX0_hasYoungRoom_4 (v := .inl n) rfl ?_
    refine zw_stk hm_10 dX0_hasYoungRoom_5 (st' := [.inl ((mI S 82 8) + n)]) rfl rfl ?_
    refine zw_push hm_10 dX0_hasYoungRoom_6 (v := .inr (.inr (some 82))) rfl ?_
    refine zw_gf hm_10 dX0_hasYoungRoom_7 (v := .inl (mI S 82 7)) (zT_is hS s_82) (zT_t hS s_82) rfl f_1_31_1 rfl ?_
    refine zw_push hm_10 dX0_hasYoungRoom_10 (v := .inr (.inr (some 82))) rfl ?_
    refine zw_gf hm_10 dX0_hasYoungRoom_11 (v := .inl (mI S 82 2)) (zT_is hS s_82) (zT_t hS s_82) rfl f_1_15_1 rfl ?_
    refine zw_stk hm_10 dX0_hasYoungRoom_14 (st' := [.inl ((mI S 82 7) + (mI S 82 2)), .inl ((mI S 82 8) + n)]) rfl rfl ?_
    refine zw_if2 hm_10 dX0_hasYoungRoom_15 (t := 22) rfl zc2_gt ?_ ?_
    · intro hc
      rw [if_pos hc] at h
      refine zw_push hm_10 dX0_hasYoungRoom_22 (v := .inl (0 : Int32)) rfl ?_
      refine zw_bret hm_10 dX0_hasYoungRoom_23 (by decide) ?_
      show ma_wp X d w 3 21 [(0, .inr (.inr (some 82))), (1, .inl n)] [.inl (0 : Int32)] S _
      refine zw_if0 hm_3 dX0_findRoom_21 (t := 29) rfl zc0_ne (fun hc => absurd hc (by decide)) (fun _ => ?_)
      refine zw_push hm_3 dX0_findRoom_24 (v := .inr (.inr (some 82))) rfl ?_
      refine zw_cv hm_3 dX0_findRoom_25 v_1_51_1 hm_11 [] [] rfl (zT_rt hS s_82 rfl) ⟨by omega, by omega⟩ rfl (zw_mono h (zi_go ?_ ?_))
      · intro v2 S1 hv
        obtain ⟨hS1, h⟩ := hv
        refine zw_stk hm_3 dX0_findRoom_28 (st' := []) rfl rfl ?_
        refine zw_push hm_3 dX0_findRoom_29 (v := .inr (.inr (some 82))) rfl ?_
        refine zw_push hm_3 dX0_findRoom_30 (v := .inl n) rfl ?_
        refine zw_cv hm_3 dX0_findRoom_31 v_1_47_1 hm_10 [.inl n] [] rfl (zT_rt hS1 s_82 rfl) ⟨by omega, by omega⟩ rfl ?_
        show ma_wp X (d - 1) (w - 21) 10 0 [(0, .inr (.inr (some 82))), (1, .inl n)] [] S1 _
        refine zw_push hm_10 dX0_hasYoungRoom_0 (v := .inr (.inr (some 82))) rfl ?_
        refine zw_gf hm_10 dX0_hasYoungRoom_1 (v := .inl (mI S1 82 8)) (zT_is hS1 s_82) (zT_t hS1 s_82) rfl f_1_34_1 rfl ?_
        refine zw_push hm_10 dX0_hasYoungRoom_4 (v := .inl n) rfl ?_
        refine zw_stk hm_10 dX0_hasYoungRoom_5 (st' := [.inl ((mI S1 82 8) + n)]) rfl rfl ?_
        refine zw_push hm_10 dX0_hasYoungRoom_6 (v := .inr (.inr (some 82))) rfl ?_
        refine zw_gf hm_10 dX0_hasYoungRoom_7 (v := .inl (mI S1 82 7)) (zT_is hS1 s_82) (zT_t hS1 s_82) rfl f_1_31_1 rfl ?_
        refine zw_push hm_10 dX0_hasYoungRoom_10 (v := .inr (.inr (some 82))) rfl ?_
        refine zw_gf hm_10 dX0_hasYoungRoom_11 (v := .inl (mI S1 82 2)) (zT_is hS1 s_82) (zT_t hS1 s_82) rfl f_1_15_1 rfl ?_
        refine zw_stk hm_10 dX0_hasYoungRoom_14 (st' := [.inl ((mI S1 82 7) + (mI S1 82 2)), .inl ((mI S1 82 8) + n)]) rfl rfl ?_
        refine zw_if2 hm_10 dX0_hasYoungRoom_15 (t := 22) rfl zc2_gt ?_ ?_
        · intro hc
          rw [if_pos hc] at h
          refine zw_push hm_10 dX0_hasYoungRoom_22 (v := .inl (0 : Int32)) rfl ?_
          refine zw_bret hm_10 dX0_hasYoungRoom_23 (by decide) ?_
          show ma_wp X d w 3 34 [(0, .inr (.inr (some 82))), (1, .inl n)] [.inl (0 : Int32)] S1 _
          refine zw_if0 hm_3 dX0_findRoom_34 (t := 47) rfl zc0_ne (fun hc => absurd hc (by decide)) (fun _ => ?_)
          refine zw_push hm_3 dX0_findRoom_37 (v := .inr (.inr (some 82))) rfl ?_
          refine zw_cv hm_3 dX0_findRoom_38 v_1_55_1 hm_5 [] [] rfl (zT_rt hS1 s_82 rfl) ⟨by omega, by omega⟩ rfl (zw_mono h (zi_go ?_ ?_))
          · intro v4 S3 hv
            obtain ⟨hS3, h⟩ := hv
            refine zw_stk hm_3 dX0_findRoom_41 (st' := []) rfl rfl ?_
            refine zw_push hm_3 dX0_findRoom_42 (v := .inr (.inr (some 82))) rfl ?_
            refine zw_cv hm_3 dX0_findRoom_43 v_1_51_1 hm_11 [] [] rfl (zT_rt hS3 s_82 rfl) ⟨by omega, by omega⟩ rfl (zw_mono h (zi_go ?_ ?_))
            · intro v6 S5 hv
              obtain ⟨hS5, h⟩ := hv
              refine zw_stk hm_3 dX0_findRoom_46 (st' := []) rfl rfl ?_
              refine zw_push hm_3 dX0_findRoom_47 (v := .inr (.inr (some 82))) rfl ?_
              refine zw_push hm_3 dX0_findRoom_48 (v := .inl n) rfl ?_
              refine zw_cv hm_3 dX0_findRoom_49 v_1_47_1 hm_10 [.inl n] [] rfl (zT_rt hS5 s_82 rfl) ⟨by omega, by omega⟩ rfl ?_
              show ma_wp X (d - 1) (w - 21) 10 0 [(0, .inr (.inr (some 82))), (1, .inl n)] [] S5 _
              refine zw_push hm_10 dX0_hasYoungRoom_0 (v := .inr (.inr (some 82))) rfl ?_
              refine zw_gf hm_10 dX0_hasYoungRoom_1 (v := .inl (mI S5 82 8)) (zT_is hS5 s_82) (zT_t hS5 s_82) rfl f_1_34_1 rfl ?_
              refine zw_push hm_10 dX0_hasYoungRoom_4 (v := .inl n) rfl ?_
              refine zw_stk hm_10 dX0_hasYoungRoom_5 (st' := [.inl ((mI S5 82 8) + n)]) rfl rfl ?_
              refine zw_push hm_10 dX0_hasYoungRoom_6 (v := .inr (.inr (some 82))) rfl ?_
              refine zw_gf hm_10 dX0_hasYoungRoom_7 (v := .inl (mI S5 82 7)) (zT_is hS5 s_82) (zT_t hS5 s_82) rfl f_1_31_1 rfl ?_
              refine zw_push hm_10 dX0_hasYoungRoom_10 (v := .inr (.inr (some 82))) rfl ?_
              refine zw_gf hm_10 dX0_hasYoungRoom_11 (v := .inl (mI S5 82 2)) (zT_is hS5 s_82) (zT_t hS5 s_82) rfl f_1_15_1 rfl ?_
              refine zw_stk hm_10 dX0_hasYoungRoom_14 (st' := [.inl ((mI S5 82 7) + (mI S5 82 2)), .inl ((mI S5 82 8) + n)]) rfl rfl ?_
              refine zw_if2 hm_10 dX0_hasYoungRoom_15 (t := 22) rfl zc2_gt ?_ ?_
              · intro hc
                rw [if_pos hc] at h
                refine zw_push hm_10 dX0_hasYoungRoom_22 (v := .inl (0 : Int32)) rfl ?_
                refine zw_bret hm_10 dX0_hasYoungRoom_23 (by decide) ?_
                show ma_wp X d w 3 52 [(0, .inr (.inr (some 82))), (1, .inl n)] [.inl (0 : Int32)] S5 _
                refine zw_if0 hm_3 dX0_findRoom_52 (t := 62) rfl zc0_eq (fun _ => ?_) (fun hc => absurd (by decide) hc)
                refine zw_push hm_3 dX0_findRoom_62 (v := .inl (-1 : Int32)) rfl ?_
                exact zw_iret hm_3 dX0_findRoom_63 h
              · intro hc
                rw [if_neg hc] at h
                refine zw_push hm_10 dX0_hasYoungRoom_18 (v := .inl (1 : Int32)) rfl ?_
                refine zw_goto hm_10 dX0_hasYoungRoom_19 (t := 23) rfl ?_
                refine zw_bret hm_10 dX0_hasYoungRoom_23 (by decide) ?_
                show ma_wp X d w 3 52 [(0, .inr (.inr (some 82))), (1, .inl n)] [.inl (1 : Int32)] S5 _
                refine zw_if0 hm_3 dX0_findRoom_52 (t := 62) rfl zc0_eq (fun hc => absurd hc (by decide)) (fun _ => ?_)
                refine zw_push hm_3 dX0_findRoom_55 (v := .inr (.inr (some 82))) rfl ?_
                refine zw_gf hm_3 dX0_findRoom_56 (v := .inl (mI S5 82 8)) (zT_is hS5 s_82) (zT_t hS5 s_82) rfl f_1_34_1 rfl ?_
                refine zw_goto hm_3 dX0_findRoom_59 (t := 63) rfl ?_
                exact zw_iret hm_3 dX0_findRoom_63 h
            · intro x S9 hx
              exact ⟨by decide, hx⟩
          · intro x S9 hx
            exact ⟨by decide, hx⟩
        · intro hc
          rw [if_neg hc] at h
          refine zw_push hm_10 dX0_hasYoungRoom_18 (v := .inl (1 : Int32)) rfl ?_
          refine zw_goto hm_10 dX0_hasYoungRoom_19 (t := 23) rfl ?_
          refine zw_bret hm_10 dX0_hasYoungRoom_23 (by decide) ?_
          show ma_wp X d w 3 34 [(0, .inr (.inr (some 82))), (1, .inl n)] [.inl (1 : Int32)] S1 _
          refine zw_if0 hm_3 dX0_findRoom_34 (t := 47) rfl zc0_ne (fun _ => ?_) (fun hc => absurd (by decide) hc)
          refine zw_push hm_3 dX0_findRoom_47 (v := .inr (.inr (some 82))) rfl ?_
          refine zw_push hm_3 dX0_findRoom_48 (v := .inl n) rfl ?_
          refine zw_cv hm_3 dX0_findRoom_49 v_1_47_1 hm_10 [.inl n] [] rfl (zT_rt hS1 s_82 rfl) ⟨by omega, by omega⟩ rfl ?_
          show ma_wp X (d - 1) (w - 21) 10 0 [(0, .inr (.inr (some 82))), (1, .inl n)] [] S1 _
          refine zw_push hm_10 dX0_hasYoungRoom_0 (v := .inr (.inr (some 82))) rfl ?_
          refine zw_gf hm_10 dX0_hasYoungRoom_1 (v := .inl (mI S1 82 8)) (zT_is hS1 s_82) (zT_t hS1 s_82) rfl f_1_34_1 rfl ?_
          refine zw_push hm_10 dX0_hasYoungRoom_4 (v := .inl n) rfl ?_
          refine zw_stk hm_10 dX0_hasYoungRoom_5 (st' := [.inl ((mI S1 82 8) + n)]) rfl rfl ?_
          refine zw_push hm_10 dX0_hasYoungRoom_6 (v := .inr (.inr (some 82))) rfl ?_
          refine zw_gf hm_10 dX0_hasYoungRoom_7 (v := .inl (mI S1 82 7)) (zT_is hS1 s_82) (zT_t hS1 s_82) rfl f_1_31_1 rfl ?_
          refine zw_push hm_10 dX0_hasYoungRoom_10 (v := .inr (.inr (some 82))) rfl ?_
          refine zw_gf hm_10 dX0_hasYoungRoom_11 (v := .inl (mI S1 82 2)) (zT_is hS1 s_82) (zT_t hS1 s_82) rfl f_1_15_1 rfl ?_
          refine zw_stk hm_10 dX0_hasYoungRoom_14 (st' := [.inl ((mI S1 82 7) + (mI S1 82 2)), .inl ((mI S1 82 8) + n)]) rfl rfl ?_
          refine zw_if2 hm_10 dX0_hasYoungRoom_15 (t := 22) rfl zc2_gt ?_ ?_
          · intro hc
            rw [if_pos hc] at h
            refine zw_push hm_10 dX0_hasYoungRoom_22 (v := .inl (0 : Int32)) rfl ?_
            refine zw_bret hm_10 dX0_hasYoungRoom_23 (by decide) ?_
            show ma_wp X d w 3 52 [(0, .inr (.inr (some 82))), (1, .inl n)] [.inl (0 : Int32)] S1 _
            refine zw_if0 hm_3 dX0_findRoom_52 (t := 62) rfl zc0_eq (fun _ => ?_) (fun hc => absurd (by decide) hc)
            refine zw_push hm_3 dX0_findRoom_62 (v := .inl (-1 : Int32)) rfl ?_
            exact zw_iret hm_3 dX0_findRoom_63 h
          · intro hc
            rw [if_neg hc] at h
            refine zw_push hm_10 dX0_hasYoungRoom_18 (v := .inl (1 : Int32)) rfl ?_
            refine zw_goto hm_10 dX0_hasYoungRoom_19 (t := 23) rfl ?_
            refine zw_bret hm_10 dX0_hasYoungRoom_23 (by decide) ?_
            show ma_wp X d w 3 52 [(0, .inr (.inr (some 82))), (1, .inl n)] [.inl (1 : Int32)] S1 _
            refine zw_if0 hm_3 dX0_findRoom_52 (t := 62) rfl zc0_eq (fun hc => absurd hc (by decide)) (fun _ => ?_)
            refine zw_push hm_3 dX0_findRoom_55 (v := .inr (.inr (some 82))) rfl ?_
            refine zw_gf hm_3 dX0_findRoom_56 (v := .inl (mI S1 82 8)) (zT_is hS1 s_82) (zT_t hS1 s_82) rfl f_1_34_1 rfl ?_
            refine zw_goto hm_3 dX0_findRoom_59 (t := 63) rfl ?_
            exact zw_iret hm_3 dX0_findRoom_63 h
      · intro x S9 hx
        exact ⟨by decide, hx⟩
    · intro hc
      rw [if_neg hc] at h
      refine zw_push hm_10 dX0_hasYoungRoom_18 (v := .inl (1 : Int32)) rfl ?_
      refine zw_goto hm_10 dX0_hasYoungRoom_19 (t := 23) rfl ?_
      refine zw_bret hm_10 dX0_hasYoungRoom_23 (by decide) ?_
      show ma_wp X d w 3 21 [(0, .inr (.inr (some 82))), (1, .inl n)] [.inl (1 : Int32)] S _
      refine zw_if0 hm_3 dX0_findRoom_21 (t := 29) rfl zc0_ne (fun _ => ?_) (fun hc => absurd (by decide) hc)
      refine zw_push hm_3 dX0_findRoom_29 (v := .inr (.inr (some 82))) rfl ?_
      refine zw_push hm_3 dX0_findRoom_30 (v := .inl n) rfl ?_
      refine zw_cv hm_3 dX0_findRoom_31 v_1_47_1 hm_10 [.inl n] [] rfl (zT_rt hS s_82 rfl) ⟨by omega, by omega⟩ rfl ?_
      show ma_wp X (d - 1) (w - 21) 10 0 [(0, .inr (.inr (some 82))), (1, .inl n)] [] S _
      refine zw_push hm_10 dX0_hasYoungRoom_0 (v := .inr (.inr (some 82))) rfl ?_
      refine zw_gf hm_10 dX0_hasYoungRoom_1 (v := .inl (mI S 82 8)) (zT_is hS s_82) (zT_t hS s_82) rfl f_1_34_1 rfl ?_
      refine zw_push hm_10 dX0_hasYoungRoom_4 (v := .inl n) rfl ?_
      refine zw_stk hm_10 dX0_hasYoungRoom_5 (st' := [.inl ((mI S 82 8) + n)]) rfl rfl ?_
      refine zw_push hm_10 dX0_hasYoungRoom_6 (v := .inr (.inr (some 82))) rfl ?_
      refine zw_gf hm_10 dX0_hasYoungRoom_7 (v := .inl (mI S 82 7)) (zT_is hS s_82) (zT_t hS s_82) rfl f_1_31_1 rfl ?_
      refine zw_push hm_10 dX0_hasYoungRoom_10 (v := .inr (.inr (some 82))) rfl ?_
      refine zw_gf hm_10 dX0_hasYoungRoom_11 (v := .inl (mI S 82 2)) (zT_is hS s_82) (zT_t hS s_82) rfl f_1_15_1 rfl ?_
      refine zw_stk hm_10 dX0_hasYoungRoom_14 (st' := [.inl ((mI S 82 7) + (mI S 82 2)), .inl ((mI S 82 8) + n)]) rfl rfl ?_
      refine zw_if2 hm_10 dX0_hasYoungRoom_15 (t := 22) rfl zc2_gt ?_ ?_
      · intro hc
        rw [if_pos hc] at h
        refine zw_push hm_10 dX0_hasYoungRoom_22 (v := .inl (0 : Int32)) rfl ?_
        refine zw_bret hm_10 dX0_hasYoungRoom_23 (by decide) ?_
        show ma_wp X d w 3 34 [(0, .inr (.inr (some 82))), (1, .inl n)] [.inl (0 : Int32)] S _
        refine zw_if0 hm_3 dX0_findRoom_34 (t := 47) rfl zc0_ne (fun hc => absurd hc (by decide)) (fun _ => ?_)
        refine zw_push hm_3 dX0_findRoom_37 (v := .inr (.inr (some 82))) rfl ?_
        refine zw_cv hm_3 dX0_findRoom_38 v_1_55_1 hm_5 [] [] rfl (zT_rt hS s_82 rfl) ⟨by omega, by omega⟩ rfl (zw_mono h (zi_go ?_ ?_))
        · intro v8 S7 hv
          obtain ⟨hS7, h⟩ := hv
          refine zw_stk hm_3 dX0_findRoom_41 (st' := []) rfl rfl ?_
          refine zw_push hm_3 dX0_findRoom_42 (v := .inr (.inr (some 82))) rfl ?_
          refine zw_cv hm_3 dX0_findRoom_43 v_1_51_1 hm_11 [] [] rfl (zT_rt hS7 s_82 rfl) ⟨by omega, by omega⟩ rfl (zw_mono h (zi_go ?_ ?_))
          · intro v10 S9 hv
            obtain ⟨hS9, h⟩ := hv
            refine zw_stk hm_3 dX0_findRoom_46 (st' := []) rfl rfl ?_
            refine zw_push hm_3 dX0_findRoom_47 (v := .inr (.inr (some 82))) rfl ?_
            refine zw_push hm_3 dX0_findRoom_48 (v := .inl n) rfl ?_
            refine zw_cv hm_3 dX0_findRoom_49 v_1_47_1 hm_10 [.inl n] [] rfl (zT_rt hS9 s_82 rfl) ⟨by omega, by omega⟩ rfl ?_
            show ma_wp X (d - 1) (w - 21) 10 0 [(0, .inr (.inr (some 82))), (1, .inl n)] [] S9 _
            refine zw_push hm_10 dX0_hasYoungRoom_0 (v := .inr (.inr (some 82))) rfl ?_
            refine zw_gf hm_10 dX0_hasYoungRoom_1 (v := .inl (mI S9 82 8)) (zT_is hS9 s_82) (zT_t hS9 s_82) rfl f_1_34_1 rfl ?_
            refine zw_push hm_10 dX0_hasYoungRoom_4 (v := .inl n) rfl ?_
            refine zw_stk hm_10 dX0_hasYoungRoom_5 (st' := [.inl ((mI S9 82 8) + n)]) rfl rfl ?_
            refine zw_push hm_10 dX0_hasYoungRoom_6 (v := .inr (.inr (some 82))) rfl ?_
            refine zw_gf hm_10 dX0_hasYoungRoom_7 (v := .inl (mI S9 82 7)) (zT_is hS9 s_82) (zT_t hS9 s_82) rfl f_1_31_1 rfl ?_
            refine zw_push hm_10 dX0_hasYoungRoom_10 (v := .inr (.inr (some 82))) rfl ?_
            refine zw_gf hm_10 dX0_hasYoungRoom_11 (v := .inl (mI S9 82 2)) (zT_is hS9 s_82) (zT_t hS9 s_82) rfl f_1_15_1 rfl ?_
            refine zw_stk hm_10 dX0_hasYoungRoom_14 (st' := [.inl ((mI S9 82 7) + (mI S9 82 2)), .inl ((mI S9 82 8) + n)]) rfl rfl ?_
            refine zw_if2 hm_10 dX0_hasYoungRoom_15 (t := 22) rfl zc2_gt ?_ ?_
            · intro hc
              rw [if_pos hc] at h
              refine zw_push hm_10 dX0_hasYoungRoom_22 (v := .inl (0 : Int32)) rfl ?_
              refine zw_bret hm_10 dX0_hasYoungRoom_23 (by decide) ?_
              show ma_wp X d w 3 52 [(0, .inr (.inr (some 82))), (1, .inl n)] [.inl (0 : Int32)] S9 _
              refine zw_if0 hm_3 dX0_findRoom_52 (t := 62) rfl zc0_eq (fun _ => ?_) (fun hc => absurd (by decide) hc)
              refine zw_push hm_3 dX0_findRoom_62 (v := .inl (-1 : Int32)) rfl ?_
              exact zw_iret hm_3 dX0_findRoom_63 h
            · intro hc
              rw [if_neg hc] at h
              refine zw_push hm_10 dX0_hasYoungRoom_18 (v := .inl (1 : Int32)) rfl ?_
              refine zw_goto hm_10 dX0_hasYoungRoom_19 (t := 23) rfl ?_
              refine zw_bret hm_10 dX0_hasYoungRoom_23 (by decide) ?_
              show ma_wp X d w 3 52 [(0, .inr (.inr (some 82))), (1, .inl n)] [.inl (1 : Int32)] S9 _
              refine zw_if0 hm_3 dX0_findRoom_52 (t := 62) rfl zc0_eq (fun hc => absurd hc (by decide)) (fun _ => ?_)
              refine zw_push hm_3 dX0_findRoom_55 (v := .inr (.inr (some 82))) rfl ?_
              refine zw_gf hm_3 dX0_findRoom_56 (v := .inl (mI S9 82 8)) (zT_is hS9 s_82) (zT_t hS9 s_82) rfl f_1_34_1 rfl ?_
              refine zw_goto hm_3 dX0_findRoom_59 (t := 63) rfl ?_
              exact zw_iret hm_3 dX0_findRoom_63 h
          · intro x S9 hx
            exact ⟨by decide, hx⟩
        · intro x S9 hx
          exact ⟨by decide, hx⟩
      · intro hc
        rw [if_neg hc] at h
        refine zw_push hm_10 dX0_hasYoungRoom_18 (v := .inl (1 : Int32)) rfl ?_
        refine zw_goto hm_10 dX0_hasYoungRoom_19 (t := 23) rfl ?_
        refine zw_bret hm_10 dX0_hasYoungRoom_23 (by decide) ?_
        show ma_wp X d w 3 34 [(0, .inr (.inr (some 82))), (1, .inl n)] [.inl (1 : Int32)] S _
        refine zw_if0 hm_3 dX0_findRoom_34 (t := 47) rfl zc0_ne (fun _ => ?_) (fun hc => absurd (by decide) hc)
        refine zw_push hm_3 dX0_findRoom_47 (v := .inr (.inr (some 82))) rfl ?_
        refine zw_push hm_3 dX0_findRoom_48 (v := .inl n) rfl ?_
        refine zw_cv hm_3 dX0_findRoom_49 v_1_47_1 hm_10 [.inl n] [] rfl (zT_rt hS s_82 rfl) ⟨by omega, by omega⟩ rfl ?_
        show ma_wp X (d - 1) (w - 21) 10 0 [(0, .inr (.inr (some 82))), (1, .inl n)] [] S _
        refine zw_push hm_10 dX0_hasYoungRoom_0 (v := .inr (.inr (some 82))) rfl ?_
        refine zw_gf hm_10 dX0_hasYoungRoom_1 (v := .inl (mI S 82 8)) (zT_is hS s_82) (zT_t hS s_82) rfl f_1_34_1 rfl ?_
        refine zw_push hm_10 dX0_hasYoungRoom_4 (v := .inl n) rfl ?_
        refine zw_stk hm_10 dX0_hasYoungRoom_5 (st' := [.inl ((mI S 82 8) + n)]) rfl rfl ?_
        refine zw_push hm_10 dX0_hasYoungRoom_6 (v := .inr (.inr (some 82))) rfl ?_
        refine zw_gf hm_10 dX0_hasYoungRoom_7 (v := .inl (mI S 82 7)) (zT_is hS s_82) (zT_t hS s_82) rfl f_1_31_1 rfl ?_
        refine zw_push hm_10 dX0_hasYoungRoom_10 (v := .inr (.inr (some 82))) rfl ?_
        refine zw_gf hm_10 dX0_hasYoungRoom_11 (v := .inl (mI S 82 2)) (zT_is hS s_82) (zT_t hS s_82) rfl f_1_15_1 rfl ?_
        refine zw_stk hm_10 dX0_hasYoungRoom_14 (st' := [.inl ((mI S 82 7) + (mI S 82 2)), .inl ((mI S 82 8) + n)]) rfl rfl ?_
        refine zw_if2 hm_10 dX0_hasYoungRoom_15 (t := 22) rfl zc2_gt ?_ ?_
        · intro hc
          rw [if_pos hc] at h
          refine zw_push hm_10 dX0_hasYoungRoom_22 (v := .inl (0 : Int32)) rfl ?_
          refine zw_bret hm_10 dX0_hasYoungRoom_23 (by decide) ?_
          show ma_wp X d w 3 52 [(0, .inr (.inr (some 82))), (1, .inl n)] [.inl (0 : Int32)] S _
          refine zw_if0 hm_3 dX0_findRoom_52 (t := 62) rfl zc0_eq (fun _ => ?_) (fun hc => absurd (by decide) hc)
          refine zw_push hm_3 dX0_findRoom_62 (v := .inl (-1 : Int32)) rfl ?_
          exact zw_iret hm_3 dX0_findRoom_63 h
        · intro hc
          rw [if_neg hc] at h
          refine zw_push hm_10 dX0_hasYoungRoom_18 (v := .inl (1 : Int32)) rfl ?_
          refine zw_goto hm_10 dX0_hasYoungRoom_19 (t := 23) rfl ?_
          refine zw_bret hm_10 dX0_hasYoungRoom_23 (by decide) ?_
          show ma_wp X d w 3 52 [(0, .inr (.inr (some 82))), (1, .inl n)] [.inl (1 : Int32)] S _
          refine zw_if0 hm_3 dX0_findRoom_52 (t := 62) rfl zc0_eq (fun hc => absurd hc (by decide)) (fun _ => ?_)
          refine zw_push hm_3 dX0_findRoom_55 (v := .inr (.inr (some 82))) rfl ?_
          refine zw_gf hm_3 dX0_findRoom_56 (v := .inl (mI S 82 8)) (zT_is hS s_82) (zT_t hS s_82) rfl f_1_34_1 rfl ?_
          refine zw_goto hm_3 dX0_findRoom_59 (t := 63) rfl ?_
          exact zw_iret hm_3 dX0_findRoom_63 h
  · intro hc
    rw [if_neg hc] at h
    refine zw_push hm_3 dX0_findRoom_10 (v := .inr (.inr (some 82))) rfl ?_
    refine zw_push hm_3 dX0_findRoom_11 (v := .inl n) rfl ?_
    refine zw_cv hm_3 dX0_findRoom_12 v_1_43_1 hm_4 [.inl n] [] rfl (zT_rt hS s_82 rfl) ⟨by omega, by omega⟩ rfl (zw_mono h (zi_go ?_ ?_))
    · intro v12 S11 hv
      obtain ⟨hS11, h⟩ := hv
      exact zw_iret hm_3 dX0_findRoom_15 h
    · intro x S9 hx
      exact ⟨by decide, hx⟩
theorem sp_3_82 {X : Nat × (Nat → Int32)} {d w : Nat} {f : Nat → Nat → Int32} {r : Nat → Nat → Option Nat} {C Z N : Nat} {Q : Option ma_V ⊕ Nat → ma_S → Prop} {S : ma_S} (n : Int32) (hd : 5 ≤ d) (hw : 180 ≤ w) (hI : zJ82 f r C Z N S) (hpre0 : 1 ≤ n.toInt) (hpre1 : n.toInt ≤ 61) (K : ∀ v S', zJ82 f r C Z N S' → (-1 ≤ v.toInt ∧ v.toInt ≤ 300000) → Q (.inl (some (.inl v))) S') : ma_wp X d w 3 0 [(0, .inr (.inr (some 82))), (1, .inl n)] [] S Q := by
  refine g_3_82_0 n (by omega) (by omega) (zG_T hI) ?_
  have b1 := i_bd n
  have x2 : (mI S 82 3).toInt ≤ (mI S 82 7).toInt ∧ (mI S 82 7).toInt ≤ (mI S 82 3).toInt + (mI S 82 2).toInt := zG_x hI
  have f3 := zG_s hI (0) (1500) (c := 82) (k := 2) (by decide)
  have li4 : (2 : Int32).toInt = 2 := rfl
  first | have f5 := i_div (x := (mI S 82 2)) (y := (2 : Int32)) (by omega) (by omega) | have b6 := i_bd ((mI S 82 2) / (2 : Int32))
  refine zd (fun h7 => ?_) (fun h7 => ?_)
  · skip
    have g8 := i_le h7
    have f9 := zG_s hI (0) (3000) (c := 82) (k := 7) (by decide)
    first | have e10 : ((mI S 82 7) + (mI S 82 2)).toInt = (mI S 82 7).toInt + (mI S 82 2).toInt := i_add (by omega) (by omega) | have b11 := i_bd ((mI S 82 7) + (mI S 82 2))
    have f12 := zG_s hI (0) (400000) (c := 82) (k := 8) (by decide)
    first | have e13 : ((mI S 82 8) + n).toInt = (mI S 82 8).toInt + n.toInt := i_add (by omega) (by omega) | have b14 := i_bd ((mI S 82 8) + n)
    refine zd (fun h15 => ?_) (fun h15 => ?_)
    · skip
      have g16 := i_lt h15
      refine sp_11_82  (by omega) (by omega) hI  (fun v2 S1 hI_S1 hp_v2 => zi_n ⟨zG_T hI_S1, ?_⟩)
      have x17 : (mI S1 82 3).toInt ≤ (mI S1 82 7).toInt ∧ (mI S1 82 7).toInt ≤ (mI S1 82 3).toInt + (mI S1 82 2).toInt := zG_x hI_S1
      have f18 := zG_s hI_S1 (0) (3000) (c := 82) (k := 7) (by decide)
      have f19 := zG_s hI_S1 (0) (1500) (c := 82) (k := 2) (by decide)
      first | have e20 : ((mI S1 82 7) + (mI S1 82 2)).toInt = (mI S1 82 7).toInt + (mI S1 82 2).toInt := i_add (by omega) (by omega) | have b21 := i_bd ((mI S1 82 7) + (mI S1 82 2))
      have f22 := zG_s hI_S1 (0) (400000) (c := 82) (k := 8) (by decide)
      first | have e23 : ((mI S1 82 8) + n).toInt = (mI S1 82 8).toInt + n.toInt := i_add (by omega) (by omega) | have b24 := i_bd ((mI S1 82 8) + n)
      refine zd (fun h25 => ?_) (fun h25 => ?_)
      · skip
        have g26 := i_lt h25
        refine sp_5_82  (by omega) (by omega) hI_S1  (fun v4 S3 hI_S3 hp_v4 => zi_n ⟨zG_T hI_S3, ?_⟩)
        refine sp_11_82  (by omega) (by omega) hI_S3  (fun v6 S5 hI_S5 hp_v6 => zi_n ⟨zG_T hI_S5, ?_⟩)
        have x27 : (mI S5 82 3).toInt ≤ (mI S5 82 7).toInt ∧ (mI S5 82 7).toInt ≤ (mI S5 82 3).toInt + (mI S5 82 2).toInt := zG_x hI_S5
        have f28 := zG_s hI_S5 (0) (3000) (c := 82) (k := 7) (by decide)
        have f29 := zG_s hI_S5 (0) (1500) (c := 82) (k := 2) (by decide)
        first | have e30 : ((mI S5 82 7) + (mI S5 82 2)).toInt = (mI S5 82 7).toInt + (mI S5 82 2).toInt := i_add (by omega) (by omega) | have b31 := i_bd ((mI S5 82 7) + (mI S5 82 2))
        have f32 := zG_s hI_S5 (0) (400000) (c := 82) (k := 8) (by decide)
        first | have e33 : ((mI S5 82 8) + n).toInt = (mI S5 82 8).toInt + n.toInt := i_add (by omega) (by omega) | have b34 := i_bd ((mI S5 82 8) + n)
        refine zd (fun h35 => ?_) (fun h35 => ?_)
        · skip
          have g36 := i_lt h35
          have li37 : (-1 : Int32).toInt = -1 := rfl
          exact K ((-1 : Int32)) _ hI_S5 (by omega)
        · skip
          have g38 := i_nlt h35
          exact K ((mI S5 82 8)) _ hI_S5 (by omega)
      · skip
        have g39 := i_nlt h25
        refine zd (fun h40 => ?_) (fun h40 => ?_)
        · skip
          have g41 := i_lt h40
          have li42 : (-1 : Int32).toInt = -1 := rfl
          exact K ((-1 : Int32)) _ hI_S1 (by omega)
        · skip
          have g43 := i_nlt h40
          exact K ((mI S1 82 8)) _ hI_S1 (by omega)
    · skip
      have g44 := i_nlt h15
      refine zd (fun h45 => ?_) (fun h45 => ?_)
      · skip
        have g46 := i_lt h45
        refine sp_5_82  (by omega) (by omega) hI  (fun v8 S7 hI_S7 hp_v8 => zi_n ⟨zG_T hI_S7, ?_⟩)
        refine sp_11_82  (by omega) (by omega) hI_S7  (fun v10 S9 hI_S9 hp_v10 => zi_n ⟨zG_T hI_S9, ?_⟩)
        have x47 : (mI S9 82 3).toInt ≤ (mI S9 82 7).toInt ∧ (mI S9 82 7).toInt ≤ (mI S9 82 3).toInt + (mI S9 82 2).toInt := zG_x hI_S9
        have f48 := zG_s hI_S9 (0) (3000) (c := 82) (k := 7) (by decide)
        have f49 := zG_s hI_S9 (0) (1500) (c := 82) (k := 2) (by decide)
        first | have e50 : ((mI S9 82 7) + (mI S9 82 2)).toInt = (mI S9 82 7).toInt + (mI S9 82 2).toInt := i_add (by omega) (by omega) | have b51 := i_bd ((mI S9 82 7) + (mI S9 82 2))
        have f52 := zG_s hI_S9 (0) (400000) (c := 82) (k := 8) (by decide)
        first | have e53 : ((mI S9 82 8) + n).toInt = (mI S9 82 8).toInt + n.toInt := i_add (by omega) (by omega) | have b54 := i_bd ((mI S9 82 8) + n)
        refine zd (fun h55 => ?_) (fun h55 => ?_)
        · skip
          have g56 := i_lt h55
          have li57 : (-1 : Int32).toInt = -1 := rfl
          exact K ((-1 : Int32)) _ hI_S9 (by omega)
        · skip
          have g58 := i_nlt h55
          exact K ((mI S9 82 8)) _ hI_S9 (by omega)
      · skip
        have g59 := i_nlt h45
        refine zd (fun h60 => ?_) (fun h60 => ?_)
        · skip
          have g61 := i_lt h60
          have li62 : (-1 : Int32).toInt = -1 := rfl
          exact K ((-1 : Int32)) _ hI (by omega)
        · skip
          have g63 := i_nlt h60
          exact K ((mI S 82 8)) _ hI (by omega)
  · skip
    have g64 := i_nle h7
    refine sp_4_82 (n) (by omega) (by omega) hI (by omega) (by omega) (fun v12 S11 hI_S11 hp_v12 => zi_n ⟨zG_T hI_S11, ?_⟩)
    have b65 := i_bd v12
    exact K (v12) _ hI_S11 (by omega)
