/-! the collectors that sweep, the class (written by wip/tools/gen20.py) -/
theorem g_106_84_s_0 {X : Nat × (Nat → Int32)} {d w : Nat} {S : ma_S} {Q : Option ma_V ⊕ Nat → ma_S → Prop} (p : Int32) (hd : 1 ≤ d) (hw : 22 ≤ w) (hS : zT S) (h : ma_wp X d w 106 2 [(0, .inr (.inr (some 84))), (2, .inl p)] [] S Q) : ma_wp X d w 106 0 [(0, .inr (.inr (some 84))), (1, .inl p)] [] S Q := by
  refine zw_push hm_106 dX8_freeEnd_0 (v := .inl p) rfl ?_
  refine zw_sto hm_106 dX8_freeEnd_1 [(2, .inl p), (0, .inr (.inr (some 84))), (1, .inl p)] rfl rfl rfl ?_
  exact zw_sub (ma_nd_of (ks := [0, 2]) rfl (by decide)) (ma_nd_of (ks := [2, 0, 1]) rfl (by decide)) (ma_le_cons rfl (ma_le_cons rfl (ma_le_nil _))) h
theorem g_106_84_s_2 {X : Nat × (Nat → Int32)} {d w : Nat} {S : ma_S} {Q : Option ma_V ⊕ Nat → ma_S → Prop} (l2 : Int32) (hd : 1 ≤ d) (hw : 22 ≤ w) (hS : zT S) (h : if (mI S 84 0) ≤ l2 then (Q (.inl (some (.inl l2))) S) else (if l2 < 0 then (ma_wp X d w 106 2 [(0, .inr (.inr (some 84))), (2, .inl (l2 + (1 : Int32)))] [] S Q) else (if (4500 : Int32) ≤ l2 then (ma_wp X d w 106 2 [(0, .inr (.inr (some 84))), (2, .inl (l2 + (1 : Int32)))] [] S Q) else ((0 ≤ l2 ∧ l2.toNatClampNeg < 4500) ∧ (if (mI S 71 l2.toNatClampNeg) < 0 then (ma_wp X d w 106 2 [(0, .inr (.inr (some 84))), (2, .inl (l2 + (1 : Int32)))] [] S Q) else (if (512 : Int32) ≤ (mI S 71 l2.toNatClampNeg) then (ma_wp X d w 106 2 [(0, .inr (.inr (some 84))), (2, .inl (l2 + (1 : Int32)))] [] S Q) else ((0 ≤ (mI S 71 l2.toNatClampNeg) ∧ (mI S 71 l2.toNatClampNeg).toNatClampNeg < 512) ∧ (((mR S 70 (mI S 71 l2.toNatClampNeg).toNatClampNeg) = none → ma_wp X d w 106 2 [(0, .inr (.inr (some 84))), (2, .inl (l2 + (1 : Int32)))] [] S Q) ∧ (∀ c1, (mR S 70 (mI S 71 l2.toNatClampNeg).toNatClampNeg) = some c1 → Q (.inl (some (.inl l2))) S))))))))) : ma_wp X d w 106 2 [(0, .inr (.inr (some 84))), (2, .inl l2)] [] S Q := by
  refine zw_push hm_106 dX8_freeEnd_2 (v := .inl l2) rfl ?_
  refine zw_push hm_106 dX8_freeEnd_3 (v := .inr (.inr (some 84))) rfl ?_
  refine zw_gf hm_106 dX8_freeEnd_4 (v := .inl (mI S 84 0)) (zT_is hS s_84) (zT_t hS s_84) rfl f_8_9_2 rfl ?_
  refine zw_if2 hm_106 dX8_freeEnd_7 (t := 27) rfl zc2_ge ?_ ?_
  · intro hc
    rw [if_pos hc] at h
    refine zw_push hm_106 dX8_freeEnd_27 (v := .inl l2) rfl ?_
    exact zw_iret hm_106 dX8_freeEnd_28 h
  · intro hc
    rw [if_neg hc] at h
    refine zw_push hm_106 dX8_freeEnd_10 (v := .inr (.inr (some 84))) rfl ?_
    refine zw_gf hm_106 dX8_freeEnd_11 (v := .inr (.inr (some 69))) (zT_is hS s_84) (zT_t hS s_84) rfl f_8_46_2 (zT_f hS r_84_3) ?_
    refine zw_push hm_106 dX8_freeEnd_14 (v := .inl l2) rfl ?_
    refine zw_cv hm_106 dX8_freeEnd_15 v_8_50_7 hm_89 [.inl l2] [] rfl (zT_rt hS s_69 rfl) ⟨by omega, by omega⟩ rfl ?_
    show ma_wp X (d - 1) (w - 22) 89 0 [(0, .inr (.inr (some 69))), (1, .inl l2)] [] S _
    refine zw_push hm_89 dX7_thingFrom_0 (v := .inl l2) rfl ?_
    refine zw_if0 hm_89 dX7_thingFrom_1 (t := 20) rfl zc0_lt ?_ ?_
    · intro hc
      rw [if_pos hc] at h
      refine zw_push hm_89 dX7_thingFrom_20 (v := .inl (-1 : Int32)) rfl ?_
      refine zw_sto hm_89 dX7_thingFrom_21 [(2, .inl (-1 : Int32)), (0, .inr (.inr (some 69))), (1, .inl l2)] rfl rfl rfl ?_
      refine zw_push hm_89 dX7_thingFrom_22 (v := .inl (-1 : Int32)) rfl ?_
      refine zw_if0 hm_89 dX7_thingFrom_23 (t := 42) rfl zc0_lt (fun _ => ?_) (fun hc => absurd (by decide) hc)
      refine zw_push hm_89 dX7_thingFrom_42 (v := .inr (.inr none)) rfl ?_
      refine zw_aret hm_89 dX7_thingFrom_43 ?_
      show ma_wp X d w 106 18 [(0, .inr (.inr (some 84))), (2, .inl l2)] [.inr (.inr none)] S _
      refine zw_ifnonnull hm_106 dX8_freeEnd_18 (t := 27) rfl (fun _ => ?_) (fun _ z => by cases z)
      refine zw_sto hm_106 dX8_freeEnd_21 [(2, .inl (l2 + (1 : Int32))), (0, .inr (.inr (some 84)))] rfl rfl rfl ?_
      refine zw_goto hm_106 dX8_freeEnd_24 (t := 2) rfl ?_
      exact zw_sub (ma_nd_of (ks := [0, 2]) rfl (by decide)) (ma_nd_of (ks := [2, 0]) rfl (by decide)) (ma_le_cons rfl (ma_le_cons rfl (ma_le_nil _))) h
    · intro hc
      rw [if_neg hc] at h
      refine zw_push hm_89 dX7_thingFrom_4 (v := .inl l2) rfl ?_
      refine zw_push hm_89 dX7_thingFrom_5 (v := .inl (4500 : Int32)) rfl ?_
      refine zw_if2 hm_89 dX7_thingFrom_8 (t := 20) rfl zc2_ge ?_ ?_
      · intro hc
        rw [if_pos hc] at h
        refine zw_push hm_89 dX7_thingFrom_20 (v := .inl (-1 : Int32)) rfl ?_
        refine zw_sto hm_89 dX7_thingFrom_21 [(2, .inl (-1 : Int32)), (0, .inr (.inr (some 69))), (1, .inl l2)] rfl rfl rfl ?_
        refine zw_push hm_89 dX7_thingFrom_22 (v := .inl (-1 : Int32)) rfl ?_
        refine zw_if0 hm_89 dX7_thingFrom_23 (t := 42) rfl zc0_lt (fun _ => ?_) (fun hc => absurd (by decide) hc)
        refine zw_push hm_89 dX7_thingFrom_42 (v := .inr (.inr none)) rfl ?_
        refine zw_aret hm_89 dX7_thingFrom_43 ?_
        show ma_wp X d w 106 18 [(0, .inr (.inr (some 84))), (2, .inl l2)] [.inr (.inr none)] S _
        refine zw_ifnonnull hm_106 dX8_freeEnd_18 (t := 27) rfl (fun _ => ?_) (fun _ z => by cases z)
        refine zw_sto hm_106 dX8_freeEnd_21 [(2, .inl (l2 + (1 : Int32))), (0, .inr (.inr (some 84)))] rfl rfl rfl ?_
        refine zw_goto hm_106 dX8_freeEnd_24 (t := 2) rfl ?_
        exact zw_sub (ma_nd_of (ks := [0, 2]) rfl (by decide)) (ma_nd_of (ks := [2, 0]) rfl (by decide)) (ma_le_cons rfl (ma_le_cons rfl (ma_le_nil _))) h
      · intro hc
        rw [if_neg hc] at h
        refine zw_push hm_89 dX7_thingFrom_11 (v := .inr (.inr (some 69))) rfl ?_
        refine zw_gf hm_89 dX7_thingFrom_12 (v := .inr (.inr (some 71))) (zT_is hS s_69) (zT_t hS s_69) rfl f_7_17_7 (zT_f hS r_69_1) ?_
        refine zw_push hm_89 dX7_thingFrom_15 (v := .inl l2) rfl ?_
        obtain ⟨hg, h⟩ := h
        refine zw_ia hm_89 dX7_thingFrom_16 (zT_is hS s_71) (zT_h hS s_71) rfl hg ?_
        show ma_wp X (d - 1) (w - 22) 89 17 [(0, .inr (.inr (some 69))), (1, .inl l2)] [.inl (mI S 71 l2.toNatClampNeg)] S _
        refine zw_goto hm_89 dX7_thingFrom_17 (t := 21) rfl ?_
        refine zw_sto hm_89 dX7_thingFrom_21 [(2, .inl (mI S 71 l2.toNatClampNeg)), (0, .inr (.inr (some 69))), (1, .inl l2)] rfl rfl rfl ?_
        refine zw_push hm_89 dX7_thingFrom_22 (v := .inl (mI S 71 l2.toNatClampNeg)) rfl ?_
        refine zw_if0 hm_89 dX7_thingFrom_23 (t := 42) rfl zc0_lt ?_ ?_
        · intro hc
          rw [if_pos hc] at h
          refine zw_push hm_89 dX7_thingFrom_42 (v := .inr (.inr none)) rfl ?_
          refine zw_aret hm_89 dX7_thingFrom_43 ?_
          show ma_wp X d w 106 18 [(0, .inr (.inr (some 84))), (2, .inl l2)] [.inr (.inr none)] S _
          refine zw_ifnonnull hm_106 dX8_freeEnd_18 (t := 27) rfl (fun _ => ?_) (fun _ z => by cases z)
          refine zw_sto hm_106 dX8_freeEnd_21 [(2, .inl (l2 + (1 : Int32))), (0, .inr (.inr (some 84)))] rfl rfl rfl ?_
          refine zw_goto hm_106 dX8_freeEnd_24 (t := 2) rfl ?_
          exact zw_sub (ma_nd_of (ks := [0, 2]) rfl (by decide)) (ma_nd_of (ks := [2, 0]) rfl (by decide)) (ma_le_cons rfl (ma_le_cons rfl (ma_le_nil _))) h
        · intro hc
          rw [if_neg hc] at h
          refine zw_push hm_89 dX7_thingFrom_26 (v := .inl (mI S 71 l2.toNatClampNeg)) rfl ?_
          refine zw_push hm_89 dX7_thingFrom_27 (v := .inl (512 : Int32)) rfl ?_
          refine zw_if2 hm_89 dX7_thingFrom_30 (t := 42) rfl zc2_ge ?_ ?_
          · intro hc
            rw [if_pos hc] at h
            refine zw_push hm_89 dX7_thingFrom_42 (v := .inr (.inr none)) rfl ?_
            refine zw_aret hm_89 dX7_thingFrom_43 ?_
            show ma_wp X d w 106 18 [(0, .inr (.inr (some 84))), (2, .inl l2)] [.inr (.inr none)] S _
            refine zw_ifnonnull hm_106 dX8_freeEnd_18 (t := 27) rfl (fun _ => ?_) (fun _ z => by cases z)
            refine zw_sto hm_106 dX8_freeEnd_21 [(2, .inl (l2 + (1 : Int32))), (0, .inr (.inr (some 84)))] rfl rfl rfl ?_
            refine zw_goto hm_106 dX8_freeEnd_24 (t := 2) rfl ?_
            exact zw_sub (ma_nd_of (ks := [0, 2]) rfl (by decide)) (ma_nd_of (ks := [2, 0]) rfl (by decide)) (ma_le_cons rfl (ma_le_cons rfl (ma_le_nil _))) h
          · intro hc
            rw [if_neg hc] at h
            refine zw_push hm_89 dX7_thingFrom_33 (v := .inr (.inr (some 69))) rfl ?_
            refine zw_gf hm_89 dX7_thingFrom_34 (v := .inr (.inr (some 70))) (zT_is hS s_69) (zT_t hS s_69) rfl f_7_11_7 (zT_f hS r_69_0) ?_
            refine zw_push hm_89 dX7_thingFrom_37 (v := .inl (mI S 71 l2.toNatClampNeg)) rfl ?_
            obtain ⟨hg, h⟩ := h
            refine zw_aa hm_89 dX7_thingFrom_38 (zT_is hS s_70) (zT_h hS s_70) rfl rfl hg rfl ?_
            show ma_wp X (d - 1) (w - 22) 89 39 [(2, .inl (mI S 71 l2.toNatClampNeg)), (0, .inr (.inr (some 69))), (1, .inl l2)] [.inr (.inr (mR S 70 (mI S 71 l2.toNatClampNeg).toNatClampNeg))] S _
            refine zw_goto hm_89 dX7_thingFrom_39 (t := 43) rfl ?_
            refine zw_aret hm_89 dX7_thingFrom_43 ?_
            show ma_wp X d w 106 18 [(0, .inr (.inr (some 84))), (2, .inl l2)] [.inr (.inr (mR S 70 (mI S 71 l2.toNatClampNeg).toNatClampNeg))] S _
            refine zw_ifnonnull hm_106 dX8_freeEnd_18 (t := 27) rfl ?_ ?_
            · intro hc
              have h := h.1 hc
              (try rw [hc])
              show ma_wp X d w 106 21 [(0, .inr (.inr (some 84))), (2, .inl l2)] [] S _
              refine zw_sto hm_106 dX8_freeEnd_21 [(2, .inl (l2 + (1 : Int32))), (0, .inr (.inr (some 84)))] rfl rfl rfl ?_
              refine zw_goto hm_106 dX8_freeEnd_24 (t := 2) rfl ?_
              exact zw_sub (ma_nd_of (ks := [0, 2]) rfl (by decide)) (ma_nd_of (ks := [2, 0]) rfl (by decide)) (ma_le_cons rfl (ma_le_cons rfl (ma_le_nil _))) h
            · intro c1 hc
              have h := h.2 c1 hc
              (try rw [hc])
              show ma_wp X d w 106 27 [(0, .inr (.inr (some 84))), (2, .inl l2)] [] S _
              refine zw_push hm_106 dX8_freeEnd_27 (v := .inl l2) rfl ?_
              exact zw_iret hm_106 dX8_freeEnd_28 h
theorem lp_106_84_s_2 {X : Nat × (Nat → Int32)} {d w : Nat} {f : Nat → Nat → Int32} {r : Nat → Nat → Option Nat} {C Z N : Nat} {Q : Option ma_V ⊕ Nat → ma_S → Prop} {ab : Nat→Nat→Int32} {p : Int32} {S : ma_S} (hd : 1 ≤ d) (hw : 22 ≤ w) (K : ∀ v S', S' = S → (0 ≤ v.toInt ∧ v.toInt ≤ 300000) → (v.toInt = aE ab p.toInt) → Q (.inl (some (.inl v))) S') : ∀ (n : Nat) (l2 : Int32), (1500 - l2.toInt).toNat = n → zJ84 f r C Z N S → (0 ≤ l2.toInt) → (l2.toInt ≤ 300000) → (xB S (mR S 70)) → (aT 84 S = ab) → (aE ab l2.toInt = aE ab p.toInt) → ma_wp X d w 106 2 [(0, .inr (.inr (some 84))), (2, .inl l2)] [] S Q := by
  intro n
  induction n using Nat.strongRecOn with
  | _ n IH =>
    intro l2 hmu hI  hi0 hi1 hi2 hi3 hi4
    refine g_106_84_s_2 l2 (by omega) (by omega) (zG_T hI) ?_
    have f1 := zG_s hI (0) (1500) (c := 84) (k := 0) (by decide)
    have b2 := i_bd l2
    refine zd (fun h3 => ?_) (fun h3 => ?_)
    · skip
      have g4 := i_le h3
      exact K (l2) _ rfl (by omega) (show l2.toInt = aE ab p.toInt from by first | (have ef := hi4; have r0 := (congrArg Int32.toInt (show aT 84 S 87 0 = mI S 84 0 from rfl)); have z := aE_st (a := aT 84 S) (p := l2.toInt) (by omega); rw [hi3] at z; omega))
    · skip
      have g5 := i_nle h3
      have li6 : (0 : Int32).toInt = 0 := rfl
      refine zd (fun h7 => ?_) (fun h7 => ?_)
      · skip
        have g8 := i_lt h7
        first | have e9 : (l2 + (1 : Int32)).toInt = l2.toInt + (1) := i_addk rfl (by omega) (by omega) | have b10 := i_bd (l2 + (1 : Int32))
        exact IH _ (by omega) ((l2 + (1 : Int32))) rfl hI (by omega) (by omega) (show xB S (mR S 70) from by first | (exact xB_x (xC_o (W := 75) hi2).2)) (show aT 84 S = ab from by first | (exact hi3)) (show aE ab ((l2 + (1 : Int32))).toInt = aE ab p.toInt from by first | (have r0 := (congrArg Int32.toInt (show aT 84 S 87 0 = mI S 84 0 from rfl)); have o := ob_n1 (a := aT 84 S) (p := l2.toInt) (by omega); have z := aE_go (a := aT 84 S) (p := l2.toInt) (by omega) (ob_neg o); rw [hi3] at z; rw [show (l2 + (1 : Int32)).toInt = l2.toInt + 1 from by omega]; exact z.symm.trans hi4) | (have r0 := (congrArg Int32.toInt (show aT 84 S 87 0 = mI S 84 0 from rfl)); have o := tb_n2 (P := 84) (S := S) (x := l2) (by omega); have z := aE_go (a := aT 84 S) (p := l2.toInt) (by omega) (ob_neg o); rw [hi3] at z; rw [show (l2 + (1 : Int32)).toInt = l2.toInt + 1 from by omega]; exact z.symm.trans hi4))
      · skip
        have g11 := i_nlt h7
        have li12 : (4500 : Int32).toInt = 4500 := rfl
        refine zd (fun h13 => ?_) (fun h13 => ?_)
        · skip
          have g14 := i_le h13
          first | have e15 : (l2 + (1 : Int32)).toInt = l2.toInt + (1) := i_addk rfl (by omega) (by omega) | have b16 := i_bd (l2 + (1 : Int32))
          exact IH _ (by omega) ((l2 + (1 : Int32))) rfl hI (by omega) (by omega) (show xB S (mR S 70) from by first | (exact xB_x (xC_o (W := 75) hi2).2)) (show aT 84 S = ab from by first | (exact hi3)) (show aE ab ((l2 + (1 : Int32))).toInt = aE ab p.toInt from by first | (have r0 := (congrArg Int32.toInt (show aT 84 S 87 0 = mI S 84 0 from rfl)); have o := ob_n1 (a := aT 84 S) (p := l2.toInt) (by omega); have z := aE_go (a := aT 84 S) (p := l2.toInt) (by omega) (ob_neg o); rw [hi3] at z; rw [show (l2 + (1 : Int32)).toInt = l2.toInt + 1 from by omega]; exact z.symm.trans hi4) | (have r0 := (congrArg Int32.toInt (show aT 84 S 87 0 = mI S 84 0 from rfl)); have o := tb_n2 (P := 84) (S := S) (x := l2) (by omega); have z := aE_go (a := aT 84 S) (p := l2.toInt) (by omega) (ob_neg o); rw [hi3] at z; rw [show (l2 + (1 : Int32)).toInt = l2.toInt + 1 from by omega]; exact z.symm.trans hi4))
        · skip
          have g17 := i_nle h13
          refine ⟨i_ix (by omega) (by omega), ?_⟩
          have b18 := i_bd (mI S 71 l2.toNatClampNeg)
          refine zd (fun h19 => ?_) (fun h19 => ?_)
          · skip
            have g20 := i_lt h19
            first | have e21 : (l2 + (1 : Int32)).toInt = l2.toInt + (1) := i_addk rfl (by omega) (by omega) | have b22 := i_bd (l2 + (1 : Int32))
            exact IH _ (by omega) ((l2 + (1 : Int32))) rfl hI (by omega) (by omega) (show xB S (mR S 70) from by first | (exact xB_x (xC_o (W := 75) hi2).2)) (show aT 84 S = ab from by first | (exact hi3)) (show aE ab ((l2 + (1 : Int32))).toInt = aE ab p.toInt from by first | (have r0 := (congrArg Int32.toInt (show aT 84 S 87 0 = mI S 84 0 from rfl)); have o := ob_n1 (a := aT 84 S) (p := l2.toInt) (by omega); have z := aE_go (a := aT 84 S) (p := l2.toInt) (by omega) (ob_neg o); rw [hi3] at z; rw [show (l2 + (1 : Int32)).toInt = l2.toInt + 1 from by omega]; exact z.symm.trans hi4) | (have r0 := (congrArg Int32.toInt (show aT 84 S 87 0 = mI S 84 0 from rfl)); have o := tb_n2 (P := 84) (S := S) (x := l2) (by omega); have z := aE_go (a := aT 84 S) (p := l2.toInt) (by omega) (ob_neg o); rw [hi3] at z; rw [show (l2 + (1 : Int32)).toInt = l2.toInt + 1 from by omega]; exact z.symm.trans hi4))
          · skip
            have g23 := i_nlt h19
            have li24 : (512 : Int32).toInt = 512 := rfl
            refine zd (fun h25 => ?_) (fun h25 => ?_)
            · skip
              have g26 := i_le h25
              first | have e27 : (l2 + (1 : Int32)).toInt = l2.toInt + (1) := i_addk rfl (by omega) (by omega) | have b28 := i_bd (l2 + (1 : Int32))
              exact IH _ (by omega) ((l2 + (1 : Int32))) rfl hI (by omega) (by omega) (show xB S (mR S 70) from by first | (exact xB_x (xC_o (W := 75) hi2).2)) (show aT 84 S = ab from by first | (exact hi3)) (show aE ab ((l2 + (1 : Int32))).toInt = aE ab p.toInt from by first | (have r0 := (congrArg Int32.toInt (show aT 84 S 87 0 = mI S 84 0 from rfl)); have o := ob_n1 (a := aT 84 S) (p := l2.toInt) (by omega); have z := aE_go (a := aT 84 S) (p := l2.toInt) (by omega) (ob_neg o); rw [hi3] at z; rw [show (l2 + (1 : Int32)).toInt = l2.toInt + 1 from by omega]; exact z.symm.trans hi4) | (have r0 := (congrArg Int32.toInt (show aT 84 S 87 0 = mI S 84 0 from rfl)); have o := tb_n2 (P := 84) (S := S) (x := l2) (by omega); have z := aE_go (a := aT 84 S) (p := l2.toInt) (by omega) (ob_neg o); rw [hi3] at z; rw [show (l2 + (1 : Int32)).toInt = l2.toInt + 1 from by omega]; exact z.symm.trans hi4))
            · skip
              have g29 := i_nle h25
              refine ⟨i_ix (by omega) (by omega), ?_⟩
              refine ⟨fun hc => ?_, fun c1 hc => ?_⟩
              · skip
                have rn_c1 : zTa (mR S 70) (mI S 71 l2.toNatClampNeg) = none := (ta_rd (y := (mI S 71 l2.toNatClampNeg)) hi2 (by omega) (by omega)).symm.trans hc
                first | have e30 : (l2 + (1 : Int32)).toInt = l2.toInt + (1) := i_addk rfl (by omega) (by omega) | have b31 := i_bd (l2 + (1 : Int32))
                exact IH _ (by omega) ((l2 + (1 : Int32))) rfl hI (by omega) (by omega) (show xB S (mR S 70) from by first | (exact xB_x (xC_o (W := 75) hi2).2)) (show aT 84 S = ab from by first | (exact hi3)) (show aE ab ((l2 + (1 : Int32))).toInt = aE ab p.toInt from by first | (have r0 := (congrArg Int32.toInt (show aT 84 S 87 0 = mI S 84 0 from rfl)); have o := tb_n3 (P := 84) (x := l2) hi2 rn_c1; have z := aE_go (a := aT 84 S) (p := l2.toInt) (by omega) (ob_neg o); rw [hi3] at z; rw [show (l2 + (1 : Int32)).toInt = l2.toInt + 1 from by omega]; exact z.symm.trans hi4))
              · skip
                have th_c1 := (fun _ z => zG_70 hI (c := 70) (by decide) z) c1 hc
                have rg_c1 : zTa (mR S 70) (mI S 71 l2.toNatClampNeg) = some c1 := (ta_rd (y := (mI S 71 l2.toNatClampNeg)) hi2 (by omega) (by omega)).symm.trans hc
                exact K (l2) _ rfl (by omega) (show l2.toInt = aE ab p.toInt from by first | (have ef := hi4; have r0 := (congrArg Int32.toInt (show aT 84 S 87 0 = mI S 84 0 from rfl)); have o := tb_y (P := 84) (x := l2) hi2 rg_c1 (by omega) (by omega); have z := aE_st (a := aT 84 S) (p := l2.toInt) (fun w => by rw [o.1] at w; omega); rw [hi3] at z; omega))
theorem sp_106_84_s {X : Nat × (Nat → Int32)} {d w : Nat} {f : Nat → Nat → Int32} {r : Nat → Nat → Option Nat} {C Z N : Nat} {Q : Option ma_V ⊕ Nat → ma_S → Prop} {ab : Nat→Nat→Int32} {S : ma_S} (p : Int32) (hd : 1 ≤ d) (hw : 22 ≤ w) (hI : zJ84 f r C Z N S) (hpre0 : xB S (mR S 70)) (hpre1 : aT 84 S = ab) (hpre2 : 0 ≤ p.toInt) (hpre3 : p.toInt ≤ 300000) (K : ∀ v S', S' = S → (0 ≤ v.toInt ∧ v.toInt ≤ 300000) → (v.toInt = aE ab p.toInt) → Q (.inl (some (.inl v))) S') : ma_wp X d w 106 0 [(0, .inr (.inr (some 84))), (1, .inl p)] [] S Q := by
  refine g_106_84_s_0 p (by omega) (by omega) (zG_T hI) ?_
  have b1 := i_bd p
  exact lp_106_84_s_2 (by omega) (by omega) K _ (p) rfl hI (by omega) (by omega) (show xB S (mR S 70) from by first | (exact xB_x (xC_o (W := 75) hpre0).2)) (show aT 84 S = ab from by first | (exact hpre1)) (show aE ab (p).toInt = aE ab p.toInt from by first | (exact rfl))
