/-! from 95.k13 -/
/-! the collectors that sweep, the class (written by wip/tools/gen20.py) -/
theorem g_105_79_s_0 {X : Nat × (Nat → Int32)} {d w : Nat} {S : ma_S} {Q : Option ma_V ⊕ Nat → ma_S → Prop} (p : Int32) (hd : 1 ≤ d) (hw : 22 ≤ w) (hS : zT S) (h : ma_wp X d w 105 2 [(0, .inr (.inr (some 79))), (2, .inl p)] [] S Q) : ma_wp X d w 105 0 [(0, .inr (.inr (some 79))), (1, .inl p)] [] S Q := by
  refine zw_push hm_105 dX8_freeFrom_0 (v := .inl p) rfl ?_
  refine zw_sto hm_105 dX8_freeFrom_1 [(2, .inl p), (0, .inr (.inr (some 79))), (1, .inl p)] rfl rfl rfl ?_
  exact zw_sub (ma_nd_of (ks := [0, 2]) rfl (by decide)) (ma_nd_of (ks := [2, 0, 1]) rfl (by decide)) (ma_le_cons rfl (ma_le_cons rfl (ma_le_nil _))) h
theorem g_105_79_s_2 {X : Nat × (Nat → Int32)} {d w : Nat} {S : ma_S} {Q : Option ma_V ⊕ Nat → ma_S → Prop} (l2 : Int32) (hd : 1 ≤ d) (hw : 22 ≤ w) (hS : zT S) (h : if (mI S 79 2) ≤ l2 then (Q (.inl (some (.inl (mI S 79 2)))) S) else (if l2 < 0 then (Q (.inl (some (.inl l2))) S) else (if (4500 : Int32) ≤ l2 then (Q (.inl (some (.inl l2))) S) else ((0 ≤ l2 ∧ l2.toNatClampNeg < 4500) ∧ (if (mI S 71 l2.toNatClampNeg) < 0 then (Q (.inl (some (.inl l2))) S) else (if (512 : Int32) ≤ (mI S 71 l2.toNatClampNeg) then (Q (.inl (some (.inl l2))) S) else ((0 ≤ (mI S 71 l2.toNatClampNeg) ∧ (mI S 71 l2.toNatClampNeg).toNatClampNeg < 512) ∧ (((mR S 70 (mI S 71 l2.toNatClampNeg).toNatClampNeg) = none → Q (.inl (some (.inl l2))) S) ∧ (∀ c1, (mR S 70 (mI S 71 l2.toNatClampNeg).toNatClampNeg) = some c1 → (126 ≤ c1 ∧ c1 < mN S) ∧ (ma_wp X d w 105 2 [(0, .inr (.inr (some 79))), (2, .inl (l2 + (mI S c1 2)))] [] S Q)))))))))) : ma_wp X d w 105 2 [(0, .inr (.inr (some 79))), (2, .inl l2)] [] S Q := by
  refine zw_push hm_105 dX8_freeFrom_2 (v := .inl l2) rfl ?_
  refine zw_push hm_105 dX8_freeFrom_3 (v := .inr (.inr (some 79))) rfl ?_
  refine zw_gf hm_105 dX8_freeFrom_4 (v := .inl (mI S 79 2)) (zT_is hS s_79) (zT_t hS s_79) rfl f_8_9_8 rfl ?_
  refine zw_if2 hm_105 dX8_freeFrom_7 (t := 35) rfl zc2_ge ?_ ?_
  · intro hc
    rw [if_pos hc] at h
    refine zw_push hm_105 dX8_freeFrom_35 (v := .inr (.inr (some 79))) rfl ?_
    refine zw_gf hm_105 dX8_freeFrom_36 (v := .inl (mI S 79 2)) (zT_is hS s_79) (zT_t hS s_79) rfl f_8_9_8 rfl ?_
    exact zw_iret hm_105 dX8_freeFrom_39 h
  · intro hc
    rw [if_neg hc] at h
    refine zw_push hm_105 dX8_freeFrom_10 (v := .inr (.inr (some 79))) rfl ?_
    refine zw_gf hm_105 dX8_freeFrom_11 (v := .inr (.inr (some 69))) (zT_is hS s_79) (zT_t hS s_79) rfl f_8_46_8 (zT_f hS r_79_0) ?_
    refine zw_push hm_105 dX8_freeFrom_14 (v := .inl l2) rfl ?_
    refine zw_cv hm_105 dX8_freeFrom_15 v_8_50_7 hm_89 [.inl l2] [] rfl (zT_rt hS s_69 rfl) ⟨by omega, by omega⟩ rfl ?_
    show ma_wp X (d - 1) (w - 22) 89 0 [(0, .inr (.inr (some 69))), (1, .inl l2)] [] S _
    refine zw_push hm_89 dX7_thingFrom_0 (v := .inl l2) rfl ?_
    refine zw_if0 hm_89 dX7_thingFrom_1 (t := 20) rfl zc0_lt ?_ ?_
    · intro hc
      rw [if_pos hc] at h
      refine zw_push hm_89 dX7_thingFrom_20 (v := .inl (-1 : Int32)) rfl ?_
      refine zw_sto hm_89 dX7_thingFrom_21 [(2, .inl (-1 : Int32)), (0, .inr (.inr (some 69))), (1, .inl l2)] rfl rfl rfl ?_
      refine zw_push hm_89 dX7_thingFrom_22 (v := .inl (-1 : Int32)) rfl ?_
      refine zw_if0 hm_89 dX7_thingFrom_23 (t := 42) rfl zc0_lt (fun _ => ?_) (fun hc => absurd (by decide) hc)
      refine zw_push hm_89 dX7_thingFrom_42 (v := .inr (.inr none)) rfl ?_
      refine zw_aret hm_89 dX7_thingFrom_43 ?_
      show ma_wp X d w 105 18 [(0, .inr (.inr (some 79))), (2, .inl l2)] [.inr (.inr none)] S _
      refine zw_sto hm_105 dX8_freeFrom_18 [(3, .inr (.inr none)), (0, .inr (.inr (some 79))), (2, .inl l2)] rfl rfl rfl ?_
      refine zw_push hm_105 dX8_freeFrom_19 (v := .inr (.inr none)) rfl ?_
      refine zw_ifnonnull hm_105 dX8_freeFrom_20 (t := 25) rfl (fun _ => ?_) (fun _ z => by cases z)
      refine zw_push hm_105 dX8_freeFrom_23 (v := .inl l2) rfl ?_
      exact zw_iret hm_105 dX8_freeFrom_24 h
    · intro hc
      rw [if_neg hc] at h
      refine zw_push hm_89 dX7_thingFrom_4 (v := .inl l2) rfl ?_
      refine zw_push hm_89 dX7_thingFrom_5 (v := .inl (4500 : Int32)) rfl ?_
      refine zw_if2 hm_89 dX7_thingFrom_8 (t := 20) rfl zc2_ge ?_ ?_
      · intro hc
        rw [if_pos hc] at h
        refine zw_push hm_89 dX7_thingFrom_20 (v := .inl (-1 : Int32)) rfl ?_
        refine zw_sto hm_89 dX7_thingFrom_21 [(2, .inl (-1 : Int32)), (0, .inr (.inr (some 69))), (1, .inl l2)] rfl rfl rfl ?_
        refine zw_push hm_89 dX7_thingFrom_22 (v := .inl (-1 : Int32)) rfl ?_
        refine zw_if0 hm_89 dX7_thingFrom_23 (t := 42) rfl zc0_lt (fun _ => ?_) (fun hc => absurd (by decide) hc)
        refine zw_push hm_89 dX7_thingFrom_42 (v := .inr (.inr none)) rfl ?_
        refine zw_aret hm_89 dX7_thingFrom_43 ?_
        show ma_wp X d w 105 18 [(0, .inr (.inr (some 79))), (2, .inl l2)] [.inr (.inr none)] S _
        refine zw_sto hm_105 dX8_freeFrom_18 [(3, .inr (.inr none)), (0, .inr (.inr (some 79))), (2, .inl l2)] rfl rfl rfl ?_
        refine zw_push hm_105 dX8_freeFrom_19 (v := .inr (.inr none)) rfl ?_
        refine zw_ifnonnull hm_105 dX8_freeFrom_20 (t := 25) rfl (fun _ => ?_) (fun _ z => by cases z)
        refine zw_push hm_105 dX8_freeFrom_23 (v := .inl l2) rfl ?_
        exact zw_iret hm_105 dX8_freeFrom_24 h
      · intro hc
        rw [if_neg hc] at h
        refine zw_push hm_89 dX7_thingFrom_11 (v := .inr (.inr (some 69))) rfl ?_
        refine zw_gf hm_89 dX7_thingFrom_12 (v := .inr (.inr (some 71))) (zT_is hS s_69) (zT_t hS s_69) rfl f_7_17_7 (zT_f hS r_69_1) ?_
        refine zw_push hm_89 dX7_thingFrom_15 (v := .inl l2) rfl ?_
        obtain ⟨hg, h⟩ := h
        refine zw_ia hm_89 dX7_thingFrom_16 (zT_is hS s_71) (zT_h hS s_71) rfl hg ?_
        show ma_wp X (d - 1) (w - 22) 89 17 [(0, .inr (.inr (some 69))), (1, .inl l2)] [.inl (mI S 71 l2.toNatClampNeg)] S _
        refine zw_goto hm_89 dX7_thingFrom_17 (t := 21) rfl ?_
        refine zw_sto hm_89 dX7_thingFrom_21 [(2, .inl (mI S 71 l2.toNatClampNeg)), (0, .inr (.inr (some 69))), (1, .inl l2)] rfl rfl rfl ?_
        refine zw_push hm_89 dX7_thingFrom_22 (v := .inl (mI S 71 l2.toNatClampNeg)) rfl ?_
        refine zw_if0 hm_89 dX7_thingFrom_23 (t := 42) rfl zc0_lt ?_ ?_
        · intro hc
          rw [if_pos hc] at h
          refine zw_push hm_89 dX7_thingFrom_42 (v := .inr (.inr none)) rfl ?_
          refine zw_aret hm_89 dX7_thingFrom_43 ?_
          show ma_wp X d w 105 18 [(0, .inr (.inr (some 79))), (2, .inl l2)] [.inr (.inr none)] S _
          refine zw_sto hm_105 dX8_freeFrom_18 [(3, .inr (.inr none)), (0, .inr (.inr (some 79))), (2, .inl l2)] rfl rfl rfl ?_
          refine zw_push hm_105 dX8_freeFrom_19 (v := .inr (.inr none)) rfl ?_
          refine zw_ifnonnull hm_105 dX8_freeFrom_20 (t := 25) rfl (fun _ => ?_) (fun _ z => by cases z)
          refine zw_push hm_105 dX8_freeFrom_23 (v := .inl l2) rfl ?_
          exact zw_iret hm_105 dX8_freeFrom_24 h
        · intro hc
          rw [if_neg hc] at h
          refine zw_push hm_89 dX7_thingFrom_26 (v := .inl (mI S 71 l2.toNatClampNeg)) rfl ?_
          refine zw_push hm_89 dX7_thingFrom_27 (v := .inl (512 : Int32)) rfl ?_
          refine zw_if2 hm_89 dX7_thingFrom_30 (t := 42) rfl zc2_ge ?_ ?_
          · intro hc
            rw [if_pos hc] at h
            refine zw_push hm_89 dX7_thingFrom_42 (v := .inr (.inr none)) rfl ?_
            refine zw_aret hm_89 dX7_thingFrom_43 ?_
            show ma_wp X d w 105 18 [(0, .inr (.inr (some 79))), (2, .inl l2)] [.inr (.inr none)] S _
            refine zw_sto hm_105 dX8_freeFrom_18 [(3, .inr (.inr none)), (0, .inr (.inr (some 79))), (2, .inl l2)] rfl rfl rfl ?_
            refine zw_push hm_105 dX8_freeFrom_19 (v := .inr (.inr none)) rfl ?_
            refine zw_ifnonnull hm_105 dX8_freeFrom_20 (t := 25) rfl (fun _ => ?_) (fun _ z => by cases z)
            refine zw_push hm_105 dX8_freeFrom_23 (v := .inl l2) rfl ?_
            exact zw_iret hm_105 dX8_freeFrom_24 h
          · intro hc
            rw [if_neg hc] at h
            refine zw_push hm_89 dX7_thingFrom_33 (v := .inr (.inr (some 69))) rfl ?_
            refine zw_gf hm_89 dX7_thingFrom_34 (v := .inr (.inr (some 70))) (zT_is hS s_69) (zT_t hS s_69) rfl f_7_11_7 (zT_f hS r_69_0) ?_
            refine zw_push hm_89 dX7_thingFrom_37 (v := .inl (mI S 71 l2.toNatClampNeg)) rfl ?_
            obtain ⟨hg, h⟩ := h
            refine zw_aa hm_89 dX7_thingFrom_38 (zT_is hS s_70) (zT_h hS s_70) rfl rfl hg rfl ?_
            show ma_wp X (d - 1) (w - 22) 89 39 [(2, .inl (mI S 71 l2.toNatClampNeg)), (0, .inr (.inr (some 69))), (1, .inl l2)] [.inr (.inr (mR S 70 (mI S 71 l2.toNatClampNeg).toNatClampNeg))] S _
            refine zw_goto hm_89 dX7_thingFrom_39 (t := 43) rfl ?_
            refine zw_aret hm_89 dX7_thingFrom_43 ?_
            show ma_wp X d w 105 18 [(0, .inr (.inr (some 79))), (2, .inl l2)] [.inr (.inr (mR S 70 (mI S 71 l2.toNatClampNeg).toNatClampNeg))] S _
            refine zw_sto hm_105 dX8_freeFrom_18 [(3, .inr (.inr (mR S 70 (mI S 71 l2.toNatClampNeg).toNatClampNeg))), (0, .inr (.inr (some 79))), (2, .inl l2)] rfl rfl rfl ?_
            refine zw_push hm_105 dX8_freeFrom_19 (v := .inr (.inr (mR S 70 (mI S 71 l2.toNatClampNeg).toNatClampNeg))) rfl ?_
            refine zw_ifnonnull hm_105 dX8_freeFrom_20 (t := 25) rfl ?_ ?_
            · intro hc
              have h := h.1 hc
              (try rw [hc])
              show ma_wp X d w 105 23 [(3, .inr (.inr none)), (0, .inr (.inr (some 79))), (2, .inl l2)] [] S _
              refine zw_push hm_105 dX8_freeFrom_23 (v := .inl l2) rfl ?_
              exact zw_iret hm_105 dX8_freeFrom_24 h
            · intro c1 hc
              have h := h.2 c1 hc
              (try rw [hc])
              show ma_wp X d w 105 25 [(3, .inr (.inr (some c1))), (0, .inr (.inr (some 79))), (2, .inl l2)] [] S _
              refine zw_push hm_105 dX8_freeFrom_25 (v := .inl l2) rfl ?_
              refine zw_push hm_105 dX8_freeFrom_26 (v := .inr (.inr (some c1))) rfl ?_
              obtain ⟨hg, h⟩ := h
              refine zw_gf hm_105 dX8_freeFrom_27 (v := .inl (mI S c1 2)) (zT_tis hS hg) (zT_tt hS hg) rfl f_8_34_9 rfl ?_
              refine zw_stk hm_105 dX8_freeFrom_30 (st₉ := [.inl (l2 + (mI S c1 2))]) rfl rfl ?_
              refine zw_sto hm_105 dX8_freeFrom_31 [(2, .inl (l2 + (mI S c1 2))), (3, .inr (.inr (some c1))), (0, .inr (.inr (some 79)))] rfl rfl rfl ?_
              refine zw_goto hm_105 dX8_freeFrom_32 (t := 2) rfl ?_
              exact zw_sub (ma_nd_of (ks := [0, 2]) rfl (by decide)) (ma_nd_of (ks := [2, 3, 0]) rfl (by decide)) (ma_le_cons rfl (ma_le_cons rfl (ma_le_nil _))) h
theorem lp_105_79_s_2 {X : Nat × (Nat → Int32)} {d w : Nat} {f : Nat → Nat → Int32} {r : Nat → Nat → Option Nat} {C Z N : Nat} {Q : Option ma_V ⊕ Nat → ma_S → Prop} {ab : Nat→Nat→Int32} {p : Int32} {S : ma_S} (hd : 1 ≤ d) (hw : 22 ≤ w) (K : ∀ v S₉, S₉ = S → (0 ≤ v.toInt ∧ v.toInt ≤ 1500) → (v.toInt = aN ab p.toInt) → Q (.inl (some (.inl v))) S₉) : ∀ (n : Nat) (l2 : Int32), (1500 - l2.toInt).toNat = n → zJ79 f r C Z N S → (0 ≤ l2.toInt) → (xB S (mR S 70)) → (aT 79 S = ab) → (aN ab l2.toInt = aN ab p.toInt) → ma_wp X d w 105 2 [(0, .inr (.inr (some 79))), (2, .inl l2)] [] S Q := by
  intro n
  induction n using Nat.strongRecOn with
  | _ n IH =>
    intro l2 hmu hI  hi0 hi1 hi2 hi3
    refine g_105_79_s_2 l2 (by omega) (by omega) (zG_T hI) ?_
    have f1 := zG_s hI (0) (1500) (c := 79) (k := 2) (by decide)
    have b2 := i_bd l2
    refine zd (fun h3 => ?_) (fun h3 => ?_)
    · skip
      have g4 := i_le h3
      exact K ((mI S 79 2)) _ rfl (by omega) (show (mI S 79 2).toInt = aN ab p.toInt from by first | (have nf := hi3; have r0 := (congrArg Int32.toInt (show aT 79 S 87 0 = mI S 79 2 from rfl)); have z := aN_ro (a := aT 79 S) (p := l2.toInt) (by omega); rw [hi2] at z r0; omega) | (have nf := hi3; have r0 := (congrArg Int32.toInt (show aT 79 S 87 0 = mI S 79 2 from rfl)); have o := ob_n1 (a := aT 79 S) (p := l2.toInt) (by omega); have z := aN_fr (a := aT 79 S) (p := l2.toInt) (by omega) (ob_neg o); rw [hi2] at z; omega) | (have nf := hi3; have r0 := (congrArg Int32.toInt (show aT 79 S 87 0 = mI S 79 2 from rfl)); have o := tb_n2 (P := 79) (S := S) (x := l2) (by omega); have z := aN_fr (a := aT 79 S) (p := l2.toInt) (by omega) (ob_neg o); rw [hi2] at z; omega))
    · skip
      have g5 := i_nle h3
      have li6 : (0 : Int32).toInt = 0 := rfl
      refine zd (fun h7 => ?_) (fun h7 => ?_)
      · skip
        have g8 := i_lt h7
        exact K (l2) _ rfl (by omega) (show l2.toInt = aN ab p.toInt from by first | (have nf := hi3; have r0 := (congrArg Int32.toInt (show aT 79 S 87 0 = mI S 79 2 from rfl)); have z := aN_ro (a := aT 79 S) (p := l2.toInt) (by omega); rw [hi2] at z r0; omega) | (have nf := hi3; have r0 := (congrArg Int32.toInt (show aT 79 S 87 0 = mI S 79 2 from rfl)); have o := ob_n1 (a := aT 79 S) (p := l2.toInt) (by omega); have z := aN_fr (a := aT 79 S) (p := l2.toInt) (by omega) (ob_neg o); rw [hi2] at z; omega) | (have nf := hi3; have r0 := (congrArg Int32.toInt (show aT 79 S 87 0 = mI S 79 2 from rfl)); have o := tb_n2 (P := 79) (S := S) (x := l2) (by omega); have z := aN_fr (a := aT 79 S) (p := l2.toInt) (by omega) (ob_neg o); rw [hi2] at z; omega))
      · skip
        have g9 := i_nlt h7
        have li10 : (4500 : Int32).toInt = 4500 := rfl
        refine zd (fun h11 => ?_) (fun h11 => ?_)
        · skip
          have g12 := i_le h11
          exact K (l2) _ rfl (by omega) (show l2.toInt = aN ab p.toInt from by first | (have nf := hi3; have r0 := (congrArg Int32.toInt (show aT 79 S 87 0 = mI S 79 2 from rfl)); have z := aN_ro (a := aT 79 S) (p := l2.toInt) (by omega); rw [hi2] at z r0; omega) | (have nf := hi3; have r0 := (congrArg Int32.toInt (show aT 79 S 87 0 = mI S 79 2 from rfl)); have o := ob_n1 (a := aT 79 S) (p := l2.toInt) (by omega); have z := aN_fr (a := aT 79 S) (p := l2.toInt) (by omega) (ob_neg o); rw [hi2] at z; omega) | (have nf := hi3; have r0 := (congrArg Int32.toInt (show aT 79 S 87 0 = mI S 79 2 from rfl)); have o := tb_n2 (P := 79) (S := S) (x := l2) (by omega); have z := aN_fr (a := aT 79 S) (p := l2.toInt) (by omega) (ob_neg o); rw [hi2] at z; omega))
        · skip
          have g13 := i_nle h11
          refine ⟨i_ix (by omega) (by omega), ?_⟩
          have b14 := i_bd (mI S 71 l2.toNatClampNeg)
          refine zd (fun h15 => ?_) (fun h15 => ?_)
          · skip
            have g16 := i_lt h15
            exact K (l2) _ rfl (by omega) (show l2.toInt = aN ab p.toInt from by first | (have nf := hi3; have r0 := (congrArg Int32.toInt (show aT 79 S 87 0 = mI S 79 2 from rfl)); have z := aN_ro (a := aT 79 S) (p := l2.toInt) (by omega); rw [hi2] at z r0; omega) | (have nf := hi3; have r0 := (congrArg Int32.toInt (show aT 79 S 87 0 = mI S 79 2 from rfl)); have o := ob_n1 (a := aT 79 S) (p := l2.toInt) (by omega); have z := aN_fr (a := aT 79 S) (p := l2.toInt) (by omega) (ob_neg o); rw [hi2] at z; omega) | (have nf := hi3; have r0 := (congrArg Int32.toInt (show aT 79 S 87 0 = mI S 79 2 from rfl)); have o := tb_n2 (P := 79) (S := S) (x := l2) (by omega); have z := aN_fr (a := aT 79 S) (p := l2.toInt) (by omega) (ob_neg o); rw [hi2] at z; omega))
          · skip
            have g17 := i_nlt h15
            have li18 : (512 : Int32).toInt = 512 := rfl
            refine zd (fun h19 => ?_) (fun h19 => ?_)
            · skip
              have g20 := i_le h19
              exact K (l2) _ rfl (by omega) (show l2.toInt = aN ab p.toInt from by first | (have nf := hi3; have r0 := (congrArg Int32.toInt (show aT 79 S 87 0 = mI S 79 2 from rfl)); have z := aN_ro (a := aT 79 S) (p := l2.toInt) (by omega); rw [hi2] at z r0; omega) | (have nf := hi3; have r0 := (congrArg Int32.toInt (show aT 79 S 87 0 = mI S 79 2 from rfl)); have o := ob_n1 (a := aT 79 S) (p := l2.toInt) (by omega); have z := aN_fr (a := aT 79 S) (p := l2.toInt) (by omega) (ob_neg o); rw [hi2] at z; omega) | (have nf := hi3; have r0 := (congrArg Int32.toInt (show aT 79 S 87 0 = mI S 79 2 from rfl)); have o := tb_n2 (P := 79) (S := S) (x := l2) (by omega); have z := aN_fr (a := aT 79 S) (p := l2.toInt) (by omega) (ob_neg o); rw [hi2] at z; omega))
            · skip
              have g21 := i_nle h19
              refine ⟨i_ix (by omega) (by omega), ?_⟩
              refine ⟨fun hc => ?_, fun c1 hc => ?_⟩
              · skip
                have rn_c1 : zTa (mR S 70) (mI S 71 l2.toNatClampNeg) = none := (ta_rd (y := (mI S 71 l2.toNatClampNeg)) hi1 (by omega) (by omega)).symm.trans hc
                exact K (l2) _ rfl (by omega) (show l2.toInt = aN ab p.toInt from by first | (have nf := hi3; have r0 := (congrArg Int32.toInt (show aT 79 S 87 0 = mI S 79 2 from rfl)); have z := aN_ro (a := aT 79 S) (p := l2.toInt) (by omega); rw [hi2] at z r0; omega) | (have nf := hi3; have r0 := (congrArg Int32.toInt (show aT 79 S 87 0 = mI S 79 2 from rfl)); have o := tb_n3 (P := 79) (x := l2) hi1 rn_c1; have z := aN_fr (a := aT 79 S) (p := l2.toInt) (by omega) (ob_neg o); rw [hi2] at z; omega))
              · skip
                have th_c1 := (fun _ z => zG_70 hI (c := 70) (by decide) z) c1 hc
                have rg_c1 : zTa (mR S 70) (mI S 71 l2.toNatClampNeg) = some c1 := (ta_rd (y := (mI S 71 l2.toNatClampNeg)) hi1 (by omega) (by omega)).symm.trans hc
                refine ⟨zG_n hI th_c1, ?_⟩
                have f22 := zG_th hI th_c1
                first | have e23 : (l2 + (mI S c1 2)).toInt = l2.toInt + (mI S c1 2).toInt := i_add (by omega) (by omega) | have b24 := i_bd (l2 + (mI S c1 2))
                exact IH _ (by omega) ((l2 + (mI S c1 2))) rfl hI (by omega) (show xB S (mR S 70) from by first | (exact xB_x (xC_o (W := 75) hi1).2)) (show aT 79 S = ab from by first | (exact hi2)) (show aN ab ((l2 + (mI S c1 2))).toInt = aN ab p.toInt from by first | (have r0 := (congrArg Int32.toInt (show aT 79 S 87 0 = mI S 79 2 from rfl)); have o := tb_y (P := 79) (x := l2) hi1 rg_c1 (by omega) (by omega); have z := aN_ob (a := aT 79 S) (p := l2.toInt) (tz_e (sz_of hI (by decide))) (by omega) (by rw [o.1]; omega); rw [o.1, o.2] at z; rw [hi2] at z; refine Eq.trans ?_ (z.symm.trans hi3); congr 1))
theorem sp_105_79_s {X : Nat × (Nat → Int32)} {d w : Nat} {f : Nat → Nat → Int32} {r : Nat → Nat → Option Nat} {C Z N : Nat} {Q : Option ma_V ⊕ Nat → ma_S → Prop} {ab : Nat→Nat→Int32} {S : ma_S} (p : Int32) (hd : 1 ≤ d) (hw : 22 ≤ w) (hI : zJ79 f r C Z N S) (hpre0 : xB S (mR S 70)) (hpre1 : aT 79 S = ab) (hpre2 : 0 ≤ p.toInt) (K : ∀ v S₉, S₉ = S → (0 ≤ v.toInt ∧ v.toInt ≤ 1500) → (v.toInt = aN ab p.toInt) → Q (.inl (some (.inl v))) S₉) : ma_wp X d w 105 0 [(0, .inr (.inr (some 79))), (1, .inl p)] [] S Q := by
  refine g_105_79_s_0 p (by omega) (by omega) (zG_T hI) ?_
  have b1 := i_bd p
  exact lp_105_79_s_2 (by omega) (by omega) K _ (p) rfl hI (by omega) (show xB S (mR S 70) from by first | (exact xB_x (xC_o (W := 75) hpre0).2)) (show aT 79 S = ab from by first | (exact hpre1)) (show aN ab (p).toInt = aN ab p.toInt from by first | (exact rfl))

/-! from 95.k14 -/
/-! the collectors that sweep, the class (written by wip/tools/gen20.py) -/
theorem g_106_79_s_0 {X : Nat × (Nat → Int32)} {d w : Nat} {S : ma_S} {Q : Option ma_V ⊕ Nat → ma_S → Prop} (p : Int32) (hd : 1 ≤ d) (hw : 22 ≤ w) (hS : zT S) (h : ma_wp X d w 106 2 [(0, .inr (.inr (some 79))), (2, .inl p)] [] S Q) : ma_wp X d w 106 0 [(0, .inr (.inr (some 79))), (1, .inl p)] [] S Q := by
  refine zw_push hm_106 dX8_freeEnd_0 (v := .inl p) rfl ?_
  refine zw_sto hm_106 dX8_freeEnd_1 [(2, .inl p), (0, .inr (.inr (some 79))), (1, .inl p)] rfl rfl rfl ?_
  exact zw_sub (ma_nd_of (ks := [0, 2]) rfl (by decide)) (ma_nd_of (ks := [2, 0, 1]) rfl (by decide)) (ma_le_cons rfl (ma_le_cons rfl (ma_le_nil _))) h
theorem g_106_79_s_2 {X : Nat × (Nat → Int32)} {d w : Nat} {S : ma_S} {Q : Option ma_V ⊕ Nat → ma_S → Prop} (l2 : Int32) (hd : 1 ≤ d) (hw : 22 ≤ w) (hS : zT S) (h : if (mI S 79 2) ≤ l2 then (Q (.inl (some (.inl l2))) S) else (if l2 < 0 then (ma_wp X d w 106 2 [(0, .inr (.inr (some 79))), (2, .inl (l2 + (1 : Int32)))] [] S Q) else (if (4500 : Int32) ≤ l2 then (ma_wp X d w 106 2 [(0, .inr (.inr (some 79))), (2, .inl (l2 + (1 : Int32)))] [] S Q) else ((0 ≤ l2 ∧ l2.toNatClampNeg < 4500) ∧ (if (mI S 71 l2.toNatClampNeg) < 0 then (ma_wp X d w 106 2 [(0, .inr (.inr (some 79))), (2, .inl (l2 + (1 : Int32)))] [] S Q) else (if (512 : Int32) ≤ (mI S 71 l2.toNatClampNeg) then (ma_wp X d w 106 2 [(0, .inr (.inr (some 79))), (2, .inl (l2 + (1 : Int32)))] [] S Q) else ((0 ≤ (mI S 71 l2.toNatClampNeg) ∧ (mI S 71 l2.toNatClampNeg).toNatClampNeg < 512) ∧ (((mR S 70 (mI S 71 l2.toNatClampNeg).toNatClampNeg) = none → ma_wp X d w 106 2 [(0, .inr (.inr (some 79))), (2, .inl (l2 + (1 : Int32)))] [] S Q) ∧ (∀ c1, (mR S 70 (mI S 71 l2.toNatClampNeg).toNatClampNeg) = some c1 → Q (.inl (some (.inl l2))) S))))))))) : ma_wp X d w 106 2 [(0, .inr (.inr (some 79))), (2, .inl l2)] [] S Q := by
  refine zw_push hm_106 dX8_freeEnd_2 (v := .inl l2) rfl ?_
  refine zw_push hm_106 dX8_freeEnd_3 (v := .inr (.inr (some 79))) rfl ?_
  refine zw_gf hm_106 dX8_freeEnd_4 (v := .inl (mI S 79 2)) (zT_is hS s_79) (zT_t hS s_79) rfl f_8_9_8 rfl ?_
  refine zw_if2 hm_106 dX8_freeEnd_7 (t := 27) rfl zc2_ge ?_ ?_
  · intro hc
    rw [if_pos hc] at h
    refine zw_push hm_106 dX8_freeEnd_27 (v := .inl l2) rfl ?_
    exact zw_iret hm_106 dX8_freeEnd_28 h
  · intro hc
    rw [if_neg hc] at h
    refine zw_push hm_106 dX8_freeEnd_10 (v := .inr (.inr (some 79))) rfl ?_
    refine zw_gf hm_106 dX8_freeEnd_11 (v := .inr (.inr (some 69))) (zT_is hS s_79) (zT_t hS s_79) rfl f_8_46_8 (zT_f hS r_79_0) ?_
    refine zw_push hm_106 dX8_freeEnd_14 (v := .inl l2) rfl ?_
    refine zw_cv hm_106 dX8_freeEnd_15 v_8_50_7 hm_89 [.inl l2] [] rfl (zT_rt hS s_69 rfl) ⟨by omega, by omega⟩ rfl ?_
    show ma_wp X (d - 1) (w - 22) 89 0 [(0, .inr (.inr (some 69))), (1, .inl l2)] [] S _
    refine zw_push hm_89 dX7_thingFrom_0 (v := .inl l2) rfl ?_
    refine zw_if0 hm_89 dX7_thingFrom_1 (t := 20) rfl zc0_lt ?_ ?_
    · intro hc
      rw [if_pos hc] at h
      refine zw_push hm_89 dX7_thingFrom_20 (v := .inl (-1 : Int32)) rfl ?_
      refine zw_sto hm_89 dX7_thingFrom_21 [(2, .inl (-1 : Int32)), (0, .inr (.inr (some 69))), (1, .inl l2)] rfl rfl rfl ?_
      refine zw_push hm_89 dX7_thingFrom_22 (v := .inl (-1 : Int32)) rfl ?_
      refine zw_if0 hm_89 dX7_thingFrom_23 (t := 42) rfl zc0_lt (fun _ => ?_) (fun hc => absurd (by decide) hc)
      refine zw_push hm_89 dX7_thingFrom_42 (v := .inr (.inr none)) rfl ?_
      refine zw_aret hm_89 dX7_thingFrom_43 ?_
      show ma_wp X d w 106 18 [(0, .inr (.inr (some 79))), (2, .inl l2)] [.inr (.inr none)] S _
      refine zw_ifnonnull hm_106 dX8_freeEnd_18 (t := 27) rfl (fun _ => ?_) (fun _ z => by cases z)
      refine zw_sto hm_106 dX8_freeEnd_21 [(2, .inl (l2 + (1 : Int32))), (0, .inr (.inr (some 79)))] rfl rfl rfl ?_
      refine zw_goto hm_106 dX8_freeEnd_24 (t := 2) rfl ?_
      exact zw_sub (ma_nd_of (ks := [0, 2]) rfl (by decide)) (ma_nd_of (ks := [2, 0]) rfl (by decide)) (ma_le_cons rfl (ma_le_cons rfl (ma_le_nil _))) h
    · intro hc
      rw [if_neg hc] at h
      refine zw_push hm_89 dX7_thingFrom_4 (v := .inl l2) rfl ?_
      refine zw_push hm_89 dX7_thingFrom_5 (v := .inl (4500 : Int32)) rfl ?_
      refine zw_if2 hm_89 dX7_thingFrom_8 (t := 20) rfl zc2_ge ?_ ?_
      · intro hc
        rw [if_pos hc] at h
        refine zw_push hm_89 dX7_thingFrom_20 (v := .inl (-1 : Int32)) rfl ?_
        refine zw_sto hm_89 dX7_thingFrom_21 [(2, .inl (-1 : Int32)), (0, .inr (.inr (some 69))), (1, .inl l2)] rfl rfl rfl ?_
        refine zw_push hm_89 dX7_thingFrom_22 (v := .inl (-1 : Int32)) rfl ?_
        refine zw_if0 hm_89 dX7_thingFrom_23 (t := 42) rfl zc0_lt (fun _ => ?_) (fun hc => absurd (by decide) hc)
        refine zw_push hm_89 dX7_thingFrom_42 (v := .inr (.inr none)) rfl ?_
        refine zw_aret hm_89 dX7_thingFrom_43 ?_
        show ma_wp X d w 106 18 [(0, .inr (.inr (some 79))), (2, .inl l2)] [.inr (.inr none)] S _
        refine zw_ifnonnull hm_106 dX8_freeEnd_18 (t := 27) rfl (fun _ => ?_) (fun _ z => by cases z)
        refine zw_sto hm_106 dX8_freeEnd_21 [(2, .inl (l2 + (1 : Int32))), (0, .inr (.inr (some 79)))] rfl rfl rfl ?_
        refine zw_goto hm_106 dX8_freeEnd_24 (t := 2) rfl ?_
        exact zw_sub (ma_nd_of (ks := [0, 2]) rfl (by decide)) (ma_nd_of (ks := [2, 0]) rfl (by decide)) (ma_le_cons rfl (ma_le_cons rfl (ma_le_nil _))) h
      · intro hc
        rw [if_neg hc] at h
        refine zw_push hm_89 dX7_thingFrom_11 (v := .inr (.inr (some 69))) rfl ?_
        refine zw_gf hm_89 dX7_thingFrom_12 (v := .inr (.inr (some 71))) (zT_is hS s_69) (zT_t hS s_69) rfl f_7_17_7 (zT_f hS r_69_1) ?_
        refine zw_push hm_89 dX7_thingFrom_15 (v := .inl l2) rfl ?_
        obtain ⟨hg, h⟩ := h
        refine zw_ia hm_89 dX7_thingFrom_16 (zT_is hS s_71) (zT_h hS s_71) rfl hg ?_
        show ma_wp X (d - 1) (w - 22) 89 17 [(0, .inr (.inr (some 69))), (1, .inl l2)] [.inl (mI S 71 l2.toNatClampNeg)] S _
        refine zw_goto hm_89 dX7_thingFrom_17 (t := 21) rfl ?_
        refine zw_sto hm_89 dX7_thingFrom_21 [(2, .inl (mI S 71 l2.toNatClampNeg)), (0, .inr (.inr (some 69))), (1, .inl l2)] rfl rfl rfl ?_
        refine zw_push hm_89 dX7_thingFrom_22 (v := .inl (mI S 71 l2.toNatClampNeg)) rfl ?_
        refine zw_if0 hm_89 dX7_thingFrom_23 (t := 42) rfl zc0_lt ?_ ?_
        · intro hc
          rw [if_pos hc] at h
          refine zw_push hm_89 dX7_thingFrom_42 (v := .inr (.inr none)) rfl ?_
          refine zw_aret hm_89 dX7_thingFrom_43 ?_
          show ma_wp X d w 106 18 [(0, .inr (.inr (some 79))), (2, .inl l2)] [.inr (.inr none)] S _
          refine zw_ifnonnull hm_106 dX8_freeEnd_18 (t := 27) rfl (fun _ => ?_) (fun _ z => by cases z)
          refine zw_sto hm_106 dX8_freeEnd_21 [(2, .inl (l2 + (1 : Int32))), (0, .inr (.inr (some 79)))] rfl rfl rfl ?_
          refine zw_goto hm_106 dX8_freeEnd_24 (t := 2) rfl ?_
          exact zw_sub (ma_nd_of (ks := [0, 2]) rfl (by decide)) (ma_nd_of (ks := [2, 0]) rfl (by decide)) (ma_le_cons rfl (ma_le_cons rfl (ma_le_nil _))) h
        · intro hc
          rw [if_neg hc] at h
          refine zw_push hm_89 dX7_thingFrom_26 (v := .inl (mI S 71 l2.toNatClampNeg)) rfl ?_
          refine zw_push hm_89 dX7_thingFrom_27 (v := .inl (512 : Int32)) rfl ?_
          refine zw_if2 hm_89 dX7_thingFrom_30 (t := 42) rfl zc2_ge ?_ ?_
          · intro hc
            rw [if_pos hc] at h
            refine zw_push hm_89 dX7_thingFrom_42 (v := .inr (.inr none)) rfl ?_
            refine zw_aret hm_89 dX7_thingFrom_43 ?_
            show ma_wp X d w 106 18 [(0, .inr (.inr (some 79))), (2, .inl l2)] [.inr (.inr none)] S _
            refine zw_ifnonnull hm_106 dX8_freeEnd_18 (t := 27) rfl (fun _ => ?_) (fun _ z => by cases z)
            refine zw_sto hm_106 dX8_freeEnd_21 [(2, .inl (l2 + (1 : Int32))), (0, .inr (.inr (some 79)))] rfl rfl rfl ?_
            refine zw_goto hm_106 dX8_freeEnd_24 (t := 2) rfl ?_
            exact zw_sub (ma_nd_of (ks := [0, 2]) rfl (by decide)) (ma_nd_of (ks := [2, 0]) rfl (by decide)) (ma_le_cons rfl (ma_le_cons rfl (ma_le_nil _))) h
          · intro hc
            rw [if_neg hc] at h
            refine zw_push hm_89 dX7_thingFrom_33 (v := .inr (.inr (some 69))) rfl ?_
            refine zw_gf hm_89 dX7_thingFrom_34 (v := .inr (.inr (some 70))) (zT_is hS s_69) (zT_t hS s_69) rfl f_7_11_7 (zT_f hS r_69_0) ?_
            refine zw_push hm_89 dX7_thingFrom_37 (v := .inl (mI S 71 l2.toNatClampNeg)) rfl ?_
            obtain ⟨hg, h⟩ := h
            refine zw_aa hm_89 dX7_thingFrom_38 (zT_is hS s_70) (zT_h hS s_70) rfl rfl hg rfl ?_
            show ma_wp X (d - 1) (w - 22) 89 39 [(2, .inl (mI S 71 l2.toNatClampNeg)), (0, .inr (.inr (some 69))), (1, .inl l2)] [.inr (.inr (mR S 70 (mI S 71 l2.toNatClampNeg).toNatClampNeg))] S _
            refine zw_goto hm_89 dX7_thingFrom_39 (t := 43) rfl ?_
            refine zw_aret hm_89 dX7_thingFrom_43 ?_
            show ma_wp X d w 106 18 [(0, .inr (.inr (some 79))), (2, .inl l2)] [.inr (.inr (mR S 70 (mI S 71 l2.toNatClampNeg).toNatClampNeg))] S _
            refine zw_ifnonnull hm_106 dX8_freeEnd_18 (t := 27) rfl ?_ ?_
            · intro hc
              have h := h.1 hc
              (try rw [hc])
              show ma_wp X d w 106 21 [(0, .inr (.inr (some 79))), (2, .inl l2)] [] S _
              refine zw_sto hm_106 dX8_freeEnd_21 [(2, .inl (l2 + (1 : Int32))), (0, .inr (.inr (some 79)))] rfl rfl rfl ?_
              refine zw_goto hm_106 dX8_freeEnd_24 (t := 2) rfl ?_
              exact zw_sub (ma_nd_of (ks := [0, 2]) rfl (by decide)) (ma_nd_of (ks := [2, 0]) rfl (by decide)) (ma_le_cons rfl (ma_le_cons rfl (ma_le_nil _))) h
            · intro c1 hc
              have h := h.2 c1 hc
              (try rw [hc])
              show ma_wp X d w 106 27 [(0, .inr (.inr (some 79))), (2, .inl l2)] [] S _
              refine zw_push hm_106 dX8_freeEnd_27 (v := .inl l2) rfl ?_
              exact zw_iret hm_106 dX8_freeEnd_28 h
theorem lp_106_79_s_2 {X : Nat × (Nat → Int32)} {d w : Nat} {f : Nat → Nat → Int32} {r : Nat → Nat → Option Nat} {C Z N : Nat} {Q : Option ma_V ⊕ Nat → ma_S → Prop} {ab : Nat→Nat→Int32} {p : Int32} {S : ma_S} (hd : 1 ≤ d) (hw : 22 ≤ w) (K : ∀ v S₉, S₉ = S → (0 ≤ v.toInt ∧ v.toInt ≤ 300000) → (v.toInt = aE ab p.toInt) → Q (.inl (some (.inl v))) S₉) : ∀ (n : Nat) (l2 : Int32), (1500 - l2.toInt).toNat = n → zJ79 f r C Z N S → (0 ≤ l2.toInt) → (l2.toInt ≤ 300000) → (xB S (mR S 70)) → (aT 79 S = ab) → (aE ab l2.toInt = aE ab p.toInt) → ma_wp X d w 106 2 [(0, .inr (.inr (some 79))), (2, .inl l2)] [] S Q := by
  intro n
  induction n using Nat.strongRecOn with
  | _ n IH =>
    intro l2 hmu hI  hi0 hi1 hi2 hi3 hi4
    refine g_106_79_s_2 l2 (by omega) (by omega) (zG_T hI) ?_
    have f1 := zG_s hI (0) (1500) (c := 79) (k := 2) (by decide)
    have b2 := i_bd l2
    refine zd (fun h3 => ?_) (fun h3 => ?_)
    · skip
      have g4 := i_le h3
      exact K (l2) _ rfl (by omega) (show l2.toInt = aE ab p.toInt from by first | (have ef := hi4; have r0 := (congrArg Int32.toInt (show aT 79 S 87 0 = mI S 79 2 from rfl)); have z := aE_st (a := aT 79 S) (p := l2.toInt) (by omega); rw [hi3] at z; omega))
    · skip
      have g5 := i_nle h3
      have li6 : (0 : Int32).toInt = 0 := rfl
      refine zd (fun h7 => ?_) (fun h7 => ?_)
      · skip
        have g8 := i_lt h7
        first | have e9 : (l2 + (1 : Int32)).toInt = l2.toInt + (1) := i_addk rfl (by omega) (by omega) | have b10 := i_bd (l2 + (1 : Int32))
        exact IH _ (by omega) ((l2 + (1 : Int32))) rfl hI (by omega) (by omega) (show xB S (mR S 70) from by first | (exact xB_x (xC_o (W := 75) hi2).2)) (show aT 79 S = ab from by first | (exact hi3)) (show aE ab ((l2 + (1 : Int32))).toInt = aE ab p.toInt from by first | (have r0 := (congrArg Int32.toInt (show aT 79 S 87 0 = mI S 79 2 from rfl)); have o := ob_n1 (a := aT 79 S) (p := l2.toInt) (by omega); have z := aE_go (a := aT 79 S) (p := l2.toInt) (by omega) (ob_neg o); rw [hi3] at z; rw [show (l2 + (1 : Int32)).toInt = l2.toInt + 1 from by omega]; exact z.symm.trans hi4) | (have r0 := (congrArg Int32.toInt (show aT 79 S 87 0 = mI S 79 2 from rfl)); have o := tb_n2 (P := 79) (S := S) (x := l2) (by omega); have z := aE_go (a := aT 79 S) (p := l2.toInt) (by omega) (ob_neg o); rw [hi3] at z; rw [show (l2 + (1 : Int32)).toInt = l2.toInt + 1 from by omega]; exact z.symm.trans hi4))
      · skip
        have g11 := i_nlt h7
        have li12 : (4500 : Int32).toInt = 4500 := rfl
        refine zd (fun h13 => ?_) (fun h13 => ?_)
        · skip
          have g14 := i_le h13
          first | have e15 : (l2 + (1 : Int32)).toInt = l2.toInt + (1) := i_addk rfl (by omega) (by omega) | have b16 := i_bd (l2 + (1 : Int32))
          exact IH _ (by omega) ((l2 + (1 : Int32))) rfl hI (by omega) (by omega) (show xB S (mR S 70) from by first | (exact xB_x (xC_o (W := 75) hi2).2)) (show aT 79 S = ab from by first | (exact hi3)) (show aE ab ((l2 + (1 : Int32))).toInt = aE ab p.toInt from by first | (have r0 := (congrArg Int32.toInt (show aT 79 S 87 0 = mI S 79 2 from rfl)); have o := ob_n1 (a := aT 79 S) (p := l2.toInt) (by omega); have z := aE_go (a := aT 79 S) (p := l2.toInt) (by omega) (ob_neg o); rw [hi3] at z; rw [show (l2 + (1 : Int32)).toInt = l2.toInt + 1 from by omega]; exact z.symm.trans hi4) | (have r0 := (congrArg Int32.toInt (show aT 79 S 87 0 = mI S 79 2 from rfl)); have o := tb_n2 (P := 79) (S := S) (x := l2) (by omega); have z := aE_go (a := aT 79 S) (p := l2.toInt) (by omega) (ob_neg o); rw [hi3] at z; rw [show (l2 + (1 : Int32)).toInt = l2.toInt + 1 from by omega]; exact z.symm.trans hi4))
        · skip
          have g17 := i_nle h13
          refine ⟨i_ix (by omega) (by omega), ?_⟩
          have b18 := i_bd (mI S 71 l2.toNatClampNeg)
          refine zd (fun h19 => ?_) (fun h19 => ?_)
          · skip
            have g20 := i_lt h19
            first | have e21 : (l2 + (1 : Int32)).toInt = l2.toInt + (1) := i_addk rfl (by omega) (by omega) | have b22 := i_bd (l2 + (1 : Int32))
            exact IH _ (by omega) ((l2 + (1 : Int32))) rfl hI (by omega) (by omega) (show xB S (mR S 70) from by first | (exact xB_x (xC_o (W := 75) hi2).2)) (show aT 79 S = ab from by first | (exact hi3)) (show aE ab ((l2 + (1 : Int32))).toInt = aE ab p.toInt from by first | (have r0 := (congrArg Int32.toInt (show aT 79 S 87 0 = mI S 79 2 from rfl)); have o := ob_n1 (a := aT 79 S) (p := l2.toInt) (by omega); have z := aE_go (a := aT 79 S) (p := l2.toInt) (by omega) (ob_neg o); rw [hi3] at z; rw [show (l2 + (1 : Int32)).toInt = l2.toInt + 1 from by omega]; exact z.symm.trans hi4) | (have r0 := (congrArg Int32.toInt (show aT 79 S 87 0 = mI S 79 2 from rfl)); have o := tb_n2 (P := 79) (S := S) (x := l2) (by omega); have z := aE_go (a := aT 79 S) (p := l2.toInt) (by omega) (ob_neg o); rw [hi3] at z; rw [show (l2 + (1 : Int32)).toInt = l2.toInt + 1 from by omega]; exact z.symm.trans hi4))
          · skip
            have g23 := i_nlt h19
            have li24 : (512 : Int32).toInt = 512 := rfl
            refine zd (fun h25 => ?_) (fun h25 => ?_)
            · skip
              have g26 := i_le h25
              first | have e27 : (l2 + (1 : Int32)).toInt = l2.toInt + (1) := i_addk rfl (by omega) (by omega) | have b28 := i_bd (l2 + (1 : Int32))
              exact IH _ (by omega) ((l2 + (1 : Int32))) rfl hI (by omega) (by omega) (show xB S (mR S 70) from by first | (exact xB_x (xC_o (W := 75) hi2).2)) (show aT 79 S = ab from by first | (exact hi3)) (show aE ab ((l2 + (1 : Int32))).toInt = aE ab p.toInt from by first | (have r0 := (congrArg Int32.toInt (show aT 79 S 87 0 = mI S 79 2 from rfl)); have o := ob_n1 (a := aT 79 S) (p := l2.toInt) (by omega); have z := aE_go (a := aT 79 S) (p := l2.toInt) (by omega) (ob_neg o); rw [hi3] at z; rw [show (l2 + (1 : Int32)).toInt = l2.toInt + 1 from by omega]; exact z.symm.trans hi4) | (have r0 := (congrArg Int32.toInt (show aT 79 S 87 0 = mI S 79 2 from rfl)); have o := tb_n2 (P := 79) (S := S) (x := l2) (by omega); have z := aE_go (a := aT 79 S) (p := l2.toInt) (by omega) (ob_neg o); rw [hi3] at z; rw [show (l2 + (1 : Int32)).toInt = l2.toInt + 1 from by omega]; exact z.symm.trans hi4))
            · skip
              have g29 := i_nle h25
              refine ⟨i_ix (by omega) (by omega), ?_⟩
              refine ⟨fun hc => ?_, fun c1 hc => ?_⟩
              · skip
                have rn_c1 : zTa (mR S 70) (mI S 71 l2.toNatClampNeg) = none := (ta_rd (y := (mI S 71 l2.toNatClampNeg)) hi2 (by omega) (by omega)).symm.trans hc
                first | have e30 : (l2 + (1 : Int32)).toInt = l2.toInt + (1) := i_addk rfl (by omega) (by omega) | have b31 := i_bd (l2 + (1 : Int32))
                exact IH _ (by omega) ((l2 + (1 : Int32))) rfl hI (by omega) (by omega) (show xB S (mR S 70) from by first | (exact xB_x (xC_o (W := 75) hi2).2)) (show aT 79 S = ab from by first | (exact hi3)) (show aE ab ((l2 + (1 : Int32))).toInt = aE ab p.toInt from by first | (have r0 := (congrArg Int32.toInt (show aT 79 S 87 0 = mI S 79 2 from rfl)); have o := tb_n3 (P := 79) (x := l2) hi2 rn_c1; have z := aE_go (a := aT 79 S) (p := l2.toInt) (by omega) (ob_neg o); rw [hi3] at z; rw [show (l2 + (1 : Int32)).toInt = l2.toInt + 1 from by omega]; exact z.symm.trans hi4))
              · skip
                have th_c1 := (fun _ z => zG_70 hI (c := 70) (by decide) z) c1 hc
                have rg_c1 : zTa (mR S 70) (mI S 71 l2.toNatClampNeg) = some c1 := (ta_rd (y := (mI S 71 l2.toNatClampNeg)) hi2 (by omega) (by omega)).symm.trans hc
                exact K (l2) _ rfl (by omega) (show l2.toInt = aE ab p.toInt from by first | (have ef := hi4; have r0 := (congrArg Int32.toInt (show aT 79 S 87 0 = mI S 79 2 from rfl)); have o := tb_y (P := 79) (x := l2) hi2 rg_c1 (by omega) (by omega); have z := aE_st (a := aT 79 S) (p := l2.toInt) (fun w => by rw [o.1] at w; omega); rw [hi3] at z; omega))
theorem sp_106_79_s {X : Nat × (Nat → Int32)} {d w : Nat} {f : Nat → Nat → Int32} {r : Nat → Nat → Option Nat} {C Z N : Nat} {Q : Option ma_V ⊕ Nat → ma_S → Prop} {ab : Nat→Nat→Int32} {S : ma_S} (p : Int32) (hd : 1 ≤ d) (hw : 22 ≤ w) (hI : zJ79 f r C Z N S) (hpre0 : xB S (mR S 70)) (hpre1 : aT 79 S = ab) (hpre2 : 0 ≤ p.toInt) (hpre3 : p.toInt ≤ 300000) (K : ∀ v S₉, S₉ = S → (0 ≤ v.toInt ∧ v.toInt ≤ 300000) → (v.toInt = aE ab p.toInt) → Q (.inl (some (.inl v))) S₉) : ma_wp X d w 106 0 [(0, .inr (.inr (some 79))), (1, .inl p)] [] S Q := by
  refine g_106_79_s_0 p (by omega) (by omega) (zG_T hI) ?_
  have b1 := i_bd p
  exact lp_106_79_s_2 (by omega) (by omega) K _ (p) rfl hI (by omega) (by omega) (show xB S (mR S 70) from by first | (exact xB_x (xC_o (W := 75) hpre0).2)) (show aT 79 S = ab from by first | (exact hpre1)) (show aE ab (p).toInt = aE ab p.toInt from by first | (exact rfl))

/-! from 95.k15 -/
/-! the collectors that sweep, the class (written by wip/tools/gen20.py) -/
theorem g_104_79_s_0 {X : Nat × (Nat → Int32)} {d w : Nat} {S : ma_S} {Q : Option ma_V ⊕ Nat → ma_S → Prop} (a : Int32) (b : Int32) (z : Int32) (hd : 2 ≤ d) (hw : 45 ≤ w) (hS : zT S) (h : ma_wp X (d - 1) (w - 23) 105 0 [(0, .inr (.inr (some 79))), (1, .inl a)] [] S (zi (fun v2 S1 => zT S1 ∧ (ma_wp X d w 104 10 [(0, .inr (.inr (some 79))), (2, .inl b), (3, .inl z), (4, .inl v2), (5, .inl (0 : Int32))] [] S1 Q)) (fun x S9 => Q (.inr x) S9))) : ma_wp X d w 104 0 [(0, .inr (.inr (some 79))), (1, .inl a), (2, .inl b), (3, .inl z)] [] S Q := by
  refine zw_push hm_104 dX8_fitFirst_0 (v := .inr (.inr (some 79))) rfl ?_
  refine zw_push hm_104 dX8_fitFirst_1 (v := .inl a) rfl ?_
  refine zw_cv hm_104 dX8_fitFirst_2 v_8_40_8 hm_105 [.inl a] [] rfl (zT_rt hS s_79 rfl) ⟨by omega, by omega⟩ rfl (zw_mono h (zi_go ?_ ?_))
  · intro v2 S1 hv
    obtain ⟨hS1, h⟩ := hv
    refine zw_sto hm_104 dX8_fitFirst_5 [(4, .inl v2), (0, .inr (.inr (some 79))), (1, .inl a), (2, .inl b), (3, .inl z)] rfl rfl rfl ?_
    refine zw_push hm_104 dX8_fitFirst_7 (v := .inl (0 : Int32)) rfl ?_
    refine zw_sto hm_104 dX8_fitFirst_8 [(5, .inl (0 : Int32)), (4, .inl v2), (0, .inr (.inr (some 79))), (1, .inl a), (2, .inl b), (3, .inl z)] rfl rfl rfl ?_
    exact zw_sub (ma_nd_of (ks := [0, 2, 3, 4, 5]) rfl (by decide)) (ma_nd_of (ks := [5, 4, 0, 1, 2, 3]) rfl (by decide)) (ma_le_cons rfl (ma_le_cons rfl (ma_le_cons rfl (ma_le_cons rfl (ma_le_cons rfl (ma_le_nil _)))))) h
  · intro x S9 hx
    exact ⟨by decide, hx⟩
theorem g_104_79_s_10 {X : Nat × (Nat → Int32)} {d w : Nat} {S : ma_S} {Q : Option ma_V ⊕ Nat → ma_S → Prop} (l2 : Int32) (l3 : Int32) (l4 : Int32) (l5 : Int32) (hd : 2 ≤ d) (hw : 45 ≤ w) (hS : zT S) (h : if (4500 : Int32) ≤ l5 then (Q (.inl (some (.inl (-1 : Int32)))) S) else (if l2 ≤ l4 then (Q (.inl (some (.inl (-1 : Int32)))) S) else (ma_wp X (d - 1) (w - 22) 106 0 [(0, .inr (.inr (some 79))), (1, .inl l4)] [] S (zi (fun v2 S1 => zT S1 ∧ (if (v2 - l4) < l3 then (ma_wp X (d - 1) (w - 23) 105 0 [(0, .inr (.inr (some 79))), (1, .inl v2)] [] (ma_put S1 69 12 (.inl ((mI S1 69 12) + (1 : Int32)))) (zi (fun v4 S3 => zT S3 ∧ (ma_wp X d w 104 10 [(0, .inr (.inr (some 79))), (2, .inl l2), (3, .inl l3), (4, .inl v4), (5, .inl (l5 + (1 : Int32)))] [] S3 Q)) (fun x S9 => Q (.inr x) S9))) else (Q (.inl (some (.inl l4))) (ma_put S1 69 12 (.inl ((mI S1 69 12) + (1 : Int32))))))) (fun x S9 => Q (.inr x) S9))))) : ma_wp X d w 104 10 [(0, .inr (.inr (some 79))), (2, .inl l2), (3, .inl l3), (4, .inl l4), (5, .inl l5)] [] S Q := by
  refine zw_push hm_104 dX8_fitFirst_10 (v := .inl l5) rfl ?_
  refine zw_push hm_104 dX8_fitFirst_12 (v := .inl (4500 : Int32)) rfl ?_
  refine zw_if2 hm_104 dX8_fitFirst_15 (t := 71) rfl zc2_ge ?_ ?_
  · intro hc
    rw [if_pos hc] at h
    refine zw_push hm_104 dX8_fitFirst_71 (v := .inl (-1 : Int32)) rfl ?_
    exact zw_iret hm_104 dX8_fitFirst_72 h
  · intro hc
    rw [if_neg hc] at h
    refine zw_push hm_104 dX8_fitFirst_18 (v := .inl l4) rfl ?_
    refine zw_push hm_104 dX8_fitFirst_20 (v := .inl l2) rfl ?_
    refine zw_if2 hm_104 dX8_fitFirst_21 (t := 71) rfl zc2_ge ?_ ?_
    · intro hc
      rw [if_pos hc] at h
      refine zw_push hm_104 dX8_fitFirst_71 (v := .inl (-1 : Int32)) rfl ?_
      exact zw_iret hm_104 dX8_fitFirst_72 h
    · intro hc
      rw [if_neg hc] at h
      refine zw_push hm_104 dX8_fitFirst_24 (v := .inr (.inr (some 79))) rfl ?_
      refine zw_push hm_104 dX8_fitFirst_25 (v := .inl l4) rfl ?_
      refine zw_cv hm_104 dX8_fitFirst_27 v_8_43_8 hm_106 [.inl l4] [] rfl (zT_rt hS s_79 rfl) ⟨by omega, by omega⟩ rfl (zw_mono h (zi_go ?_ ?_))
      · intro v2 S1 hv
        obtain ⟨hS1, h⟩ := hv
        refine zw_sto hm_104 dX8_fitFirst_30 [(6, .inl v2), (0, .inr (.inr (some 79))), (2, .inl l2), (3, .inl l3), (4, .inl l4), (5, .inl l5)] rfl rfl rfl ?_
        refine zw_push hm_104 dX8_fitFirst_32 (v := .inr (.inr (some 79))) rfl ?_
        refine zw_gf hm_104 dX8_fitFirst_33 (v := .inr (.inr (some 69))) (zT_is hS1 s_79) (zT_t hS1 s_79) rfl f_8_46_8 (zT_f hS1 r_79_0) ?_
        refine zw_stk hm_104 dX8_fitFirst_36 (st₉ := [.inr (.inr (some 69)), .inr (.inr (some 69))]) rfl rfl ?_
        refine zw_gf hm_104 dX8_fitFirst_37 (v := .inl (mI S1 69 12)) (zT_is hS1 s_69) (zT_t hS1 s_69) rfl f_8_67_7 rfl ?_
        refine zw_push hm_104 dX8_fitFirst_40 (v := .inl (1 : Int32)) rfl ?_
        refine zw_stk hm_104 dX8_fitFirst_41 (st₉ := [.inl ((mI S1 69 12) + (1 : Int32)), .inr (.inr (some 69))]) rfl rfl ?_
        refine zw_pf hm_104 dX8_fitFirst_42 (zT_is hS1 s_69) (zT_t hS1 s_69) p_8_67_7 zk_int ?_
        refine zw_push hm_104 dX8_fitFirst_45 (v := .inl v2) rfl ?_
        refine zw_push hm_104 dX8_fitFirst_47 (v := .inl l4) rfl ?_
        refine zw_stk hm_104 dX8_fitFirst_49 (st₉ := [.inl (v2 - l4)]) rfl rfl ?_
        refine zw_push hm_104 dX8_fitFirst_50 (v := .inl l3) rfl ?_
        refine zw_if2 hm_104 dX8_fitFirst_51 (t := 57) rfl zc2_lt ?_ ?_
        · intro hc
          rw [if_pos hc] at h
          refine zw_push hm_104 dX8_fitFirst_57 (v := .inr (.inr (some 79))) rfl ?_
          refine zw_push hm_104 dX8_fitFirst_58 (v := .inl v2) rfl ?_
          refine zw_cv hm_104 dX8_fitFirst_60 v_8_40_8 hm_105 [.inl v2] [] rfl (zT_rt (zT_pi hS1) s_79 rfl) ⟨by omega, by omega⟩ rfl (zw_mono h (zi_go ?_ ?_))
          · intro v4 S3 hv
            obtain ⟨hS3, h⟩ := hv
            refine zw_sto hm_104 dX8_fitFirst_63 [(4, .inl v4), (6, .inl v2), (0, .inr (.inr (some 79))), (2, .inl l2), (3, .inl l3), (5, .inl l5)] rfl rfl rfl ?_
            refine zw_sto hm_104 dX8_fitFirst_65 [(5, .inl (l5 + (1 : Int32))), (4, .inl v4), (6, .inl v2), (0, .inr (.inr (some 79))), (2, .inl l2), (3, .inl l3)] rfl rfl rfl ?_
            refine zw_goto hm_104 dX8_fitFirst_68 (t := 10) rfl ?_
            exact zw_sub (ma_nd_of (ks := [0, 2, 3, 4, 5]) rfl (by decide)) (ma_nd_of (ks := [5, 4, 6, 0, 2, 3]) rfl (by decide)) (ma_le_cons rfl (ma_le_cons rfl (ma_le_cons rfl (ma_le_cons rfl (ma_le_cons rfl (ma_le_nil _)))))) h
          · intro x S9 hx
            exact ⟨by decide, hx⟩
        · intro hc
          rw [if_neg hc] at h
          refine zw_push hm_104 dX8_fitFirst_54 (v := .inl l4) rfl ?_
          exact zw_iret hm_104 dX8_fitFirst_56 h
      · intro x S9 hx
        exact ⟨by decide, hx⟩
theorem lp_104_79_s_10 {X : Nat × (Nat → Int32)} {d w : Nat} {f : Nat → Nat → Int32} {r : Nat → Nat → Option Nat} {C Z N : Nat} {Q : Option ma_V ⊕ Nat → ma_S → Prop} {ab : Nat→Nat→Int32} {a : Int32} {b : Int32} {z : Int32} (hd : 2 ≤ d) (hw : 45 ≤ w) (K : ∀ v S₉, zJ79 f r C Z N S₉ → (-1 ≤ v.toInt ∧ v.toInt ≤ 1500) → (xB S₉ (mR S₉ 70)) → (aT 79 S₉ = ab) → (v.toInt = aFf ab z.toInt b.toInt 4500 (aN ab a.toInt)) → Q (.inl (some (.inl v))) S₉) : ∀ (n : Nat) (S : ma_S) (l2 : Int32) (l3 : Int32) (l4 : Int32) (l5 : Int32), (4500 - l5.toInt).toNat = n → zJ79 f r C Z N S → (0 ≤ l4.toInt) → (l4.toInt ≤ 1500) → (0 ≤ l5.toInt) → (xB S (mR S 70)) → (aT 79 S = ab) → (aFf ab l3.toInt l2.toInt (4500 - l5.toInt).toNat l4.toInt = aFf ab z.toInt b.toInt 4500 (aN ab a.toInt)) → ma_wp X d w 104 10 [(0, .inr (.inr (some 79))), (2, .inl l2), (3, .inl l3), (4, .inl l4), (5, .inl l5)] [] S Q := by
  intro n
  induction n using Nat.strongRecOn with
  | _ n IH =>
    intro S l2 l3 l4 l5 hmu hI  hi0 hi1 hi2 hi3 hi4 hi5
    refine g_104_79_s_10 l2 l3 l4 l5 (by omega) (by omega) (zG_T hI) ?_
    have li1 : (4500 : Int32).toInt = 4500 := rfl
    have b2 := i_bd l5
    refine zd (fun h3 => ?_) (fun h3 => ?_)
    · skip
      have g4 := i_le h3
      have li5 : (-1 : Int32).toInt = -1 := rfl
      exact K ((-1 : Int32)) _ hI (by omega) (show xB S (mR S 70) from by first | (exact xB_x (xC_o (W := 75) hi3).2)) (show aT 79 S = ab from by first | (exact (tC (P := 79) (xC_o (W := 75) hi3).1 (fun _ => rfl) (fun _ => rfl)).trans hi4)) (show (-1 : Int32).toInt = aFf ab z.toInt b.toInt 4500 (aN ab a.toInt) from by first | (have q := (aFf_st (by omega)).symm.trans hi5; exact q))
    · skip
      have g6 := i_nle h3
      have b7 := i_bd l2
      have b8 := i_bd l4
      refine zd (fun h9 => ?_) (fun h9 => ?_)
      · skip
        have g10 := i_le h9
        have li11 : (-1 : Int32).toInt = -1 := rfl
        exact K ((-1 : Int32)) _ hI (by omega) (show xB S (mR S 70) from by first | (exact xB_x (xC_o (W := 75) hi3).2)) (show aT 79 S = ab from by first | (exact (tC (P := 79) (xC_o (W := 75) hi3).1 (fun _ => rfl) (fun _ => rfl)).trans hi4)) (show (-1 : Int32).toInt = aFf ab z.toInt b.toInt 4500 (aN ab a.toInt) from by first | (have q := (aFf_st (by omega)).symm.trans hi5; exact q))
      · skip
        have g12 := i_nle h9
        refine sp_106_79_s (ab := (aT 79 S)) (l4) (by omega) (by omega) hI (show xB S (mR S 70) from by first | (exact xB_x (xC_o (W := 75) hi3).2)) (show aT 79 S = (aT 79 S) from by first | (exact rfl) | (exact hi4)) (by omega) (by omega) (fun v2 S1 eS_S1 hp_v2 rp0_S1 => zi_n ⟨(by rw [eS_S1]; exact zG_T hI), ?_⟩)
        replace eS_S1 := eS_S1.symm; subst eS_S1
        have rp0_S1 : v2.toInt = aE (aT 79 S) l4.toInt := rp0_S1
        have b13 := i_bd v2
        first | have e14 : (v2 - l4).toInt = v2.toInt - l4.toInt := i_sub (by omega) (by omega) | have b15 := i_bd (v2 - l4)
        have b16 := i_bd l3
        refine zd (fun h17 => ?_) (fun h17 => ?_)
        · skip
          have g18 := i_lt h17
          have hI19 : zJ79 f r C Z N (ma_put S 69 12 (.inl ((mI S 69 12) + (1 : Int32)))) := zG_fr hI rfl (by decide) (by decide) (by decide) trivial
          refine sp_105_79_s (ab := (aT 79 (ma_put S 69 12 (.inl ((mI S 69 12) + (1 : Int32)))))) (v2) (by omega) (by omega) hI19 (show xB (ma_put S 69 12 (.inl ((mI S 69 12) + (1 : Int32)))) (mR (ma_put S 69 12 (.inl ((mI S 69 12) + (1 : Int32)))) 70) from by first | (exact xB_x (xC_n (c := 69) (k := 12) (x := ((mI S 69 12) + (1 : Int32))) (xC_o (W := 75) hi3) ⟨by decide, Or.inl ⟨rfl, rfl⟩⟩).2)) (show aT 79 (ma_put S 69 12 (.inl ((mI S 69 12) + (1 : Int32)))) = (aT 79 (ma_put S 69 12 (.inl ((mI S 69 12) + (1 : Int32))))) from by first | (exact rfl) | (exact hi4)) (by omega) (fun v4 S3 eS_S3 hp_v4 rp0_S3 => zi_n ⟨(by rw [eS_S3]; exact zG_T hI19), ?_⟩)
          replace eS_S3 := eS_S3.symm; subst eS_S3
          have rp0_S3 : v4.toInt = aN (aT 79 (ma_put S 69 12 (.inl ((mI S 69 12) + (1 : Int32))))) v2.toInt := rp0_S3
          have b20 := i_bd v4
          first | have e21 : (l5 + (1 : Int32)).toInt = l5.toInt + (1) := i_addk rfl (by omega) (by omega) | have b22 := i_bd (l5 + (1 : Int32))
          exact IH _ (by omega) _ (l2) (l3) (v4) ((l5 + (1 : Int32))) rfl hI19 (by omega) (by omega) (by omega) (show xB (ma_put S 69 12 (.inl ((mI S 69 12) + (1 : Int32)))) (mR (ma_put S 69 12 (.inl ((mI S 69 12) + (1 : Int32)))) 70) from by first | (exact xB_x (xC_n (c := 69) (k := 12) (x := ((mI S 69 12) + (1 : Int32))) (xC_o (W := 75) hi3) ⟨by decide, Or.inl ⟨rfl, rfl⟩⟩).2)) (show aT 79 (ma_put S 69 12 (.inl ((mI S 69 12) + (1 : Int32)))) = ab from by first | (exact (tC (P := 79) (xC_n (c := 69) (k := 12) (x := ((mI S 69 12) + (1 : Int32))) (xC_o (W := 75) hi3) ⟨by decide, Or.inl ⟨rfl, rfl⟩⟩).1 (fun _ => rfl) (fun _ => rfl)).trans hi4)) (show aFf ab (l3).toInt (l2).toInt (4500 - ((l5 + (1 : Int32))).toInt).toNat (v4).toInt = aFf ab z.toInt b.toInt 4500 (aN ab a.toInt) from by first | (have e1 := rp0_S1; rw [hi4] at e1; have e2 := rp0_S3; rw [(tC (P := 79) (xC_n (c := 69) (k := 12) (x := ((mI S 69 12) + (1 : Int32))) (xC_o (W := 75) hi3) ⟨by decide, Or.inl ⟨rfl, rfl⟩⟩).1 (fun _ => rfl) (fun _ => rfl)), hi4, e1] at e2; rw [e2]; exact ((congrArg (fun q => aFf ab l3.toInt l2.toInt q l4.toInt) (show (4500 - l5.toInt).toNat = (4500 - (l5 + (1 : Int32)).toInt).toNat + 1 by omega)).trans (aFf_n (by omega) (by omega))).symm.trans hi5))
        · skip
          have g23 := i_nlt h17
          have hI24 : zJ79 f r C Z N (ma_put S 69 12 (.inl ((mI S 69 12) + (1 : Int32)))) := zG_fr hI rfl (by decide) (by decide) (by decide) trivial
          exact K (l4) _ hI24 (by omega) (show xB (ma_put S 69 12 (.inl ((mI S 69 12) + (1 : Int32)))) (mR (ma_put S 69 12 (.inl ((mI S 69 12) + (1 : Int32)))) 70) from by first | (exact xB_x (xC_n (c := 69) (k := 12) (x := ((mI S 69 12) + (1 : Int32))) (xC_o (W := 75) hi3) ⟨by decide, Or.inl ⟨rfl, rfl⟩⟩).2)) (show aT 79 (ma_put S 69 12 (.inl ((mI S 69 12) + (1 : Int32)))) = ab from by first | (exact (tC (P := 79) (xC_n (c := 69) (k := 12) (x := ((mI S 69 12) + (1 : Int32))) (xC_o (W := 75) hi3) ⟨by decide, Or.inl ⟨rfl, rfl⟩⟩).1 (fun _ => rfl) (fun _ => rfl)).trans hi4)) (show l4.toInt = aFf ab z.toInt b.toInt 4500 (aN ab a.toInt) from by first | (have e1 := rp0_S1; rw [hi4] at e1; have q := ((congrArg (fun q => aFf ab l3.toInt l2.toInt q l4.toInt) (show (4500 - l5.toInt).toNat = (4500 - l5.toInt - 1).toNat + 1 by omega)).trans (aFf_y (by omega) (by omega))).symm.trans hi5; exact q))
theorem sp_104_79_s {X : Nat × (Nat → Int32)} {d w : Nat} {f : Nat → Nat → Int32} {r : Nat → Nat → Option Nat} {C Z N : Nat} {Q : Option ma_V ⊕ Nat → ma_S → Prop} {ab : Nat→Nat→Int32} {S : ma_S} (a : Int32) (b : Int32) (z : Int32) (hd : 2 ≤ d) (hw : 45 ≤ w) (hI : zJ79 f r C Z N S) (hpre0 : xB S (mR S 70)) (hpre1 : aT 79 S = ab) (hpre2 : 0 ≤ a.toInt) (K : ∀ v S₉, zJ79 f r C Z N S₉ → (-1 ≤ v.toInt ∧ v.toInt ≤ 1500) → (xB S₉ (mR S₉ 70)) → (aT 79 S₉ = ab) → (v.toInt = aFf ab z.toInt b.toInt 4500 (aN ab a.toInt)) → Q (.inl (some (.inl v))) S₉) : ma_wp X d w 104 0 [(0, .inr (.inr (some 79))), (1, .inl a), (2, .inl b), (3, .inl z)] [] S Q := by
  refine g_104_79_s_0 a b z (by omega) (by omega) (zG_T hI) ?_
  have b1 := i_bd a
  refine sp_105_79_s (ab := (aT 79 S)) (a) (by omega) (by omega) hI (show xB S (mR S 70) from by first | (exact xB_x (xC_o (W := 75) hpre0).2)) (show aT 79 S = (aT 79 S) from by first | (exact rfl) | (exact hpre1)) (by omega) (fun v2 S1 eS_S1 hp_v2 rp0_S1 => zi_n ⟨(by rw [eS_S1]; exact zG_T hI), ?_⟩)
  replace eS_S1 := eS_S1.symm; subst eS_S1
  have rp0_S1 : v2.toInt = aN (aT 79 S) a.toInt := rp0_S1
  have b2 := i_bd b
  have b3 := i_bd z
  have b4 := i_bd v2
  have li5 : (0 : Int32).toInt = 0 := rfl
  exact lp_104_79_s_10 (by omega) (by omega) K _ _ (b) (z) (v2) ((0 : Int32)) rfl hI (by omega) (by omega) (by omega) (show xB S (mR S 70) from by first | (exact xB_x (xC_o (W := 75) hpre0).2)) (show aT 79 S = ab from by first | (exact (tC (P := 79) (xC_o (W := 75) hpre0).1 (fun _ => rfl) (fun _ => rfl)).trans hpre1)) (show aFf ab (z).toInt (b).toInt (4500 - ((0 : Int32)).toInt).toNat (v2).toInt = aFf ab z.toInt b.toInt 4500 (aN ab a.toInt) from by first | (rw [← hpre1, ← rp0_S1]; rfl))
theorem g_107_79_s_0 {X : Nat × (Nat → Int32)} {d w : Nat} {S : ma_S} {Q : Option ma_V ⊕ Nat → ma_S → Prop} (n : Int32) (hd : 3 ≤ d) (hw : 71 ≤ w) (hS : zT S) (h : ma_wp X (d - 1) (w - 26) 104 0 [(0, .inr (.inr (some 79))), (1, .inl (mI S 79 4)), (2, .inl (mI S 79 2)), (3, .inl n)] [] S (zi (fun v2 S1 => zT S1 ∧ (if v2 = (-1 : Int32) then (ma_wp X (d - 1) (w - 26) 104 0 [(0, .inr (.inr (some 79))), (1, .inl (0 : Int32)), (2, .inl (mI S1 79 4)), (3, .inl n)] [] S1 (zi (fun v4 S3 => zT S3 ∧ (Q (.inl (some (.inl v4))) S3)) (fun x S9 => Q (.inr x) S9))) else (Q (.inl (some (.inl v2))) S1))) (fun x S9 => Q (.inr x) S9))) : ma_wp X d w 107 0 [(0, .inr (.inr (some 79))), (1, .inl n)] [] S Q := by
  refine zw_push hm_107 dX8_fitNext_0 (v := .inr (.inr (some 79))) rfl ?_
  refine zw_push hm_107 dX8_fitNext_1 (v := .inr (.inr (some 79))) rfl ?_
  refine zw_gf hm_107 dX8_fitNext_2 (v := .inl (mI S 79 4)) (zT_is hS s_79) (zT_t hS s_79) rfl f_8_18_8 rfl ?_
  refine zw_push hm_107 dX8_fitNext_5 (v := .inr (.inr (some 79))) rfl ?_
  refine zw_gf hm_107 dX8_fitNext_6 (v := .inl (mI S 79 2)) (zT_is hS s_79) (zT_t hS s_79) rfl f_8_9_8 rfl ?_
  refine zw_push hm_107 dX8_fitNext_9 (v := .inl n) rfl ?_
  refine zw_cv hm_107 dX8_fitNext_10 v_8_56_8 hm_104 [.inl n, .inl (mI S 79 2), .inl (mI S 79 4)] [] rfl (zT_rt hS s_79 rfl) ⟨by omega, by omega⟩ rfl (zw_mono h (zi_go ?_ ?_))
  · intro v2 S1 hv
    obtain ⟨hS1, h⟩ := hv
    refine zw_sto hm_107 dX8_fitNext_13 [(2, .inl v2), (0, .inr (.inr (some 79))), (1, .inl n)] rfl rfl rfl ?_
    refine zw_push hm_107 dX8_fitNext_14 (v := .inl v2) rfl ?_
    refine zw_push hm_107 dX8_fitNext_15 (v := .inl (-1 : Int32)) rfl ?_
    refine zw_if2 hm_107 dX8_fitNext_16 (t := 23) rfl zc2_eq ?_ ?_
    · intro hc
      rw [if_pos hc] at h
      refine zw_push hm_107 dX8_fitNext_23 (v := .inr (.inr (some 79))) rfl ?_
      refine zw_push hm_107 dX8_fitNext_24 (v := .inl (0 : Int32)) rfl ?_
      refine zw_push hm_107 dX8_fitNext_25 (v := .inr (.inr (some 79))) rfl ?_
      refine zw_gf hm_107 dX8_fitNext_26 (v := .inl (mI S1 79 4)) (zT_is hS1 s_79) (zT_t hS1 s_79) rfl f_8_18_8 rfl ?_
      refine zw_push hm_107 dX8_fitNext_29 (v := .inl n) rfl ?_
      refine zw_cv hm_107 dX8_fitNext_30 v_8_56_8 hm_104 [.inl n, .inl (mI S1 79 4), .inl (0 : Int32)] [] rfl (zT_rt hS1 s_79 rfl) ⟨by omega, by omega⟩ rfl (zw_mono h (zi_go ?_ ?_))
      · intro v4 S3 hv
        obtain ⟨hS3, h⟩ := hv
        exact zw_iret hm_107 dX8_fitNext_33 h
      · intro x S9 hx
        exact ⟨by decide, hx⟩
    · intro hc
      rw [if_neg hc] at h
      refine zw_push hm_107 dX8_fitNext_19 (v := .inl v2) rfl ?_
      refine zw_goto hm_107 dX8_fitNext_20 (t := 33) rfl ?_
      exact zw_iret hm_107 dX8_fitNext_33 h
  · intro x S9 hx
    exact ⟨by decide, hx⟩
theorem sp_107_79_s {X : Nat × (Nat → Int32)} {d w : Nat} {f : Nat → Nat → Int32} {r : Nat → Nat → Option Nat} {C Z N : Nat} {Q : Option ma_V ⊕ Nat → ma_S → Prop} {ab : Nat→Nat→Int32} {S : ma_S} (n : Int32) (hd : 3 ≤ d) (hw : 71 ≤ w) (hI : zJ79 f r C Z N S) (hpre0 : xB S (mR S 70)) (hpre1 : aT 79 S = ab) (K : ∀ v S₉, zJ79 f r C Z N S₉ → (-1 ≤ v.toInt ∧ v.toInt ≤ 1500) → (xB S₉ (mR S₉ 70)) → (aT 79 S₉ = ab) → (v.toInt = aFx ab n.toInt) → Q (.inl (some (.inl v))) S₉) : ma_wp X d w 107 0 [(0, .inr (.inr (some 79))), (1, .inl n)] [] S Q := by
  refine g_107_79_s_0 n (by omega) (by omega) (zG_T hI) ?_
  have f1 := zG_s hI (0) (400000) (c := 79) (k := 4) (by decide)
  have f2 := zG_s hI (0) (1500) (c := 79) (k := 2) (by decide)
  have b3 := i_bd n
  refine sp_104_79_s (ab := (aT 79 S)) ((mI S 79 4)) ((mI S 79 2)) (n) (by omega) (by omega) hI (show xB S (mR S 70) from by first | (exact xB_x (xC_o (W := 75) hpre0).2)) (show aT 79 S = (aT 79 S) from by first | (exact rfl) | (exact (tC (P := 79) (xC_o (W := 75) hpre0).1 (fun _ => rfl) (fun _ => rfl)).trans hpre1)) (by omega) (fun v2 S1 hI_S1 hp_v2 rp0_S1 rp1_S1 rp2_S1 => zi_n ⟨zG_T hI_S1, ?_⟩)
  have rp0_S1 : xB S1 (mR S1 70) := rp0_S1
  have rp1_S1 : aT 79 S1 = (aT 79 S) := rp1_S1
  have rp2_S1 : v2.toInt = aFf (aT 79 S) n.toInt (mI S 79 2).toInt 4500 (aN (aT 79 S) (mI S 79 4).toInt) := rp2_S1
  have b4 := i_bd v2
  have li5 : (-1 : Int32).toInt = -1 := rfl
  refine zd (fun h6 => ?_) (fun h6 => ?_)
  · skip
    have g7 := i_eq h6
    have li8 : (0 : Int32).toInt = 0 := rfl
    have f9 := zG_s hI_S1 (0) (400000) (c := 79) (k := 4) (by decide)
    refine sp_104_79_s (ab := (aT 79 S1)) ((0 : Int32)) ((mI S1 79 4)) (n) (by omega) (by omega) hI_S1 (show xB S1 (mR S1 70) from by first | (exact xB_x (xC_o (W := 75) rp0_S1).2)) (show aT 79 S1 = (aT 79 S1) from by first | (exact rfl) | (exact (tC (P := 79) (xC_o (W := 75) rp0_S1).1 (fun _ => rfl) (fun _ => rfl)).trans rp1_S1)) (by omega) (fun v4 S3 hI_S3 hp_v4 rp0_S3 rp1_S3 rp2_S3 => zi_n ⟨zG_T hI_S3, ?_⟩)
    have rp0_S3 : xB S3 (mR S3 70) := rp0_S3
    have rp1_S3 : aT 79 S3 = (aT 79 S1) := rp1_S3
    have rp2_S3 : v4.toInt = aFf (aT 79 S1) n.toInt (mI S1 79 4).toInt 4500 (aN (aT 79 S1) (0 : Int32).toInt) := rp2_S3
    have b10 := i_bd v4
    exact K (v4) _ hI_S3 (by omega) (show xB S3 (mR S3 70) from by first | (exact xB_x (xC_o (W := 75) rp0_S3).2)) (show aT 79 S3 = ab from by first | (exact rp1_S3.trans (rp1_S1.trans (hpre1)))) (show v4.toInt = aFx ab n.toInt from by first | (have e0 : aT 79 S1 = aT 79 S := rp1_S1; have e1 := rp2_S1; have e2 := rp2_S3; rw [← (show aT 79 S1 87 2 = mI S1 79 4 from rfl), e0, (show aT 79 S 87 2 = mI S 79 4 from rfl), show (0 : Int32).toInt = 0 from rfl] at e2; rw [← hpre1]; unfold aFx; rw [(show aT 79 S 87 0 = mI S 79 2 from rfl), (show aT 79 S 87 2 = mI S 79 4 from rfl), ← e1]; rw [← e2]; exact (if_pos (by omega)).symm))
  · skip
    have g11 := i_ne h6
    exact K (v2) _ hI_S1 (by omega) (show xB S1 (mR S1 70) from by first | (exact xB_x (xC_o (W := 75) rp0_S1).2)) (show aT 79 S1 = ab from by first | (exact rp1_S1.trans (hpre1))) (show v2.toInt = aFx ab n.toInt from by first | (have e0 : aT 79 S1 = aT 79 S := rp1_S1; have e1 := rp2_S1; rw [← hpre1]; unfold aFx; rw [(show aT 79 S 87 0 = mI S 79 2 from rfl), (show aT 79 S 87 2 = mI S 79 4 from rfl), ← e1]; exact (if_neg (by omega)).symm))

