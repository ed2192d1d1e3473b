/-! the collectors that sweep, the class (written by wip/tools/gen20.py) -/
theorem g_111_79_s_0 {X : Nat × (Nat → Int32)} {d w : Nat} {S : ma_S} {Q : Option ma_V ⊕ Nat → ma_S → Prop} (i : Int32) (hd : 2 ≤ d) (hw : 45 ≤ w) (hS : zT S) (h : ma_wp X (d - 1) (w - 23) 105 0 [(0, .inr (.inr (some 79))), (1, .inl (0 : Int32))] [] S (zi (fun v2 S1 => zT S1 ∧ (ma_wp X d w 111 8 [(0, .inr (.inr (some 79))), (2, .inl i), (3, .inl v2)] [] S1 Q)) (fun x S9 => Q (.inr x) S9))) : ma_wp X d w 111 0 [(0, .inr (.inr (some 79))), (1, .inl i)] [] S Q := by
  refine zw_push hm_111 dX8_blockPlace_0 (v := .inl i) rfl ?_
  refine zw_sto hm_111 dX8_blockPlace_1 [(2, .inl i), (0, .inr (.inr (some 79))), (1, .inl i)] rfl rfl rfl ?_
  refine zw_push hm_111 dX8_blockPlace_2 (v := .inr (.inr (some 79))) rfl ?_
  refine zw_push hm_111 dX8_blockPlace_3 (v := .inl (0 : Int32)) rfl ?_
  refine zw_cv hm_111 dX8_blockPlace_4 v_8_40_8 hm_105 [.inl (0 : Int32)] [] rfl (zT_rt hS s_79 rfl) ⟨by omega, by omega⟩ rfl (zw_mono h (zi_go ?_ ?_))
  · intro v2 S1 hv
    obtain ⟨hS1, h⟩ := hv
    refine zw_sto hm_111 dX8_blockPlace_7 [(3, .inl v2), (2, .inl i), (0, .inr (.inr (some 79))), (1, .inl i)] rfl rfl rfl ?_
    exact zw_sub (ma_nd_of (ks := [0, 2, 3]) rfl (by decide)) (ma_nd_of (ks := [3, 2, 0, 1]) rfl (by decide)) (ma_le_cons rfl (ma_le_cons rfl (ma_le_cons rfl (ma_le_nil _)))) h
  · intro x S9 hx
    exact ⟨by decide, hx⟩
theorem g_111_79_s_8 {X : Nat × (Nat → Int32)} {d w : Nat} {S : ma_S} {Q : Option ma_V ⊕ Nat → ma_S → Prop} (l2 : Int32) (l3 : Int32) (hd : 2 ≤ d) (hw : 45 ≤ w) (hS : zT S) (h : if l2 < 0 then (Q (.inl (some (.inl (-1 : Int32)))) S) else (if (mI S 79 2) ≤ l3 then (Q (.inl (some (.inl (-1 : Int32)))) S) else (if l2 = 0 then (Q (.inl (some (.inl l3))) S) else (ma_wp X (d - 1) (w - 22) 106 0 [(0, .inr (.inr (some 79))), (1, .inl l3)] [] S (zi (fun v2 S1 => zT S1 ∧ (ma_wp X (d - 1) (w - 23) 105 0 [(0, .inr (.inr (some 79))), (1, .inl v2)] [] S1 (zi (fun v4 S3 => zT S3 ∧ (ma_wp X d w 111 8 [(0, .inr (.inr (some 79))), (2, .inl (l2 + (-1 : Int32))), (3, .inl v4)] [] S3 Q)) (fun x S9 => Q (.inr x) S9)))) (fun x S9 => Q (.inr x) S9)))))) : ma_wp X d w 111 8 [(0, .inr (.inr (some 79))), (2, .inl l2), (3, .inl l3)] [] S Q := by
  refine zw_push hm_111 dX8_blockPlace_8 (v := .inl l2) rfl ?_
  refine zw_if0 hm_111 dX8_blockPlace_9 (t := 42) rfl zc0_lt ?_ ?_
  · intro hc
    rw [if_pos hc] at h
    refine zw_push hm_111 dX8_blockPlace_42 (v := .inl (-1 : Int32)) rfl ?_
    exact zw_iret hm_111 dX8_blockPlace_43 h
  · intro hc
    rw [if_neg hc] at h
    refine zw_push hm_111 dX8_blockPlace_12 (v := .inl l3) rfl ?_
    refine zw_push hm_111 dX8_blockPlace_13 (v := .inr (.inr (some 79))) rfl ?_
    refine zw_gf hm_111 dX8_blockPlace_14 (v := .inl (mI S 79 2)) (zT_is hS s_79) (zT_t hS s_79) rfl f_8_9_8 rfl ?_
    refine zw_if2 hm_111 dX8_blockPlace_17 (t := 42) rfl zc2_ge ?_ ?_
    · intro hc
      rw [if_pos hc] at h
      refine zw_push hm_111 dX8_blockPlace_42 (v := .inl (-1 : Int32)) rfl ?_
      exact zw_iret hm_111 dX8_blockPlace_43 h
    · intro hc
      rw [if_neg hc] at h
      refine zw_push hm_111 dX8_blockPlace_20 (v := .inl l2) rfl ?_
      refine zw_if0 hm_111 dX8_blockPlace_21 (t := 26) rfl zc0_ne ?_ ?_
      · intro hc
        rw [if_neg hc] at h
        refine zw_sto hm_111 dX8_blockPlace_26 [(2, .inl (l2 + (-1 : Int32))), (0, .inr (.inr (some 79))), (3, .inl l3)] rfl rfl rfl ?_
        refine zw_push hm_111 dX8_blockPlace_29 (v := .inr (.inr (some 79))) rfl ?_
        refine zw_push hm_111 dX8_blockPlace_30 (v := .inr (.inr (some 79))) rfl ?_
        refine zw_push hm_111 dX8_blockPlace_31 (v := .inl l3) rfl ?_
        refine zw_cv hm_111 dX8_blockPlace_32 v_8_43_8 hm_106 [.inl l3] [.inr (.inr (some 79))] rfl (zT_rt hS s_79 rfl) ⟨by omega, by omega⟩ rfl (zw_mono h (zi_go ?_ ?_))
        · intro v2 S1 hv
          obtain ⟨hS1, h⟩ := hv
          refine zw_cv hm_111 dX8_blockPlace_35 v_8_40_8 hm_105 [.inl v2] [] rfl (zT_rt hS1 s_79 rfl) ⟨by omega, by omega⟩ rfl (zw_mono h (zi_go ?_ ?_))
          · intro v4 S3 hv
            obtain ⟨hS3, h⟩ := hv
            refine zw_sto hm_111 dX8_blockPlace_38 [(3, .inl v4), (2, .inl (l2 + (-1 : Int32))), (0, .inr (.inr (some 79)))] rfl rfl rfl ?_
            refine zw_goto hm_111 dX8_blockPlace_39 (t := 8) rfl ?_
            exact zw_sub (ma_nd_of (ks := [0, 2, 3]) rfl (by decide)) (ma_nd_of (ks := [3, 2, 0]) rfl (by decide)) (ma_le_cons rfl (ma_le_cons rfl (ma_le_cons rfl (ma_le_nil _)))) h
          · intro x S9 hx
            exact ⟨by decide, hx⟩
        · intro x S9 hx
          exact ⟨by decide, hx⟩
      · intro hc
        rw [if_pos (Classical.not_not.mp hc)] at h
        refine zw_push hm_111 dX8_blockPlace_24 (v := .inl l3) rfl ?_
        exact zw_iret hm_111 dX8_blockPlace_25 h
theorem lp_111_79_s_8 {X : Nat × (Nat → Int32)} {d w : Nat} {f : Nat → Nat → Int32} {r : Nat → Nat → Option Nat} {C Z N : Nat} {Q : Option ma_V ⊕ Nat → ma_S → Prop} {ab : Nat→Nat→Int32} {i : Int32} {S : ma_S} (hd : 2 ≤ d) (hw : 45 ≤ w) (K : ∀ v S', S' = S → (-1 ≤ v.toInt ∧ v.toInt ≤ 1500) → (v.toInt = (if i.toInt < 0 then -1 else aBk ab i.toInt.toNat (aN ab 0))) → Q (.inl (some (.inl v))) S') : ∀ (n : Nat) (l2 : Int32) (l3 : Int32), (l2.toInt).toNat = n → zJ79 f r C Z N S → (0 ≤ l3.toInt) → (l3.toInt ≤ 1500) → (xB S (mR S 70)) → (aT 79 S = ab) → ((if l2.toInt < 0 then -1 else aBk ab l2.toInt.toNat l3.toInt) = (if i.toInt < 0 then -1 else aBk ab i.toInt.toNat (aN ab 0))) → ma_wp X d w 111 8 [(0, .inr (.inr (some 79))), (2, .inl l2), (3, .inl l3)] [] S Q := by
  intro n
  induction n using Nat.strongRecOn with
  | _ n IH =>
    intro l2 l3 hmu hI  hi0 hi1 hi2 hi3 hi4
    refine g_111_79_s_8 l2 l3 (by omega) (by omega) (zG_T hI) ?_
    have li1 : (0 : Int32).toInt = 0 := rfl
    refine zd (fun h2 => ?_) (fun h2 => ?_)
    · skip
      have g3 := i_lt h2
      have li4 : (-1 : Int32).toInt = -1 := rfl
      exact K ((-1 : Int32)) _ rfl (by omega) (show (-1 : Int32).toInt = (if i.toInt < 0 then -1 else aBk ab i.toInt.toNat (aN ab 0)) from by first | (exact bk_e1 (by omega) hi4 rfl) | (have r0 := (congrArg Int32.toInt (show aT 79 S 87 0 = mI S 79 2 from rfl)); rw [hi3] at r0; exact bk_e2 (by assumption) (by omega) hi4 rfl) | (have r0 := (congrArg Int32.toInt (show aT 79 S 87 0 = mI S 79 2 from rfl)); rw [hi3] at r0; exact bk_e3 (by omega) hi4 rfl))
    · skip
      have g5 := i_nlt h2
      have f6 := zG_s hI (0) (1500) (c := 79) (k := 2) (by decide)
      refine zd (fun h7 => ?_) (fun h7 => ?_)
      · skip
        have g8 := i_le h7
        have li9 : (-1 : Int32).toInt = -1 := rfl
        exact K ((-1 : Int32)) _ rfl (by omega) (show (-1 : Int32).toInt = (if i.toInt < 0 then -1 else aBk ab i.toInt.toNat (aN ab 0)) from by first | (exact bk_e1 (by omega) hi4 rfl) | (have r0 := (congrArg Int32.toInt (show aT 79 S 87 0 = mI S 79 2 from rfl)); rw [hi3] at r0; exact bk_e2 (by assumption) (by omega) hi4 rfl) | (have r0 := (congrArg Int32.toInt (show aT 79 S 87 0 = mI S 79 2 from rfl)); rw [hi3] at r0; exact bk_e3 (by omega) hi4 rfl))
      · skip
        have g10 := i_nle h7
        refine zd (fun h11 => ?_) (fun h11 => ?_)
        · skip
          have g12 := i_eq h11
          exact K (l3) _ rfl (by omega) (show l3.toInt = (if i.toInt < 0 then -1 else aBk ab i.toInt.toNat (aN ab 0)) from by first | (exact bk_e1 (by omega) hi4 rfl) | (have r0 := (congrArg Int32.toInt (show aT 79 S 87 0 = mI S 79 2 from rfl)); rw [hi3] at r0; exact bk_e2 (by assumption) (by omega) hi4 rfl) | (have r0 := (congrArg Int32.toInt (show aT 79 S 87 0 = mI S 79 2 from rfl)); rw [hi3] at r0; exact bk_e3 (by omega) hi4 rfl))
        · skip
          have g13 := i_ne h11
          refine sp_106_79_s (ab := (aT 79 S)) (l3) (by omega) (by omega) hI (show xB S (mR S 70) from by first | (exact xB_x (xC_o (W := 75) hi2).2)) (show aT 79 S = (aT 79 S) from by first | (exact rfl) | (exact hi3)) (by omega) (by omega) (fun v2 S1 eS_S1 hp_v2 rp0_S1 => zi_n ⟨(by rw [eS_S1]; exact zG_T hI), ?_⟩)
          replace eS_S1 := eS_S1.symm; subst eS_S1
          have rp0_S1 : v2.toInt = aE (aT 79 S) l3.toInt := rp0_S1
          refine sp_105_79_s (ab := (aT 79 S)) (v2) (by omega) (by omega) hI (show xB S (mR S 70) from by first | (exact xB_x (xC_o (W := 75) hi2).2)) (show aT 79 S = (aT 79 S) from by first | (exact rfl) | (exact hi3)) (by omega) (fun v4 S3 eS_S3 hp_v4 rp0_S3 => zi_n ⟨(by rw [eS_S3]; exact zG_T hI), ?_⟩)
          replace eS_S3 := eS_S3.symm; subst eS_S3
          have rp0_S3 : v4.toInt = aN (aT 79 S) v2.toInt := rp0_S3
          first | have e14 : (l2 + (-1 : Int32)).toInt = l2.toInt + (-1) := i_addk rfl (by omega) (by omega) | have b15 := i_bd (l2 + (-1 : Int32))
          exact IH _ (by exact mu_dec hmu (by assumption) (by omega)) ((l2 + (-1 : Int32))) (v4) rfl hI (by omega) (by omega) (show xB S (mR S 70) from by first | (exact xB_x (xC_o (W := 75) hi2).2)) (show aT 79 S = ab from by first | (exact hi3)) (show (if ((l2 + (-1 : Int32))).toInt < 0 then -1 else aBk ab ((l2 + (-1 : Int32))).toInt.toNat (v4).toInt) = (if i.toInt < 0 then -1 else aBk ab i.toInt.toNat (aN ab 0)) from by first | (have r0 := (congrArg Int32.toInt (show aT 79 S 87 0 = mI S 79 2 from rfl)); rw [hi3] at r0; have e1 := rp0_S1; rw [hi3] at e1; have e2 := rp0_S3; rw [hi3, e1] at e2; exact bk_go (by omega) (by assumption) (by omega) hi4 e2))
theorem sp_111_79_s {X : Nat × (Nat → Int32)} {d w : Nat} {f : Nat → Nat → Int32} {r : Nat → Nat → Option Nat} {C Z N : Nat} {Q : Option ma_V ⊕ Nat → ma_S → Prop} {ab : Nat→Nat→Int32} {S : ma_S} (i : Int32) (hd : 2 ≤ d) (hw : 45 ≤ w) (hI : zJ79 f r C Z N S) (hpre0 : xB S (mR S 70)) (hpre1 : aT 79 S = ab) (K : ∀ v S', S' = S → (-1 ≤ v.toInt ∧ v.toInt ≤ 1500) → (v.toInt = (if i.toInt < 0 then -1 else aBk ab i.toInt.toNat (aN ab 0))) → Q (.inl (some (.inl v))) S') : ma_wp X d w 111 0 [(0, .inr (.inr (some 79))), (1, .inl i)] [] S Q := by
  refine g_111_79_s_0 i (by omega) (by omega) (zG_T hI) ?_
  have li1 : (0 : Int32).toInt = 0 := rfl
  refine sp_105_79_s (ab := (aT 79 S)) ((0 : Int32)) (by omega) (by omega) hI (show xB S (mR S 70) from by first | (exact xB_x (xC_o (W := 75) hpre0).2)) (show aT 79 S = (aT 79 S) from by first | (exact rfl) | (exact hpre1)) (by omega) (fun v2 S1 eS_S1 hp_v2 rp0_S1 => zi_n ⟨(by rw [eS_S1]; exact zG_T hI), ?_⟩)
  replace eS_S1 := eS_S1.symm; subst eS_S1
  have rp0_S1 : v2.toInt = aN (aT 79 S) (0 : Int32).toInt := rp0_S1
  exact lp_111_79_s_8 (by omega) (by omega) K _ (i) (v2) rfl hI (by omega) (by omega) (show xB S (mR S 70) from by first | (exact xB_x (xC_o (W := 75) hpre0).2)) (show aT 79 S = ab from by first | (exact hpre1)) (show (if (i).toInt < 0 then -1 else aBk ab (i).toInt.toNat (v2).toInt) = (if i.toInt < 0 then -1 else aBk ab i.toInt.toNat (aN ab 0)) from by first | (have q := rp0_S1; rw [hpre1, show (0 : Int32).toInt = 0 from rfl] at q; rw [q]))
theorem g_111_84_s_0 {X : Nat × (Nat → Int32)} {d w : Nat} {S : ma_S} {Q : Option ma_V ⊕ Nat → ma_S → Prop} (i : Int32) (hd : 2 ≤ d) (hw : 45 ≤ w) (hS : zT S) (h : ma_wp X (d - 1) (w - 23) 105 0 [(0, .inr (.inr (some 84))), (1, .inl (0 : Int32))] [] S (zi (fun v2 S1 => zT S1 ∧ (ma_wp X d w 111 8 [(0, .inr (.inr (some 84))), (2, .inl i), (3, .inl v2)] [] S1 Q)) (fun x S9 => Q (.inr x) S9))) : ma_wp X d w 111 0 [(0, .inr (.inr (some 84))), (1, .inl i)] [] S Q := by
  refine zw_push hm_111 dX8_blockPlace_0 (v := .inl i) rfl ?_
  refine zw_sto hm_111 dX8_blockPlace_1 [(2, .inl i), (0, .inr (.inr (some 84))), (1, .inl i)] rfl rfl rfl ?_
  refine zw_push hm_111 dX8_blockPlace_2 (v := .inr (.inr (some 84))) rfl ?_
  refine zw_push hm_111 dX8_blockPlace_3 (v := .inl (0 : Int32)) rfl ?_
  refine zw_cv hm_111 dX8_blockPlace_4 v_8_40_2 hm_105 [.inl (0 : Int32)] [] rfl (zT_rt hS s_84 rfl) ⟨by omega, by omega⟩ rfl (zw_mono h (zi_go ?_ ?_))
  · intro v2 S1 hv
    obtain ⟨hS1, h⟩ := hv
    refine zw_sto hm_111 dX8_blockPlace_7 [(3, .inl v2), (2, .inl i), (0, .inr (.inr (some 84))), (1, .inl i)] rfl rfl rfl ?_
    exact zw_sub (ma_nd_of (ks := [0, 2, 3]) rfl (by decide)) (ma_nd_of (ks := [3, 2, 0, 1]) rfl (by decide)) (ma_le_cons rfl (ma_le_cons rfl (ma_le_cons rfl (ma_le_nil _)))) h
  · intro x S9 hx
    exact ⟨by decide, hx⟩
theorem g_111_84_s_8 {X : Nat × (Nat → Int32)} {d w : Nat} {S : ma_S} {Q : Option ma_V ⊕ Nat → ma_S → Prop} (l2 : Int32) (l3 : Int32) (hd : 2 ≤ d) (hw : 45 ≤ w) (hS : zT S) (h : if l2 < 0 then (Q (.inl (some (.inl (-1 : Int32)))) S) else (if (mI S 84 0) ≤ l3 then (Q (.inl (some (.inl (-1 : Int32)))) S) else (if l2 = 0 then (Q (.inl (some (.inl l3))) S) else (ma_wp X (d - 1) (w - 22) 106 0 [(0, .inr (.inr (some 84))), (1, .inl l3)] [] S (zi (fun v2 S1 => zT S1 ∧ (ma_wp X (d - 1) (w - 23) 105 0 [(0, .inr (.inr (some 84))), (1, .inl v2)] [] S1 (zi (fun v4 S3 => zT S3 ∧ (ma_wp X d w 111 8 [(0, .inr (.inr (some 84))), (2, .inl (l2 + (-1 : Int32))), (3, .inl v4)] [] S3 Q)) (fun x S9 => Q (.inr x) S9)))) (fun x S9 => Q (.inr x) S9)))))) : ma_wp X d w 111 8 [(0, .inr (.inr (some 84))), (2, .inl l2), (3, .inl l3)] [] S Q := by
  refine zw_push hm_111 dX8_blockPlace_8 (v := .inl l2) rfl ?_
  refine zw_if0 hm_111 dX8_blockPlace_9 (t := 42) rfl zc0_lt ?_ ?_
  · intro hc
    rw [if_pos hc] at h
    refine zw_push hm_111 dX8_blockPlace_42 (v := .inl (-1 : Int32)) rfl ?_
    exact zw_iret hm_111 dX8_blockPlace_43 h
  · intro hc
    rw [if_neg hc] at h
    refine zw_push hm_111 dX8_blockPlace_12 (v := .inl l3) rfl ?_
    refine zw_push hm_111 dX8_blockPlace_13 (v := .inr (.inr (some 84))) rfl ?_
    refine zw_gf hm_111 dX8_blockPlace_14 (v := .inl (mI S 84 0)) (zT_is hS s_84) (zT_t hS s_84) rfl f_8_9_2 rfl ?_
    refine zw_if2 hm_111 dX8_blockPlace_17 (t := 42) rfl zc2_ge ?_ ?_
    · intro hc
      rw [if_pos hc] at h
      refine zw_push hm_111 dX8_blockPlace_42 (v := .inl (-1 : Int32)) rfl ?_
      exact zw_iret hm_111 dX8_blockPlace_43 h
    · intro hc
      rw [if_neg hc] at h
      refine zw_push hm_111 dX8_blockPlace_20 (v := .inl l2) rfl ?_
      refine zw_if0 hm_111 dX8_blockPlace_21 (t := 26) rfl zc0_ne ?_ ?_
      · intro hc
        rw [if_neg hc] at h
        refine zw_sto hm_111 dX8_blockPlace_26 [(2, .inl (l2 + (-1 : Int32))), (0, .inr (.inr (some 84))), (3, .inl l3)] rfl rfl rfl ?_
        refine zw_push hm_111 dX8_blockPlace_29 (v := .inr (.inr (some 84))) rfl ?_
        refine zw_push hm_111 dX8_blockPlace_30 (v := .inr (.inr (some 84))) rfl ?_
        refine zw_push hm_111 dX8_blockPlace_31 (v := .inl l3) rfl ?_
        refine zw_cv hm_111 dX8_blockPlace_32 v_8_43_2 hm_106 [.inl l3] [.inr (.inr (some 84))] rfl (zT_rt hS s_84 rfl) ⟨by omega, by omega⟩ rfl (zw_mono h (zi_go ?_ ?_))
        · intro v2 S1 hv
          obtain ⟨hS1, h⟩ := hv
          refine zw_cv hm_111 dX8_blockPlace_35 v_8_40_2 hm_105 [.inl v2] [] rfl (zT_rt hS1 s_84 rfl) ⟨by omega, by omega⟩ rfl (zw_mono h (zi_go ?_ ?_))
          · intro v4 S3 hv
            obtain ⟨hS3, h⟩ := hv
            refine zw_sto hm_111 dX8_blockPlace_38 [(3, .inl v4), (2, .inl (l2 + (-1 : Int32))), (0, .inr (.inr (some 84)))] rfl rfl rfl ?_
            refine zw_goto hm_111 dX8_blockPlace_39 (t := 8) rfl ?_
            exact zw_sub (ma_nd_of (ks := [0, 2, 3]) rfl (by decide)) (ma_nd_of (ks := [3, 2, 0]) rfl (by decide)) (ma_le_cons rfl (ma_le_cons rfl (ma_le_cons rfl (ma_le_nil _)))) h
          · intro x S9 hx
            exact ⟨by decide, hx⟩
        · intro x S9 hx
          exact ⟨by decide, hx⟩
      · intro hc
        rw [if_pos (Classical.not_not.mp hc)] at h
        refine zw_push hm_111 dX8_blockPlace_24 (v := .inl l3) rfl ?_
        exact zw_iret hm_111 dX8_blockPlace_25 h
theorem lp_111_84_s_8 {X : Nat × (Nat → Int32)} {d w : Nat} {f : Nat → Nat → Int32} {r : Nat → Nat → Option Nat} {C Z N : Nat} {Q : Option ma_V ⊕ Nat → ma_S → Prop} {ab : Nat→Nat→Int32} {i : Int32} {S : ma_S} (hd : 2 ≤ d) (hw : 45 ≤ w) (K : ∀ v S', S' = S → (-1 ≤ v.toInt ∧ v.toInt ≤ 1500) → (v.toInt = (if i.toInt < 0 then -1 else aBk ab i.toInt.toNat (aN ab 0))) → Q (.inl (some (.inl v))) S') : ∀ (n : Nat) (l2 : Int32) (l3 : Int32), (l2.toInt).toNat = n → zJ84 f r C Z N S → (0 ≤ l3.toInt) → (l3.toInt ≤ 1500) → (xB S (mR S 70)) → (aT 84 S = ab) → ((if l2.toInt < 0 then -1 else aBk ab l2.toInt.toNat l3.toInt) = (if i.toInt < 0 then -1 else aBk ab i.toInt.toNat (aN ab 0))) → ma_wp X d w 111 8 [(0, .inr (.inr (some 84))), (2, .inl l2), (3, .inl l3)] [] S Q := by
  intro n
  induction n using Nat.strongRecOn with
  | _ n IH =>
    intro l2 l3 hmu hI  hi0 hi1 hi2 hi3 hi4
    refine g_111_84_s_8 l2 l3 (by omega) (by omega) (zG_T hI) ?_
    have li1 : (0 : Int32).toInt = 0 := rfl
    refine zd (fun h2 => ?_) (fun h2 => ?_)
    · skip
      have g3 := i_lt h2
      have li4 : (-1 : Int32).toInt = -1 := rfl
      exact K ((-1 : Int32)) _ rfl (by omega) (show (-1 : Int32).toInt = (if i.toInt < 0 then -1 else aBk ab i.toInt.toNat (aN ab 0)) from by first | (exact bk_e1 (by omega) hi4 rfl) | (have r0 := (congrArg Int32.toInt (show aT 84 S 87 0 = mI S 84 0 from rfl)); rw [hi3] at r0; exact bk_e2 (by assumption) (by omega) hi4 rfl) | (have r0 := (congrArg Int32.toInt (show aT 84 S 87 0 = mI S 84 0 from rfl)); rw [hi3] at r0; exact bk_e3 (by omega) hi4 rfl))
    · skip
      have g5 := i_nlt h2
      have f6 := zG_s hI (0) (1500) (c := 84) (k := 0) (by decide)
      refine zd (fun h7 => ?_) (fun h7 => ?_)
      · skip
        have g8 := i_le h7
        have li9 : (-1 : Int32).toInt = -1 := rfl
        exact K ((-1 : Int32)) _ rfl (by omega) (show (-1 : Int32).toInt = (if i.toInt < 0 then -1 else aBk ab i.toInt.toNat (aN ab 0)) from by first | (exact bk_e1 (by omega) hi4 rfl) | (have r0 := (congrArg Int32.toInt (show aT 84 S 87 0 = mI S 84 0 from rfl)); rw [hi3] at r0; exact bk_e2 (by assumption) (by omega) hi4 rfl) | (have r0 := (congrArg Int32.toInt (show aT 84 S 87 0 = mI S 84 0 from rfl)); rw [hi3] at r0; exact bk_e3 (by omega) hi4 rfl))
      · skip
        have g10 := i_nle h7
        refine zd (fun h11 => ?_) (fun h11 => ?_)
        · skip
          have g12 := i_eq h11
          exact K (l3) _ rfl (by omega) (show l3.toInt = (if i.toInt < 0 then -1 else aBk ab i.toInt.toNat (aN ab 0)) from by first | (exact bk_e1 (by omega) hi4 rfl) | (have r0 := (congrArg Int32.toInt (show aT 84 S 87 0 = mI S 84 0 from rfl)); rw [hi3] at r0; exact bk_e2 (by assumption) (by omega) hi4 rfl) | (have r0 := (congrArg Int32.toInt (show aT 84 S 87 0 = mI S 84 0 from rfl)); rw [hi3] at r0; exact bk_e3 (by omega) hi4 rfl))
        · skip
          have g13 := i_ne h11
          refine sp_106_84_s (ab := (aT 84 S)) (l3) (by omega) (by omega) hI (show xB S (mR S 70) from by first | (exact xB_x (xC_o (W := 75) hi2).2)) (show aT 84 S = (aT 84 S) from by first | (exact rfl) | (exact hi3)) (by omega) (by omega) (fun v2 S1 eS_S1 hp_v2 rp0_S1 => zi_n ⟨(by rw [eS_S1]; exact zG_T hI), ?_⟩)
          replace eS_S1 := eS_S1.symm; subst eS_S1
          have rp0_S1 : v2.toInt = aE (aT 84 S) l3.toInt := rp0_S1
          refine sp_105_84_s (ab := (aT 84 S)) (v2) (by omega) (by omega) hI (show xB S (mR S 70) from by first | (exact xB_x (xC_o (W := 75) hi2).2)) (show aT 84 S = (aT 84 S) from by first | (exact rfl) | (exact hi3)) (by omega) (fun v4 S3 eS_S3 hp_v4 rp0_S3 => zi_n ⟨(by rw [eS_S3]; exact zG_T hI), ?_⟩)
          replace eS_S3 := eS_S3.symm; subst eS_S3
          have rp0_S3 : v4.toInt = aN (aT 84 S) v2.toInt := rp0_S3
          first | have e14 : (l2 + (-1 : Int32)).toInt = l2.toInt + (-1) := i_addk rfl (by omega) (by omega) | have b15 := i_bd (l2 + (-1 : Int32))
          exact IH _ (by exact mu_dec hmu (by assumption) (by omega)) ((l2 + (-1 : Int32))) (v4) rfl hI (by omega) (by omega) (show xB S (mR S 70) from by first | (exact xB_x (xC_o (W := 75) hi2).2)) (show aT 84 S = ab from by first | (exact hi3)) (show (if ((l2 + (-1 : Int32))).toInt < 0 then -1 else aBk ab ((l2 + (-1 : Int32))).toInt.toNat (v4).toInt) = (if i.toInt < 0 then -1 else aBk ab i.toInt.toNat (aN ab 0)) from by first | (have r0 := (congrArg Int32.toInt (show aT 84 S 87 0 = mI S 84 0 from rfl)); rw [hi3] at r0; have e1 := rp0_S1; rw [hi3] at e1; have e2 := rp0_S3; rw [hi3, e1] at e2; exact bk_go (by omega) (by assumption) (by omega) hi4 e2))
theorem sp_111_84_s {X : Nat × (Nat → Int32)} {d w : Nat} {f : Nat → Nat → Int32} {r : Nat → Nat → Option Nat} {C Z N : Nat} {Q : Option ma_V ⊕ Nat → ma_S → Prop} {ab : Nat→Nat→Int32} {S : ma_S} (i : Int32) (hd : 2 ≤ d) (hw : 45 ≤ w) (hI : zJ84 f r C Z N S) (hpre0 : xB S (mR S 70)) (hpre1 : aT 84 S = ab) (K : ∀ v S', S' = S → (-1 ≤ v.toInt ∧ v.toInt ≤ 1500) → (v.toInt = (if i.toInt < 0 then -1 else aBk ab i.toInt.toNat (aN ab 0))) → Q (.inl (some (.inl v))) S') : ma_wp X d w 111 0 [(0, .inr (.inr (some 84))), (1, .inl i)] [] S Q := by
  refine g_111_84_s_0 i (by omega) (by omega) (zG_T hI) ?_
  have li1 : (0 : Int32).toInt = 0 := rfl
  refine sp_105_84_s (ab := (aT 84 S)) ((0 : Int32)) (by omega) (by omega) hI (show xB S (mR S 70) from by first | (exact xB_x (xC_o (W := 75) hpre0).2)) (show aT 84 S = (aT 84 S) from by first | (exact rfl) | (exact hpre1)) (by omega) (fun v2 S1 eS_S1 hp_v2 rp0_S1 => zi_n ⟨(by rw [eS_S1]; exact zG_T hI), ?_⟩)
  replace eS_S1 := eS_S1.symm; subst eS_S1
  have rp0_S1 : v2.toInt = aN (aT 84 S) (0 : Int32).toInt := rp0_S1
  exact lp_111_84_s_8 (by omega) (by omega) K _ (i) (v2) rfl hI (by omega) (by omega) (show xB S (mR S 70) from by first | (exact xB_x (xC_o (W := 75) hpre0).2)) (show aT 84 S = ab from by first | (exact hpre1)) (show (if (i).toInt < 0 then -1 else aBk ab (i).toInt.toNat (v2).toInt) = (if i.toInt < 0 then -1 else aBk ab i.toInt.toNat (aN ab 0)) from by first | (have q := rp0_S1; rw [hpre1, show (0 : Int32).toInt = 0 from rfl] at q; rw [q]))
