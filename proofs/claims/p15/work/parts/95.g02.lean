/-! the heap by numbers, the class (written by wip/tools/gen18.py) -/
theorem g_82_69_s_0 {X : Nat × (Nat → Int32)} {d w : Nat} {S : ma_S} {Q : Option ma_V ⊕ Nat → ma_S → Prop} (t : Nat) (i : Int32) (hd : 0 ≤ d) (hw : 0 ≤ w) (hS : zT S) (h : (126 ≤ t ∧ t < mN S) ∧ ((126 ≤ t ∧ t < mN S) ∧ (if (lg_cmp ((((mL S t 3).toUInt64 >>> (i.toInt64.toUInt64 &&& Int64.toUInt64 63)).toInt64) &&& (1 : Int64)) (0 : Int64)) = 0 then (Q (.inl (some (.inr (.inr none)))) S) else (if (((mI S t 4) + (1 : Int32)) + i) < 0 then (Q (.inl (some (.inr (.inr none)))) S) else (if (4500 : Int32) ≤ (((mI S t 4) + (1 : Int32)) + i) then (Q (.inl (some (.inr (.inr none)))) S) else ((0 ≤ (((mI S t 4) + (1 : Int32)) + i) ∧ (((mI S t 4) + (1 : Int32)) + i).toNatClampNeg < 4500) ∧ (if (mI S 71 (((mI S t 4) + (1 : Int32)) + i).toNatClampNeg) < 0 then (Q (.inl (some (.inr (.inr none)))) S) else (if (512 : Int32) ≤ (mI S 71 (((mI S t 4) + (1 : Int32)) + i).toNatClampNeg) then (Q (.inl (some (.inr (.inr none)))) S) else ((0 ≤ (mI S 71 (((mI S t 4) + (1 : Int32)) + i).toNatClampNeg) ∧ (mI S 71 (((mI S t 4) + (1 : Int32)) + i).toNatClampNeg).toNatClampNeg < 512) ∧ (Q (.inl (some (.inr (.inr (mR S 70 (mI S 71 (((mI S t 4) + (1 : Int32)) + i).toNatClampNeg).toNatClampNeg))))) S)))))))))) : ma_wp X d w 82 0 [(0, .inr (.inr (some 69))), (1, .inr (.inr (some t))), (2, .inl i)] [] S Q := by
  refine zw_push hm_82 dX7_referenceOf_0 (v := .inr (.inr (some t))) rfl ?_
  obtain ⟨hg, h⟩ := h
  refine zw_gf hm_82 dX7_referenceOf_1 (v := .inl (mI S t 4)) (zT_tis hS hg) (zT_tt hS hg) rfl f_7_61_9 rfl ?_
  refine zw_push hm_82 dX7_referenceOf_4 (v := .inl (1 : Int32)) rfl ?_
  refine zw_stk hm_82 dX7_referenceOf_5 (st' := [.inl ((mI S t 4) + (1 : Int32))]) rfl rfl ?_
  refine zw_push hm_82 dX7_referenceOf_6 (v := .inl i) rfl ?_
  refine zw_stk hm_82 dX7_referenceOf_7 (st' := [.inl (((mI S t 4) + (1 : Int32)) + i)]) rfl rfl ?_
  refine zw_sto hm_82 dX7_referenceOf_8 [(3, .inl (((mI S t 4) + (1 : Int32)) + i)), (0, .inr (.inr (some 69))), (1, .inr (.inr (some t))), (2, .inl i)] rfl rfl rfl ?_
  refine zw_push hm_82 dX7_referenceOf_9 (v := .inr (.inr (some t))) rfl ?_
  obtain ⟨hg, h⟩ := h
  refine zw_gf hm_82 dX7_referenceOf_10 (v := .inr (.inl (mL S t 3))) (zT_tis hS hg) (zT_tt hS hg) rfl f_7_74_9 rfl ?_
  refine zw_push hm_82 dX7_referenceOf_13 (v := .inl i) rfl ?_
  refine zw_stk hm_82 dX7_referenceOf_14 (st' := [.inr (.inl (((mL S t 3).toUInt64 >>> (i.toInt64.toUInt64 &&& Int64.toUInt64 63)).toInt64))]) rfl rfl ?_
  refine zw_push hm_82 dX7_referenceOf_15 (v := .inr (.inl (1 : Int64))) rfl ?_
  refine zw_stk hm_82 dX7_referenceOf_16 (st' := [.inr (.inl ((((mL S t 3).toUInt64 >>> (i.toInt64.toUInt64 &&& Int64.toUInt64 63)).toInt64) &&& (1 : Int64)))]) rfl rfl ?_
  refine zw_push hm_82 dX7_referenceOf_17 (v := .inr (.inl (0 : Int64))) rfl ?_
  refine zw_stk hm_82 dX7_referenceOf_18 (st' := [.inl (lg_cmp ((((mL S t 3).toUInt64 >>> (i.toInt64.toUInt64 &&& Int64.toUInt64 63)).toInt64) &&& (1 : Int64)) (0 : Int64))]) rfl rfl ?_
  refine zw_if0 hm_82 dX7_referenceOf_19 (t := 26) rfl zc0_eq ?_ ?_
  · intro hc
    rw [if_pos hc] at h
    refine zw_push hm_82 dX7_referenceOf_26 (v := .inl (0 : Int32)) rfl ?_
    refine zw_sto hm_82 dX7_referenceOf_27 [(4, .inl (0 : Int32)), (3, .inl (((mI S t 4) + (1 : Int32)) + i)), (0, .inr (.inr (some 69))), (1, .inr (.inr (some t))), (2, .inl i)] rfl rfl rfl ?_
    refine zw_push hm_82 dX7_referenceOf_29 (v := .inl (0 : Int32)) rfl ?_
    refine zw_if0 hm_82 dX7_referenceOf_31 (t := 54) rfl zc0_eq (fun _ => ?_) (fun hc => absurd (by decide) hc)
    refine zw_push hm_82 dX7_referenceOf_54 (v := .inl (-1 : Int32)) rfl ?_
    refine zw_sto hm_82 dX7_referenceOf_55 [(5, .inl (-1 : Int32)), (4, .inl (0 : Int32)), (3, .inl (((mI S t 4) + (1 : Int32)) + i)), (0, .inr (.inr (some 69))), (1, .inr (.inr (some t))), (2, .inl i)] rfl rfl rfl ?_
    refine zw_push hm_82 dX7_referenceOf_57 (v := .inl (-1 : Int32)) rfl ?_
    refine zw_if0 hm_82 dX7_referenceOf_59 (t := 80) rfl zc0_lt (fun _ => ?_) (fun hc => absurd (by decide) hc)
    refine zw_push hm_82 dX7_referenceOf_80 (v := .inr (.inr none)) rfl ?_
    exact zw_aret hm_82 dX7_referenceOf_81 h
  · intro hc
    rw [if_neg hc] at h
    refine zw_push hm_82 dX7_referenceOf_22 (v := .inl (1 : Int32)) rfl ?_
    refine zw_goto hm_82 dX7_referenceOf_23 (t := 27) rfl ?_
    refine zw_sto hm_82 dX7_referenceOf_27 [(4, .inl (1 : Int32)), (3, .inl (((mI S t 4) + (1 : Int32)) + i)), (0, .inr (.inr (some 69))), (1, .inr (.inr (some t))), (2, .inl i)] rfl rfl rfl ?_
    refine zw_push hm_82 dX7_referenceOf_29 (v := .inl (1 : Int32)) rfl ?_
    refine zw_if0 hm_82 dX7_referenceOf_31 (t := 54) rfl zc0_eq (fun hc => absurd hc (by decide)) (fun _ => ?_)
    refine zw_push hm_82 dX7_referenceOf_34 (v := .inl (((mI S t 4) + (1 : Int32)) + i)) rfl ?_
    refine zw_if0 hm_82 dX7_referenceOf_35 (t := 54) rfl zc0_lt ?_ ?_
    · intro hc
      rw [if_pos hc] at h
      refine zw_push hm_82 dX7_referenceOf_54 (v := .inl (-1 : Int32)) rfl ?_
      refine zw_sto hm_82 dX7_referenceOf_55 [(5, .inl (-1 : Int32)), (4, .inl (1 : Int32)), (3, .inl (((mI S t 4) + (1 : Int32)) + i)), (0, .inr (.inr (some 69))), (1, .inr (.inr (some t))), (2, .inl i)] rfl rfl rfl ?_
      refine zw_push hm_82 dX7_referenceOf_57 (v := .inl (-1 : Int32)) rfl ?_
      refine zw_if0 hm_82 dX7_referenceOf_59 (t := 80) rfl zc0_lt (fun _ => ?_) (fun hc => absurd (by decide) hc)
      refine zw_push hm_82 dX7_referenceOf_80 (v := .inr (.inr none)) rfl ?_
      exact zw_aret hm_82 dX7_referenceOf_81 h
    · intro hc
      rw [if_neg hc] at h
      refine zw_push hm_82 dX7_referenceOf_38 (v := .inl (((mI S t 4) + (1 : Int32)) + i)) rfl ?_
      refine zw_push hm_82 dX7_referenceOf_39 (v := .inl (4500 : Int32)) rfl ?_
      refine zw_if2 hm_82 dX7_referenceOf_42 (t := 54) rfl zc2_ge ?_ ?_
      · intro hc
        rw [if_pos hc] at h
        refine zw_push hm_82 dX7_referenceOf_54 (v := .inl (-1 : Int32)) rfl ?_
        refine zw_sto hm_82 dX7_referenceOf_55 [(5, .inl (-1 : Int32)), (4, .inl (1 : Int32)), (3, .inl (((mI S t 4) + (1 : Int32)) + i)), (0, .inr (.inr (some 69))), (1, .inr (.inr (some t))), (2, .inl i)] rfl rfl rfl ?_
        refine zw_push hm_82 dX7_referenceOf_57 (v := .inl (-1 : Int32)) rfl ?_
        refine zw_if0 hm_82 dX7_referenceOf_59 (t := 80) rfl zc0_lt (fun _ => ?_) (fun hc => absurd (by decide) hc)
        refine zw_push hm_82 dX7_referenceOf_80 (v := .inr (.inr none)) rfl ?_
        exact zw_aret hm_82 dX7_referenceOf_81 h
      · intro hc
        rw [if_neg hc] at h
        refine zw_push hm_82 dX7_referenceOf_45 (v := .inr (.inr (some 69))) rfl ?_
        refine zw_gf hm_82 dX7_referenceOf_46 (v := .inr (.inr (some 71))) (zT_is hS s_69) (zT_t hS s_69) rfl f_7_17_7 (zT_f hS r_69_1) ?_
        refine zw_push hm_82 dX7_referenceOf_49 (v := .inl (((mI S t 4) + (1 : Int32)) + i)) rfl ?_
        obtain ⟨hg, h⟩ := h
        refine zw_ia hm_82 dX7_referenceOf_50 (zT_is hS s_71) (zT_h hS s_71) rfl hg ?_
        show ma_wp X d w 82 51 [(4, .inl (1 : Int32)), (3, .inl (((mI S t 4) + (1 : Int32)) + i)), (0, .inr (.inr (some 69))), (1, .inr (.inr (some t))), (2, .inl i)] [.inl (mI S 71 (((mI S t 4) + (1 : Int32)) + i).toNatClampNeg)] S _
        refine zw_goto hm_82 dX7_referenceOf_51 (t := 55) rfl ?_
        refine zw_sto hm_82 dX7_referenceOf_55 [(5, .inl (mI S 71 (((mI S t 4) + (1 : Int32)) + i).toNatClampNeg)), (4, .inl (1 : Int32)), (3, .inl (((mI S t 4) + (1 : Int32)) + i)), (0, .inr (.inr (some 69))), (1, .inr (.inr (some t))), (2, .inl i)] rfl rfl rfl ?_
        refine zw_push hm_82 dX7_referenceOf_57 (v := .inl (mI S 71 (((mI S t 4) + (1 : Int32)) + i).toNatClampNeg)) rfl ?_
        refine zw_if0 hm_82 dX7_referenceOf_59 (t := 80) rfl zc0_lt ?_ ?_
        · intro hc
          rw [if_pos hc] at h
          refine zw_push hm_82 dX7_referenceOf_80 (v := .inr (.inr none)) rfl ?_
          exact zw_aret hm_82 dX7_referenceOf_81 h
        · intro hc
          rw [if_neg hc] at h
          refine zw_push hm_82 dX7_referenceOf_62 (v := .inl (mI S 71 (((mI S t 4) + (1 : Int32)) + i).toNatClampNeg)) rfl ?_
          refine zw_push hm_82 dX7_referenceOf_64 (v := .inl (512 : Int32)) rfl ?_
          refine zw_if2 hm_82 dX7_referenceOf_67 (t := 80) rfl zc2_ge ?_ ?_
          · intro hc
            rw [if_pos hc] at h
            refine zw_push hm_82 dX7_referenceOf_80 (v := .inr (.inr none)) rfl ?_
            exact zw_aret hm_82 dX7_referenceOf_81 h
          · intro hc
            rw [if_neg hc] at h
            refine zw_push hm_82 dX7_referenceOf_70 (v := .inr (.inr (some 69))) rfl ?_
            refine zw_gf hm_82 dX7_referenceOf_71 (v := .inr (.inr (some 70))) (zT_is hS s_69) (zT_t hS s_69) rfl f_7_11_7 (zT_f hS r_69_0) ?_
            refine zw_push hm_82 dX7_referenceOf_74 (v := .inl (mI S 71 (((mI S t 4) + (1 : Int32)) + i).toNatClampNeg)) rfl ?_
            obtain ⟨hg, h⟩ := h
            refine zw_aa hm_82 dX7_referenceOf_76 (zT_is hS s_70) (zT_h hS s_70) rfl rfl hg rfl ?_
            show ma_wp X d w 82 77 [(5, .inl (mI S 71 (((mI S t 4) + (1 : Int32)) + i).toNatClampNeg)), (4, .inl (1 : Int32)), (3, .inl (((mI S t 4) + (1 : Int32)) + i)), (0, .inr (.inr (some 69))), (1, .inr (.inr (some t))), (2, .inl i)] [.inr (.inr (mR S 70 (mI S 71 (((mI S t 4) + (1 : Int32)) + i).toNatClampNeg).toNatClampNeg))] S _
            refine zw_goto hm_82 dX7_referenceOf_77 (t := 81) rfl ?_
            exact zw_aret hm_82 dX7_referenceOf_81 h
theorem sp_82_69_s {X : Nat × (Nat → Int32)} {d w : Nat} {f : Nat → Nat → Int32} {r : Nat → Nat → Option Nat} {C Z N : Nat} {Q : Option ma_V ⊕ Nat → ma_S → Prop} {R : zRT} {W : Nat} {y : Int32} {S : ma_S} (t : Nat) (i : Int32) (hd : 0 ≤ d) (hw : 0 ≤ w) (hI : zI f r C Z N S) (th_t : 126 ≤ t ∧ t < N) (hpre0 : xB S R) (hpre1 : zTa R y = some t) (hpre2 : 0 ≤ i.toInt) (K : ∀ v S', S' = S → (∀ c, v = some c → 126 ≤ c ∧ c < N) → (v = zTa R (aRef (aS W S) y.toNatClampNeg i)) → Q (.inl (some (.inr (.inr v)))) S') : ma_wp X d w 82 0 [(0, .inr (.inr (some 69))), (1, .inr (.inr (some t))), (2, .inl i)] [] S Q := by
  refine g_82_69_s_0 t i (by omega) (by omega) (zG_T hI) ?_
  refine ⟨zG_n hI th_t, ?_⟩
  refine ⟨zG_n hI th_t, ?_⟩
  have b1 := i_bd (lg_cmp ((((mL S t 3).toUInt64 >>> (i.toInt64.toUInt64 &&& Int64.toUInt64 63)).toInt64) &&& (1 : Int64)) (0 : Int64))
  have li2 : (0 : Int32).toInt = 0 := rfl
  refine zd (fun h3 => ?_) (fun h3 => ?_)
  · skip
    have g4 := i_eq h3
    exact K (none) _ rfl (fun _ z => by cases z) (show none = zTa R (aRef (aS W S) y.toNatClampNeg i) from by first | (rw [rf_b0 hpre0 hpre1 (by omega) (by assumption)]; exact ta_m1) | (rw [rf_no hpre0 hpre1 (by omega)]; exact ta_m1) | (rw [rf_in hpre0 hpre1 (by omega) (by assumption) (by omega) (by omega)]; exact ta_no (by omega)))
  · skip
    have g5 := i_ne h3
    have f6 := zG_th hI th_t
    first | have e7 : ((mI S t 4) + (1 : Int32)).toInt = (mI S t 4).toInt + (1) := i_addk rfl (by omega) (by omega) | have b8 := i_bd ((mI S t 4) + (1 : Int32))
    have b9 := i_bd i
    first | have e10 : (((mI S t 4) + (1 : Int32)) + i).toInt = ((mI S t 4) + (1 : Int32)).toInt + i.toInt := i_add (by omega) (by omega) | have b11 := i_bd (((mI S t 4) + (1 : Int32)) + i)
    refine zd (fun h12 => ?_) (fun h12 => ?_)
    · skip
      have g13 := i_lt h12
      exact K (none) _ rfl (fun _ z => by cases z) (show none = zTa R (aRef (aS W S) y.toNatClampNeg i) from by first | (rw [rf_b0 hpre0 hpre1 (by omega) (by assumption)]; exact ta_m1) | (rw [rf_no hpre0 hpre1 (by omega)]; exact ta_m1) | (rw [rf_in hpre0 hpre1 (by omega) (by assumption) (by omega) (by omega)]; exact ta_no (by omega)))
    · skip
      have g14 := i_nlt h12
      have li15 : (4500 : Int32).toInt = 4500 := rfl
      refine zd (fun h16 => ?_) (fun h16 => ?_)
      · skip
        have g17 := i_le h16
        exact K (none) _ rfl (fun _ z => by cases z) (show none = zTa R (aRef (aS W S) y.toNatClampNeg i) from by first | (rw [rf_b0 hpre0 hpre1 (by omega) (by assumption)]; exact ta_m1) | (rw [rf_no hpre0 hpre1 (by omega)]; exact ta_m1) | (rw [rf_in hpre0 hpre1 (by omega) (by assumption) (by omega) (by omega)]; exact ta_no (by omega)))
      · skip
        have g18 := i_nle h16
        refine ⟨i_ix (by omega) (by omega), ?_⟩
        have b19 := i_bd (mI S 71 (((mI S t 4) + (1 : Int32)) + i).toNatClampNeg)
        refine zd (fun h20 => ?_) (fun h20 => ?_)
        · skip
          have g21 := i_lt h20
          exact K (none) _ rfl (fun _ z => by cases z) (show none = zTa R (aRef (aS W S) y.toNatClampNeg i) from by first | (rw [rf_b0 hpre0 hpre1 (by omega) (by assumption)]; exact ta_m1) | (rw [rf_no hpre0 hpre1 (by omega)]; exact ta_m1) | (rw [rf_in hpre0 hpre1 (by omega) (by assumption) (by omega) (by omega)]; exact ta_no (by omega)))
        · skip
          have g22 := i_nlt h20
          have li23 : (512 : Int32).toInt = 512 := rfl
          refine zd (fun h24 => ?_) (fun h24 => ?_)
          · skip
            have g25 := i_le h24
            exact K (none) _ rfl (fun _ z => by cases z) (show none = zTa R (aRef (aS W S) y.toNatClampNeg i) from by first | (rw [rf_b0 hpre0 hpre1 (by omega) (by assumption)]; exact ta_m1) | (rw [rf_no hpre0 hpre1 (by omega)]; exact ta_m1) | (rw [rf_in hpre0 hpre1 (by omega) (by assumption) (by omega) (by omega)]; exact ta_no (by omega)))
          · skip
            have g26 := i_nle h24
            refine ⟨i_ix (by omega) (by omega), ?_⟩
            exact K ((mR S 70 (mI S 71 (((mI S t 4) + (1 : Int32)) + i).toNatClampNeg).toNatClampNeg)) _ rfl (fun _ z => zG_70 hI (c := 70) (by decide) z) (show (mR S 70 (mI S 71 (((mI S t 4) + (1 : Int32)) + i).toNatClampNeg).toNatClampNeg) = zTa R (aRef (aS W S) y.toNatClampNeg i) from by first | (rw [rf_in hpre0 hpre1 (by omega) (by assumption) (by omega) (by omega)]; exact ta_rd hpre0 (by omega) (by omega)))
