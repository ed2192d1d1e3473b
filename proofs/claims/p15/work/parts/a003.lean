/-! from 93.a -/
/-! store and walk, by what they keep (written by wip/tools/gen93.py) -/
theorem g_82_69_0 {X : Nat × (Nat → Int32)} {d w : Nat} {S : ma_S} {Q : Option ma_V ⊕ Nat → ma_S → Prop} (t : Nat) (i : Int32) (hd : 0 ≤ d) (hw : 0 ≤ w) (hS : zT S) (h : (126 ≤ t ∧ t < mN S) ∧ ((126 ≤ t ∧ t < mN S) ∧ (if (lg_cmp ((((mL S t 3).toUInt64 >>> (i.toInt64.toUInt64 &&& Int64.toUInt64 63)).toInt64) &&& (1 : Int64)) (0 : Int64)) = 0 then (Q (.inl (some (.inr (.inr none)))) S) else (if (((mI S t 4) + (1 : Int32)) + i) < 0 then (Q (.inl (some (.inr (.inr none)))) S) else (if (4500 : Int32) ≤ (((mI S t 4) + (1 : Int32)) + i) then (Q (.inl (some (.inr (.inr none)))) S) else ((0 ≤ (((mI S t 4) + (1 : Int32)) + i) ∧ (((mI S t 4) + (1 : Int32)) + i).toNatClampNeg < 4500) ∧ (if (mI S 71 (((mI S t 4) + (1 : Int32)) + i).toNatClampNeg) < 0 then (Q (.inl (some (.inr (.inr none)))) S) else (if (512 : Int32) ≤ (mI S 71 (((mI S t 4) + (1 : Int32)) + i).toNatClampNeg) then (Q (.inl (some (.inr (.inr none)))) S) else ((0 ≤ (mI S 71 (((mI S t 4) + (1 : Int32)) + i).toNatClampNeg) ∧ (mI S 71 (((mI S t 4) + (1 : Int32)) + i).toNatClampNeg).toNatClampNeg < 512) ∧ (Q (.inl (some (.inr (.inr (mR S 70 (mI S 71 (((mI S t 4) + (1 : Int32)) + i).toNatClampNeg).toNatClampNeg))))) S)))))))))) : ma_wp X d w 82 0 [(0, .inr (.inr (some 69))), (1, .inr (.inr (some t))), (2, .inl i)] [] S Q := by
  refine zw_push hm_82 dX7_referenceOf_0 (v := .inr (.inr (some t))) rfl ?_
  obtain ⟨hg, h⟩ := h
  refine zw_gf hm_82 dX7_referenceOf_1 (v := .inl (mI S t 4)) (zT_tis hS hg) (zT_tt hS hg) rfl f_7_61_9 rfl ?_
  refine zw_push hm_82 dX7_referenceOf_4 (v := .inl (1 : Int32)) rfl ?_
  refine zw_stk hm_82 dX7_referenceOf_5 (st₉ := [.inl ((mI S t 4) + (1 : Int32))]) rfl rfl ?_
  refine zw_push hm_82 dX7_referenceOf_6 (v := .inl i) rfl ?_
  refine zw_stk hm_82 dX7_referenceOf_7 (st₉ := [.inl (((mI S t 4) + (1 : Int32)) + i)]) rfl rfl ?_
  refine zw_sto hm_82 dX7_referenceOf_8 [(3, .inl (((mI S t 4) + (1 : Int32)) + i)), (0, .inr (.inr (some 69))), (1, .inr (.inr (some t))), (2, .inl i)] rfl rfl rfl ?_
  refine zw_push hm_82 dX7_referenceOf_9 (v := .inr (.inr (some t))) rfl ?_
  obtain ⟨hg, h⟩ := h
  refine zw_gf hm_82 dX7_referenceOf_10 (v := .inr (.inl (mL S t 3))) (zT_tis hS hg) (zT_tt hS hg) rfl f_7_74_9 rfl ?_
  refine zw_push hm_82 dX7_referenceOf_13 (v := .inl i) rfl ?_
  refine zw_stk hm_82 dX7_referenceOf_14 (st₉ := [.inr (.inl (((mL S t 3).toUInt64 >>> (i.toInt64.toUInt64 &&& Int64.toUInt64 63)).toInt64))]) rfl rfl ?_
  refine zw_push hm_82 dX7_referenceOf_15 (v := .inr (.inl (1 : Int64))) rfl ?_
  refine zw_stk hm_82 dX7_referenceOf_16 (st₉ := [.inr (.inl ((((mL S t 3).toUInt64 >>> (i.toInt64.toUInt64 &&& Int64.toUInt64 63)).toInt64) &&& (1 : Int64)))]) rfl rfl ?_
  refine zw_push hm_82 dX7_referenceOf_17 (v := .inr (.inl (0 : Int64))) rfl ?_
  refine zw_stk hm_82 dX7_referenceOf_18 (st₉ := [.inl (lg_cmp ((((mL S t 3).toUInt64 >>> (i.toInt64.toUInt64 &&& Int64.toUInt64 63)).toInt64) &&& (1 : Int64)) (0 : Int64))]) rfl rfl ?_
  refine zw_if0 hm_82 dX7_referenceOf_19 (t := 26) rfl zc0_eq ?_ ?_
  · intro hc
    rw [if_pos hc] at h
    refine zw_push hm_82 dX7_referenceOf_26 (v := .inl (0 : Int32)) rfl ?_
    refine zw_sto hm_82 dX7_referenceOf_27 [(4, .inl (0 : Int32)), (3, .inl (((mI S t 4) + (1 : Int32)) + i)), (0, .inr (.inr (some 69))), (1, .inr (.inr (some t))), (2, .inl i)] rfl rfl rfl ?_
    refine zw_push hm_82 dX7_referenceOf_29 (v := .inl (0 : Int32)) rfl ?_
    refine zw_if0 hm_82 dX7_referenceOf_31 (t := 54) rfl zc0_eq (fun _ => ?_) (fun hc => absurd (by decide) hc)
    refine zw_push hm_82 dX7_referenceOf_54 (v := .inl (-1 : Int32)) rfl ?_
    refine zw_sto hm_82 dX7_referenceOf_55 [(5, .inl (-1 : Int32)), (4, .inl (0 : Int32)), (3, .inl (((mI S t 4) + (1 : Int32)) + i)), (0, .inr (.inr (some 69))), (1, .inr (.inr (some t))), (2, .inl i)] rfl rfl rfl ?_
    refine zw_push hm_82 dX7_referenceOf_57 (v := .inl (-1 : Int32)) rfl ?_
    refine zw_if0 hm_82 dX7_referenceOf_59 (t := 80) rfl zc0_lt (fun _ => ?_) (fun hc => absurd (by decide) hc)
    refine zw_push hm_82 dX7_referenceOf_80 (v := .inr (.inr none)) rfl ?_
    exact zw_aret hm_82 dX7_referenceOf_81 h
  · intro hc
    rw [if_neg hc] at h
    refine zw_push hm_82 dX7_referenceOf_22 (v := .inl (1 : Int32)) rfl ?_
    refine zw_goto hm_82 dX7_referenceOf_23 (t := 27) rfl ?_
    refine zw_sto hm_82 dX7_referenceOf_27 [(4, .inl (1 : Int32)), (3, .inl (((mI S t 4) + (1 : Int32)) + i)), (0, .inr (.inr (some 69))), (1, .inr (.inr (some t))), (2, .inl i)] rfl rfl rfl ?_
    refine zw_push hm_82 dX7_referenceOf_29 (v := .inl (1 : Int32)) rfl ?_
    refine zw_if0 hm_82 dX7_referenceOf_31 (t := 54) rfl zc0_eq (fun hc => absurd hc (by decide)) (fun _ => ?_)
    refine zw_push hm_82 dX7_referenceOf_34 (v := .inl (((mI S t 4) + (1 : Int32)) + i)) rfl ?_
    refine zw_if0 hm_82 dX7_referenceOf_35 (t := 54) rfl zc0_lt ?_ ?_
    · intro hc
      rw [if_pos hc] at h
      refine zw_push hm_82 dX7_referenceOf_54 (v := .inl (-1 : Int32)) rfl ?_
      refine zw_sto hm_82 dX7_referenceOf_55 [(5, .inl (-1 : Int32)), (4, .inl (1 : Int32)), (3, .inl (((mI S t 4) + (1 : Int32)) + i)), (0, .inr (.inr (some 69))), (1, .inr (.inr (some t))), (2, .inl i)] rfl rfl rfl ?_
      refine zw_push hm_82 dX7_referenceOf_57 (v := .inl (-1 : Int32)) rfl ?_
      refine zw_if0 hm_82 dX7_referenceOf_59 (t := 80) rfl zc0_lt (fun _ => ?_) (fun hc => absurd (by decide) hc)
      refine zw_push hm_82 dX7_referenceOf_80 (v := .inr (.inr none)) rfl ?_
      exact zw_aret hm_82 dX7_referenceOf_81 h
    · intro hc
      rw [if_neg hc] at h
      refine zw_push hm_82 dX7_referenceOf_38 (v := .inl (((mI S t 4) + (1 : Int32)) + i)) rfl ?_
      refine zw_push hm_82 dX7_referenceOf_39 (v := .inl (4500 : Int32)) rfl ?_
      refine zw_if2 hm_82 dX7_referenceOf_42 (t := 54) rfl zc2_ge ?_ ?_
      · intro hc
        rw [if_pos hc] at h
        refine zw_push hm_82 dX7_referenceOf_54 (v := .inl (-1 : Int32)) rfl ?_
        refine zw_sto hm_82 dX7_referenceOf_55 [(5, .inl (-1 : Int32)), (4, .inl (1 : Int32)), (3, .inl (((mI S t 4) + (1 : Int32)) + i)), (0, .inr (.inr (some 69))), (1, .inr (.inr (some t))), (2, .inl i)] rfl rfl rfl ?_
        refine zw_push hm_82 dX7_referenceOf_57 (v := .inl (-1 : Int32)) rfl ?_
        refine zw_if0 hm_82 dX7_referenceOf_59 (t := 80) rfl zc0_lt (fun _ => ?_) (fun hc => absurd (by decide) hc)
        refine zw_push hm_82 dX7_referenceOf_80 (v := .inr (.inr none)) rfl ?_
        exact zw_aret hm_82 dX7_referenceOf_81 h
      · intro hc
        rw [if_neg hc] at h
        refine zw_push hm_82 dX7_referenceOf_45 (v := .inr (.inr (some 69))) rfl ?_
        refine zw_gf hm_82 dX7_referenceOf_46 (v := .inr (.inr (some 71))) (zT_is hS s_69) (zT_t hS s_69) rfl f_7_17_7 (zT_f hS r_69_1) ?_
        refine zw_push hm_82 dX7_referenceOf_49 (v := .inl (((mI S t 4) + (1 : Int32)) + i)) rfl ?_
        obtain ⟨hg, h⟩ := h
        refine zw_ia hm_82 dX7_referenceOf_50 (zT_is hS s_71) (zT_h hS s_71) rfl hg ?_
        show ma_wp X d w 82 51 [(4, .inl (1 : Int32)), (3, .inl (((mI S t 4) + (1 : Int32)) + i)), (0, .inr (.inr (some 69))), (1, .inr (.inr (some t))), (2, .inl i)] [.inl (mI S 71 (((mI S t 4) + (1 : Int32)) + i).toNatClampNeg)] S _
        refine zw_goto hm_82 dX7_referenceOf_51 (t := 55) rfl ?_
        refine zw_sto hm_82 dX7_referenceOf_55 [(5, .inl (mI S 71 (((mI S t 4) + (1 : Int32)) + i).toNatClampNeg)), (4, .inl (1 : Int32)), (3, .inl (((mI S t 4) + (1 : Int32)) + i)), (0, .inr (.inr (some 69))), (1, .inr (.inr (some t))), (2, .inl i)] rfl rfl rfl ?_
        refine zw_push hm_82 dX7_referenceOf_57 (v := .inl (mI S 71 (((mI S t 4) + (1 : Int32)) + i).toNatClampNeg)) rfl ?_
        refine zw_if0 hm_82 dX7_referenceOf_59 (t := 80) rfl zc0_lt ?_ ?_
        · intro hc
          rw [if_pos hc] at h
          refine zw_push hm_82 dX7_referenceOf_80 (v := .inr (.inr none)) rfl ?_
          exact zw_aret hm_82 dX7_referenceOf_81 h
        · intro hc
          rw [if_neg hc] at h
          refine zw_push hm_82 dX7_referenceOf_62 (v := .inl (mI S 71 (((mI S t 4) + (1 : Int32)) + i).toNatClampNeg)) rfl ?_
          refine zw_push hm_82 dX7_referenceOf_64 (v := .inl (512 : Int32)) rfl ?_
          refine zw_if2 hm_82 dX7_referenceOf_67 (t := 80) rfl zc2_ge ?_ ?_
          · intro hc
            rw [if_pos hc] at h
            refine zw_push hm_82 dX7_referenceOf_80 (v := .inr (.inr none)) rfl ?_
            exact zw_aret hm_82 dX7_referenceOf_81 h
          · intro hc
            rw [if_neg hc] at h
            refine zw_push hm_82 dX7_referenceOf_70 (v := .inr (.inr (some 69))) rfl ?_
            refine zw_gf hm_82 dX7_referenceOf_71 (v := .inr (.inr (some 70))) (zT_is hS s_69) (zT_t hS s_69) rfl f_7_11_7 (zT_f hS r_69_0) ?_
            refine zw_push hm_82 dX7_referenceOf_74 (v := .inl (mI S 71 (((mI S t 4) + (1 : Int32)) + i).toNatClampNeg)) rfl ?_
            obtain ⟨hg, h⟩ := h
            refine zw_aa hm_82 dX7_referenceOf_76 (zT_is hS s_70) (zT_h hS s_70) rfl rfl hg rfl ?_
            show ma_wp X d w 82 77 [(5, .inl (mI S 71 (((mI S t 4) + (1 : Int32)) + i).toNatClampNeg)), (4, .inl (1 : Int32)), (3, .inl (((mI S t 4) + (1 : Int32)) + i)), (0, .inr (.inr (some 69))), (1, .inr (.inr (some t))), (2, .inl i)] [.inr (.inr (mR S 70 (mI S 71 (((mI S t 4) + (1 : Int32)) + i).toNatClampNeg).toNatClampNeg))] S _
            refine zw_goto hm_82 dX7_referenceOf_77 (t := 81) rfl ?_
            exact zw_aret hm_82 dX7_referenceOf_81 h
theorem sp_82_69 {X : Nat × (Nat → Int32)} {d w : Nat} {f : Nat → Nat → Int32} {r : Nat → Nat → Option Nat} {C Z N : Nat} {Q : Option ma_V ⊕ Nat → ma_S → Prop} {S : ma_S} (t : Nat) (i : Int32) (hd : 0 ≤ d) (hw : 0 ≤ w) (hI : zI f r C Z N S) (th_t : 126 ≤ t ∧ t < N) (K : ∀ v S₉, zI f r C Z N S₉ → (∀ c, v = some c → 126 ≤ c ∧ c < N) → Q (.inl (some (.inr (.inr v)))) S₉) : ma_wp X d w 82 0 [(0, .inr (.inr (some 69))), (1, .inr (.inr (some t))), (2, .inl i)] [] S Q := by
  refine g_82_69_0 t i (by omega) (by omega) (zG_T hI) ?_
  refine ⟨zG_n hI th_t, ?_⟩
  refine ⟨zG_n hI th_t, ?_⟩
  have b1 := i_bd (lg_cmp ((((mL S t 3).toUInt64 >>> (i.toInt64.toUInt64 &&& Int64.toUInt64 63)).toInt64) &&& (1 : Int64)) (0 : Int64))
  have li2 : (0 : Int32).toInt = 0 := rfl
  refine zd (fun h3 => ?_) (fun h3 => ?_)
  · skip
    have g4 := i_eq h3
    exact K (none) _ hI (fun _ z => by cases z)
  · skip
    have g5 := i_ne h3
    have f6 := zG_th hI th_t
    first | have e7 : ((mI S t 4) + (1 : Int32)).toInt = (mI S t 4).toInt + (1) := i_addk rfl (by omega) (by omega) | have b8 := i_bd ((mI S t 4) + (1 : Int32))
    have b9 := i_bd i
    first | have e10 : (((mI S t 4) + (1 : Int32)) + i).toInt = ((mI S t 4) + (1 : Int32)).toInt + i.toInt := i_add (by omega) (by omega) | have b11 := i_bd (((mI S t 4) + (1 : Int32)) + i)
    refine zd (fun h12 => ?_) (fun h12 => ?_)
    · skip
      have g13 := i_lt h12
      exact K (none) _ hI (fun _ z => by cases z)
    · skip
      have g14 := i_nlt h12
      have li15 : (4500 : Int32).toInt = 4500 := rfl
      refine zd (fun h16 => ?_) (fun h16 => ?_)
      · skip
        have g17 := i_le h16
        exact K (none) _ hI (fun _ z => by cases z)
      · skip
        have g18 := i_nle h16
        refine ⟨i_ix (by omega) (by omega), ?_⟩
        have b19 := i_bd (mI S 71 (((mI S t 4) + (1 : Int32)) + i).toNatClampNeg)
        refine zd (fun h20 => ?_) (fun h20 => ?_)
        · skip
          have g21 := i_lt h20
          exact K (none) _ hI (fun _ z => by cases z)
        · skip
          have g22 := i_nlt h20
          have li23 : (512 : Int32).toInt = 512 := rfl
          refine zd (fun h24 => ?_) (fun h24 => ?_)
          · skip
            have g25 := i_le h24
            exact K (none) _ hI (fun _ z => by cases z)
          · skip
            have g26 := i_nle h24
            refine ⟨i_ix (by omega) (by omega), ?_⟩
            exact K ((mR S 70 (mI S 71 (((mI S t 4) + (1 : Int32)) + i).toNatClampNeg).toNatClampNeg)) _ hI (fun _ z => zG_70 hI (c := 70) (by decide) z)
theorem g_95_69_0 {X : Nat × (Nat → Int32)} {d w : Nat} {S : ma_S} {Q : Option ma_V ⊕ Nat → ma_S → Prop} (t : Nat) (i : Int32) (x : Int32) (hd : 0 ≤ d) (hw : 0 ≤ w) (hS : zT S) (h : (126 ≤ t ∧ t < mN S) ∧ (if (((mI S t 4) + (1 : Int32)) + i) < 0 then (Q (.inl (some (.inl (-1 : Int32)))) S) else (if (((mI S t 4) + (1 : Int32)) + i) < (4500 : Int32) then ((0 ≤ (((mI S t 4) + (1 : Int32)) + i) ∧ (((mI S t 4) + (1 : Int32)) + i).toNatClampNeg < 4500) ∧ ((0 ≤ (((mI S t 4) + (1 : Int32)) + i) ∧ (((mI S t 4) + (1 : Int32)) + i).toNatClampNeg < 4500) ∧ (Q (.inl (some (.inl (mI S 71 (((mI S t 4) + (1 : Int32)) + i).toNatClampNeg)))) (ma_put S 71 (((mI S t 4) + (1 : Int32)) + i).toNatClampNeg (.inl x))))) else (Q (.inl (some (.inl (-1 : Int32)))) S)))) : ma_wp X d w 95 0 [(0, .inr (.inr (some 69))), (1, .inr (.inr (some t))), (2, .inl i), (3, .inl x)] [] S Q := by
  refine zw_push hm_95 dX7_changeInt_0 (v := .inr (.inr (some t))) rfl ?_
  obtain ⟨hg, h⟩ := h
  refine zw_gf hm_95 dX7_changeInt_1 (v := .inl (mI S t 4)) (zT_tis hS hg) (zT_tt hS hg) rfl f_7_61_9 rfl ?_
  refine zw_push hm_95 dX7_changeInt_4 (v := .inl (1 : Int32)) rfl ?_
  refine zw_stk hm_95 dX7_changeInt_5 (st₉ := [.inl ((mI S t 4) + (1 : Int32))]) rfl rfl ?_
  refine zw_push hm_95 dX7_changeInt_6 (v := .inl i) rfl ?_
  refine zw_stk hm_95 dX7_changeInt_7 (st₉ := [.inl (((mI S t 4) + (1 : Int32)) + i)]) rfl rfl ?_
  refine zw_sto hm_95 dX7_changeInt_8 [(4, .inl (((mI S t 4) + (1 : Int32)) + i)), (0, .inr (.inr (some 69))), (1, .inr (.inr (some t))), (2, .inl i), (3, .inl x)] rfl rfl rfl ?_
  refine zw_push hm_95 dX7_changeInt_10 (v := .inl (((mI S t 4) + (1 : Int32)) + i)) rfl ?_
  refine zw_if0 hm_95 dX7_changeInt_12 (t := 23) rfl zc0_lt ?_ ?_
  · intro hc
    rw [if_pos hc] at h
    refine zw_push hm_95 dX7_changeInt_23 (v := .inl (-1 : Int32)) rfl ?_
    exact zw_iret hm_95 dX7_changeInt_24 h
  · intro hc
    rw [if_neg hc] at h
    refine zw_push hm_95 dX7_changeInt_15 (v := .inl (((mI S t 4) + (1 : Int32)) + i)) rfl ?_
    refine zw_push hm_95 dX7_changeInt_17 (v := .inl (4500 : Int32)) rfl ?_
    refine zw_if2 hm_95 dX7_changeInt_20 (t := 25) rfl zc2_lt ?_ ?_
    · intro hc
      rw [if_pos hc] at h
      refine zw_push hm_95 dX7_changeInt_25 (v := .inr (.inr (some 69))) rfl ?_
      refine zw_gf hm_95 dX7_changeInt_26 (v := .inr (.inr (some 71))) (zT_is hS s_69) (zT_t hS s_69) rfl f_7_17_7 (zT_f hS r_69_1) ?_
      refine zw_push hm_95 dX7_changeInt_29 (v := .inl (((mI S t 4) + (1 : Int32)) + i)) rfl ?_
      obtain ⟨hg, h⟩ := h
      refine zw_ia hm_95 dX7_changeInt_31 (zT_is hS s_71) (zT_h hS s_71) rfl hg ?_
      show ma_wp X d w 95 32 [(4, .inl (((mI S t 4) + (1 : Int32)) + i)), (0, .inr (.inr (some 69))), (1, .inr (.inr (some t))), (2, .inl i), (3, .inl x)] [.inl (mI S 71 (((mI S t 4) + (1 : Int32)) + i).toNatClampNeg)] S _
      refine zw_sto hm_95 dX7_changeInt_32 [(5, .inl (mI S 71 (((mI S t 4) + (1 : Int32)) + i).toNatClampNeg)), (4, .inl (((mI S t 4) + (1 : Int32)) + i)), (0, .inr (.inr (some 69))), (1, .inr (.inr (some t))), (2, .inl i), (3, .inl x)] rfl rfl rfl ?_
      refine zw_push hm_95 dX7_changeInt_34 (v := .inr (.inr (some 69))) rfl ?_
      refine zw_gf hm_95 dX7_changeInt_35 (v := .inr (.inr (some 71))) (zT_is hS s_69) (zT_t hS s_69) rfl f_7_17_7 (zT_f hS r_69_1) ?_
      refine zw_push hm_95 dX7_changeInt_38 (v := .inl (((mI S t 4) + (1 : Int32)) + i)) rfl ?_
      refine zw_push hm_95 dX7_changeInt_40 (v := .inl x) rfl ?_
      obtain ⟨hg, h⟩ := h
      refine zw_ias hm_95 dX7_changeInt_41 (zT_is hS s_71) (zT_h hS s_71) rfl hg ?_
      refine zw_push hm_95 dX7_changeInt_42 (v := .inl (mI S 71 (((mI S t 4) + (1 : Int32)) + i).toNatClampNeg)) rfl ?_
      exact zw_iret hm_95 dX7_changeInt_44 h
    · intro hc
      rw [if_neg hc] at h
      refine zw_push hm_95 dX7_changeInt_23 (v := .inl (-1 : Int32)) rfl ?_
      exact zw_iret hm_95 dX7_changeInt_24 h
theorem sp_95_69 {X : Nat × (Nat → Int32)} {d w : Nat} {f : Nat → Nat → Int32} {r : Nat → Nat → Option Nat} {C Z N : Nat} {Q : Option ma_V ⊕ Nat → ma_S → Prop} {S : ma_S} (t : Nat) (i : Int32) (x : Int32) (hd : 0 ≤ d) (hw : 0 ≤ w) (hI : zI f r C Z N S) (th_t : 126 ≤ t ∧ t < N) (K : ∀ v S₉, zI f r C Z N S₉ → (True) → Q (.inl (some (.inl v))) S₉) : ma_wp X d w 95 0 [(0, .inr (.inr (some 69))), (1, .inr (.inr (some t))), (2, .inl i), (3, .inl x)] [] S Q := by
  refine g_95_69_0 t i x (by omega) (by omega) (zG_T hI) ?_
  refine ⟨zG_n hI th_t, ?_⟩
  have f1 := zG_th hI th_t
  first | have e2 : ((mI S t 4) + (1 : Int32)).toInt = (mI S t 4).toInt + (1) := i_addk rfl (by omega) (by omega) | have b3 := i_bd ((mI S t 4) + (1 : Int32))
  have b4 := i_bd i
  first | have e5 : (((mI S t 4) + (1 : Int32)) + i).toInt = ((mI S t 4) + (1 : Int32)).toInt + i.toInt := i_add (by omega) (by omega) | have b6 := i_bd (((mI S t 4) + (1 : Int32)) + i)
  have li7 : (0 : Int32).toInt = 0 := rfl
  refine zd (fun h8 => ?_) (fun h8 => ?_)
  · skip
    have g9 := i_lt h8
    have li10 : (-1 : Int32).toInt = -1 := rfl
    exact K ((-1 : Int32)) _ hI trivial
  · skip
    have g11 := i_nlt h8
    have li12 : (4500 : Int32).toInt = 4500 := rfl
    refine zd (fun h13 => ?_) (fun h13 => ?_)
    · skip
      have g14 := i_lt h13
      refine ⟨i_ix (by omega) (by omega), ?_⟩
      refine ⟨i_ix (by omega) (by omega), ?_⟩
      have hI15 : zI f r C Z N (ma_put S 71 (((mI S t 4) + (1 : Int32)) + i).toNatClampNeg (.inl x)) := zG_fa hI rfl (by decide) (by decide) (by decide) trivial
      have b16 := i_bd (mI S 71 (((mI S t 4) + (1 : Int32)) + i).toNatClampNeg)
      exact K ((mI S 71 (((mI S t 4) + (1 : Int32)) + i).toNatClampNeg)) _ hI15 trivial
    · skip
      have g17 := i_nlt h13
      have li18 : (-1 : Int32).toInt = -1 := rfl
      exact K ((-1 : Int32)) _ hI trivial
theorem g_96_69_0 {X : Nat × (Nat → Int32)} {d w : Nat} {S : ma_S} {Q : Option ma_V ⊕ Nat → ma_S → Prop} (t : Nat) (i : Int32) (hd : 0 ≤ d) (hw : 0 ≤ w) (hS : zT S) (h : (126 ≤ t ∧ t < mN S) ∧ (if (((mI S t 4) + (1 : Int32)) + i) < 0 then (Q (.inl (some (.inl (-1 : Int32)))) S) else (if (4500 : Int32) ≤ (((mI S t 4) + (1 : Int32)) + i) then (Q (.inl (some (.inl (-1 : Int32)))) S) else ((0 ≤ (((mI S t 4) + (1 : Int32)) + i) ∧ (((mI S t 4) + (1 : Int32)) + i).toNatClampNeg < 4500) ∧ (Q (.inl (some (.inl (mI S 71 (((mI S t 4) + (1 : Int32)) + i).toNatClampNeg)))) S))))) : ma_wp X d w 96 0 [(0, .inr (.inr (some 69))), (1, .inr (.inr (some t))), (2, .inl i)] [] S Q := by
  refine zw_push hm_96 dX7_wordOf_0 (v := .inr (.inr (some t))) rfl ?_
  obtain ⟨hg, h⟩ := h
  refine zw_gf hm_96 dX7_wordOf_1 (v := .inl (mI S t 4)) (zT_tis hS hg) (zT_tt hS hg) rfl f_7_61_9 rfl ?_
  refine zw_push hm_96 dX7_wordOf_4 (v := .inl (1 : Int32)) rfl ?_
  refine zw_stk hm_96 dX7_wordOf_5 (st₉ := [.inl ((mI S t 4) + (1 : Int32))]) rfl rfl ?_
  refine zw_push hm_96 dX7_wordOf_6 (v := .inl i) rfl ?_
  refine zw_stk hm_96 dX7_wordOf_7 (st₉ := [.inl (((mI S t 4) + (1 : Int32)) + i)]) rfl rfl ?_
  refine zw_sto hm_96 dX7_wordOf_8 [(3, .inl (((mI S t 4) + (1 : Int32)) + i)), (0, .inr (.inr (some 69))), (1, .inr (.inr (some t))), (2, .inl i)] rfl rfl rfl ?_
  refine zw_push hm_96 dX7_wordOf_9 (v := .inl (((mI S t 4) + (1 : Int32)) + i)) rfl ?_
  refine zw_if0 hm_96 dX7_wordOf_10 (t := 29) rfl zc0_lt ?_ ?_
  · intro hc
    rw [if_pos hc] at h
    refine zw_push hm_96 dX7_wordOf_29 (v := .inl (-1 : Int32)) rfl ?_
    exact zw_iret hm_96 dX7_wordOf_30 h
  · intro hc
    rw [if_neg hc] at h
    refine zw_push hm_96 dX7_wordOf_13 (v := .inl (((mI S t 4) + (1 : Int32)) + i)) rfl ?_
    refine zw_push hm_96 dX7_wordOf_14 (v := .inl (4500 : Int32)) rfl ?_
    refine zw_if2 hm_96 dX7_wordOf_17 (t := 29) rfl zc2_ge ?_ ?_
    · intro hc
      rw [if_pos hc] at h
      refine zw_push hm_96 dX7_wordOf_29 (v := .inl (-1 : Int32)) rfl ?_
      exact zw_iret hm_96 dX7_wordOf_30 h
    · intro hc
      rw [if_neg hc] at h
      refine zw_push hm_96 dX7_wordOf_20 (v := .inr (.inr (some 69))) rfl ?_
      refine zw_gf hm_96 dX7_wordOf_21 (v := .inr (.inr (some 71))) (zT_is hS s_69) (zT_t hS s_69) rfl f_7_17_7 (zT_f hS r_69_1) ?_
      refine zw_push hm_96 dX7_wordOf_24 (v := .inl (((mI S t 4) + (1 : Int32)) + i)) rfl ?_
      obtain ⟨hg, h⟩ := h
      refine zw_ia hm_96 dX7_wordOf_25 (zT_is hS s_71) (zT_h hS s_71) rfl hg ?_
      show ma_wp X d w 96 26 [(3, .inl (((mI S t 4) + (1 : Int32)) + i)), (0, .inr (.inr (some 69))), (1, .inr (.inr (some t))), (2, .inl i)] [.inl (mI S 71 (((mI S t 4) + (1 : Int32)) + i).toNatClampNeg)] S _
      refine zw_goto hm_96 dX7_wordOf_26 (t := 30) rfl ?_
      exact zw_iret hm_96 dX7_wordOf_30 h
theorem sp_96_69 {X : Nat × (Nat → Int32)} {d w : Nat} {f : Nat → Nat → Int32} {r : Nat → Nat → Option Nat} {C Z N : Nat} {Q : Option ma_V ⊕ Nat → ma_S → Prop} {S : ma_S} (t : Nat) (i : Int32) (hd : 0 ≤ d) (hw : 0 ≤ w) (hI : zI f r C Z N S) (th_t : 126 ≤ t ∧ t < N) (K : ∀ v S₉, zI f r C Z N S₉ → (True) → Q (.inl (some (.inl v))) S₉) : ma_wp X d w 96 0 [(0, .inr (.inr (some 69))), (1, .inr (.inr (some t))), (2, .inl i)] [] S Q := by
  refine g_96_69_0 t i (by omega) (by omega) (zG_T hI) ?_
  refine ⟨zG_n hI th_t, ?_⟩
  have f1 := zG_th hI th_t
  first | have e2 : ((mI S t 4) + (1 : Int32)).toInt = (mI S t 4).toInt + (1) := i_addk rfl (by omega) (by omega) | have b3 := i_bd ((mI S t 4) + (1 : Int32))
  have b4 := i_bd i
  first | have e5 : (((mI S t 4) + (1 : Int32)) + i).toInt = ((mI S t 4) + (1 : Int32)).toInt + i.toInt := i_add (by omega) (by omega) | have b6 := i_bd (((mI S t 4) + (1 : Int32)) + i)
  have li7 : (0 : Int32).toInt = 0 := rfl
  refine zd (fun h8 => ?_) (fun h8 => ?_)
  · skip
    have g9 := i_lt h8
    have li10 : (-1 : Int32).toInt = -1 := rfl
    exact K ((-1 : Int32)) _ hI trivial
  · skip
    have g11 := i_nlt h8
    have li12 : (4500 : Int32).toInt = 4500 := rfl
    refine zd (fun h13 => ?_) (fun h13 => ?_)
    · skip
      have g14 := i_le h13
      have li15 : (-1 : Int32).toInt = -1 := rfl
      exact K ((-1 : Int32)) _ hI trivial
    · skip
      have g16 := i_nle h13
      refine ⟨i_ix (by omega) (by omega), ?_⟩
      have b17 := i_bd (mI S 71 (((mI S t 4) + (1 : Int32)) + i).toNatClampNeg)
      exact K ((mI S 71 (((mI S t 4) + (1 : Int32)) + i).toNatClampNeg)) _ hI trivial
theorem g_93_0 {X : Nat × (Nat → Int32)} {d w : Nat} {S : ma_S} {Q : Option ma_V ⊕ Nat → ma_S → Prop} (a : Option Nat) (b : Option Nat) (hd : 0 ≤ d) (hw : 0 ≤ w) (hS : zT S) (h : (b = none → (a = none → Q (.inl none) S) ∧ (∀ c2, a = some c2 → (126 ≤ c2 ∧ c2 < mN S) ∧ ((126 ≤ c2 ∧ c2 < mN S) ∧ (Q (.inl none) (ma_put S c2 6 (.inl ((mI S c2 6) - (1 : Int32)))))))) ∧ (∀ c1, b = some c1 → (126 ≤ c1 ∧ c1 < mN S) ∧ ((126 ≤ c1 ∧ c1 < mN S) ∧ ((a = none → Q (.inl none) (ma_put S c1 6 (.inl ((mI S c1 6) + (1 : Int32))))) ∧ (∀ c3, a = some c3 → (126 ≤ c3 ∧ c3 < mN (ma_put S c1 6 (.inl ((mI S c1 6) + (1 : Int32))))) ∧ ((126 ≤ c3 ∧ c3 < mN (ma_put S c1 6 (.inl ((mI S c1 6) + (1 : Int32))))) ∧ (Q (.inl none) (ma_put (ma_put S c1 6 (.inl ((mI S c1 6) + (1 : Int32)))) c3 6 (.inl ((mI (ma_put S c1 6 (.inl ((mI S c1 6) + (1 : Int32)))) c3 6) - (1 : Int32))))))))))) : ma_wp X d w 93 0 [(0, .inr (.inr a)), (1, .inr (.inr b))] [] S Q := by
  refine zw_push hm_93 dX7_changeCounts_0 (v := .inr (.inr b)) rfl ?_
  refine zw_ifnull hm_93 dX7_changeCounts_1 (t := 14) rfl ?_ ?_
  · intro hc
    have h := h.1 hc
    (try rw [hc])
    show ma_wp X d w 93 14 [(0, .inr (.inr a)), (1, .inr (.inr none))] [] S _
    refine zw_push hm_93 dX7_changeCounts_14 (v := .inr (.inr a)) rfl ?_
    refine zw_ifnull hm_93 dX7_changeCounts_15 (t := 28) rfl ?_ ?_
    · intro hc
      have h := h.1 hc
      (try rw [hc])
      show ma_wp X d w 93 28 [(0, .inr (.inr none)), (1, .inr (.inr none))] [] S _
      exact zw_vret hm_93 dX7_changeCounts_28 h
    · intro c2 hc
      have h := h.2 c2 hc
      (try rw [hc])
      show ma_wp X d w 93 18 [(0, .inr (.inr (some c2))), (1, .inr (.inr none))] [] S _
      refine zw_push hm_93 dX7_changeCounts_18 (v := .inr (.inr (some c2))) rfl ?_
      refine zw_stk hm_93 dX7_changeCounts_19 (st₉ := [.inr (.inr (some c2)), .inr (.inr (some c2))]) rfl rfl ?_
      obtain ⟨hg, h⟩ := h
      refine zw_gf hm_93 dX7_changeCounts_20 (v := .inl (mI S c2 6)) (zT_tis hS hg) (zT_tt hS hg) rfl f_7_98_9 rfl ?_
      refine zw_push hm_93 dX7_changeCounts_23 (v := .inl (1 : Int32)) rfl ?_
      refine zw_stk hm_93 dX7_changeCounts_24 (st₉ := [.inl ((mI S c2 6) - (1 : Int32)), .inr (.inr (some c2))]) rfl rfl ?_
      obtain ⟨hg, h⟩ := h
      refine zw_pf hm_93 dX7_changeCounts_25 (zT_tis hS hg) (zT_tt hS hg) p_7_98_9 zk_int ?_
      exact zw_vret hm_93 dX7_changeCounts_28 h
  · intro c1 hc
    have h := h.2 c1 hc
    (try rw [hc])
    show ma_wp X d w 93 4 [(0, .inr (.inr a)), (1, .inr (.inr (some c1)))] [] S _
    refine zw_push hm_93 dX7_changeCounts_4 (v := .inr (.inr (some c1))) rfl ?_
    refine zw_stk hm_93 dX7_changeCounts_5 (st₉ := [.inr (.inr (some c1)), .inr (.inr (some c1))]) rfl rfl ?_
    obtain ⟨hg, h⟩ := h
    refine zw_gf hm_93 dX7_changeCounts_6 (v := .inl (mI S c1 6)) (zT_tis hS hg) (zT_tt hS hg) rfl f_7_98_9 rfl ?_
    refine zw_push hm_93 dX7_changeCounts_9 (v := .inl (1 : Int32)) rfl ?_
    refine zw_stk hm_93 dX7_changeCounts_10 (st₉ := [.inl ((mI S c1 6) + (1 : Int32)), .inr (.inr (some c1))]) rfl rfl ?_
    obtain ⟨hg, h⟩ := h
    refine zw_pf hm_93 dX7_changeCounts_11 (zT_tis hS hg) (zT_tt hS hg) p_7_98_9 zk_int ?_
    refine zw_push hm_93 dX7_changeCounts_14 (v := .inr (.inr a)) rfl ?_
    refine zw_ifnull hm_93 dX7_changeCounts_15 (t := 28) rfl ?_ ?_
    · intro hc
      have h := h.1 hc
      (try rw [hc])
      show ma_wp X d w 93 28 [(0, .inr (.inr none)), (1, .inr (.inr (some c1)))] [] (ma_put S c1 6 (.inl ((mI S c1 6) + (1 : Int32)))) _
      exact zw_vret hm_93 dX7_changeCounts_28 h
    · intro c3 hc
      have h := h.2 c3 hc
      (try rw [hc])
      show ma_wp X d w 93 18 [(0, .inr (.inr (some c3))), (1, .inr (.inr (some c1)))] [] (ma_put S c1 6 (.inl ((mI S c1 6) + (1 : Int32)))) _
      refine zw_push hm_93 dX7_changeCounts_18 (v := .inr (.inr (some c3))) rfl ?_
      refine zw_stk hm_93 dX7_changeCounts_19 (st₉ := [.inr (.inr (some c3)), .inr (.inr (some c3))]) rfl rfl ?_
      obtain ⟨hg, h⟩ := h
      refine zw_gf hm_93 dX7_changeCounts_20 (v := .inl (mI (ma_put S c1 6 (.inl ((mI S c1 6) + (1 : Int32)))) c3 6)) (zT_tis (zT_pi hS) hg) (zT_tt (zT_pi hS) hg) rfl f_7_98_9 rfl ?_
      refine zw_push hm_93 dX7_changeCounts_23 (v := .inl (1 : Int32)) rfl ?_
      refine zw_stk hm_93 dX7_changeCounts_24 (st₉ := [.inl ((mI (ma_put S c1 6 (.inl ((mI S c1 6) + (1 : Int32)))) c3 6) - (1 : Int32)), .inr (.inr (some c3))]) rfl rfl ?_
      obtain ⟨hg, h⟩ := h
      refine zw_pf hm_93 dX7_changeCounts_25 (zT_tis (zT_pi hS) hg) (zT_tt (zT_pi hS) hg) p_7_98_9 zk_int ?_
      exact zw_vret hm_93 dX7_changeCounts_28 h
theorem sp_93 {X : Nat × (Nat → Int32)} {d w : Nat} {f : Nat → Nat → Int32} {r : Nat → Nat → Option Nat} {C Z N : Nat} {Q : Option ma_V ⊕ Nat → ma_S → Prop} {S : ma_S} (a : Option Nat) (b : Option Nat) (hd : 0 ≤ d) (hw : 0 ≤ w) (hI : zI f r C Z N S) (hq_a : ∀ c, a = some c → 126 ≤ c ∧ c < N) (hq_b : ∀ c, b = some c → 126 ≤ c ∧ c < N) (K : ∀ S₉, zI f r C Z N S₉ → Q (.inl none) S₉) : ma_wp X d w 93 0 [(0, .inr (.inr a)), (1, .inr (.inr b))] [] S Q := by
  refine g_93_0 a b (by omega) (by omega) (zG_T hI) ?_
  refine ⟨fun _ => ?_, fun c1 hc => ?_⟩
  · skip
    refine ⟨fun _ => ?_, fun c2 hc => ?_⟩
    · skip
      exact K _ hI
    · skip
      have th_c2 := hq_a c2 hc
      subst hc
      refine ⟨zG_n hI th_c2, ?_⟩
      refine ⟨zG_n hI th_c2, ?_⟩
      have hI1 : zI f r C Z N (ma_put S c2 6 (.inl ((mI S c2 6) - (1 : Int32)))) := zG_tf hI th_c2.1 zI_t (by decide) (by decide) trivial (by decide) (by decide) (by decide)
      exact K _ hI1
  · skip
    have th_c1 := hq_b c1 hc
    subst hc
    refine ⟨zG_n hI th_c1, ?_⟩
    refine ⟨zG_n hI th_c1, ?_⟩
    refine ⟨fun _ => ?_, fun c3 hc => ?_⟩
    · skip
      have hI2 : zI f r C Z N (ma_put S c1 6 (.inl ((mI S c1 6) + (1 : Int32)))) := zG_tf hI th_c1.1 zI_t (by decide) (by decide) trivial (by decide) (by decide) (by decide)
      exact K _ hI2
    · skip
      have th_c3 := hq_a c3 hc
      subst hc
      have hI3 : zI f r C Z N (ma_put S c1 6 (.inl ((mI S c1 6) + (1 : Int32)))) := zG_tf hI th_c1.1 zI_t (by decide) (by decide) trivial (by decide) (by decide) (by decide)
      refine ⟨zG_n hI3 th_c3, ?_⟩
      refine ⟨zG_n hI3 th_c3, ?_⟩
      have hI4 : zI f r C Z N (ma_put (ma_put S c1 6 (.inl ((mI S c1 6) + (1 : Int32)))) c3 6 (.inl ((mI (ma_put S c1 6 (.inl ((mI S c1 6) + (1 : Int32)))) c3 6) - (1 : Int32)))) := zG_tf hI3 th_c3.1 zI_t (by decide) (by decide) trivial (by decide) (by decide) (by decide)
      exact K _ hI4
theorem g_94_69_0 {X : Nat × (Nat → Int32)} {d w : Nat} {S : ma_S} {Q : Option ma_V ⊕ Nat → ma_S → Prop} (t : Nat) (i : Int32) (x : Option Nat) (hd : 1 ≤ d) (hw : 25 ≤ w) (hS : zT S) (h : ma_wp X (d - 1) (w - 25) 82 0 [(0, .inr (.inr (some 69))), (1, .inr (.inr (some t))), (2, .inl i)] [] S (zo (fun v2 S1 => zT S1 ∧ ((x = none → ma_wp X (d - 1) (w - 25) 95 0 [(0, .inr (.inr (some 69))), (1, .inr (.inr (some t))), (2, .inl i), (3, .inl (-1 : Int32))] [] S1 (zi (fun v5 S4 => zT S4 ∧ (ma_wp X (d - 1) (w - 21) 93 0 [(0, .inr (.inr v2)), (1, .inr (.inr none))] [] S4 (zv (fun S6 => zT S6 ∧ (Q (.inl (some (.inr (.inr v2)))) S6)) (fun _ _ => False)))) (fun x S9 => Q (.inr x) S9))) ∧ (∀ c3, x = some c3 → (126 ≤ c3 ∧ c3 < mN S1) ∧ (ma_wp X (d - 1) (w - 25) 95 0 [(0, .inr (.inr (some 69))), (1, .inr (.inr (some t))), (2, .inl i), (3, .inl (mI S1 c3 0))] [] S1 (zi (fun v9 S8 => zT S8 ∧ (ma_wp X (d - 1) (w - 21) 93 0 [(0, .inr (.inr v2)), (1, .inr (.inr (some c3)))] [] S8 (zv (fun S10 => zT S10 ∧ (Q (.inl (some (.inr (.inr v2)))) S10)) (fun _ _ => False)))) (fun x S9 => Q (.inr x) S9)))))) (fun x S9 => Q (.inr x) S9))) : ma_wp X d w 94 0 [(0, .inr (.inr (some 69))), (1, .inr (.inr (some t))), (2, .inl i), (3, .inr (.inr x))] [] S Q := by
  refine zw_push hm_94 dX7_changeReference_0 (v := .inr (.inr (some 69))) rfl ?_
  refine zw_push hm_94 dX7_changeReference_1 (v := .inr (.inr (some t))) rfl ?_
  refine zw_push hm_94 dX7_changeReference_2 (v := .inl i) rfl ?_
  refine zw_cv hm_94 dX7_changeReference_3 v_7_78_7 hm_82 [.inl i, .inr (.inr (some t))] [] rfl (zT_rt hS s_69 rfl) ⟨by omega, by omega⟩ rfl (zw_mono h (zo_go ?_ ?_))
  · intro v2 S1 hv
    obtain ⟨hS1, h⟩ := hv
    refine zw_sto hm_94 dX7_changeReference_6 [(4, .inr (.inr v2)), (0, .inr (.inr (some 69))), (1, .inr (.inr (some t))), (2, .inl i), (3, .inr (.inr x))] rfl rfl rfl ?_
    refine zw_push hm_94 dX7_changeReference_8 (v := .inr (.inr (some 69))) rfl ?_
    refine zw_push hm_94 dX7_changeReference_9 (v := .inr (.inr (some t))) rfl ?_
    refine zw_push hm_94 dX7_changeReference_10 (v := .inl i) rfl ?_
    refine zw_push hm_94 dX7_changeReference_11 (v := .inr (.inr x)) rfl ?_
    refine zw_cs hm_94 dX7_changeReference_12 pn_7_82 sl_7_82 hm_146 [.inr (.inr x)] [.inl i, .inr (.inr (some t)), .inr (.inr (some 69))] rfl ⟨by omega, by omega⟩ rfl ?_
    show ma_wp X (d - 1) (w - 20) 146 0 [(0, .inr (.inr x))] [] S1 _
    refine zw_push hm_146 dX11_numberOf_0 (v := .inr (.inr x)) rfl ?_
    refine zw_ifnonnull hm_146 dX11_numberOf_1 (t := 8) rfl ?_ ?_
    · intro hc
      have h := h.1 hc
      (try rw [hc])
      show ma_wp X (d - 1) (w - 20) 146 4 [(0, .inr (.inr none))] [] S1 _
      refine zw_push hm_146 dX11_numberOf_4 (v := .inl (-1 : Int32)) rfl ?_
      refine zw_goto hm_146 dX11_numberOf_5 (t := 12) rfl ?_
      refine zw_iret hm_146 dX11_numberOf_12 ?_
      show ma_wp X d w 94 15 [(4, .inr (.inr v2)), (0, .inr (.inr (some 69))), (1, .inr (.inr (some t))), (2, .inl i), (3, .inr (.inr none))] [.inl (-1 : Int32), .inl i, .inr (.inr (some t)), .inr (.inr (some 69))] S1 _
      refine zw_cv hm_94 dX7_changeReference_15 v_7_86_7 hm_95 [.inl (-1 : Int32), .inl i, .inr (.inr (some t))] [] rfl (zT_rt hS1 s_69 rfl) ⟨by omega, by omega⟩ rfl (zw_mono h (zi_go ?_ ?_))
      · intro v5 S4 hv
        obtain ⟨hS4, h⟩ := hv
        refine zw_stk hm_94 dX7_changeReference_18 (st₉ := []) rfl rfl ?_
        refine zw_push hm_94 dX7_changeReference_19 (v := .inr (.inr v2)) rfl ?_
        refine zw_push hm_94 dX7_changeReference_21 (v := .inr (.inr none)) rfl ?_
        refine zw_cs hm_94 dX7_changeReference_22 pn_7_90 sl_7_90 hm_93 [.inr (.inr none), .inr (.inr v2)] [] rfl ⟨by omega, by omega⟩ rfl (zw_mono h (zv_go ?_ ?_))
        · intro S6 hv
          obtain ⟨hS6, h⟩ := hv
          refine zw_push hm_94 dX7_changeReference_25 (v := .inr (.inr v2)) rfl ?_
          exact zw_aret hm_94 dX7_changeReference_27 h
        · intro x S9 hx
          exact hx.elim
      · intro x S9 hx
        exact ⟨by decide, hx⟩
    · intro c3 hc
      have h := h.2 c3 hc
      (try rw [hc])
      show ma_wp X (d - 1) (w - 20) 146 8 [(0, .inr (.inr (some c3)))] [] S1 _
      refine zw_push hm_146 dX11_numberOf_8 (v := .inr (.inr (some c3))) rfl ?_
      obtain ⟨hg, h⟩ := h
      refine zw_gf hm_146 dX11_numberOf_9 (v := .inl (mI S1 c3 0)) (zT_tis hS1 hg) (zT_tt hS1 hg) rfl f_11_182_9 rfl ?_
      refine zw_iret hm_146 dX11_numberOf_12 ?_
      show ma_wp X d w 94 15 [(4, .inr (.inr v2)), (0, .inr (.inr (some 69))), (1, .inr (.inr (some t))), (2, .inl i), (3, .inr (.inr (some c3)))] [.inl (mI S1 c3 0), .inl i, .inr (.inr (some t)), .inr (.inr (some 69))] S1 _
      refine zw_cv hm_94 dX7_changeReference_15 v_7_86_7 hm_95 [.inl (mI S1 c3 0), .inl i, .inr (.inr (some t))] [] rfl (zT_rt hS1 s_69 rfl) ⟨by omega, by omega⟩ rfl (zw_mono h (zi_go ?_ ?_))
      · intro v9 S8 hv
        obtain ⟨hS8, h⟩ := hv
        refine zw_stk hm_94 dX7_changeReference_18 (st₉ := []) rfl rfl ?_
        refine zw_push hm_94 dX7_changeReference_19 (v := .inr (.inr v2)) rfl ?_
        refine zw_push hm_94 dX7_changeReference_21 (v := .inr (.inr (some c3))) rfl ?_
        refine zw_cs hm_94 dX7_changeReference_22 pn_7_90 sl_7_90 hm_93 [.inr (.inr (some c3)), .inr (.inr v2)] [] rfl ⟨by omega, by omega⟩ rfl (zw_mono h (zv_go ?_ ?_))
        · intro S10 hv
          obtain ⟨hS10, h⟩ := hv
          refine zw_push hm_94 dX7_changeReference_25 (v := .inr (.inr v2)) rfl ?_
          exact zw_aret hm_94 dX7_changeReference_27 h
        · intro x S9 hx
          exact hx.elim
      · intro x S9 hx
        exact ⟨by decide, hx⟩
  · intro x S9 hx
    exact ⟨by decide, hx⟩
theorem sp_94_69 {X : Nat × (Nat → Int32)} {d w : Nat} {f : Nat → Nat → Int32} {r : Nat → Nat → Option Nat} {C Z N : Nat} {Q : Option ma_V ⊕ Nat → ma_S → Prop} {S : ma_S} (t : Nat) (i : Int32) (x : Option Nat) (hd : 1 ≤ d) (hw : 25 ≤ w) (hI : zI f r C Z N S) (th_t : 126 ≤ t ∧ t < N) (hq_x : ∀ c, x = some c → 126 ≤ c ∧ c < N) (K : ∀ v S₉, zI f r C Z N S₉ → (∀ c, v = some c → 126 ≤ c ∧ c < N) → Q (.inl (some (.inr (.inr v)))) S₉) : ma_wp X d w 94 0 [(0, .inr (.inr (some 69))), (1, .inr (.inr (some t))), (2, .inl i), (3, .inr (.inr x))] [] S Q := by
  refine g_94_69_0 t i x (by omega) (by omega) (zG_T hI) ?_
  have b1 := i_bd i
  refine sp_82_69 t (i) (by omega) (by omega) hI th_t (fun v2 S1 hI_S1 hq_v2 => zo_n ⟨zG_T hI_S1, ?_⟩)
  refine ⟨fun _ => ?_, fun c3 hc => ?_⟩
  · skip
    have li2 : (-1 : Int32).toInt = -1 := rfl
    refine sp_95_69 t (i) ((-1 : Int32)) (by omega) (by omega) hI_S1 th_t (fun v5 S4 hI_S4 hp_v5 => zi_n ⟨zG_T hI_S4, ?_⟩)
    refine sp_93 (v2) (none) (by omega) (by omega) hI_S4 hq_v2 (fun _ z => by cases z) (fun S6 hI_S6 => zv_n ⟨zG_T hI_S6, ?_⟩)
    exact K (v2) _ hI_S6 hq_v2
  · skip
    have th_c3 := hq_x c3 hc
    subst hc
    refine ⟨zG_n hI_S1 th_c3, ?_⟩
    have f3 := zG_th hI_S1 th_c3
    refine sp_95_69 t (i) ((mI S1 c3 0)) (by omega) (by omega) hI_S1 th_t (fun v9 S8 hI_S8 hp_v9 => zi_n ⟨zG_T hI_S8, ?_⟩)
    refine sp_93 (v2) ((some c3)) (by omega) (by omega) hI_S8 hq_v2 (fun _ z => by cases z; exact th_c3) (fun S10 hI_S10 => zv_n ⟨zG_T hI_S10, ?_⟩)
    exact K (v2) _ hI_S10 hq_v2
theorem g_92_69_0 {X : Nat × (Nat → Int32)} {d w : Nat} {S : ma_S} {Q : Option ma_V ⊕ Nat → ma_S → Prop} (i : Int32) (x : Option Nat) (hd : 1 ≤ d) (hw : 21 ≤ w) (hS : zT S) (h : if i < 0 then (Q (.inl (some (.inr (.inr none)))) S) else (if i < (16 : Int32) then ((0 ≤ i ∧ i.toNatClampNeg < 16) ∧ (if (mI S 72 i.toNatClampNeg) < 0 then ((x = none → (0 ≤ i ∧ i.toNatClampNeg < 16) ∧ (ma_wp X (d - 1) (w - 21) 93 0 [(0, .inr (.inr none)), (1, .inr (.inr none))] [] (ma_put S 72 i.toNatClampNeg (.inl (-1 : Int32))) (zv (fun S2 => zT S2 ∧ (Q (.inl (some (.inr (.inr none)))) S2)) (fun _ _ => False)))) ∧ (∀ c1, x = some c1 → (126 ≤ c1 ∧ c1 < mN S) ∧ ((0 ≤ i ∧ i.toNatClampNeg < 16) ∧ (ma_wp X (d - 1) (w - 21) 93 0 [(0, .inr (.inr none)), (1, .inr (.inr (some c1)))] [] (ma_put S 72 i.toNatClampNeg (.inl (mI S c1 0))) (zv (fun S4 => zT S4 ∧ (Q (.inl (some (.inr (.inr none)))) S4)) (fun _ _ => False)))))) else (if (512 : Int32) ≤ (mI S 72 i.toNatClampNeg) then ((x = none → (0 ≤ i ∧ i.toNatClampNeg < 16) ∧ (ma_wp X (d - 1) (w - 21) 93 0 [(0, .inr (.inr none)), (1, .inr (.inr none))] [] (ma_put S 72 i.toNatClampNeg (.inl (-1 : Int32))) (zv (fun S7 => zT S7 ∧ (Q (.inl (some (.inr (.inr none)))) S7)) (fun _ _ => False)))) ∧ (∀ c6, x = some c6 → (126 ≤ c6 ∧ c6 < mN S) ∧ ((0 ≤ i ∧ i.toNatClampNeg < 16) ∧ (ma_wp X (d - 1) (w - 21) 93 0 [(0, .inr (.inr none)), (1, .inr (.inr (some c6)))] [] (ma_put S 72 i.toNatClampNeg (.inl (mI S c6 0))) (zv (fun S9 => zT S9 ∧ (Q (.inl (some (.inr (.inr none)))) S9)) (fun _ _ => False)))))) else ((0 ≤ (mI S 72 i.toNatClampNeg) ∧ (mI S 72 i.toNatClampNeg).toNatClampNeg < 512) ∧ ((x = none → (0 ≤ i ∧ i.toNatClampNeg < 16) ∧ (ma_wp X (d - 1) (w - 21) 93 0 [(0, .inr (.inr (mR S 70 (mI S 72 i.toNatClampNeg).toNatClampNeg))), (1, .inr (.inr none))] [] (ma_put S 72 i.toNatClampNeg (.inl (-1 : Int32))) (zv (fun S12 => zT S12 ∧ (Q (.inl (some (.inr (.inr (mR S 70 (mI S 72 i.toNatClampNeg).toNatClampNeg))))) S12)) (fun _ _ => False)))) ∧ (∀ c11, x = some c11 → (126 ≤ c11 ∧ c11 < mN S) ∧ ((0 ≤ i ∧ i.toNatClampNeg < 16) ∧ (ma_wp X (d - 1) (w - 21) 93 0 [(0, .inr (.inr (mR S 70 (mI S 72 i.toNatClampNeg).toNatClampNeg))), (1, .inr (.inr (some c11)))] [] (ma_put S 72 i.toNatClampNeg (.inl (mI S c11 0))) (zv (fun S14 => zT S14 ∧ (Q (.inl (some (.inr (.inr (mR S 70 (mI S 72 i.toNatClampNeg).toNatClampNeg))))) S14)) (fun _ _ => False)))))))))) else (Q (.inl (some (.inr (.inr none)))) S))) : ma_wp X d w 92 0 [(0, .inr (.inr (some 69))), (1, .inl i), (2, .inr (.inr x))] [] S Q := by
  refine zw_push hm_92 dX7_changeRoot_0 (v := .inl i) rfl ?_
  refine zw_if0 hm_92 dX7_changeRoot_1 (t := 10) rfl zc0_lt ?_ ?_
  · intro hc
    rw [if_pos hc] at h
    refine zw_push hm_92 dX7_changeRoot_10 (v := .inr (.inr none)) rfl ?_
    exact zw_aret hm_92 dX7_changeRoot_11 h
  · intro hc
    rw [if_neg hc] at h
    refine zw_push hm_92 dX7_changeRoot_4 (v := .inl i) rfl ?_
    refine zw_push hm_92 dX7_changeRoot_5 (v := .inl (16 : Int32)) rfl ?_
    refine zw_if2 hm_92 dX7_changeRoot_7 (t := 12) rfl zc2_lt ?_ ?_
    · intro hc
      rw [if_pos hc] at h
      refine zw_push hm_92 dX7_changeRoot_12 (v := .inr (.inr (some 69))) rfl ?_
      refine zw_push hm_92 dX7_changeRoot_13 (v := .inr (.inr (some 69))) rfl ?_
      refine zw_gf hm_92 dX7_changeRoot_14 (v := .inr (.inr (some 72))) (zT_is hS s_69) (zT_t hS s_69) rfl f_7_21_7 (zT_f hS r_69_2) ?_
      refine zw_push hm_92 dX7_changeRoot_17 (v := .inl i) rfl ?_
      obtain ⟨hg, h⟩ := h
      refine zw_ia hm_92 dX7_changeRoot_18 (zT_is hS s_72) (zT_h hS s_72) rfl hg ?_
      show ma_wp X d w 92 19 [(0, .inr (.inr (some 69))), (1, .inl i), (2, .inr (.inr x))] [.inl (mI S 72 i.toNatClampNeg), .inr (.inr (some 69))] S _
      refine zw_cv hm_92 dX7_changeRoot_19 v_7_94_7 hm_81 [.inl (mI S 72 i.toNatClampNeg)] [] rfl (zT_rt hS s_69 rfl) ⟨by omega, by omega⟩ rfl ?_
      show ma_wp X (d - 1) (w - 21) 81 0 [(0, .inr (.inr (some 69))), (1, .inl (mI S 72 i.toNatClampNeg))] [] S _
      refine zw_push hm_81 dX7_thingAt_0 (v := .inl (mI S 72 i.toNatClampNeg)) rfl ?_
      refine zw_if0 hm_81 dX7_thingAt_1 (t := 20) rfl zc0_lt ?_ ?_
      · intro hc
        rw [if_pos hc] at h
        refine zw_push hm_81 dX7_thingAt_20 (v := .inr (.inr none)) rfl ?_
        refine zw_aret hm_81 dX7_thingAt_21 ?_
        show ma_wp X d w 92 22 [(0, .inr (.inr (some 69))), (1, .inl i), (2, .inr (.inr x))] [.inr (.inr none)] S _
        refine zw_sto hm_92 dX7_changeRoot_22 [(3, .inr (.inr none)), (0, .inr (.inr (some 69))), (1, .inl i), (2, .inr (.inr x))] rfl rfl rfl ?_
        refine zw_push hm_92 dX7_changeRoot_23 (v := .inr (.inr (some 69))) rfl ?_
        refine zw_gf hm_92 dX7_changeRoot_24 (v := .inr (.inr (some 72))) (zT_is hS s_69) (zT_t hS s_69) rfl f_7_21_7 (zT_f hS r_69_2) ?_
        refine zw_push hm_92 dX7_changeRoot_27 (v := .inl i) rfl ?_
        refine zw_push hm_92 dX7_changeRoot_28 (v := .inr (.inr x)) rfl ?_
        refine zw_cs hm_92 dX7_changeRoot_29 pn_7_82 sl_7_82 hm_146 [.inr (.inr x)] [.inl i, .inr (.inr (some 72))] rfl ⟨by omega, by omega⟩ rfl ?_
        show ma_wp X (d - 1) (w - 20) 146 0 [(0, .inr (.inr x))] [] S _
        refine zw_push hm_146 dX11_numberOf_0 (v := .inr (.inr x)) rfl ?_
        refine zw_ifnonnull hm_146 dX11_numberOf_1 (t := 8) rfl ?_ ?_
        · intro hc
          have h := h.1 hc
          (try rw [hc])
          show ma_wp X (d - 1) (w - 20) 146 4 [(0, .inr (.inr none))] [] S _
          refine zw_push hm_146 dX11_numberOf_4 (v := .inl (-1 : Int32)) rfl ?_
          refine zw_goto hm_146 dX11_numberOf_5 (t := 12) rfl ?_
          refine zw_iret hm_146 dX11_numberOf_12 ?_
          show ma_wp X d w 92 32 [(3, .inr (.inr none)), (0, .inr (.inr (some 69))), (1, .inl i), (2, .inr (.inr none))] [.inl (-1 : Int32), .inl i, .inr (.inr (some 72))] S _
          obtain ⟨hg, h⟩ := h
          refine zw_ias hm_92 dX7_changeRoot_32 (zT_is hS s_72) (zT_h hS s_72) rfl hg ?_
          refine zw_push hm_92 dX7_changeRoot_33 (v := .inr (.inr none)) rfl ?_
          refine zw_push hm_92 dX7_changeRoot_34 (v := .inr (.inr none)) rfl ?_
          refine zw_cs hm_92 dX7_changeRoot_35 pn_7_90 sl_7_90 hm_93 [.inr (.inr none), .inr (.inr none)] [] rfl ⟨by omega, by omega⟩ rfl (zw_mono h (zv_go ?_ ?_))
          · intro S2 hv
            obtain ⟨hS2, h⟩ := hv
            refine zw_push hm_92 dX7_changeRoot_38 (v := .inr (.inr none)) rfl ?_
            exact zw_aret hm_92 dX7_changeRoot_39 h
          · intro x S9 hx
            exact hx.elim
        · intro c1 hc
          have h := h.2 c1 hc
          (try rw [hc])
          show ma_wp X (d - 1) (w - 20) 146 8 [(0, .inr (.inr (some c1)))] [] S _
          refine zw_push hm_146 dX11_numberOf_8 (v := .inr (.inr (some c1))) rfl ?_
          obtain ⟨hg, h⟩ := h
          refine zw_gf hm_146 dX11_numberOf_9 (v := .inl (mI S c1 0)) (zT_tis hS hg) (zT_tt hS hg) rfl f_11_182_9 rfl ?_
          refine zw_iret hm_146 dX11_numberOf_12 ?_
          show ma_wp X d w 92 32 [(3, .inr (.inr none)), (0, .inr (.inr (some 69))), (1, .inl i), (2, .inr (.inr (some c1)))] [.inl (mI S c1 0), .inl i, .inr (.inr (some 72))] S _
          obtain ⟨hg, h⟩ := h
          refine zw_ias hm_92 dX7_changeRoot_32 (zT_is hS s_72) (zT_h hS s_72) rfl hg ?_
          refine zw_push hm_92 dX7_changeRoot_33 (v := .inr (.inr none)) rfl ?_
          refine zw_push hm_92 dX7_changeRoot_34 (v := .inr (.inr (some c1))) rfl ?_
          refine zw_cs hm_92 dX7_changeRoot_35 pn_7_90 sl_7_90 hm_93 [.inr (.inr (some c1)), .inr (.inr none)] [] rfl ⟨by omega, by omega⟩ rfl (zw_mono h (zv_go ?_ ?_))
          · intro S4 hv
            obtain ⟨hS4, h⟩ := hv
            refine zw_push hm_92 dX7_changeRoot_38 (v := .inr (.inr none)) rfl ?_
            exact zw_aret hm_92 dX7_changeRoot_39 h
          · intro x S9 hx
            exact hx.elim
      · intro hc
        rw [if_neg hc] at h
        refine zw_push hm_81 dX7_thingAt_4 (v := .inl (mI S 72 i.toNatClampNeg)) rfl ?_
        refine zw_push hm_81 dX7_thingAt_5 (v := .inl (512 : Int32)) rfl ?_
        refine zw_if2 hm_81 dX7_thingAt_8 (t := 20) rfl zc2_ge ?_ ?_
        · intro hc
          rw [if_pos hc] at h
          refine zw_push hm_81 dX7_thingAt_20 (v := .inr (.inr none)) rfl ?_
          refine zw_aret hm_81 dX7_thingAt_21 ?_
          show ma_wp X d w 92 22 [(0, .inr (.inr (some 69))), (1, .inl i), (2, .inr (.inr x))] [.inr (.inr none)] S _
          refine zw_sto hm_92 dX7_changeRoot_22 [(3, .inr (.inr none)), (0, .inr (.inr (some 69))), (1, .inl i), (2, .inr (.inr x))] rfl rfl rfl ?_
          refine zw_push hm_92 dX7_changeRoot_23 (v := .inr (.inr (some 69))) rfl ?_
          refine zw_gf hm_92 dX7_changeRoot_24 (v := .inr (.inr (some 72))) (zT_is hS s_69) (zT_t hS s_69) rfl f_7_21_7 (zT_f hS r_69_2) ?_
          refine zw_push hm_92 dX7_changeRoot_27 (v := .inl i) rfl ?_
          refine zw_push hm_92 dX7_changeRoot_28 (v := .inr (.inr x)) rfl ?_
          refine zw_cs hm_92 dX7_changeRoot_29 pn_7_82 sl_7_82 hm_146 [.inr (.inr x)] [.inl i, .inr (.inr (some 72))] rfl ⟨by omega, by omega⟩ rfl ?_
          show ma_wp X (d - 1) (w - 20) 146 0 [(0, .inr (.inr x))] [] S _
          refine zw_push hm_146 dX11_numberOf_0 (v := .inr (.inr x)) rfl ?_
          refine zw_ifnonnull hm_146 dX11_numberOf_1 (t := 8) rfl ?_ ?_
          · intro hc
            have h := h.1 hc
            (try rw [hc])
            show ma_wp X (d - 1) (w - 20) 146 4 [(0, .inr (.inr none))] [] S _
            refine zw_push hm_146 dX11_numberOf_4 (v := .inl (-1 : Int32)) rfl ?_
            refine zw_goto hm_146 dX11_numberOf_5 (t := 12) rfl ?_
            refine zw_iret hm_146 dX11_numberOf_12 ?_
            show ma_wp X d w 92 32 [(3, .inr (.inr none)), (0, .inr (.inr (some 69))), (1, .inl i), (2, .inr (.inr none))] [.inl (-1 : Int32), .inl i, .inr (.inr (some 72))] S _
            obtain ⟨hg, h⟩ := h
            refine zw_ias hm_92 dX7_changeRoot_32 (zT_is hS s_72) (zT_h hS s_72) rfl hg ?_
            refine zw_push hm_92 dX7_changeRoot_33 (v := .inr (.inr none)) rfl ?_
            refine zw_push hm_92 dX7_changeRoot_34 (v := .inr (.inr none)) rfl ?_
            refine zw_cs hm_92 dX7_changeRoot_35 pn_7_90 sl_7_90 hm_93 [.inr (.inr none), .inr (.inr none)] [] rfl ⟨by omega, by omega⟩ rfl (zw_mono h (zv_go ?_ ?_))
            · intro S7 hv
              obtain ⟨hS7, h⟩ := hv
              refine zw_push hm_92 dX7_changeRoot_38 (v := .inr (.inr none)) rfl ?_
              exact zw_aret hm_92 dX7_changeRoot_39 h
            · intro x S9 hx
              exact hx.elim
          · intro c6 hc
            have h := h.2 c6 hc
            (try rw [hc])
            show ma_wp X (d - 1) (w - 20) 146 8 [(0, .inr (.inr (some c6)))] [] S _
            refine zw_push hm_146 dX11_numberOf_8 (v := .inr (.inr (some c6))) rfl ?_
            obtain ⟨hg, h⟩ := h
            refine zw_gf hm_146 dX11_numberOf_9 (v := .inl (mI S c6 0)) (zT_tis hS hg) (zT_tt hS hg) rfl f_11_182_9 rfl ?_
            refine zw_iret hm_146 dX11_numberOf_12 ?_
            show ma_wp X d w 92 32 [(3, .inr (.inr none)), (0, .inr (.inr (some 69))), (1, .inl i), (2, .inr (.inr (some c6)))] [.inl (mI S c6 0), .inl i, .inr (.inr (some 72))] S _
            obtain ⟨hg, h⟩ := h
            refine zw_ias hm_92 dX7_changeRoot_32 (zT_is hS s_72) (zT_h hS s_72) rfl hg ?_
            refine zw_push hm_92 dX7_changeRoot_33 (v := .inr (.inr none)) rfl ?_
            refine zw_push hm_92 dX7_changeRoot_34 (v := .inr (.inr (some c6))) rfl ?_
            refine zw_cs hm_92 dX7_changeRoot_35 pn_7_90 sl_7_90 hm_93 [.inr (.inr (some c6)), .inr (.inr none)] [] rfl ⟨by omega, by omega⟩ rfl (zw_mono h (zv_go ?_ ?_))
            · intro S9 hv
              obtain ⟨hS9, h⟩ := hv
              refine zw_push hm_92 dX7_changeRoot_38 (v := .inr (.inr none)) rfl ?_
              exact zw_aret hm_92 dX7_changeRoot_39 h
            · intro x S9 hx
              exact hx.elim
        · intro hc
          rw [if_neg hc] at h
          refine zw_push hm_81 dX7_thingAt_11 (v := .inr (.inr (some 69))) rfl ?_
          refine zw_gf hm_81 dX7_thingAt_12 (v := .inr (.inr (some 70))) (zT_is hS s_69) (zT_t hS s_69) rfl f_7_11_7 (zT_f hS r_69_0) ?_
          refine zw_push hm_81 dX7_thingAt_15 (v := .inl (mI S 72 i.toNatClampNeg)) rfl ?_
          obtain ⟨hg, h⟩ := h
          refine zw_aa hm_81 dX7_thingAt_16 (zT_is hS s_70) (zT_h hS s_70) rfl rfl hg rfl ?_
          show ma_wp X (d - 1) (w - 21) 81 17 [(0, .inr (.inr (some 69))), (1, .inl (mI S 72 i.toNatClampNeg))] [.inr (.inr (mR S 70 (mI S 72 i.toNatClampNeg).toNatClampNeg))] S _
          refine zw_goto hm_81 dX7_thingAt_17 (t := 21) rfl ?_
          refine zw_aret hm_81 dX7_thingAt_21 ?_
          show ma_wp X d w 92 22 [(0, .inr (.inr (some 69))), (1, .inl i), (2, .inr (.inr x))] [.inr (.inr (mR S 70 (mI S 72 i.toNatClampNeg).toNatClampNeg))] S _
          refine zw_sto hm_92 dX7_changeRoot_22 [(3, .inr (.inr (mR S 70 (mI S 72 i.toNatClampNeg).toNatClampNeg))), (0, .inr (.inr (some 69))), (1, .inl i), (2, .inr (.inr x))] rfl rfl rfl ?_
          refine zw_push hm_92 dX7_changeRoot_23 (v := .inr (.inr (some 69))) rfl ?_
          refine zw_gf hm_92 dX7_changeRoot_24 (v := .inr (.inr (some 72))) (zT_is hS s_69) (zT_t hS s_69) rfl f_7_21_7 (zT_f hS r_69_2) ?_
          refine zw_push hm_92 dX7_changeRoot_27 (v := .inl i) rfl ?_
          refine zw_push hm_92 dX7_changeRoot_28 (v := .inr (.inr x)) rfl ?_
          refine zw_cs hm_92 dX7_changeRoot_29 pn_7_82 sl_7_82 hm_146 [.inr (.inr x)] [.inl i, .inr (.inr (some 72))] rfl ⟨by omega, by omega⟩ rfl ?_
          show ma_wp X (d - 1) (w - 20) 146 0 [(0, .inr (.inr x))] [] S _
          refine zw_push hm_146 dX11_numberOf_0 (v := .inr (.inr x)) rfl ?_
          refine zw_ifnonnull hm_146 dX11_numberOf_1 (t := 8) rfl ?_ ?_
          · intro hc
            have h := h.1 hc
            (try rw [hc])
            show ma_wp X (d - 1) (w - 20) 146 4 [(0, .inr (.inr none))] [] S _
            refine zw_push hm_146 dX11_numberOf_4 (v := .inl (-1 : Int32)) rfl ?_
            refine zw_goto hm_146 dX11_numberOf_5 (t := 12) rfl ?_
            refine zw_iret hm_146 dX11_numberOf_12 ?_
            show ma_wp X d w 92 32 [(3, .inr (.inr (mR S 70 (mI S 72 i.toNatClampNeg).toNatClampNeg))), (0, .inr (.inr (some 69))), (1, .inl i), (2, .inr (.inr none))] [.inl (-1 : Int32), .inl i, .inr (.inr (some 72))] S _
            obtain ⟨hg, h⟩ := h
            refine zw_ias hm_92 dX7_changeRoot_32 (zT_is hS s_72) (zT_h hS s_72) rfl hg ?_
            refine zw_push hm_92 dX7_changeRoot_33 (v := .inr (.inr (mR S 70 (mI S 72 i.toNatClampNeg).toNatClampNeg))) rfl ?_
            refine zw_push hm_92 dX7_changeRoot_34 (v := .inr (.inr none)) rfl ?_
            refine zw_cs hm_92 dX7_changeRoot_35 pn_7_90 sl_7_90 hm_93 [.inr (.inr none), .inr (.inr (mR S 70 (mI S 72 i.toNatClampNeg).toNatClampNeg))] [] rfl ⟨by omega, by omega⟩ rfl (zw_mono h (zv_go ?_ ?_))
            · intro S12 hv
              obtain ⟨hS12, h⟩ := hv
              refine zw_push hm_92 dX7_changeRoot_38 (v := .inr (.inr (mR S 70 (mI S 72 i.toNatClampNeg).toNatClampNeg))) rfl ?_
              exact zw_aret hm_92 dX7_changeRoot_39 h
            · intro x S9 hx
              exact hx.elim
          · intro c11 hc
            have h := h.2 c11 hc
            (try rw [hc])
            show ma_wp X (d - 1) (w - 20) 146 8 [(0, .inr (.inr (some c11)))] [] S _
            refine zw_push hm_146 dX11_numberOf_8 (v := .inr (.inr (some c11))) rfl ?_
            obtain ⟨hg, h⟩ := h
            refine zw_gf hm_146 dX11_numberOf_9 (v := .inl (mI S c11 0)) (zT_tis hS hg) (zT_tt hS hg) rfl f_11_182_9 rfl ?_
            refine zw_iret hm_146 dX11_numberOf_12 ?_
            show ma_wp X d w 92 32 [(3, .inr (.inr (mR S 70 (mI S 72 i.toNatClampNeg).toNatClampNeg))), (0, .inr (.inr (some 69))), (1, .inl i), (2, .inr (.inr (some c11)))] [.inl (mI S c11 0), .inl i, .inr (.inr (some 72))] S _
            obtain ⟨hg, h⟩ := h
            refine zw_ias hm_92 dX7_changeRoot_32 (zT_is hS s_72) (zT_h hS s_72) rfl hg ?_
            refine zw_push hm_92 dX7_changeRoot_33 (v := .inr (.inr (mR S 70 (mI S 72 i.toNatClampNeg).toNatClampNeg))) rfl ?_
            refine zw_push hm_92 dX7_changeRoot_34 (v := .inr (.inr (some c11))) rfl ?_
            refine zw_cs hm_92 dX7_changeRoot_35 pn_7_90 sl_7_90 hm_93 [.inr (.inr (some c11)), .inr (.inr (mR S 70 (mI S 72 i.toNatClampNeg).toNatClampNeg))] [] rfl ⟨by omega, by omega⟩ rfl (zw_mono h (zv_go ?_ ?_))
            · intro S14 hv
              obtain ⟨hS14, h⟩ := hv
              refine zw_push hm_92 dX7_changeRoot_38 (v := .inr (.inr (mR S 70 (mI S 72 i.toNatClampNeg).toNatClampNeg))) rfl ?_
              exact zw_aret hm_92 dX7_changeRoot_39 h
            · intro x S9 hx
              exact hx.elim
    · intro hc
      rw [if_neg hc] at h
      refine zw_push hm_92 dX7_changeRoot_10 (v := .inr (.inr none)) rfl ?_
      exact zw_aret hm_92 dX7_changeRoot_11 h
theorem sp_92_69 {X : Nat × (Nat → Int32)} {d w : Nat} {f : Nat → Nat → Int32} {r : Nat → Nat → Option Nat} {C Z N : Nat} {Q : Option ma_V ⊕ Nat → ma_S → Prop} {S : ma_S} (i : Int32) (x : Option Nat) (hd : 1 ≤ d) (hw : 21 ≤ w) (hI : zI f r C Z N S) (hq_x : ∀ c, x = some c → 126 ≤ c ∧ c < N) (K : ∀ v S₉, zI f r C Z N S₉ → (∀ c, v = some c → 126 ≤ c ∧ c < N) → Q (.inl (some (.inr (.inr v)))) S₉) : ma_wp X d w 92 0 [(0, .inr (.inr (some 69))), (1, .inl i), (2, .inr (.inr x))] [] S Q := by
  refine g_92_69_0 i x (by omega) (by omega) (zG_T hI) ?_
  have b1 := i_bd i
  have li2 : (0 : Int32).toInt = 0 := rfl
  refine zd (fun h3 => ?_) (fun h3 => ?_)
  · skip
    have g4 := i_lt h3
    exact K (none) _ hI (fun _ z => by cases z)
  · skip
    have g5 := i_nlt h3
    have li6 : (16 : Int32).toInt = 16 := rfl
    refine zd (fun h7 => ?_) (fun h7 => ?_)
    · skip
      have g8 := i_lt h7
      refine ⟨i_ix (by omega) (by omega), ?_⟩
      have b9 := i_bd (mI S 72 i.toNatClampNeg)
      refine zd (fun h10 => ?_) (fun h10 => ?_)
      · skip
        have g11 := i_lt h10
        refine ⟨fun _ => ?_, fun c1 hc => ?_⟩
        · skip
          refine ⟨i_ix (by omega) (by omega), ?_⟩
          have hI12 : zI f r C Z N (ma_put S 72 i.toNatClampNeg (.inl (-1 : Int32))) := zG_fa hI rfl (by decide) (by decide) (by decide) trivial
          refine sp_93 (none) (none) (by omega) (by omega) hI12 (fun _ z => by cases z) (fun _ z => by cases z) (fun S2 hI_S2 => zv_n ⟨zG_T hI_S2, ?_⟩)
          exact K (none) _ hI_S2 (fun _ z => by cases z)
        · skip
          have th_c1 := hq_x c1 hc
          subst hc
          refine ⟨zG_n hI th_c1, ?_⟩
          refine ⟨i_ix (by omega) (by omega), ?_⟩
          have hI13 : zI f r C Z N (ma_put S 72 i.toNatClampNeg (.inl (mI S c1 0))) := zG_fa hI rfl (by decide) (by decide) (by decide) trivial
          refine sp_93 (none) ((some c1)) (by omega) (by omega) hI13 (fun _ z => by cases z) (fun _ z => by cases z; exact th_c1) (fun S4 hI_S4 => zv_n ⟨zG_T hI_S4, ?_⟩)
          exact K (none) _ hI_S4 (fun _ z => by cases z)
      · skip
        have g14 := i_nlt h10
        have li15 : (512 : Int32).toInt = 512 := rfl
        refine zd (fun h16 => ?_) (fun h16 => ?_)
        · skip
          have g17 := i_le h16
          refine ⟨fun _ => ?_, fun c6 hc => ?_⟩
          · skip
            refine ⟨i_ix (by omega) (by omega), ?_⟩
            have hI18 : zI f r C Z N (ma_put S 72 i.toNatClampNeg (.inl (-1 : Int32))) := zG_fa hI rfl (by decide) (by decide) (by decide) trivial
            refine sp_93 (none) (none) (by omega) (by omega) hI18 (fun _ z => by cases z) (fun _ z => by cases z) (fun S7 hI_S7 => zv_n ⟨zG_T hI_S7, ?_⟩)
            exact K (none) _ hI_S7 (fun _ z => by cases z)
          · skip
            have th_c6 := hq_x c6 hc
            subst hc
            refine ⟨zG_n hI th_c6, ?_⟩
            refine ⟨i_ix (by omega) (by omega), ?_⟩
            have hI19 : zI f r C Z N (ma_put S 72 i.toNatClampNeg (.inl (mI S c6 0))) := zG_fa hI rfl (by decide) (by decide) (by decide) trivial
            refine sp_93 (none) ((some c6)) (by omega) (by omega) hI19 (fun _ z => by cases z) (fun _ z => by cases z; exact th_c6) (fun S9 hI_S9 => zv_n ⟨zG_T hI_S9, ?_⟩)
            exact K (none) _ hI_S9 (fun _ z => by cases z)
        · skip
          have g20 := i_nle h16
          refine ⟨i_ix (by omega) (by omega), ?_⟩
          refine ⟨fun _ => ?_, fun c11 hc => ?_⟩
          · skip
            refine ⟨i_ix (by omega) (by omega), ?_⟩
            have hI21 : zI f r C Z N (ma_put S 72 i.toNatClampNeg (.inl (-1 : Int32))) := zG_fa hI rfl (by decide) (by decide) (by decide) trivial
            refine sp_93 ((mR S 70 (mI S 72 i.toNatClampNeg).toNatClampNeg)) (none) (by omega) (by omega) hI21 (fun _ z => zG_70 hI (c := 70) (by decide) z) (fun _ z => by cases z) (fun S12 hI_S12 => zv_n ⟨zG_T hI_S12, ?_⟩)
            exact K ((mR S 70 (mI S 72 i.toNatClampNeg).toNatClampNeg)) _ hI_S12 (fun _ z => zG_70 hI (c := 70) (by decide) z)
          · skip
            have th_c11 := hq_x c11 hc
            subst hc
            refine ⟨zG_n hI th_c11, ?_⟩
            refine ⟨i_ix (by omega) (by omega), ?_⟩
            have hI22 : zI f r C Z N (ma_put S 72 i.toNatClampNeg (.inl (mI S c11 0))) := zG_fa hI rfl (by decide) (by decide) (by decide) trivial
            refine sp_93 ((mR S 70 (mI S 72 i.toNatClampNeg).toNatClampNeg)) ((some c11)) (by omega) (by omega) hI22 (fun _ z => zG_70 hI (c := 70) (by decide) z) (fun _ z => by cases z; exact th_c11) (fun S14 hI_S14 => zv_n ⟨zG_T hI_S14, ?_⟩)
            exact K ((mR S 70 (mI S 72 i.toNatClampNeg).toNatClampNeg)) _ hI_S14 (fun _ z => zG_70 hI (c := 70) (by decide) z)
    · skip
      have g23 := i_nlt h7
      exact K (none) _ hI (fun _ z => by cases z)
theorem g_97_69_0 {X : Nat × (Nat → Int32)} {d w : Nat} {S : ma_S} {Q : Option ma_V ⊕ Nat → ma_S → Prop} (t : Nat) (n : Int32) (hd : 0 ≤ d) (hw : 0 ≤ w) (hS : zT S) (h : (126 ≤ t ∧ t < mN S) ∧ ((126 ≤ t ∧ t < mN S) ∧ ((126 ≤ t ∧ t < mN (ma_put S t 7 (.inl ((mI S t 7) + n)))) ∧ ((126 ≤ t ∧ t < mN (ma_put S t 7 (.inl ((mI S t 7) + n)))) ∧ (Q (.inl none) (ma_put (ma_put S t 7 (.inl ((mI S t 7) + n))) t 6 (.inl ((mI (ma_put S t 7 (.inl ((mI S t 7) + n))) t 6) + n)))))))) : ma_wp X d w 97 0 [(0, .inr (.inr (some 69))), (1, .inr (.inr (some t))), (2, .inl n)] [] S Q := by
  refine zw_push hm_97 dX7_changeHolds_0 (v := .inr (.inr (some t))) rfl ?_
  refine zw_stk hm_97 dX7_changeHolds_1 (st₉ := [.inr (.inr (some t)), .inr (.inr (some t))]) rfl rfl ?_
  obtain ⟨hg, h⟩ := h
  refine zw_gf hm_97 dX7_changeHolds_2 (v := .inl (mI S t 7)) (zT_tis hS hg) (zT_tt hS hg) rfl f_7_101_9 rfl ?_
  refine zw_push hm_97 dX7_changeHolds_5 (v := .inl n) rfl ?_
  refine zw_stk hm_97 dX7_changeHolds_6 (st₉ := [.inl ((mI S t 7) + n), .inr (.inr (some t))]) rfl rfl ?_
  obtain ⟨hg, h⟩ := h
  refine zw_pf hm_97 dX7_changeHolds_7 (zT_tis hS hg) (zT_tt hS hg) p_7_101_9 zk_int ?_
  refine zw_push hm_97 dX7_changeHolds_10 (v := .inr (.inr (some t))) rfl ?_
  refine zw_stk hm_97 dX7_changeHolds_11 (st₉ := [.inr (.inr (some t)), .inr (.inr (some t))]) rfl rfl ?_
  obtain ⟨hg, h⟩ := h
  refine zw_gf hm_97 dX7_changeHolds_12 (v := .inl (mI (ma_put S t 7 (.inl ((mI S t 7) + n))) t 6)) (zT_tis (zT_pi hS) hg) (zT_tt (zT_pi hS) hg) rfl f_7_98_9 rfl ?_
  refine zw_push hm_97 dX7_changeHolds_15 (v := .inl n) rfl ?_
  refine zw_stk hm_97 dX7_changeHolds_16 (st₉ := [.inl ((mI (ma_put S t 7 (.inl ((mI S t 7) + n))) t 6) + n), .inr (.inr (some t))]) rfl rfl ?_
  obtain ⟨hg, h⟩ := h
  refine zw_pf hm_97 dX7_changeHolds_17 (zT_tis (zT_pi hS) hg) (zT_tt (zT_pi hS) hg) p_7_98_9 zk_int ?_
  exact zw_vret hm_97 dX7_changeHolds_20 h
theorem sp_97_69 {X : Nat × (Nat → Int32)} {d w : Nat} {f : Nat → Nat → Int32} {r : Nat → Nat → Option Nat} {C Z N : Nat} {Q : Option ma_V ⊕ Nat → ma_S → Prop} {S : ma_S} (t : Nat) (n : Int32) (hd : 0 ≤ d) (hw : 0 ≤ w) (hI : zI f r C Z N S) (th_t : 126 ≤ t ∧ t < N) (K : ∀ S₉, zI f r C Z N S₉ → Q (.inl none) S₉) : ma_wp X d w 97 0 [(0, .inr (.inr (some 69))), (1, .inr (.inr (some t))), (2, .inl n)] [] S Q := by
  refine g_97_69_0 t n (by omega) (by omega) (zG_T hI) ?_
  refine ⟨zG_n hI th_t, ?_⟩
  refine ⟨zG_n hI th_t, ?_⟩
  have hI1 : zI f r C Z N (ma_put S t 7 (.inl ((mI S t 7) + n))) := zG_tf hI th_t.1 zI_t (by decide) (by decide) trivial (by decide) (by decide) (by decide)
  refine ⟨zG_n hI1 th_t, ?_⟩
  refine ⟨zG_n hI1 th_t, ?_⟩
  have hI2 : zI f r C Z N (ma_put (ma_put S t 7 (.inl ((mI S t 7) + n))) t 6 (.inl ((mI (ma_put S t 7 (.inl ((mI S t 7) + n))) t 6) + n))) := zG_tf hI1 th_t.1 zI_t (by decide) (by decide) trivial (by decide) (by decide) (by decide)
  exact K _ hI2
theorem g_85_69_0 {X : Nat × (Nat → Int32)} {d w : Nat} {S : ma_S} {Q : Option ma_V ⊕ Nat → ma_S → Prop} (t : Nat) (hd : 0 ≤ d) (hw : 0 ≤ w) (hS : zT S) (h : ma_wp X d w 85 2 [(0, .inr (.inr (some 69))), (1, .inr (.inr (some t))), (2, .inl (0 : Int32))] [] S Q) : ma_wp X d w 85 0 [(0, .inr (.inr (some 69))), (1, .inr (.inr (some t)))] [] S Q := by
  refine zw_push hm_85 dX7_clearWeak_0 (v := .inl (0 : Int32)) rfl ?_
  refine zw_sto hm_85 dX7_clearWeak_1 [(2, .inl (0 : Int32)), (0, .inr (.inr (some 69))), (1, .inr (.inr (some t)))] rfl rfl rfl ?_
  exact zw_sub (ma_nd_of (ks := [0, 1, 2]) rfl (by decide)) (ma_nd_of (ks := [2, 0, 1]) rfl (by decide)) (ma_le_cons rfl (ma_le_cons rfl (ma_le_cons rfl (ma_le_nil _)))) h
theorem g_85_69_2 {X : Nat × (Nat → Int32)} {d w : Nat} {S : ma_S} {Q : Option ma_V ⊕ Nat → ma_S → Prop} (l1 : Nat) (l2 : Int32) (hd : 0 ≤ d) (hw : 0 ≤ w) (hS : zT S) (h : if (16 : Int32) ≤ l2 then (Q (.inl none) S) else ((0 ≤ l2 ∧ l2.toNatClampNeg < 16) ∧ ((126 ≤ l1 ∧ l1 < mN S) ∧ (if (mI S 73 l2.toNatClampNeg) = (mI S l1 0) then ((0 ≤ l2 ∧ l2.toNatClampNeg < 16) ∧ (ma_wp X d w 85 2 [(0, .inr (.inr (some 69))), (1, .inr (.inr (some l1))), (2, .inl (l2 + (1 : Int32)))] [] (ma_put S 73 l2.toNatClampNeg (.inl (-1 : Int32))) Q)) else (ma_wp X d w 85 2 [(0, .inr (.inr (some 69))), (1, .inr (.inr (some l1))), (2, .inl (l2 + (1 : Int32)))] [] S Q))))) : ma_wp X d w 85 2 [(0, .inr (.inr (some 69))), (1, .inr (.inr (some l1))), (2, .inl l2)] [] S Q := by
  refine zw_push hm_85 dX7_clearWeak_2 (v := .inl l2) rfl ?_
  refine zw_push hm_85 dX7_clearWeak_3 (v := .inl (16 : Int32)) rfl ?_
  refine zw_if2 hm_85 dX7_clearWeak_5 (t := 34) rfl zc2_ge ?_ ?_
  · intro hc
    rw [if_pos hc] at h
    exact zw_vret hm_85 dX7_clearWeak_34 h
  · intro hc
    rw [if_neg hc] at h
    refine zw_push hm_85 dX7_clearWeak_8 (v := .inr (.inr (some 69))) rfl ?_
    refine zw_gf hm_85 dX7_clearWeak_9 (v := .inr (.inr (some 73))) (zT_is hS s_69) (zT_t hS s_69) rfl f_7_24_7 (zT_f hS r_69_3) ?_
    refine zw_push hm_85 dX7_clearWeak_12 (v := .inl l2) rfl ?_
    obtain ⟨hg, h⟩ := h
    refine zw_ia hm_85 dX7_clearWeak_13 (zT_is hS s_73) (zT_h hS s_73) rfl hg ?_
    show ma_wp X d w 85 14 [(0, .inr (.inr (some 69))), (1, .inr (.inr (some l1))), (2, .inl l2)] [.inl (mI S 73 l2.toNatClampNeg)] S _
    refine zw_push hm_85 dX7_clearWeak_14 (v := .inr (.inr (some l1))) rfl ?_
    obtain ⟨hg, h⟩ := h
    refine zw_gf hm_85 dX7_clearWeak_15 (v := .inl (mI S l1 0)) (zT_tis hS hg) (zT_tt hS hg) rfl f_7_67_9 rfl ?_
    refine zw_if2 hm_85 dX7_clearWeak_18 (t := 28) rfl zc2_ne ?_ ?_
    · intro hc
      rw [if_neg hc] at h
      refine zw_sto hm_85 dX7_clearWeak_28 [(2, .inl (l2 + (1 : Int32))), (0, .inr (.inr (some 69))), (1, .inr (.inr (some l1)))] rfl rfl rfl ?_
      refine zw_goto hm_85 dX7_clearWeak_31 (t := 2) rfl ?_
      exact zw_sub (ma_nd_of (ks := [0, 1, 2]) rfl (by decide)) (ma_nd_of (ks := [2, 0, 1]) rfl (by decide)) (ma_le_cons rfl (ma_le_cons rfl (ma_le_cons rfl (ma_le_nil _)))) h
    · intro hc
      rw [if_pos (Classical.not_not.mp hc)] at h
      refine zw_push hm_85 dX7_clearWeak_21 (v := .inr (.inr (some 69))) rfl ?_
      refine zw_gf hm_85 dX7_clearWeak_22 (v := .inr (.inr (some 73))) (zT_is hS s_69) (zT_t hS s_69) rfl f_7_24_7 (zT_f hS r_69_3) ?_
      refine zw_push hm_85 dX7_clearWeak_25 (v := .inl l2) rfl ?_
      refine zw_push hm_85 dX7_clearWeak_26 (v := .inl (-1 : Int32)) rfl ?_
      obtain ⟨hg, h⟩ := h
      refine zw_ias hm_85 dX7_clearWeak_27 (zT_is hS s_73) (zT_h hS s_73) rfl hg ?_
      refine zw_sto hm_85 dX7_clearWeak_28 [(2, .inl (l2 + (1 : Int32))), (0, .inr (.inr (some 69))), (1, .inr (.inr (some l1)))] rfl rfl rfl ?_
      refine zw_goto hm_85 dX7_clearWeak_31 (t := 2) rfl ?_
      exact zw_sub (ma_nd_of (ks := [0, 1, 2]) rfl (by decide)) (ma_nd_of (ks := [2, 0, 1]) rfl (by decide)) (ma_le_cons rfl (ma_le_cons rfl (ma_le_cons rfl (ma_le_nil _)))) h
theorem lp_85_69_2 {X : Nat × (Nat → Int32)} {d w : Nat} {f : Nat → Nat → Int32} {r : Nat → Nat → Option Nat} {C Z N : Nat} {Q : Option ma_V ⊕ Nat → ma_S → Prop} (hd : 0 ≤ d) (hw : 0 ≤ w) (K : ∀ S₉, zI f r C Z N S₉ → Q (.inl none) S₉) : ∀ (n : Nat) (S : ma_S) (l1 : Nat) (l2 : Int32), (16 - l2.toInt).toNat = n → zI f r C Z N S → (126 ≤ l1 ∧ l1 < N) → (0 ≤ l2.toInt) → ma_wp X d w 85 2 [(0, .inr (.inr (some 69))), (1, .inr (.inr (some l1))), (2, .inl l2)] [] S Q := by
  intro n
  induction n using Nat.strongRecOn with
  | _ n IH =>
    intro S l1 l2 hmu hI th_l1 hi0
    refine g_85_69_2 l1 l2 (by omega) (by omega) (zG_T hI) ?_
    have li1 : (16 : Int32).toInt = 16 := rfl
    have b2 := i_bd l2
    refine zd (fun h3 => ?_) (fun h3 => ?_)
    · skip
      have g4 := i_le h3
      exact K _ hI
    · skip
      have g5 := i_nle h3
      refine ⟨i_ix (by omega) (by omega), ?_⟩
      refine ⟨zG_n hI th_l1, ?_⟩
      have b6 := i_bd (mI S 73 l2.toNatClampNeg)
      have f7 := zG_th hI th_l1
      refine zd (fun h8 => ?_) (fun h8 => ?_)
      · skip
        have g9 := i_eq h8
        refine ⟨i_ix (by omega) (by omega), ?_⟩
        have hI10 : zI f r C Z N (ma_put S 73 l2.toNatClampNeg (.inl (-1 : Int32))) := zG_fa hI rfl (by decide) (by decide) (by decide) trivial
        first | have e11 : (l2 + (1 : Int32)).toInt = l2.toInt + (1) := i_addk rfl (by omega) (by omega) | have b12 := i_bd (l2 + (1 : Int32))
        exact IH _ (by omega) _ l1 ((l2 + (1 : Int32))) rfl hI10 th_l1 (by omega)
      · skip
        have g13 := i_ne h8
        first | have e14 : (l2 + (1 : Int32)).toInt = l2.toInt + (1) := i_addk rfl (by omega) (by omega) | have b15 := i_bd (l2 + (1 : Int32))
        exact IH _ (by omega) _ l1 ((l2 + (1 : Int32))) rfl hI th_l1 (by omega)
theorem sp_85_69 {X : Nat × (Nat → Int32)} {d w : Nat} {f : Nat → Nat → Int32} {r : Nat → Nat → Option Nat} {C Z N : Nat} {Q : Option ma_V ⊕ Nat → ma_S → Prop} {S : ma_S} (t : Nat) (hd : 0 ≤ d) (hw : 0 ≤ w) (hI : zI f r C Z N S) (th_t : 126 ≤ t ∧ t < N) (K : ∀ S₉, zI f r C Z N S₉ → Q (.inl none) S₉) : ma_wp X d w 85 0 [(0, .inr (.inr (some 69))), (1, .inr (.inr (some t)))] [] S Q := by
  refine g_85_69_0 t (by omega) (by omega) (zG_T hI) ?_
  have li1 : (0 : Int32).toInt = 0 := rfl
  exact lp_85_69_2 (by omega) (by omega) K _ _ t ((0 : Int32)) rfl hI th_t (by omega)
theorem g_119_75_0 {X : Nat × (Nat → Int32)} {d w : Nat} {S : ma_S} {Q : Option ma_V ⊕ Nat → ma_S → Prop} (t : Option Nat) (hd : 0 ≤ d) (hw : 0 ≤ w) (hS : zT S) (h : (t = none → Q (.inl none) S) ∧ (∀ c1, t = some c1 → (126 ≤ c1 ∧ c1 < mN S) ∧ (if (mI S c1 4) < (mI S 75 5) then (Q (.inl none) S) else ((126 ≤ c1 ∧ c1 < mN S) ∧ (if (512 : Int32) ≤ (mI S c1 0) then (Q (.inl none) S) else (if (mI S 75 4) < (512 : Int32) then ((126 ≤ c1 ∧ c1 < mN S) ∧ ((0 ≤ (mI S c1 0) ∧ (mI S c1 0).toNatClampNeg < 512) ∧ (if (mI S 77 (mI S c1 0).toNatClampNeg) = 0 then ((126 ≤ c1 ∧ c1 < mN S) ∧ ((0 ≤ (mI S c1 0) ∧ (mI S c1 0).toNatClampNeg < 512) ∧ ((126 ≤ c1 ∧ c1 < mN (ma_put S 77 (mI S c1 0).toNatClampNeg (.inl (1 : Int32)))) ∧ ((0 ≤ (mI S 75 4) ∧ (mI S 75 4).toNatClampNeg < 512) ∧ (Q (.inl none) (ma_put (ma_put (ma_put S 77 (mI S c1 0).toNatClampNeg (.inl (1 : Int32))) 76 (mI S 75 4).toNatClampNeg (.inl (mI (ma_put S 77 (mI S c1 0).toNatClampNeg (.inl (1 : Int32))) c1 0))) 75 4 (.inl ((mI S 75 4) + (1 : Int32))))))))) else (Q (.inl none) S)))) else (Q (.inl none) S))))))) : ma_wp X d w 119 0 [(0, .inr (.inr (some 75))), (1, .inr (.inr t))] [] S Q := by
  refine zw_push hm_119 dX10_comes_0 (v := .inr (.inr t)) rfl ?_
  refine zw_ifnull hm_119 dX10_comes_1 (t := 35) rfl ?_ ?_
  · intro hc
    have h := h.1 hc
    (try rw [hc])
    show ma_wp X d w 119 35 [(0, .inr (.inr (some 75))), (1, .inr (.inr none))] [] S _
    exact zw_vret hm_119 dX10_comes_35 h
  · intro c1 hc
    have h := h.2 c1 hc
    (try rw [hc])
    show ma_wp X d w 119 4 [(0, .inr (.inr (some 75))), (1, .inr (.inr (some c1)))] [] S _
    refine zw_push hm_119 dX10_comes_4 (v := .inr (.inr (some c1))) rfl ?_
    obtain ⟨hg, h⟩ := h
    refine zw_gf hm_119 dX10_comes_5 (v := .inl (mI S c1 4)) (zT_tis hS hg) (zT_tt hS hg) rfl f_10_49_9 rfl ?_
    refine zw_push hm_119 dX10_comes_8 (v := .inr (.inr (some 75))) rfl ?_
    refine zw_gf hm_119 dX10_comes_9 (v := .inl (mI S 75 5)) (zT_is hS s_75) (zT_t hS s_75) rfl f_10_35_10 rfl ?_
    refine zw_if2 hm_119 dX10_comes_12 (t := 35) rfl zc2_lt ?_ ?_
    · intro hc
      rw [if_pos hc] at h
      exact zw_vret hm_119 dX10_comes_35 h
    · intro hc
      rw [if_neg hc] at h
      refine zw_push hm_119 dX10_comes_15 (v := .inr (.inr (some c1))) rfl ?_
      obtain ⟨hg, h⟩ := h
      refine zw_gf hm_119 dX10_comes_16 (v := .inl (mI S c1 0)) (zT_tis hS hg) (zT_tt hS hg) rfl f_10_58_9 rfl ?_
      refine zw_push hm_119 dX10_comes_19 (v := .inl (512 : Int32)) rfl ?_
      refine zw_if2 hm_119 dX10_comes_22 (t := 35) rfl zc2_ge ?_ ?_
      · intro hc
        rw [if_pos hc] at h
        exact zw_vret hm_119 dX10_comes_35 h
      · intro hc
        rw [if_neg hc] at h
        refine zw_push hm_119 dX10_comes_25 (v := .inr (.inr (some 75))) rfl ?_
        refine zw_gf hm_119 dX10_comes_26 (v := .inl (mI S 75 4)) (zT_is hS s_75) (zT_t hS s_75) rfl f_10_32_10 rfl ?_
        refine zw_push hm_119 dX10_comes_29 (v := .inl (512 : Int32)) rfl ?_
        refine zw_if2 hm_119 dX10_comes_32 (t := 36) rfl zc2_lt ?_ ?_
        · intro hc
          rw [if_pos hc] at h
          refine zw_push hm_119 dX10_comes_36 (v := .inr (.inr (some 75))) rfl ?_
          refine zw_gf hm_119 dX10_comes_37 (v := .inr (.inr (some 77))) (zT_is hS s_75) (zT_t hS s_75) rfl f_10_15_10 (zT_f hS r_75_2) ?_
          refine zw_push hm_119 dX10_comes_40 (v := .inr (.inr (some c1))) rfl ?_
          obtain ⟨hg, h⟩ := h
          refine zw_gf hm_119 dX10_comes_41 (v := .inl (mI S c1 0)) (zT_tis hS hg) (zT_tt hS hg) rfl f_10_58_9 rfl ?_
          obtain ⟨hg, h⟩ := h
          refine zw_ia hm_119 dX10_comes_44 (zT_is hS s_77) (zT_h hS s_77) rfl hg ?_
          show ma_wp X d w 119 45 [(0, .inr (.inr (some 75))), (1, .inr (.inr (some c1)))] [.inl (mI S 77 (mI S c1 0).toNatClampNeg)] S _
          refine zw_if0 hm_119 dX10_comes_45 (t := 81) rfl zc0_ne ?_ ?_
          · intro hc
            rw [if_neg hc] at h
            exact zw_vret hm_119 dX10_comes_81 h
          · intro hc
            rw [if_pos (Classical.not_not.mp hc)] at h
            refine zw_push hm_119 dX10_comes_48 (v := .inr (.inr (some 75))) rfl ?_
            refine zw_gf hm_119 dX10_comes_49 (v := .inr (.inr (some 77))) (zT_is hS s_75) (zT_t hS s_75) rfl f_10_15_10 (zT_f hS r_75_2) ?_
            refine zw_push hm_119 dX10_comes_52 (v := .inr (.inr (some c1))) rfl ?_
            obtain ⟨hg, h⟩ := h
            refine zw_gf hm_119 dX10_comes_53 (v := .inl (mI S c1 0)) (zT_tis hS hg) (zT_tt hS hg) rfl f_10_58_9 rfl ?_
            refine zw_push hm_119 dX10_comes_56 (v := .inl (1 : Int32)) rfl ?_
            obtain ⟨hg, h⟩ := h
            refine zw_ias hm_119 dX10_comes_57 (zT_is hS s_77) (zT_h hS s_77) rfl hg ?_
            refine zw_push hm_119 dX10_comes_58 (v := .inr (.inr (some 75))) rfl ?_
            refine zw_gf hm_119 dX10_comes_59 (v := .inr (.inr (some 76))) (zT_is (zT_pi hS) s_75) (zT_t (zT_pi hS) s_75) rfl f_10_9_10 (zT_f (zT_pi hS) r_75_1) ?_
            refine zw_push hm_119 dX10_comes_62 (v := .inr (.inr (some 75))) rfl ?_
            refine zw_gf hm_119 dX10_comes_63 (v := .inl (mI S 75 4)) (zT_is (zT_pi hS) s_75) (zT_t (zT_pi hS) s_75) rfl f_10_32_10 rfl ?_
            refine zw_push hm_119 dX10_comes_66 (v := .inr (.inr (some c1))) rfl ?_
            obtain ⟨hg, h⟩ := h
            refine zw_gf hm_119 dX10_comes_67 (v := .inl (mI (ma_put S 77 (mI S c1 0).toNatClampNeg (.inl (1 : Int32))) c1 0)) (zT_tis (zT_pi hS) hg) (zT_tt (zT_pi hS) hg) rfl f_10_58_9 rfl ?_
            obtain ⟨hg, h⟩ := h
            refine zw_ias hm_119 dX10_comes_70 (zT_is (zT_pi hS) s_76) (zT_h (zT_pi hS) s_76) rfl hg ?_
            refine zw_push hm_119 dX10_comes_71 (v := .inr (.inr (some 75))) rfl ?_
            refine zw_stk hm_119 dX10_comes_72 (st₉ := [.inr (.inr (some 75)), .inr (.inr (some 75))]) rfl rfl ?_
            refine zw_gf hm_119 dX10_comes_73 (v := .inl (mI S 75 4)) (zT_is (zT_pi (zT_pi hS)) s_75) (zT_t (zT_pi (zT_pi hS)) s_75) rfl f_10_32_10 rfl ?_
            refine zw_push hm_119 dX10_comes_76 (v := .inl (1 : Int32)) rfl ?_
            refine zw_stk hm_119 dX10_comes_77 (st₉ := [.inl ((mI S 75 4) + (1 : Int32)), .inr (.inr (some 75))]) rfl rfl ?_
            refine zw_pf hm_119 dX10_comes_78 (zT_is (zT_pi (zT_pi hS)) s_75) (zT_t (zT_pi (zT_pi hS)) s_75) p_10_32_10 zk_int ?_
            exact zw_vret hm_119 dX10_comes_81 h
        · intro hc
          rw [if_neg hc] at h
          exact zw_vret hm_119 dX10_comes_35 h
theorem sp_119_75 {X : Nat × (Nat → Int32)} {d w : Nat} {f : Nat → Nat → Int32} {r : Nat → Nat → Option Nat} {C Z N : Nat} {Q : Option ma_V ⊕ Nat → ma_S → Prop} {S : ma_S} (t : Option Nat) (hd : 0 ≤ d) (hw : 0 ≤ w) (hI : zI f r C Z N S) (hq_t : ∀ c, t = some c → 126 ≤ c ∧ c < N) (K : ∀ S₉, zI f r C Z N S₉ → Q (.inl none) S₉) : ma_wp X d w 119 0 [(0, .inr (.inr (some 75))), (1, .inr (.inr t))] [] S Q := by
  refine g_119_75_0 t (by omega) (by omega) (zG_T hI) ?_
  refine ⟨fun _ => ?_, fun c1 hc => ?_⟩
  · skip
    exact K _ hI
  · skip
    have th_c1 := hq_t c1 hc
    subst hc
    refine ⟨zG_n hI th_c1, ?_⟩
    have f1 := zG_th hI th_c1
    have b2 := i_bd (mI S 75 5)
    refine zd (fun h3 => ?_) (fun h3 => ?_)
    · skip
      have g4 := i_lt h3
      exact K _ hI
    · skip
      have g5 := i_nlt h3
      refine ⟨zG_n hI th_c1, ?_⟩
      have li6 : (512 : Int32).toInt = 512 := rfl
      have f7 := zG_th hI th_c1
      refine zd (fun h8 => ?_) (fun h8 => ?_)
      · skip
        have g9 := i_le h8
        exact K _ hI
      · skip
        have g10 := i_nle h8
        have f11 := zG_s hI (0) (512) (c := 75) (k := 4) (by decide)
        refine zd (fun h12 => ?_) (fun h12 => ?_)
        · skip
          have g13 := i_lt h12
          refine ⟨zG_n hI th_c1, ?_⟩
          refine ⟨i_ix (by omega) (by omega), ?_⟩
          have b14 := i_bd (mI S 77 (mI S c1 0).toNatClampNeg)
          have li15 : (0 : Int32).toInt = 0 := rfl
          refine zd (fun h16 => ?_) (fun h16 => ?_)
          · skip
            have g17 := i_eq h16
            refine ⟨zG_n hI th_c1, ?_⟩
            refine ⟨i_ix (by omega) (by omega), ?_⟩
            have hI18 : zI f r C Z N (ma_put S 77 (mI S c1 0).toNatClampNeg (.inl (1 : Int32))) := zG_fa hI rfl (by decide) (by decide) (by decide) trivial
            refine ⟨zG_n hI18 th_c1, ?_⟩
            refine ⟨i_ix (by omega) (by omega), ?_⟩
            have hI19 : zI f r C Z N (ma_put (ma_put S 77 (mI S c1 0).toNatClampNeg (.inl (1 : Int32))) 76 (mI S 75 4).toNatClampNeg (.inl (mI (ma_put S 77 (mI S c1 0).toNatClampNeg (.inl (1 : Int32))) c1 0))) := zG_fa hI18 rfl (by decide) (by decide) (by decide) trivial
            first | have e21 : ((mI S 75 4) + (1 : Int32)).toInt = (mI S 75 4).toInt + (1) := i_addk rfl (by omega) (by omega) | have b22 := i_bd ((mI S 75 4) + (1 : Int32))
            have hI20 : zI f r C Z N (ma_put (ma_put (ma_put S 77 (mI S c1 0).toNatClampNeg (.inl (1 : Int32))) 76 (mI S 75 4).toNatClampNeg (.inl (mI (ma_put S 77 (mI S c1 0).toNatClampNeg (.inl (1 : Int32))) c1 0))) 75 4 (.inl ((mI S 75 4) + (1 : Int32)))) := zG_sp hI19 (0) (512) rfl (by decide) (by decide) (by decide) trivial (by omega) (by omega)
            exact K _ hI20
          · skip
            have g23 := i_ne h16
            exact K _ hI
        · skip
          have g24 := i_nlt h12
          exact K _ hI
theorem g_121_75_0 {X : Nat × (Nat → Int32)} {d w : Nat} {S : ma_S} {Q : Option ma_V ⊕ Nat → ma_S → Prop} (t : Nat) (hd : 0 ≤ d) (hw : 0 ≤ w) (hS : zT S) (h : (126 ≤ t ∧ t < mN S) ∧ (if (512 : Int32) ≤ (mI S t 0) then (Q (.inl none) S) else ((126 ≤ t ∧ t < mN S) ∧ ((0 ≤ (mI S t 0) ∧ (mI S t 0).toNatClampNeg < 512) ∧ (Q (.inl none) (ma_put S 77 (mI S t 0).toNatClampNeg (.inl (2 : Int32)))))))) : ma_wp X d w 121 0 [(0, .inr (.inr (some 75))), (1, .inr (.inr (some t)))] [] S Q := by
  refine zw_push hm_121 dX10_blacken_0 (v := .inr (.inr (some t))) rfl ?_
  obtain ⟨hg, h⟩ := h
  refine zw_gf hm_121 dX10_blacken_1 (v := .inl (mI S t 0)) (zT_tis hS hg) (zT_tt hS hg) rfl f_10_58_9 rfl ?_
  refine zw_push hm_121 dX10_blacken_4 (v := .inl (512 : Int32)) rfl ?_
  refine zw_if2 hm_121 dX10_blacken_7 (t := 20) rfl zc2_ge ?_ ?_
  · intro hc
    rw [if_pos hc] at h
    exact zw_vret hm_121 dX10_blacken_20 h
  · intro hc
    rw [if_neg hc] at h
    refine zw_push hm_121 dX10_blacken_10 (v := .inr (.inr (some 75))) rfl ?_
    refine zw_gf hm_121 dX10_blacken_11 (v := .inr (.inr (some 77))) (zT_is hS s_75) (zT_t hS s_75) rfl f_10_15_10 (zT_f hS r_75_2) ?_
    refine zw_push hm_121 dX10_blacken_14 (v := .inr (.inr (some t))) rfl ?_
    obtain ⟨hg, h⟩ := h
    refine zw_gf hm_121 dX10_blacken_15 (v := .inl (mI S t 0)) (zT_tis hS hg) (zT_tt hS hg) rfl f_10_58_9 rfl ?_
    refine zw_push hm_121 dX10_blacken_18 (v := .inl (2 : Int32)) rfl ?_
    obtain ⟨hg, h⟩ := h
    refine zw_ias hm_121 dX10_blacken_19 (zT_is hS s_77) (zT_h hS s_77) rfl hg ?_
    exact zw_vret hm_121 dX10_blacken_20 h
theorem sp_121_75 {X : Nat × (Nat → Int32)} {d w : Nat} {f : Nat → Nat → Int32} {r : Nat → Nat → Option Nat} {C Z N : Nat} {Q : Option ma_V ⊕ Nat → ma_S → Prop} {S : ma_S} (t : Nat) (hd : 0 ≤ d) (hw : 0 ≤ w) (hI : zI f r C Z N S) (th_t : 126 ≤ t ∧ t < N) (K : ∀ S₉, zI f r C Z N S₉ → Q (.inl none) S₉) : ma_wp X d w 121 0 [(0, .inr (.inr (some 75))), (1, .inr (.inr (some t)))] [] S Q := by
  refine g_121_75_0 t (by omega) (by omega) (zG_T hI) ?_
  refine ⟨zG_n hI th_t, ?_⟩
  have li1 : (512 : Int32).toInt = 512 := rfl
  have f2 := zG_th hI th_t
  refine zd (fun h3 => ?_) (fun h3 => ?_)
  · skip
    have g4 := i_le h3
    exact K _ hI
  · skip
    have g5 := i_nle h3
    refine ⟨zG_n hI th_t, ?_⟩
    refine ⟨i_ix (by omega) (by omega), ?_⟩
    have hI6 : zI f r C Z N (ma_put S 77 (mI S t 0).toNatClampNeg (.inl (2 : Int32))) := zG_fa hI rfl (by decide) (by decide) (by decide) trivial
    exact K _ hI6
theorem g_122_75_0 {X : Nat × (Nat → Int32)} {d w : Nat} {S : ma_S} {Q : Option ma_V ⊕ Nat → ma_S → Prop} (t : Nat) (hd : 1 ≤ d) (hw : 21 ≤ w) (hS : zT S) (h : (126 ≤ t ∧ t < mN S) ∧ (if (mI S t 4) < (mI S 75 5) then (Q (.inl (some (.inl (1 : Int32)))) S) else ((126 ≤ t ∧ t < mN S) ∧ (if (512 : Int32) ≤ (mI S t 0) then (Q (.inl (some (.inl (0 : Int32)))) S) else ((126 ≤ t ∧ t < mN S) ∧ ((0 ≤ (mI S t 0) ∧ (mI S t 0).toNatClampNeg < 512) ∧ (if (mI S 77 (mI S t 0).toNatClampNeg) = 0 then (Q (.inl (some (.inl (0 : Int32)))) S) else (Q (.inl (some (.inl (1 : Int32)))) S)))))))) : ma_wp X d w 122 0 [(0, .inr (.inr (some 75))), (1, .inr (.inr (some t)))] [] S Q := by
  refine zw_push hm_122 dX10_keeps_0 (v := .inr (.inr (some t))) rfl ?_
  obtain ⟨hg, h⟩ := h
  refine zw_gf hm_122 dX10_keeps_1 (v := .inl (mI S t 4)) (zT_tis hS hg) (zT_tt hS hg) rfl f_10_49_9 rfl ?_
  refine zw_push hm_122 dX10_keeps_4 (v := .inr (.inr (some 75))) rfl ?_
  refine zw_gf hm_122 dX10_keeps_5 (v := .inl (mI S 75 5)) (zT_is hS s_75) (zT_t hS s_75) rfl f_10_35_10 rfl ?_
  refine zw_if2 hm_122 dX10_keeps_8 (t := 19) rfl zc2_lt ?_ ?_
  · intro hc
    rw [if_pos hc] at h
    refine zw_push hm_122 dX10_keeps_19 (v := .inl (1 : Int32)) rfl ?_
    refine zw_goto hm_122 dX10_keeps_20 (t := 24) rfl ?_
    exact zw_bret hm_122 dX10_keeps_24 (by decide) h
  · intro hc
    rw [if_neg hc] at h
    refine zw_push hm_122 dX10_keeps_11 (v := .inr (.inr (some 75))) rfl ?_
    refine zw_push hm_122 dX10_keeps_12 (v := .inr (.inr (some t))) rfl ?_
    refine zw_cv hm_122 dX10_keeps_13 v_10_54_10 hm_123 [.inr (.inr (some t))] [] rfl (zT_rt hS s_75 rfl) ⟨by omega, by omega⟩ rfl ?_
    show ma_wp X (d - 1) (w - 21) 123 0 [(0, .inr (.inr (some 75))), (1, .inr (.inr (some t)))] [] S _
    refine zw_push hm_123 dX10_colourOf_0 (v := .inr (.inr (some t))) rfl ?_
    obtain ⟨hg, h⟩ := h
    refine zw_gf hm_123 dX10_colourOf_1 (v := .inl (mI S t 0)) (zT_tis hS hg) (zT_tt hS hg) rfl f_10_58_9 rfl ?_
    refine zw_push hm_123 dX10_colourOf_4 (v := .inl (512 : Int32)) rfl ?_
    refine zw_if2 hm_123 dX10_colourOf_7 (t := 22) rfl zc2_ge ?_ ?_
    · intro hc
      rw [if_pos hc] at h
      refine zw_push hm_123 dX10_colourOf_22 (v := .inl (0 : Int32)) rfl ?_
      refine zw_iret hm_123 dX10_colourOf_23 ?_
      show ma_wp X d w 122 16 [(0, .inr (.inr (some 75))), (1, .inr (.inr (some t)))] [.inl (0 : Int32)] S _
      refine zw_if0 hm_122 dX10_keeps_16 (t := 23) rfl zc0_eq (fun _ => ?_) (fun hc => absurd (by decide) hc)
      refine zw_push hm_122 dX10_keeps_23 (v := .inl (0 : Int32)) rfl ?_
      exact zw_bret hm_122 dX10_keeps_24 (by decide) h
    · intro hc
      rw [if_neg hc] at h
      refine zw_push hm_123 dX10_colourOf_10 (v := .inr (.inr (some 75))) rfl ?_
      refine zw_gf hm_123 dX10_colourOf_11 (v := .inr (.inr (some 77))) (zT_is hS s_75) (zT_t hS s_75) rfl f_10_15_10 (zT_f hS r_75_2) ?_
      refine zw_push hm_123 dX10_colourOf_14 (v := .inr (.inr (some t))) rfl ?_
      obtain ⟨hg, h⟩ := h
      refine zw_gf hm_123 dX10_colourOf_15 (v := .inl (mI S t 0)) (zT_tis hS hg) (zT_tt hS hg) rfl f_10_58_9 rfl ?_
      obtain ⟨hg, h⟩ := h
      refine zw_ia hm_123 dX10_colourOf_18 (zT_is hS s_77) (zT_h hS s_77) rfl hg ?_
      show ma_wp X (d - 1) (w - 21) 123 19 [(0, .inr (.inr (some 75))), (1, .inr (.inr (some t)))] [.inl (mI S 77 (mI S t 0).toNatClampNeg)] S _
      refine zw_goto hm_123 dX10_colourOf_19 (t := 23) rfl ?_
      refine zw_iret hm_123 dX10_colourOf_23 ?_
      show ma_wp X d w 122 16 [(0, .inr (.inr (some 75))), (1, .inr (.inr (some t)))] [.inl (mI S 77 (mI S t 0).toNatClampNeg)] S _
      refine zw_if0 hm_122 dX10_keeps_16 (t := 23) rfl zc0_eq ?_ ?_
      · intro hc
        rw [if_pos hc] at h
        refine zw_push hm_122 dX10_keeps_23 (v := .inl (0 : Int32)) rfl ?_
        exact zw_bret hm_122 dX10_keeps_24 (by decide) h
      · intro hc
        rw [if_neg hc] at h
        refine zw_push hm_122 dX10_keeps_19 (v := .inl (1 : Int32)) rfl ?_
        refine zw_goto hm_122 dX10_keeps_20 (t := 24) rfl ?_
        exact zw_bret hm_122 dX10_keeps_24 (by decide) h
theorem sp_122_75 {X : Nat × (Nat → Int32)} {d w : Nat} {f : Nat → Nat → Int32} {r : Nat → Nat → Option Nat} {C Z N : Nat} {Q : Option ma_V ⊕ Nat → ma_S → Prop} {S : ma_S} (t : Nat) (hd : 1 ≤ d) (hw : 21 ≤ w) (hI : zI f r C Z N S) (th_t : 126 ≤ t ∧ t < N) (K : ∀ v S₉, zI f r C Z N S₉ → (v = 0 ∨ v = 1) → Q (.inl (some (.inl v))) S₉) : ma_wp X d w 122 0 [(0, .inr (.inr (some 75))), (1, .inr (.inr (some t)))] [] S Q := by
  refine g_122_75_0 t (by omega) (by omega) (zG_T hI) ?_
  refine ⟨zG_n hI th_t, ?_⟩
  have f1 := zG_th hI th_t
  have b2 := i_bd (mI S 75 5)
  refine zd (fun h3 => ?_) (fun h3 => ?_)
  · skip
    have g4 := i_lt h3
    have li5 : (1 : Int32).toInt = 1 := rfl
    exact K ((1 : Int32)) _ hI (by decide)
  · skip
    have g6 := i_nlt h3
    refine ⟨zG_n hI th_t, ?_⟩
    have li7 : (512 : Int32).toInt = 512 := rfl
    have f8 := zG_th hI th_t
    refine zd (fun h9 => ?_) (fun h9 => ?_)
    · skip
      have g10 := i_le h9
      have li11 : (0 : Int32).toInt = 0 := rfl
      exact K ((0 : Int32)) _ hI (by decide)
    · skip
      have g12 := i_nle h9
      refine ⟨zG_n hI th_t, ?_⟩
      refine ⟨i_ix (by omega) (by omega), ?_⟩
      have b13 := i_bd (mI S 77 (mI S t 0).toNatClampNeg)
      have li14 : (0 : Int32).toInt = 0 := rfl
      refine zd (fun h15 => ?_) (fun h15 => ?_)
      · skip
        have g16 := i_eq h15
        exact K ((0 : Int32)) _ hI (by decide)
      · skip
        have g17 := i_ne h15
        have li18 : (1 : Int32).toInt = 1 := rfl
        exact K ((1 : Int32)) _ hI (by decide)
theorem g_124_75_0 {X : Nat × (Nat → Int32)} {d w : Nat} {S : ma_S} {Q : Option ma_V ⊕ Nat → ma_S → Prop} (i : Int32) (hd : 1 ≤ d) (hw : 21 ≤ w) (hS : zT S) (h : if i < 0 then (Q (.inl (some (.inr (.inr none)))) S) else (if (mI S 75 4) ≤ i then (Q (.inl (some (.inr (.inr none)))) S) else ((0 ≤ i ∧ i.toNatClampNeg < 512) ∧ (if (mI S 76 i.toNatClampNeg) < 0 then (Q (.inl (some (.inr (.inr none)))) S) else (if (512 : Int32) ≤ (mI S 76 i.toNatClampNeg) then (Q (.inl (some (.inr (.inr none)))) S) else ((0 ≤ (mI S 76 i.toNatClampNeg) ∧ (mI S 76 i.toNatClampNeg).toNatClampNeg < 512) ∧ (Q (.inl (some (.inr (.inr (mR S 70 (mI S 76 i.toNatClampNeg).toNatClampNeg))))) S))))))) : ma_wp X d w 124 0 [(0, .inr (.inr (some 75))), (1, .inl i)] [] S Q := by
  refine zw_push hm_124 dX10_thingInQueue_0 (v := .inl i) rfl ?_
  refine zw_if0 hm_124 dX10_thingInQueue_1 (t := 28) rfl zc0_lt ?_ ?_
  · intro hc
    rw [if_pos hc] at h
    refine zw_push hm_124 dX10_thingInQueue_28 (v := .inr (.inr none)) rfl ?_
    exact zw_aret hm_124 dX10_thingInQueue_29 h
  · intro hc
    rw [if_neg hc] at h
    refine zw_push hm_124 dX10_thingInQueue_4 (v := .inl i) rfl ?_
    refine zw_push hm_124 dX10_thingInQueue_5 (v := .inr (.inr (some 75))) rfl ?_
    refine zw_gf hm_124 dX10_thingInQueue_6 (v := .inl (mI S 75 4)) (zT_is hS s_75) (zT_t hS s_75) rfl f_10_32_10 rfl ?_
    refine zw_if2 hm_124 dX10_thingInQueue_9 (t := 28) rfl zc2_ge ?_ ?_
    · intro hc
      rw [if_pos hc] at h
      refine zw_push hm_124 dX10_thingInQueue_28 (v := .inr (.inr none)) rfl ?_
      exact zw_aret hm_124 dX10_thingInQueue_29 h
    · intro hc
      rw [if_neg hc] at h
      refine zw_push hm_124 dX10_thingInQueue_12 (v := .inr (.inr (some 75))) rfl ?_
      refine zw_gf hm_124 dX10_thingInQueue_13 (v := .inr (.inr (some 69))) (zT_is hS s_75) (zT_t hS s_75) rfl f_10_18_10 (zT_f hS r_75_0) ?_
      refine zw_push hm_124 dX10_thingInQueue_16 (v := .inr (.inr (some 75))) rfl ?_
      refine zw_gf hm_124 dX10_thingInQueue_17 (v := .inr (.inr (some 76))) (zT_is hS s_75) (zT_t hS s_75) rfl f_10_9_10 (zT_f hS r_75_1) ?_
      refine zw_push hm_124 dX10_thingInQueue_20 (v := .inl i) rfl ?_
      obtain ⟨hg, h⟩ := h
      refine zw_ia hm_124 dX10_thingInQueue_21 (zT_is hS s_76) (zT_h hS s_76) rfl hg ?_
      show ma_wp X d w 124 22 [(0, .inr (.inr (some 75))), (1, .inl i)] [.inl (mI S 76 i.toNatClampNeg), .inr (.inr (some 69))] S _
      refine zw_cv hm_124 dX10_thingInQueue_22 v_10_66_7 hm_81 [.inl (mI S 76 i.toNatClampNeg)] [] rfl (zT_rt hS s_69 rfl) ⟨by omega, by omega⟩ rfl ?_
      show ma_wp X (d - 1) (w - 21) 81 0 [(0, .inr (.inr (some 69))), (1, .inl (mI S 76 i.toNatClampNeg))] [] S _
      refine zw_push hm_81 dX7_thingAt_0 (v := .inl (mI S 76 i.toNatClampNeg)) rfl ?_
      refine zw_if0 hm_81 dX7_thingAt_1 (t := 20) rfl zc0_lt ?_ ?_
      · intro hc
        rw [if_pos hc] at h
        refine zw_push hm_81 dX7_thingAt_20 (v := .inr (.inr none)) rfl ?_
        refine zw_aret hm_81 dX7_thingAt_21 ?_
        show ma_wp X d w 124 25 [(0, .inr (.inr (some 75))), (1, .inl i)] [.inr (.inr none)] S _
        refine zw_goto hm_124 dX10_thingInQueue_25 (t := 29) rfl ?_
        exact zw_aret hm_124 dX10_thingInQueue_29 h
      · intro hc
        rw [if_neg hc] at h
        refine zw_push hm_81 dX7_thingAt_4 (v := .inl (mI S 76 i.toNatClampNeg)) rfl ?_
        refine zw_push hm_81 dX7_thingAt_5 (v := .inl (512 : Int32)) rfl ?_
        refine zw_if2 hm_81 dX7_thingAt_8 (t := 20) rfl zc2_ge ?_ ?_
        · intro hc
          rw [if_pos hc] at h
          refine zw_push hm_81 dX7_thingAt_20 (v := .inr (.inr none)) rfl ?_
          refine zw_aret hm_81 dX7_thingAt_21 ?_
          show ma_wp X d w 124 25 [(0, .inr (.inr (some 75))), (1, .inl i)] [.inr (.inr none)] S _
          refine zw_goto hm_124 dX10_thingInQueue_25 (t := 29) rfl ?_
          exact zw_aret hm_124 dX10_thingInQueue_29 h
        · intro hc
          rw [if_neg hc] at h
          refine zw_push hm_81 dX7_thingAt_11 (v := .inr (.inr (some 69))) rfl ?_
          refine zw_gf hm_81 dX7_thingAt_12 (v := .inr (.inr (some 70))) (zT_is hS s_69) (zT_t hS s_69) rfl f_7_11_7 (zT_f hS r_69_0) ?_
          refine zw_push hm_81 dX7_thingAt_15 (v := .inl (mI S 76 i.toNatClampNeg)) rfl ?_
          obtain ⟨hg, h⟩ := h
          refine zw_aa hm_81 dX7_thingAt_16 (zT_is hS s_70) (zT_h hS s_70) rfl rfl hg rfl ?_
          show ma_wp X (d - 1) (w - 21) 81 17 [(0, .inr (.inr (some 69))), (1, .inl (mI S 76 i.toNatClampNeg))] [.inr (.inr (mR S 70 (mI S 76 i.toNatClampNeg).toNatClampNeg))] S _
          refine zw_goto hm_81 dX7_thingAt_17 (t := 21) rfl ?_
          refine zw_aret hm_81 dX7_thingAt_21 ?_
          show ma_wp X d w 124 25 [(0, .inr (.inr (some 75))), (1, .inl i)] [.inr (.inr (mR S 70 (mI S 76 i.toNatClampNeg).toNatClampNeg))] S _
          refine zw_goto hm_124 dX10_thingInQueue_25 (t := 29) rfl ?_
          exact zw_aret hm_124 dX10_thingInQueue_29 h
theorem sp_124_75 {X : Nat × (Nat → Int32)} {d w : Nat} {f : Nat → Nat → Int32} {r : Nat → Nat → Option Nat} {C Z N : Nat} {Q : Option ma_V ⊕ Nat → ma_S → Prop} {S : ma_S} (i : Int32) (hd : 1 ≤ d) (hw : 21 ≤ w) (hI : zI f r C Z N S)  (K : ∀ v S₉, zI f r C Z N S₉ → (∀ c, v = some c → 126 ≤ c ∧ c < N) → Q (.inl (some (.inr (.inr v)))) S₉) : ma_wp X d w 124 0 [(0, .inr (.inr (some 75))), (1, .inl i)] [] S Q := by
  refine g_124_75_0 i (by omega) (by omega) (zG_T hI) ?_
  have b1 := i_bd i
  have li2 : (0 : Int32).toInt = 0 := rfl
  refine zd (fun h3 => ?_) (fun h3 => ?_)
  · skip
    have g4 := i_lt h3
    exact K (none) _ hI (fun _ z => by cases z)
  · skip
    have g5 := i_nlt h3
    have f6 := zG_s hI (0) (512) (c := 75) (k := 4) (by decide)
    refine zd (fun h7 => ?_) (fun h7 => ?_)
    · skip
      have g8 := i_le h7
      exact K (none) _ hI (fun _ z => by cases z)
    · skip
      have g9 := i_nle h7
      refine ⟨i_ix (by omega) (by omega), ?_⟩
      have b10 := i_bd (mI S 76 i.toNatClampNeg)
      refine zd (fun h11 => ?_) (fun h11 => ?_)
      · skip
        have g12 := i_lt h11
        exact K (none) _ hI (fun _ z => by cases z)
      · skip
        have g13 := i_nlt h11
        have li14 : (512 : Int32).toInt = 512 := rfl
        refine zd (fun h15 => ?_) (fun h15 => ?_)
        · skip
          have g16 := i_le h15
          exact K (none) _ hI (fun _ z => by cases z)
        · skip
          have g17 := i_nle h15
          refine ⟨i_ix (by omega) (by omega), ?_⟩
          exact K ((mR S 70 (mI S 76 i.toNatClampNeg).toNatClampNeg)) _ hI (fun _ z => zG_70 hI (c := 70) (by decide) z)
theorem g_276_77_0 {X : Nat × (Nat → Int32)} {d w : Nat} {S : ma_S} {Q : Option ma_V ⊕ Nat → ma_S → Prop} (x : Int32) (hd : 0 ≤ d) (hw : 0 ≤ w) (hS : zT S) (h : ma_wp X d w 276 5 [(0, .inr (.inr (some 77))), (1, .inl x), (2, .inl (0 : Int32)), (3, .inl (512 : Int32))] [] S Q) : ma_wp X d w 276 0 [(0, .inr (.inr (some 77))), (1, .inl x)] [] S Q := by
  refine zw_push hm_276 dJ7_fill_53178_0 (v := .inl (0 : Int32)) rfl ?_
  refine zw_sto hm_276 dJ7_fill_53178_1 [(2, .inl (0 : Int32)), (0, .inr (.inr (some 77))), (1, .inl x)] rfl rfl rfl ?_
  refine zw_push hm_276 dJ7_fill_53178_2 (v := .inr (.inr (some 77))) rfl ?_
  refine zw_len hm_276 dJ7_fill_53178_3 (zT_is hS s_77) (zT_h hS s_77) rfl rfl ?_
  refine zw_sto hm_276 dJ7_fill_53178_4 [(3, .inl (512 : Int32)), (2, .inl (0 : Int32)), (0, .inr (.inr (some 77))), (1, .inl x)] rfl rfl rfl ?_
  exact zw_sub (ma_nd_of (ks := [0, 1, 2, 3]) rfl (by decide)) (ma_nd_of (ks := [3, 2, 0, 1]) rfl (by decide)) (ma_le_cons rfl (ma_le_cons rfl (ma_le_cons rfl (ma_le_cons rfl (ma_le_nil _))))) h
theorem g_276_77_5 {X : Nat × (Nat → Int32)} {d w : Nat} {S : ma_S} {Q : Option ma_V ⊕ Nat → ma_S → Prop} (l1 : Int32) (l2 : Int32) (l3 : Int32) (hd : 0 ≤ d) (hw : 0 ≤ w) (hS : zT S) (h : if l3 ≤ l2 then (Q (.inl none) S) else ((0 ≤ l2 ∧ l2.toNatClampNeg < 512) ∧ (ma_wp X d w 276 5 [(0, .inr (.inr (some 77))), (1, .inl l1), (2, .inl (l2 + (1 : Int32))), (3, .inl l3)] [] (ma_put S 77 l2.toNatClampNeg (.inl l1)) Q))) : ma_wp X d w 276 5 [(0, .inr (.inr (some 77))), (1, .inl l1), (2, .inl l2), (3, .inl l3)] [] S Q := by
  refine zw_push hm_276 dJ7_fill_53178_5 (v := .inl l2) rfl ?_
  refine zw_push hm_276 dJ7_fill_53178_6 (v := .inl l3) rfl ?_
  refine zw_if2 hm_276 dJ7_fill_53178_7 (t := 20) rfl zc2_ge ?_ ?_
  · intro hc
    rw [if_pos hc] at h
    exact zw_vret hm_276 dJ7_fill_53178_20 h
  · intro hc
    rw [if_neg hc] at h
    refine zw_push hm_276 dJ7_fill_53178_10 (v := .inr (.inr (some 77))) rfl ?_
    refine zw_push hm_276 dJ7_fill_53178_11 (v := .inl l2) rfl ?_
    refine zw_push hm_276 dJ7_fill_53178_12 (v := .inl l1) rfl ?_
    obtain ⟨hg, h⟩ := h
    refine zw_ias hm_276 dJ7_fill_53178_13 (zT_is hS s_77) (zT_h hS s_77) rfl hg ?_
    refine zw_sto hm_276 dJ7_fill_53178_14 [(2, .inl (l2 + (1 : Int32))), (0, .inr (.inr (some 77))), (1, .inl l1), (3, .inl l3)] rfl rfl rfl ?_
    refine zw_goto hm_276 dJ7_fill_53178_17 (t := 5) rfl ?_
    exact zw_sub (ma_nd_of (ks := [0, 1, 2, 3]) rfl (by decide)) (ma_nd_of (ks := [2, 0, 1, 3]) rfl (by decide)) (ma_le_cons rfl (ma_le_cons rfl (ma_le_cons rfl (ma_le_cons rfl (ma_le_nil _))))) h
theorem lp_276_77_5 {X : Nat × (Nat → Int32)} {d w : Nat} {f : Nat → Nat → Int32} {r : Nat → Nat → Option Nat} {C Z N : Nat} {Q : Option ma_V ⊕ Nat → ma_S → Prop} (hd : 0 ≤ d) (hw : 0 ≤ w) (K : ∀ S₉, zI f r C Z N S₉ → Q (.inl none) S₉) : ∀ (n : Nat) (S : ma_S) (l1 : Int32) (l2 : Int32) (l3 : Int32), (l3.toInt - l2.toInt).toNat = n → zI f r C Z N S → (0 ≤ l2.toInt) → (l3.toInt = 512) → ma_wp X d w 276 5 [(0, .inr (.inr (some 77))), (1, .inl l1), (2, .inl l2), (3, .inl l3)] [] S Q := by
  intro n
  induction n using Nat.strongRecOn with
  | _ n IH =>
    intro S l1 l2 l3 hmu hI  hi0 hi1
    refine g_276_77_5 l1 l2 l3 (by omega) (by omega) (zG_T hI) ?_
    have b1 := i_bd l3
    have b2 := i_bd l2
    refine zd (fun h3 => ?_) (fun h3 => ?_)
    · skip
      have g4 := i_le h3
      exact K _ hI
    · skip
      have g5 := i_nle h3
      refine ⟨i_ix (by omega) (by omega), ?_⟩
      have hI6 : zI f r C Z N (ma_put S 77 l2.toNatClampNeg (.inl l1)) := zG_fa hI rfl (by decide) (by decide) (by decide) trivial
      have b7 := i_bd l1
      first | have e8 : (l2 + (1 : Int32)).toInt = l2.toInt + (1) := i_addk rfl (by omega) (by omega) | have b9 := i_bd (l2 + (1 : Int32))
      exact IH _ (by omega) _ (l1) ((l2 + (1 : Int32))) (l3) rfl hI6 (by omega) (by omega)
theorem sp_276_77 {X : Nat × (Nat → Int32)} {d w : Nat} {f : Nat → Nat → Int32} {r : Nat → Nat → Option Nat} {C Z N : Nat} {Q : Option ma_V ⊕ Nat → ma_S → Prop} {S : ma_S} (x : Int32) (hd : 0 ≤ d) (hw : 0 ≤ w) (hI : zI f r C Z N S)  (K : ∀ S₉, zI f r C Z N S₉ → Q (.inl none) S₉) : ma_wp X d w 276 0 [(0, .inr (.inr (some 77))), (1, .inl x)] [] S Q := by
  refine g_276_77_0 x (by omega) (by omega) (zG_T hI) ?_
  have b1 := i_bd x
  have li2 : (0 : Int32).toInt = 0 := rfl
  have li3 : (512 : Int32).toInt = 512 := rfl
  exact lp_276_77_5 (by omega) (by omega) K _ _ (x) ((0 : Int32)) ((512 : Int32)) rfl hI (by omega) (by omega)
theorem g_117_75_0 {X : Nat × (Nat → Int32)} {d w : Nat} {S : ma_S} {Q : Option ma_V ⊕ Nat → ma_S → Prop} (a : Int32) (hd : 1 ≤ d) (hw : 23 ≤ w) (hS : zT S) (h : ma_wp X (d - 1) (w - 23) 276 0 [(0, .inr (.inr (some 77))), (1, .inl (0 : Int32))] [] S (zv (fun S1 => zT S1 ∧ (Q (.inl none) (ma_put (ma_put (ma_put S1 75 3 (.inl (0 : Int32))) 75 4 (.inl (0 : Int32))) 75 5 (.inl a)))) (fun _ _ => False))) : ma_wp X d w 117 0 [(0, .inr (.inr (some 75))), (1, .inl a)] [] S Q := by
  refine zw_push hm_117 dX10_restart_0 (v := .inr (.inr (some 75))) rfl ?_
  refine zw_gf hm_117 dX10_restart_1 (v := .inr (.inr (some 77))) (zT_is hS s_75) (zT_t hS s_75) rfl f_10_15_10 (zT_f hS r_75_2) ?_
  refine zw_push hm_117 dX10_restart_4 (v := .inl (0 : Int32)) rfl ?_
  refine zw_cs hm_117 dX10_restart_5 pn_10_22 sl_10_22 hm_276 [.inl (0 : Int32), .inr (.inr (some 77))] [] rfl ⟨by omega, by omega⟩ rfl (zw_mono h (zv_go ?_ ?_))
  · intro S1 hv
    obtain ⟨hS1, h⟩ := hv
    refine zw_push hm_117 dX10_restart_8 (v := .inr (.inr (some 75))) rfl ?_
    refine zw_push hm_117 dX10_restart_9 (v := .inl (0 : Int32)) rfl ?_
    refine zw_pf hm_117 dX10_restart_10 (zT_is hS1 s_75) (zT_t hS1 s_75) p_10_28_10 zk_int ?_
    refine zw_push hm_117 dX10_restart_13 (v := .inr (.inr (some 75))) rfl ?_
    refine zw_push hm_117 dX10_restart_14 (v := .inl (0 : Int32)) rfl ?_
    refine zw_pf hm_117 dX10_restart_15 (zT_is (zT_pi hS1) s_75) (zT_t (zT_pi hS1) s_75) p_10_32_10 zk_int ?_
    refine zw_push hm_117 dX10_restart_18 (v := .inr (.inr (some 75))) rfl ?_
    refine zw_push hm_117 dX10_restart_19 (v := .inl a) rfl ?_
    refine zw_pf hm_117 dX10_restart_20 (zT_is (zT_pi (zT_pi hS1)) s_75) (zT_t (zT_pi (zT_pi hS1)) s_75) p_10_35_10 zk_int ?_
    exact zw_vret hm_117 dX10_restart_23 h
  · intro x S9 hx
    exact hx.elim
theorem sp_117_75 {X : Nat × (Nat → Int32)} {d w : Nat} {f : Nat → Nat → Int32} {r : Nat → Nat → Option Nat} {C Z N : Nat} {Q : Option ma_V ⊕ Nat → ma_S → Prop} {S : ma_S} (a : Int32) (hd : 1 ≤ d) (hw : 23 ≤ w) (hI : zI f r C Z N S)  (K : ∀ S₉, zI f r C Z N S₉ → Q (.inl none) S₉) : ma_wp X d w 117 0 [(0, .inr (.inr (some 75))), (1, .inl a)] [] S Q := by
  refine g_117_75_0 a (by omega) (by omega) (zG_T hI) ?_
  have li1 : (0 : Int32).toInt = 0 := rfl
  refine sp_276_77 ((0 : Int32)) (by omega) (by omega) hI  (fun S1 hI_S1 => zv_n ⟨zG_T hI_S1, ?_⟩)
  have hI2 : zI f r C Z N (ma_put S1 75 3 (.inl (0 : Int32))) := zG_sp hI_S1 (0) (512) rfl (by decide) (by decide) (by decide) trivial (by omega) (by omega)
  have hI3 : zI f r C Z N (ma_put (ma_put S1 75 3 (.inl (0 : Int32))) 75 4 (.inl (0 : Int32))) := zG_sp hI2 (0) (512) rfl (by decide) (by decide) (by decide) trivial (by omega) (by omega)
  have hI4 : zI f r C Z N (ma_put (ma_put (ma_put S1 75 3 (.inl (0 : Int32))) 75 4 (.inl (0 : Int32))) 75 5 (.inl a)) := zG_fr hI3 rfl (by decide) (by decide) (by decide) trivial
  exact K _ hI4
theorem g_118_75_0 {X : Nat × (Nat → Int32)} {d w : Nat} {S : ma_S} {Q : Option ma_V ⊕ Nat → ma_S → Prop}  (hd : 1 ≤ d) (hw : 21 ≤ w) (hS : zT S) (h : ma_wp X d w 118 2 [(0, .inr (.inr (some 75))), (1, .inl (0 : Int32))] [] S Q) : ma_wp X d w 118 0 [(0, .inr (.inr (some 75)))] [] S Q := by
  refine zw_push hm_118 dX10_comeFromRoots_0 (v := .inl (0 : Int32)) rfl ?_
  refine zw_sto hm_118 dX10_comeFromRoots_1 [(1, .inl (0 : Int32)), (0, .inr (.inr (some 75)))] rfl rfl rfl ?_
  exact zw_sub (ma_nd_of (ks := [0, 1]) rfl (by decide)) (ma_nd_of (ks := [1, 0]) rfl (by decide)) (ma_le_cons rfl (ma_le_cons rfl (ma_le_nil _))) h
theorem g_118_75_2 {X : Nat × (Nat → Int32)} {d w : Nat} {S : ma_S} {Q : Option ma_V ⊕ Nat → ma_S → Prop} (l1 : Int32) (hd : 1 ≤ d) (hw : 21 ≤ w) (hS : zT S) (h : if (16 : Int32) ≤ l1 then (ma_wp X d w 118 36 [(0, .inr (.inr (some 75))), (1, .inl (0 : Int32))] [] S Q) else ((0 ≤ l1 ∧ l1.toNatClampNeg < 16) ∧ (if (mI S 72 l1.toNatClampNeg) < 0 then (ma_wp X (d - 1) (w - 21) 119 0 [(0, .inr (.inr (some 75))), (1, .inr (.inr none))] [] S (zv (fun S1 => zT S1 ∧ (ma_wp X d w 118 2 [(0, .inr (.inr (some 75))), (1, .inl (l1 + (1 : Int32)))] [] S1 Q)) (fun x S9 => Q (.inr x) S9))) else (if (512 : Int32) ≤ (mI S 72 l1.toNatClampNeg) then (ma_wp X (d - 1) (w - 21) 119 0 [(0, .inr (.inr (some 75))), (1, .inr (.inr none))] [] S (zv (fun S3 => zT S3 ∧ (ma_wp X d w 118 2 [(0, .inr (.inr (some 75))), (1, .inl (l1 + (1 : Int32)))] [] S3 Q)) (fun x S9 => Q (.inr x) S9))) else ((0 ≤ (mI S 72 l1.toNatClampNeg) ∧ (mI S 72 l1.toNatClampNeg).toNatClampNeg < 512) ∧ (ma_wp X (d - 1) (w - 21) 119 0 [(0, .inr (.inr (some 75))), (1, .inr (.inr (mR S 70 (mI S 72 l1.toNatClampNeg).toNatClampNeg)))] [] S (zv (fun S5 => zT S5 ∧ (ma_wp X d w 118 2 [(0, .inr (.inr (some 75))), (1, .inl (l1 + (1 : Int32)))] [] S5 Q)) (fun x S9 => Q (.inr x) S9)))))))) : ma_wp X d w 118 2 [(0, .inr (.inr (some 75))), (1, .inl l1)] [] S Q := by
  refine zw_push hm_118 dX10_comeFromRoots_2 (v := .inl l1) rfl ?_
  refine zw_push hm_118 dX10_comeFromRoots_3 (v := .inl (16 : Int32)) rfl ?_
  refine zw_if2 hm_118 dX10_comeFromRoots_5 (t := 34) rfl zc2_ge ?_ ?_
  · intro hc
    rw [if_pos hc] at h
    refine zw_push hm_118 dX10_comeFromRoots_34 (v := .inl (0 : Int32)) rfl ?_
    refine zw_sto hm_118 dX10_comeFromRoots_35 [(1, .inl (0 : Int32)), (0, .inr (.inr (some 75)))] rfl rfl rfl ?_
    exact zw_sub (ma_nd_of (ks := [0, 1]) rfl (by decide)) (ma_nd_of (ks := [1, 0]) rfl (by decide)) (ma_le_cons rfl (ma_le_cons rfl (ma_le_nil _))) h
  · intro hc
    rw [if_neg hc] at h
    refine zw_push hm_118 dX10_comeFromRoots_8 (v := .inr (.inr (some 75))) rfl ?_
    refine zw_push hm_118 dX10_comeFromRoots_9 (v := .inr (.inr (some 75))) rfl ?_
    refine zw_gf hm_118 dX10_comeFromRoots_10 (v := .inr (.inr (some 69))) (zT_is hS s_75) (zT_t hS s_75) rfl f_10_18_10 (zT_f hS r_75_0) ?_
    refine zw_push hm_118 dX10_comeFromRoots_13 (v := .inr (.inr (some 75))) rfl ?_
    refine zw_gf hm_118 dX10_comeFromRoots_14 (v := .inr (.inr (some 69))) (zT_is hS s_75) (zT_t hS s_75) rfl f_10_18_10 (zT_f hS r_75_0) ?_
    refine zw_gf hm_118 dX10_comeFromRoots_17 (v := .inr (.inr (some 72))) (zT_is hS s_69) (zT_t hS s_69) rfl f_10_61_7 (zT_f hS r_69_2) ?_
    refine zw_push hm_118 dX10_comeFromRoots_20 (v := .inl l1) rfl ?_
    obtain ⟨hg, h⟩ := h
    refine zw_ia hm_118 dX10_comeFromRoots_21 (zT_is hS s_72) (zT_h hS s_72) rfl hg ?_
    show ma_wp X d w 118 22 [(0, .inr (.inr (some 75))), (1, .inl l1)] [.inl (mI S 72 l1.toNatClampNeg), .inr (.inr (some 69)), .inr (.inr (some 75))] S _
    refine zw_cv hm_118 dX10_comeFromRoots_22 v_10_66_7 hm_81 [.inl (mI S 72 l1.toNatClampNeg)] [.inr (.inr (some 75))] rfl (zT_rt hS s_69 rfl) ⟨by omega, by omega⟩ rfl ?_
    show ma_wp X (d - 1) (w - 21) 81 0 [(0, .inr (.inr (some 69))), (1, .inl (mI S 72 l1.toNatClampNeg))] [] S _
    refine zw_push hm_81 dX7_thingAt_0 (v := .inl (mI S 72 l1.toNatClampNeg)) rfl ?_
    refine zw_if0 hm_81 dX7_thingAt_1 (t := 20) rfl zc0_lt ?_ ?_
    · intro hc
      rw [if_pos hc] at h
      refine zw_push hm_81 dX7_thingAt_20 (v := .inr (.inr none)) rfl ?_
      refine zw_aret hm_81 dX7_thingAt_21 ?_
      show ma_wp X d w 118 25 [(0, .inr (.inr (some 75))), (1, .inl l1)] [.inr (.inr none), .inr (.inr (some 75))] S _
      refine zw_cv hm_118 dX10_comeFromRoots_25 v_10_70_10 hm_119 [.inr (.inr none)] [] rfl (zT_rt hS s_75 rfl) ⟨by omega, by omega⟩ rfl (zw_mono h (zv_go ?_ ?_))
      · intro S1 hv
        obtain ⟨hS1, h⟩ := hv
        refine zw_sto hm_118 dX10_comeFromRoots_28 [(1, .inl (l1 + (1 : Int32))), (0, .inr (.inr (some 75)))] rfl rfl rfl ?_
        refine zw_goto hm_118 dX10_comeFromRoots_31 (t := 2) rfl ?_
        exact zw_sub (ma_nd_of (ks := [0, 1]) rfl (by decide)) (ma_nd_of (ks := [1, 0]) rfl (by decide)) (ma_le_cons rfl (ma_le_cons rfl (ma_le_nil _))) h
      · intro x S9 hx
        exact ⟨by decide, hx⟩
    · intro hc
      rw [if_neg hc] at h
      refine zw_push hm_81 dX7_thingAt_4 (v := .inl (mI S 72 l1.toNatClampNeg)) rfl ?_
      refine zw_push hm_81 dX7_thingAt_5 (v := .inl (512 : Int32)) rfl ?_
      refine zw_if2 hm_81 dX7_thingAt_8 (t := 20) rfl zc2_ge ?_ ?_
      · intro hc
        rw [if_pos hc] at h
        refine zw_push hm_81 dX7_thingAt_20 (v := .inr (.inr none)) rfl ?_
        refine zw_aret hm_81 dX7_thingAt_21 ?_
        show ma_wp X d w 118 25 [(0, .inr (.inr (some 75))), (1, .inl l1)] [.inr (.inr none), .inr (.inr (some 75))] S _
        refine zw_cv hm_118 dX10_comeFromRoots_25 v_10_70_10 hm_119 [.inr (.inr none)] [] rfl (zT_rt hS s_75 rfl) ⟨by omega, by omega⟩ rfl (zw_mono h (zv_go ?_ ?_))
        · intro S3 hv
          obtain ⟨hS3, h⟩ := hv
          refine zw_sto hm_118 dX10_comeFromRoots_28 [(1, .inl (l1 + (1 : Int32))), (0, .inr (.inr (some 75)))] rfl rfl rfl ?_
          refine zw_goto hm_118 dX10_comeFromRoots_31 (t := 2) rfl ?_
          exact zw_sub (ma_nd_of (ks := [0, 1]) rfl (by decide)) (ma_nd_of (ks := [1, 0]) rfl (by decide)) (ma_le_cons rfl (ma_le_cons rfl (ma_le_nil _))) h
        · intro x S9 hx
          exact ⟨by decide, hx⟩
      · intro hc
        rw [if_neg hc] at h
        refine zw_push hm_81 dX7_thingAt_11 (v := .inr (.inr (some 69))) rfl ?_
        refine zw_gf hm_81 dX7_thingAt_12 (v := .inr (.inr (some 70))) (zT_is hS s_69) (zT_t hS s_69) rfl f_7_11_7 (zT_f hS r_69_0) ?_
        refine zw_push hm_81 dX7_thingAt_15 (v := .inl (mI S 72 l1.toNatClampNeg)) rfl ?_
        obtain ⟨hg, h⟩ := h
        refine zw_aa hm_81 dX7_thingAt_16 (zT_is hS s_70) (zT_h hS s_70) rfl rfl hg rfl ?_
        show ma_wp X (d - 1) (w - 21) 81 17 [(0, .inr (.inr (some 69))), (1, .inl (mI S 72 l1.toNatClampNeg))] [.inr (.inr (mR S 70 (mI S 72 l1.toNatClampNeg).toNatClampNeg))] S _
        refine zw_goto hm_81 dX7_thingAt_17 (t := 21) rfl ?_
        refine zw_aret hm_81 dX7_thingAt_21 ?_
        show ma_wp X d w 118 25 [(0, .inr (.inr (some 75))), (1, .inl l1)] [.inr (.inr (mR S 70 (mI S 72 l1.toNatClampNeg).toNatClampNeg)), .inr (.inr (some 75))] S _
        refine zw_cv hm_118 dX10_comeFromRoots_25 v_10_70_10 hm_119 [.inr (.inr (mR S 70 (mI S 72 l1.toNatClampNeg).toNatClampNeg))] [] rfl (zT_rt hS s_75 rfl) ⟨by omega, by omega⟩ rfl (zw_mono h (zv_go ?_ ?_))
        · intro S5 hv
          obtain ⟨hS5, h⟩ := hv
          refine zw_sto hm_118 dX10_comeFromRoots_28 [(1, .inl (l1 + (1 : Int32))), (0, .inr (.inr (some 75)))] rfl rfl rfl ?_
          refine zw_goto hm_118 dX10_comeFromRoots_31 (t := 2) rfl ?_
          exact zw_sub (ma_nd_of (ks := [0, 1]) rfl (by decide)) (ma_nd_of (ks := [1, 0]) rfl (by decide)) (ma_le_cons rfl (ma_le_cons rfl (ma_le_nil _))) h
        · intro x S9 hx
          exact ⟨by decide, hx⟩
theorem g_118_75_36 {X : Nat × (Nat → Int32)} {d w : Nat} {S : ma_S} {Q : Option ma_V ⊕ Nat → ma_S → Prop} (l1 : Int32) (hd : 1 ≤ d) (hw : 21 ≤ w) (hS : zT S) (h : if (mI S 69 5) ≤ l1 then (ma_wp X d w 118 75 [(0, .inr (.inr (some 75))), (1, .inl (0 : Int32))] [] S Q) else ((0 ≤ l1 ∧ l1.toNatClampNeg < 512) ∧ (if (mI S 74 l1.toNatClampNeg) < 0 then (ma_wp X (d - 1) (w - 21) 119 0 [(0, .inr (.inr (some 75))), (1, .inr (.inr none))] [] S (zv (fun S1 => zT S1 ∧ (ma_wp X d w 118 36 [(0, .inr (.inr (some 75))), (1, .inl (l1 + (1 : Int32)))] [] S1 Q)) (fun x S9 => Q (.inr x) S9))) else (if (512 : Int32) ≤ (mI S 74 l1.toNatClampNeg) then (ma_wp X (d - 1) (w - 21) 119 0 [(0, .inr (.inr (some 75))), (1, .inr (.inr none))] [] S (zv (fun S3 => zT S3 ∧ (ma_wp X d w 118 36 [(0, .inr (.inr (some 75))), (1, .inl (l1 + (1 : Int32)))] [] S3 Q)) (fun x S9 => Q (.inr x) S9))) else ((0 ≤ (mI S 74 l1.toNatClampNeg) ∧ (mI S 74 l1.toNatClampNeg).toNatClampNeg < 512) ∧ (ma_wp X (d - 1) (w - 21) 119 0 [(0, .inr (.inr (some 75))), (1, .inr (.inr (mR S 70 (mI S 74 l1.toNatClampNeg).toNatClampNeg)))] [] S (zv (fun S5 => zT S5 ∧ (ma_wp X d w 118 36 [(0, .inr (.inr (some 75))), (1, .inl (l1 + (1 : Int32)))] [] S5 Q)) (fun x S9 => Q (.inr x) S9)))))))) : ma_wp X d w 118 36 [(0, .inr (.inr (some 75))), (1, .inl l1)] [] S Q := by
  refine zw_push hm_118 dX10_comeFromRoots_36 (v := .inl l1) rfl ?_
  refine zw_push hm_118 dX10_comeFromRoots_37 (v := .inr (.inr (some 75))) rfl ?_
  refine zw_gf hm_118 dX10_comeFromRoots_38 (v := .inr (.inr (some 69))) (zT_is hS s_75) (zT_t hS s_75) rfl f_10_18_10 (zT_f hS r_75_0) ?_
  refine zw_gf hm_118 dX10_comeFromRoots_41 (v := .inl (mI S 69 5)) (zT_is hS s_69) (zT_t hS s_69) rfl f_10_74_7 rfl ?_
  refine zw_if2 hm_118 dX10_comeFromRoots_44 (t := 73) rfl zc2_ge ?_ ?_
  · intro hc
    rw [if_pos hc] at h
    refine zw_push hm_118 dX10_comeFromRoots_73 (v := .inl (0 : Int32)) rfl ?_
    refine zw_sto hm_118 dX10_comeFromRoots_74 [(1, .inl (0 : Int32)), (0, .inr (.inr (some 75)))] rfl rfl rfl ?_
    exact zw_sub (ma_nd_of (ks := [0, 1]) rfl (by decide)) (ma_nd_of (ks := [1, 0]) rfl (by decide)) (ma_le_cons rfl (ma_le_cons rfl (ma_le_nil _))) h
  · intro hc
    rw [if_neg hc] at h
    refine zw_push hm_118 dX10_comeFromRoots_47 (v := .inr (.inr (some 75))) rfl ?_
    refine zw_push hm_118 dX10_comeFromRoots_48 (v := .inr (.inr (some 75))) rfl ?_
    refine zw_gf hm_118 dX10_comeFromRoots_49 (v := .inr (.inr (some 69))) (zT_is hS s_75) (zT_t hS s_75) rfl f_10_18_10 (zT_f hS r_75_0) ?_
    refine zw_push hm_118 dX10_comeFromRoots_52 (v := .inr (.inr (some 75))) rfl ?_
    refine zw_gf hm_118 dX10_comeFromRoots_53 (v := .inr (.inr (some 69))) (zT_is hS s_75) (zT_t hS s_75) rfl f_10_18_10 (zT_f hS r_75_0) ?_
    refine zw_gf hm_118 dX10_comeFromRoots_56 (v := .inr (.inr (some 74))) (zT_is hS s_69) (zT_t hS s_69) rfl f_10_77_7 (zT_f hS r_69_4) ?_
    refine zw_push hm_118 dX10_comeFromRoots_59 (v := .inl l1) rfl ?_
    obtain ⟨hg, h⟩ := h
    refine zw_ia hm_118 dX10_comeFromRoots_60 (zT_is hS s_74) (zT_h hS s_74) rfl hg ?_
    show ma_wp X d w 118 61 [(0, .inr (.inr (some 75))), (1, .inl l1)] [.inl (mI S 74 l1.toNatClampNeg), .inr (.inr (some 69)), .inr (.inr (some 75))] S _
    refine zw_cv hm_118 dX10_comeFromRoots_61 v_10_66_7 hm_81 [.inl (mI S 74 l1.toNatClampNeg)] [.inr (.inr (some 75))] rfl (zT_rt hS s_69 rfl) ⟨by omega, by omega⟩ rfl ?_
    show ma_wp X (d - 1) (w - 21) 81 0 [(0, .inr (.inr (some 69))), (1, .inl (mI S 74 l1.toNatClampNeg))] [] S _
    refine zw_push hm_81 dX7_thingAt_0 (v := .inl (mI S 74 l1.toNatClampNeg)) rfl ?_
    refine zw_if0 hm_81 dX7_thingAt_1 (t := 20) rfl zc0_lt ?_ ?_
    · intro hc
      rw [if_pos hc] at h
      refine zw_push hm_81 dX7_thingAt_20 (v := .inr (.inr none)) rfl ?_
      refine zw_aret hm_81 dX7_thingAt_21 ?_
      show ma_wp X d w 118 64 [(0, .inr (.inr (some 75))), (1, .inl l1)] [.inr (.inr none), .inr (.inr (some 75))] S _
      refine zw_cv hm_118 dX10_comeFromRoots_64 v_10_70_10 hm_119 [.inr (.inr none)] [] rfl (zT_rt hS s_75 rfl) ⟨by omega, by omega⟩ rfl (zw_mono h (zv_go ?_ ?_))
      · intro S1 hv
        obtain ⟨hS1, h⟩ := hv
        refine zw_sto hm_118 dX10_comeFromRoots_67 [(1, .inl (l1 + (1 : Int32))), (0, .inr (.inr (some 75)))] rfl rfl rfl ?_
        refine zw_goto hm_118 dX10_comeFromRoots_70 (t := 36) rfl ?_
        exact zw_sub (ma_nd_of (ks := [0, 1]) rfl (by decide)) (ma_nd_of (ks := [1, 0]) rfl (by decide)) (ma_le_cons rfl (ma_le_cons rfl (ma_le_nil _))) h
      · intro x S9 hx
        exact ⟨by decide, hx⟩
    · intro hc
      rw [if_neg hc] at h
      refine zw_push hm_81 dX7_thingAt_4 (v := .inl (mI S 74 l1.toNatClampNeg)) rfl ?_
      refine zw_push hm_81 dX7_thingAt_5 (v := .inl (512 : Int32)) rfl ?_
      refine zw_if2 hm_81 dX7_thingAt_8 (t := 20) rfl zc2_ge ?_ ?_
      · intro hc
        rw [if_pos hc] at h
        refine zw_push hm_81 dX7_thingAt_20 (v := .inr (.inr none)) rfl ?_
        refine zw_aret hm_81 dX7_thingAt_21 ?_
        show ma_wp X d w 118 64 [(0, .inr (.inr (some 75))), (1, .inl l1)] [.inr (.inr none), .inr (.inr (some 75))] S _
        refine zw_cv hm_118 dX10_comeFromRoots_64 v_10_70_10 hm_119 [.inr (.inr none)] [] rfl (zT_rt hS s_75 rfl) ⟨by omega, by omega⟩ rfl (zw_mono h (zv_go ?_ ?_))
        · intro S3 hv
          obtain ⟨hS3, h⟩ := hv
          refine zw_sto hm_118 dX10_comeFromRoots_67 [(1, .inl (l1 + (1 : Int32))), (0, .inr (.inr (some 75)))] rfl rfl rfl ?_
          refine zw_goto hm_118 dX10_comeFromRoots_70 (t := 36) rfl ?_
          exact zw_sub (ma_nd_of (ks := [0, 1]) rfl (by decide)) (ma_nd_of (ks := [1, 0]) rfl (by decide)) (ma_le_cons rfl (ma_le_cons rfl (ma_le_nil _))) h
        · intro x S9 hx
          exact ⟨by decide, hx⟩
      · intro hc
        rw [if_neg hc] at h
        refine zw_push hm_81 dX7_thingAt_11 (v := .inr (.inr (some 69))) rfl ?_
        refine zw_gf hm_81 dX7_thingAt_12 (v := .inr (.inr (some 70))) (zT_is hS s_69) (zT_t hS s_69) rfl f_7_11_7 (zT_f hS r_69_0) ?_
        refine zw_push hm_81 dX7_thingAt_15 (v := .inl (mI S 74 l1.toNatClampNeg)) rfl ?_
        obtain ⟨hg, h⟩ := h
        refine zw_aa hm_81 dX7_thingAt_16 (zT_is hS s_70) (zT_h hS s_70) rfl rfl hg rfl ?_
        show ma_wp X (d - 1) (w - 21) 81 17 [(0, .inr (.inr (some 69))), (1, .inl (mI S 74 l1.toNatClampNeg))] [.inr (.inr (mR S 70 (mI S 74 l1.toNatClampNeg).toNatClampNeg))] S _
        refine zw_goto hm_81 dX7_thingAt_17 (t := 21) rfl ?_
        refine zw_aret hm_81 dX7_thingAt_21 ?_
        show ma_wp X d w 118 64 [(0, .inr (.inr (some 75))), (1, .inl l1)] [.inr (.inr (mR S 70 (mI S 74 l1.toNatClampNeg).toNatClampNeg)), .inr (.inr (some 75))] S _
        refine zw_cv hm_118 dX10_comeFromRoots_64 v_10_70_10 hm_119 [.inr (.inr (mR S 70 (mI S 74 l1.toNatClampNeg).toNatClampNeg))] [] rfl (zT_rt hS s_75 rfl) ⟨by omega, by omega⟩ rfl (zw_mono h (zv_go ?_ ?_))
        · intro S5 hv
          obtain ⟨hS5, h⟩ := hv
          refine zw_sto hm_118 dX10_comeFromRoots_67 [(1, .inl (l1 + (1 : Int32))), (0, .inr (.inr (some 75)))] rfl rfl rfl ?_
          refine zw_goto hm_118 dX10_comeFromRoots_70 (t := 36) rfl ?_
          exact zw_sub (ma_nd_of (ks := [0, 1]) rfl (by decide)) (ma_nd_of (ks := [1, 0]) rfl (by decide)) (ma_le_cons rfl (ma_le_cons rfl (ma_le_nil _))) h
        · intro x S9 hx
          exact ⟨by decide, hx⟩
theorem g_118_75_75 {X : Nat × (Nat → Int32)} {d w : Nat} {S : ma_S} {Q : Option ma_V ⊕ Nat → ma_S → Prop} (l1 : Int32) (hd : 1 ≤ d) (hw : 21 ≤ w) (hS : zT S) (h : if (mI S 69 6) ≤ l1 then (Q (.inl none) S) else (if l1 < 0 then (ma_wp X d w 118 75 [(0, .inr (.inr (some 75))), (1, .inl (l1 + (1 : Int32)))] [] S Q) else (if (512 : Int32) ≤ l1 then (ma_wp X d w 118 75 [(0, .inr (.inr (some 75))), (1, .inl (l1 + (1 : Int32)))] [] S Q) else ((0 ≤ l1 ∧ l1.toNatClampNeg < 512) ∧ (((mR S 70 l1.toNatClampNeg) = none → ma_wp X d w 118 75 [(0, .inr (.inr (some 75))), (1, .inl (l1 + (1 : Int32)))] [] S Q) ∧ (∀ c1, (mR S 70 l1.toNatClampNeg) = some c1 → (126 ≤ c1 ∧ c1 < mN S) ∧ (if (mI S c1 7) ≤ 0 then (ma_wp X d w 118 75 [(0, .inr (.inr (some 75))), (1, .inl (l1 + (1 : Int32)))] [] S Q) else (ma_wp X (d - 1) (w - 21) 119 0 [(0, .inr (.inr (some 75))), (1, .inr (.inr (some c1)))] [] S (zv (fun S2 => zT S2 ∧ (ma_wp X d w 118 75 [(0, .inr (.inr (some 75))), (1, .inl (l1 + (1 : Int32)))] [] S2 Q)) (fun x S9 => Q (.inr x) S9)))))))))) : ma_wp X d w 118 75 [(0, .inr (.inr (some 75))), (1, .inl l1)] [] S Q := by
  refine zw_push hm_118 dX10_comeFromRoots_75 (v := .inl l1) rfl ?_
  refine zw_push hm_118 dX10_comeFromRoots_76 (v := .inr (.inr (some 75))) rfl ?_
  refine zw_gf hm_118 dX10_comeFromRoots_77 (v := .inr (.inr (some 69))) (zT_is hS s_75) (zT_t hS s_75) rfl f_10_18_10 (zT_f hS r_75_0) ?_
  refine zw_gf hm_118 dX10_comeFromRoots_80 (v := .inl (mI S 69 6)) (zT_is hS s_69) (zT_t hS s_69) rfl f_10_80_7 rfl ?_
  refine zw_if2 hm_118 dX10_comeFromRoots_83 (t := 117) rfl zc2_ge ?_ ?_
  · intro hc
    rw [if_pos hc] at h
    exact zw_vret hm_118 dX10_comeFromRoots_117 h
  · intro hc
    rw [if_neg hc] at h
    refine zw_push hm_118 dX10_comeFromRoots_86 (v := .inr (.inr (some 75))) rfl ?_
    refine zw_gf hm_118 dX10_comeFromRoots_87 (v := .inr (.inr (some 69))) (zT_is hS s_75) (zT_t hS s_75) rfl f_10_18_10 (zT_f hS r_75_0) ?_
    refine zw_push hm_118 dX10_comeFromRoots_90 (v := .inl l1) rfl ?_
    refine zw_cv hm_118 dX10_comeFromRoots_91 v_10_66_7 hm_81 [.inl l1] [] rfl (zT_rt hS s_69 rfl) ⟨by omega, by omega⟩ rfl ?_
    show ma_wp X (d - 1) (w - 21) 81 0 [(0, .inr (.inr (some 69))), (1, .inl l1)] [] S _
    refine zw_push hm_81 dX7_thingAt_0 (v := .inl l1) rfl ?_
    refine zw_if0 hm_81 dX7_thingAt_1 (t := 20) rfl zc0_lt ?_ ?_
    · intro hc
      rw [if_pos hc] at h
      refine zw_push hm_81 dX7_thingAt_20 (v := .inr (.inr none)) rfl ?_
      refine zw_aret hm_81 dX7_thingAt_21 ?_
      show ma_wp X d w 118 94 [(0, .inr (.inr (some 75))), (1, .inl l1)] [.inr (.inr none)] S _
      refine zw_sto hm_118 dX10_comeFromRoots_94 [(2, .inr (.inr none)), (0, .inr (.inr (some 75))), (1, .inl l1)] rfl rfl rfl ?_
      refine zw_push hm_118 dX10_comeFromRoots_95 (v := .inr (.inr none)) rfl ?_
      refine zw_ifnull hm_118 dX10_comeFromRoots_96 (t := 111) rfl (fun _ => ?_) (fun _ z => by cases z)
      refine zw_sto hm_118 dX10_comeFromRoots_111 [(1, .inl (l1 + (1 : Int32))), (2, .inr (.inr none)), (0, .inr (.inr (some 75)))] rfl rfl rfl ?_
      refine zw_goto hm_118 dX10_comeFromRoots_114 (t := 75) rfl ?_
      exact zw_sub (ma_nd_of (ks := [0, 1]) rfl (by decide)) (ma_nd_of (ks := [1, 2, 0]) rfl (by decide)) (ma_le_cons rfl (ma_le_cons rfl (ma_le_nil _))) h
    · intro hc
      rw [if_neg hc] at h
      refine zw_push hm_81 dX7_thingAt_4 (v := .inl l1) rfl ?_
      refine zw_push hm_81 dX7_thingAt_5 (v := .inl (512 : Int32)) rfl ?_
      refine zw_if2 hm_81 dX7_thingAt_8 (t := 20) rfl zc2_ge ?_ ?_
      · intro hc
        rw [if_pos hc] at h
        refine zw_push hm_81 dX7_thingAt_20 (v := .inr (.inr none)) rfl ?_
        refine zw_aret hm_81 dX7_thingAt_21 ?_
        show ma_wp X d w 118 94 [(0, .inr (.inr (some 75))), (1, .inl l1)] [.inr (.inr none)] S _
        refine zw_sto hm_118 dX10_comeFromRoots_94 [(2, .inr (.inr none)), (0, .inr (.inr (some 75))), (1, .inl l1)] rfl rfl rfl ?_
        refine zw_push hm_118 dX10_comeFromRoots_95 (v := .inr (.inr none)) rfl ?_
        refine zw_ifnull hm_118 dX10_comeFromRoots_96 (t := 111) rfl (fun _ => ?_) (fun _ z => by cases z)
        refine zw_sto hm_118 dX10_comeFromRoots_111 [(1, .inl (l1 + (1 : Int32))), (2, .inr (.inr none)), (0, .inr (.inr (some 75)))] rfl rfl rfl ?_
        refine zw_goto hm_118 dX10_comeFromRoots_114 (t := 75) rfl ?_
        exact zw_sub (ma_nd_of (ks := [0, 1]) rfl (by decide)) (ma_nd_of (ks := [1, 2, 0]) rfl (by decide)) (ma_le_cons rfl (ma_le_cons rfl (ma_le_nil _))) h
      · intro hc
        rw [if_neg hc] at h
        refine zw_push hm_81 dX7_thingAt_11 (v := .inr (.inr (some 69))) rfl ?_
        refine zw_gf hm_81 dX7_thingAt_12 (v := .inr (.inr (some 70))) (zT_is hS s_69) (zT_t hS s_69) rfl f_7_11_7 (zT_f hS r_69_0) ?_
        refine zw_push hm_81 dX7_thingAt_15 (v := .inl l1) rfl ?_
        obtain ⟨hg, h⟩ := h
        refine zw_aa hm_81 dX7_thingAt_16 (zT_is hS s_70) (zT_h hS s_70) rfl rfl hg rfl ?_
        show ma_wp X (d - 1) (w - 21) 81 17 [(0, .inr (.inr (some 69))), (1, .inl l1)] [.inr (.inr (mR S 70 l1.toNatClampNeg))] S _
        refine zw_goto hm_81 dX7_thingAt_17 (t := 21) rfl ?_
        refine zw_aret hm_81 dX7_thingAt_21 ?_
        show ma_wp X d w 118 94 [(0, .inr (.inr (some 75))), (1, .inl l1)] [.inr (.inr (mR S 70 l1.toNatClampNeg))] S _
        refine zw_sto hm_118 dX10_comeFromRoots_94 [(2, .inr (.inr (mR S 70 l1.toNatClampNeg))), (0, .inr (.inr (some 75))), (1, .inl l1)] rfl rfl rfl ?_
        refine zw_push hm_118 dX10_comeFromRoots_95 (v := .inr (.inr (mR S 70 l1.toNatClampNeg))) rfl ?_
        refine zw_ifnull hm_118 dX10_comeFromRoots_96 (t := 111) rfl ?_ ?_
        · intro hc
          have h := h.1 hc
          (try rw [hc])
          show ma_wp X d w 118 111 [(2, .inr (.inr none)), (0, .inr (.inr (some 75))), (1, .inl l1)] [] S _
          refine zw_sto hm_118 dX10_comeFromRoots_111 [(1, .inl (l1 + (1 : Int32))), (2, .inr (.inr none)), (0, .inr (.inr (some 75)))] rfl rfl rfl ?_
          refine zw_goto hm_118 dX10_comeFromRoots_114 (t := 75) rfl ?_
          exact zw_sub (ma_nd_of (ks := [0, 1]) rfl (by decide)) (ma_nd_of (ks := [1, 2, 0]) rfl (by decide)) (ma_le_cons rfl (ma_le_cons rfl (ma_le_nil _))) h
        · intro c1 hc
          have h := h.2 c1 hc
          (try rw [hc])
          show ma_wp X d w 118 99 [(2, .inr (.inr (some c1))), (0, .inr (.inr (some 75))), (1, .inl l1)] [] S _
          refine zw_push hm_118 dX10_comeFromRoots_99 (v := .inr (.inr (some c1))) rfl ?_
          obtain ⟨hg, h⟩ := h
          refine zw_gf hm_118 dX10_comeFromRoots_100 (v := .inl (mI S c1 7)) (zT_tis hS hg) (zT_tt hS hg) rfl f_10_83_9 rfl ?_
          refine zw_if0 hm_118 dX10_comeFromRoots_103 (t := 111) rfl zc0_le ?_ ?_
          · intro hc
            rw [if_pos hc] at h
            refine zw_sto hm_118 dX10_comeFromRoots_111 [(1, .inl (l1 + (1 : Int32))), (2, .inr (.inr (some c1))), (0, .inr (.inr (some 75)))] rfl rfl rfl ?_
            refine zw_goto hm_118 dX10_comeFromRoots_114 (t := 75) rfl ?_
            exact zw_sub (ma_nd_of (ks := [0, 1]) rfl (by decide)) (ma_nd_of (ks := [1, 2, 0]) rfl (by decide)) (ma_le_cons rfl (ma_le_cons rfl (ma_le_nil _))) h
          · intro hc
            rw [if_neg hc] at h
            refine zw_push hm_118 dX10_comeFromRoots_106 (v := .inr (.inr (some 75))) rfl ?_
            refine zw_push hm_118 dX10_comeFromRoots_107 (v := .inr (.inr (some c1))) rfl ?_
            refine zw_cv hm_118 dX10_comeFromRoots_108 v_10_70_10 hm_119 [.inr (.inr (some c1))] [] rfl (zT_rt hS s_75 rfl) ⟨by omega, by omega⟩ rfl (zw_mono h (zv_go ?_ ?_))
            · intro S2 hv
              obtain ⟨hS2, h⟩ := hv
              refine zw_sto hm_118 dX10_comeFromRoots_111 [(1, .inl (l1 + (1 : Int32))), (2, .inr (.inr (some c1))), (0, .inr (.inr (some 75)))] rfl rfl rfl ?_
              refine zw_goto hm_118 dX10_comeFromRoots_114 (t := 75) rfl ?_
              exact zw_sub (ma_nd_of (ks := [0, 1]) rfl (by decide)) (ma_nd_of (ks := [1, 2, 0]) rfl (by decide)) (ma_le_cons rfl (ma_le_cons rfl (ma_le_nil _))) h
            · intro x S9 hx
              exact ⟨by decide, hx⟩
theorem lp_118_75_75 {X : Nat × (Nat → Int32)} {d w : Nat} {f : Nat → Nat → Int32} {r : Nat → Nat → Option Nat} {C Z N : Nat} {Q : Option ma_V ⊕ Nat → ma_S → Prop} (hd : 1 ≤ d) (hw : 21 ≤ w) (K : ∀ S₉, zI f r C Z N S₉ → Q (.inl none) S₉) : ∀ (n : Nat) (S : ma_S) (l1 : Int32), (512 - l1.toInt).toNat = n → zI f r C Z N S → ma_wp X d w 118 75 [(0, .inr (.inr (some 75))), (1, .inl l1)] [] S Q := by
  intro n
  induction n using Nat.strongRecOn with
  | _ n IH =>
    intro S l1 hmu hI  
    refine g_118_75_75 l1 (by omega) (by omega) (zG_T hI) ?_
    have f1 := zG_s hI (0) (512) (c := 69) (k := 6) (by decide)
    have b2 := i_bd l1
    refine zd (fun h3 => ?_) (fun h3 => ?_)
    · skip
      have g4 := i_le h3
      exact K _ hI
    · skip
      have g5 := i_nle h3
      have li6 : (0 : Int32).toInt = 0 := rfl
      refine zd (fun h7 => ?_) (fun h7 => ?_)
      · skip
        have g8 := i_lt h7
        first | have e9 : (l1 + (1 : Int32)).toInt = l1.toInt + (1) := i_addk rfl (by omega) (by omega) | have b10 := i_bd (l1 + (1 : Int32))
        exact IH _ (by omega) _ ((l1 + (1 : Int32))) rfl hI 
      · skip
        have g11 := i_nlt h7
        have li12 : (512 : Int32).toInt = 512 := rfl
        refine zd (fun h13 => ?_) (fun h13 => ?_)
        · skip
          have g14 := i_le h13
          first | have e15 : (l1 + (1 : Int32)).toInt = l1.toInt + (1) := i_addk rfl (by omega) (by omega) | have b16 := i_bd (l1 + (1 : Int32))
          exact IH _ (by omega) _ ((l1 + (1 : Int32))) rfl hI 
        · skip
          have g17 := i_nle h13
          refine ⟨i_ix (by omega) (by omega), ?_⟩
          refine ⟨fun _ => ?_, fun c1 hc => ?_⟩
          · skip
            first | have e18 : (l1 + (1 : Int32)).toInt = l1.toInt + (1) := i_addk rfl (by omega) (by omega) | have b19 := i_bd (l1 + (1 : Int32))
            exact IH _ (by omega) _ ((l1 + (1 : Int32))) rfl hI 
          · skip
            have th_c1 := (fun _ z => zG_70 hI (c := 70) (by decide) z) c1 hc
            refine ⟨zG_n hI th_c1, ?_⟩
            have b20 := i_bd (mI S c1 7)
            refine zd (fun h21 => ?_) (fun h21 => ?_)
            · skip
              have g22 := i_le h21
              first | have e23 : (l1 + (1 : Int32)).toInt = l1.toInt + (1) := i_addk rfl (by omega) (by omega) | have b24 := i_bd (l1 + (1 : Int32))
              exact IH _ (by omega) _ ((l1 + (1 : Int32))) rfl hI 
            · skip
              have g25 := i_nle h21
              refine sp_119_75 ((some c1)) (by omega) (by omega) hI (fun _ z => by cases z; exact th_c1) (fun S2 hI_S2 => zv_n ⟨zG_T hI_S2, ?_⟩)
              first | have e26 : (l1 + (1 : Int32)).toInt = l1.toInt + (1) := i_addk rfl (by omega) (by omega) | have b27 := i_bd (l1 + (1 : Int32))
              exact IH _ (by omega) _ ((l1 + (1 : Int32))) rfl hI_S2 
theorem lp_118_75_36 {X : Nat × (Nat → Int32)} {d w : Nat} {f : Nat → Nat → Int32} {r : Nat → Nat → Option Nat} {C Z N : Nat} {Q : Option ma_V ⊕ Nat → ma_S → Prop} (hd : 1 ≤ d) (hw : 21 ≤ w) (K : ∀ S₉, zI f r C Z N S₉ → Q (.inl none) S₉) : ∀ (n : Nat) (S : ma_S) (l1 : Int32), (512 - l1.toInt).toNat = n → zI f r C Z N S → (0 ≤ l1.toInt) → ma_wp X d w 118 36 [(0, .inr (.inr (some 75))), (1, .inl l1)] [] S Q := by
  intro n
  induction n using Nat.strongRecOn with
  | _ n IH =>
    intro S l1 hmu hI  hi0
    refine g_118_75_36 l1 (by omega) (by omega) (zG_T hI) ?_
    have f1 := zG_s hI (0) (512) (c := 69) (k := 5) (by decide)
    have b2 := i_bd l1
    refine zd (fun h3 => ?_) (fun h3 => ?_)
    · skip
      have g4 := i_le h3
      have li5 : (0 : Int32).toInt = 0 := rfl
      exact lp_118_75_75 (by omega) (by omega) K _ _ ((0 : Int32)) rfl hI 
    · skip
      have g6 := i_nle h3
      refine ⟨i_ix (by omega) (by omega), ?_⟩
      have b7 := i_bd (mI S 74 l1.toNatClampNeg)
      have li8 : (0 : Int32).toInt = 0 := rfl
      refine zd (fun h9 => ?_) (fun h9 => ?_)
      · skip
        have g10 := i_lt h9
        refine sp_119_75 (none) (by omega) (by omega) hI (fun _ z => by cases z) (fun S1 hI_S1 => zv_n ⟨zG_T hI_S1, ?_⟩)
        first | have e11 : (l1 + (1 : Int32)).toInt = l1.toInt + (1) := i_addk rfl (by omega) (by omega) | have b12 := i_bd (l1 + (1 : Int32))
        exact IH _ (by omega) _ ((l1 + (1 : Int32))) rfl hI_S1 (by omega)
      · skip
        have g13 := i_nlt h9
        have li14 : (512 : Int32).toInt = 512 := rfl
        refine zd (fun h15 => ?_) (fun h15 => ?_)
        · skip
          have g16 := i_le h15
          refine sp_119_75 (none) (by omega) (by omega) hI (fun _ z => by cases z) (fun S3 hI_S3 => zv_n ⟨zG_T hI_S3, ?_⟩)
          first | have e17 : (l1 + (1 : Int32)).toInt = l1.toInt + (1) := i_addk rfl (by omega) (by omega) | have b18 := i_bd (l1 + (1 : Int32))
          exact IH _ (by omega) _ ((l1 + (1 : Int32))) rfl hI_S3 (by omega)
        · skip
          have g19 := i_nle h15
          refine ⟨i_ix (by omega) (by omega), ?_⟩
          refine sp_119_75 ((mR S 70 (mI S 74 l1.toNatClampNeg).toNatClampNeg)) (by omega) (by omega) hI (fun _ z => zG_70 hI (c := 70) (by decide) z) (fun S5 hI_S5 => zv_n ⟨zG_T hI_S5, ?_⟩)
          first | have e20 : (l1 + (1 : Int32)).toInt = l1.toInt + (1) := i_addk rfl (by omega) (by omega) | have b21 := i_bd (l1 + (1 : Int32))
          exact IH _ (by omega) _ ((l1 + (1 : Int32))) rfl hI_S5 (by omega)
theorem lp_118_75_2 {X : Nat × (Nat → Int32)} {d w : Nat} {f : Nat → Nat → Int32} {r : Nat → Nat → Option Nat} {C Z N : Nat} {Q : Option ma_V ⊕ Nat → ma_S → Prop} (hd : 1 ≤ d) (hw : 21 ≤ w) (K : ∀ S₉, zI f r C Z N S₉ → Q (.inl none) S₉) : ∀ (n : Nat) (S : ma_S) (l1 : Int32), (16 - l1.toInt).toNat = n → zI f r C Z N S → (0 ≤ l1.toInt) → ma_wp X d w 118 2 [(0, .inr (.inr (some 75))), (1, .inl l1)] [] S Q := by
  intro n
  induction n using Nat.strongRecOn with
  | _ n IH =>
    intro S l1 hmu hI  hi0
    refine g_118_75_2 l1 (by omega) (by omega) (zG_T hI) ?_
    have li1 : (16 : Int32).toInt = 16 := rfl
    have b2 := i_bd l1
    refine zd (fun h3 => ?_) (fun h3 => ?_)
    · skip
      have g4 := i_le h3
      have li5 : (0 : Int32).toInt = 0 := rfl
      exact lp_118_75_36 (by omega) (by omega) K _ _ ((0 : Int32)) rfl hI (by omega)
    · skip
      have g6 := i_nle h3
      refine ⟨i_ix (by omega) (by omega), ?_⟩
      have b7 := i_bd (mI S 72 l1.toNatClampNeg)
      have li8 : (0 : Int32).toInt = 0 := rfl
      refine zd (fun h9 => ?_) (fun h9 => ?_)
      · skip
        have g10 := i_lt h9
        refine sp_119_75 (none) (by omega) (by omega) hI (fun _ z => by cases z) (fun S1 hI_S1 => zv_n ⟨zG_T hI_S1, ?_⟩)
        first | have e11 : (l1 + (1 : Int32)).toInt = l1.toInt + (1) := i_addk rfl (by omega) (by omega) | have b12 := i_bd (l1 + (1 : Int32))
        exact IH _ (by omega) _ ((l1 + (1 : Int32))) rfl hI_S1 (by omega)
      · skip
        have g13 := i_nlt h9
        have li14 : (512 : Int32).toInt = 512 := rfl
        refine zd (fun h15 => ?_) (fun h15 => ?_)
        · skip
          have g16 := i_le h15
          refine sp_119_75 (none) (by omega) (by omega) hI (fun _ z => by cases z) (fun S3 hI_S3 => zv_n ⟨zG_T hI_S3, ?_⟩)
          first | have e17 : (l1 + (1 : Int32)).toInt = l1.toInt + (1) := i_addk rfl (by omega) (by omega) | have b18 := i_bd (l1 + (1 : Int32))
          exact IH _ (by omega) _ ((l1 + (1 : Int32))) rfl hI_S3 (by omega)
        · skip
          have g19 := i_nle h15
          refine ⟨i_ix (by omega) (by omega), ?_⟩
          refine sp_119_75 ((mR S 70 (mI S 72 l1.toNatClampNeg).toNatClampNeg)) (by omega) (by omega) hI (fun _ z => zG_70 hI (c := 70) (by decide) z) (fun S5 hI_S5 => zv_n ⟨zG_T hI_S5, ?_⟩)
          first | have e20 : (l1 + (1 : Int32)).toInt = l1.toInt + (1) := i_addk rfl (by omega) (by omega) | have b21 := i_bd (l1 + (1 : Int32))
          exact IH _ (by omega) _ ((l1 + (1 : Int32))) rfl hI_S5 (by omega)
theorem sp_118_75 {X : Nat × (Nat → Int32)} {d w : Nat} {f : Nat → Nat → Int32} {r : Nat → Nat → Option Nat} {C Z N : Nat} {Q : Option ma_V ⊕ Nat → ma_S → Prop} {S : ma_S}  (hd : 1 ≤ d) (hw : 21 ≤ w) (hI : zI f r C Z N S)  (K : ∀ S₉, zI f r C Z N S₉ → Q (.inl none) S₉) : ma_wp X d w 118 0 [(0, .inr (.inr (some 75)))] [] S Q := by
  refine g_118_75_0  (by omega) (by omega) (zG_T hI) ?_
  have li1 : (0 : Int32).toInt = 0 := rfl
  exact lp_118_75_2 (by omega) (by omega) K _ _ ((0 : Int32)) rfl hI (by omega)
theorem g_120_75_0 {X : Nat × (Nat → Int32)} {d w : Nat} {S : ma_S} {Q : Option ma_V ⊕ Nat → ma_S → Prop} (m : Int32) (hd : 1 ≤ d) (hw : 25 ≤ w) (hS : zT S) (h : ma_wp X d w 120 2 [(0, .inr (.inr (some 75))), (1, .inl m), (2, .inl (0 : Int32))] [] S Q) : ma_wp X d w 120 0 [(0, .inr (.inr (some 75))), (1, .inl m)] [] S Q := by
  refine zw_push hm_120 dX10_spread_0 (v := .inl (0 : Int32)) rfl ?_
  refine zw_sto hm_120 dX10_spread_1 [(2, .inl (0 : Int32)), (0, .inr (.inr (some 75))), (1, .inl m)] rfl rfl rfl ?_
  exact zw_sub (ma_nd_of (ks := [0, 1, 2]) rfl (by decide)) (ma_nd_of (ks := [2, 0, 1]) rfl (by decide)) (ma_le_cons rfl (ma_le_cons rfl (ma_le_cons rfl (ma_le_nil _)))) h
theorem g_120_75_2 {X : Nat × (Nat → Int32)} {d w : Nat} {S : ma_S} {Q : Option ma_V ⊕ Nat → ma_S → Prop} (l1 : Int32) (l2 : Int32) (hd : 1 ≤ d) (hw : 25 ≤ w) (hS : zT S) (h : if l1 ≤ l2 then (Q (.inl (some (.inl l2))) S) else (if (mI S 75 4) ≤ (mI S 75 3) then (Q (.inl (some (.inl l2))) S) else ((0 ≤ (mI S 75 3) ∧ (mI S 75 3).toNatClampNeg < 512) ∧ (if (mI S 76 (mI S 75 3).toNatClampNeg) < 0 then (ma_wp X d w 120 2 [(0, .inr (.inr (some 75))), (1, .inl l1), (2, .inl (l2 + (1 : Int32)))] [] (ma_put S 75 3 (.inl ((mI S 75 3) + (1 : Int32)))) Q) else (if (512 : Int32) ≤ (mI S 76 (mI S 75 3).toNatClampNeg) then (ma_wp X d w 120 2 [(0, .inr (.inr (some 75))), (1, .inl l1), (2, .inl (l2 + (1 : Int32)))] [] (ma_put S 75 3 (.inl ((mI S 75 3) + (1 : Int32)))) Q) else ((0 ≤ (mI S 76 (mI S 75 3).toNatClampNeg) ∧ (mI S 76 (mI S 75 3).toNatClampNeg).toNatClampNeg < 512) ∧ (((mR S 70 (mI S 76 (mI S 75 3).toNatClampNeg).toNatClampNeg) = none → ma_wp X d w 120 2 [(0, .inr (.inr (some 75))), (1, .inl l1), (2, .inl (l2 + (1 : Int32)))] [] (ma_put S 75 3 (.inl ((mI S 75 3) + (1 : Int32)))) Q) ∧ (∀ c1, (mR S 70 (mI S 76 (mI S 75 3).toNatClampNeg).toNatClampNeg) = some c1 → ma_wp X (d - 1) (w - 21) 121 0 [(0, .inr (.inr (some 75))), (1, .inr (.inr (some c1)))] [] (ma_put S 75 3 (.inl ((mI S 75 3) + (1 : Int32)))) (zv (fun S2 => zT S2 ∧ (ma_wp X d w 120 57 [(0, .inr (.inr (some 75))), (1, .inl l1), (2, .inl l2), (3, .inr (.inr (some c1))), (4, .inl (0 : Int32))] [] S2 Q)) (fun x S9 => Q (.inr x) S9)))))))))) : ma_wp X d w 120 2 [(0, .inr (.inr (some 75))), (1, .inl l1), (2, .inl l2)] [] S Q := by
  refine zw_push hm_120 dX10_spread_2 (v := .inl l2) rfl ?_
  refine zw_push hm_120 dX10_spread_3 (v := .inl l1) rfl ?_
  refine zw_if2 hm_120 dX10_spread_4 (t := 94) rfl zc2_ge ?_ ?_
  · intro hc
    rw [if_pos hc] at h
    refine zw_push hm_120 dX10_spread_94 (v := .inl l2) rfl ?_
    exact zw_iret hm_120 dX10_spread_95 h
  · intro hc
    rw [if_neg hc] at h
    refine zw_push hm_120 dX10_spread_7 (v := .inr (.inr (some 75))) rfl ?_
    refine zw_gf hm_120 dX10_spread_8 (v := .inl (mI S 75 3)) (zT_is hS s_75) (zT_t hS s_75) rfl f_10_28_10 rfl ?_
    refine zw_push hm_120 dX10_spread_11 (v := .inr (.inr (some 75))) rfl ?_
    refine zw_gf hm_120 dX10_spread_12 (v := .inl (mI S 75 4)) (zT_is hS s_75) (zT_t hS s_75) rfl f_10_32_10 rfl ?_
    refine zw_if2 hm_120 dX10_spread_15 (t := 94) rfl zc2_ge ?_ ?_
    · intro hc
      rw [if_pos hc] at h
      refine zw_push hm_120 dX10_spread_94 (v := .inl l2) rfl ?_
      exact zw_iret hm_120 dX10_spread_95 h
    · intro hc
      rw [if_neg hc] at h
      refine zw_push hm_120 dX10_spread_18 (v := .inr (.inr (some 75))) rfl ?_
      refine zw_gf hm_120 dX10_spread_19 (v := .inr (.inr (some 69))) (zT_is hS s_75) (zT_t hS s_75) rfl f_10_18_10 (zT_f hS r_75_0) ?_
      refine zw_push hm_120 dX10_spread_22 (v := .inr (.inr (some 75))) rfl ?_
      refine zw_gf hm_120 dX10_spread_23 (v := .inr (.inr (some 76))) (zT_is hS s_75) (zT_t hS s_75) rfl f_10_9_10 (zT_f hS r_75_1) ?_
      refine zw_push hm_120 dX10_spread_26 (v := .inr (.inr (some 75))) rfl ?_
      refine zw_gf hm_120 dX10_spread_27 (v := .inl (mI S 75 3)) (zT_is hS s_75) (zT_t hS s_75) rfl f_10_28_10 rfl ?_
      obtain ⟨hg, h⟩ := h
      refine zw_ia hm_120 dX10_spread_30 (zT_is hS s_76) (zT_h hS s_76) rfl hg ?_
      show ma_wp X d w 120 31 [(0, .inr (.inr (some 75))), (1, .inl l1), (2, .inl l2)] [.inl (mI S 76 (mI S 75 3).toNatClampNeg), .inr (.inr (some 69))] S _
      refine zw_cv hm_120 dX10_spread_31 v_10_66_7 hm_81 [.inl (mI S 76 (mI S 75 3).toNatClampNeg)] [] rfl (zT_rt hS s_69 rfl) ⟨by omega, by omega⟩ rfl ?_
      show ma_wp X (d - 1) (w - 21) 81 0 [(0, .inr (.inr (some 69))), (1, .inl (mI S 76 (mI S 75 3).toNatClampNeg))] [] S _
      refine zw_push hm_81 dX7_thingAt_0 (v := .inl (mI S 76 (mI S 75 3).toNatClampNeg)) rfl ?_
      refine zw_if0 hm_81 dX7_thingAt_1 (t := 20) rfl zc0_lt ?_ ?_
      · intro hc
        rw [if_pos hc] at h
        refine zw_push hm_81 dX7_thingAt_20 (v := .inr (.inr none)) rfl ?_
        refine zw_aret hm_81 dX7_thingAt_21 ?_
        show ma_wp X d w 120 34 [(0, .inr (.inr (some 75))), (1, .inl l1), (2, .inl l2)] [.inr (.inr none)] S _
        refine zw_sto hm_120 dX10_spread_34 [(3, .inr (.inr none)), (0, .inr (.inr (some 75))), (1, .inl l1), (2, .inl l2)] rfl rfl rfl ?_
        refine zw_push hm_120 dX10_spread_35 (v := .inr (.inr (some 75))) rfl ?_
        refine zw_stk hm_120 dX10_spread_36 (st₉ := [.inr (.inr (some 75)), .inr (.inr (some 75))]) rfl rfl ?_
        refine zw_gf hm_120 dX10_spread_37 (v := .inl (mI S 75 3)) (zT_is hS s_75) (zT_t hS s_75) rfl f_10_28_10 rfl ?_
        refine zw_push hm_120 dX10_spread_40 (v := .inl (1 : Int32)) rfl ?_
        refine zw_stk hm_120 dX10_spread_41 (st₉ := [.inl ((mI S 75 3) + (1 : Int32)), .inr (.inr (some 75))]) rfl rfl ?_
        refine zw_pf hm_120 dX10_spread_42 (zT_is hS s_75) (zT_t hS s_75) p_10_28_10 zk_int ?_
        refine zw_push hm_120 dX10_spread_45 (v := .inr (.inr none)) rfl ?_
        refine zw_ifnull hm_120 dX10_spread_46 (t := 88) rfl (fun _ => ?_) (fun _ z => by cases z)
        refine zw_sto hm_120 dX10_spread_88 [(2, .inl (l2 + (1 : Int32))), (3, .inr (.inr none)), (0, .inr (.inr (some 75))), (1, .inl l1)] rfl rfl rfl ?_
        refine zw_goto hm_120 dX10_spread_91 (t := 2) rfl ?_
        exact zw_sub (ma_nd_of (ks := [0, 1, 2]) rfl (by decide)) (ma_nd_of (ks := [2, 3, 0, 1]) rfl (by decide)) (ma_le_cons rfl (ma_le_cons rfl (ma_le_cons rfl (ma_le_nil _)))) h
      · intro hc
        rw [if_neg hc] at h
        refine zw_push hm_81 dX7_thingAt_4 (v := .inl (mI S 76 (mI S 75 3).toNatClampNeg)) rfl ?_
        refine zw_push hm_81 dX7_thingAt_5 (v := .inl (512 : Int32)) rfl ?_
        refine zw_if2 hm_81 dX7_thingAt_8 (t := 20) rfl zc2_ge ?_ ?_
        · intro hc
          rw [if_pos hc] at h
          refine zw_push hm_81 dX7_thingAt_20 (v := .inr (.inr none)) rfl ?_
          refine zw_aret hm_81 dX7_thingAt_21 ?_
          show ma_wp X d w 120 34 [(0, .inr (.inr (some 75))), (1, .inl l1), (2, .inl l2)] [.inr (.inr none)] S _
          refine zw_sto hm_120 dX10_spread_34 [(3, .inr (.inr none)), (0, .inr (.inr (some 75))), (1, .inl l1), (2, .inl l2)] rfl rfl rfl ?_
          refine zw_push hm_120 dX10_spread_35 (v := .inr (.inr (some 75))) rfl ?_
          refine zw_stk hm_120 dX10_spread_36 (st₉ := [.inr (.inr (some 75)), .inr (.inr (some 75))]) rfl rfl ?_
          refine zw_gf hm_120 dX10_spread_37 (v := .inl (mI S 75 3)) (zT_is hS s_75) (zT_t hS s_75) rfl f_10_28_10 rfl ?_
          refine zw_push hm_120 dX10_spread_40 (v := .inl (1 : Int32)) rfl ?_
          refine zw_stk hm_120 dX10_spread_41 (st₉ := [.inl ((mI S 75 3) + (1 : Int32)), .inr (.inr (some 75))]) rfl rfl ?_
          refine zw_pf hm_120 dX10_spread_42 (zT_is hS s_75) (zT_t hS s_75) p_10_28_10 zk_int ?_
          refine zw_push hm_120 dX10_spread_45 (v := .inr (.inr none)) rfl ?_
          refine zw_ifnull hm_120 dX10_spread_46 (t := 88) rfl (fun _ => ?_) (fun _ z => by cases z)
          refine zw_sto hm_120 dX10_spread_88 [(2, .inl (l2 + (1 : Int32))), (3, .inr (.inr none)), (0, .inr (.inr (some 75))), (1, .inl l1)] rfl rfl rfl ?_
          refine zw_goto hm_120 dX10_spread_91 (t := 2) rfl ?_
          exact zw_sub (ma_nd_of (ks := [0, 1, 2]) rfl (by decide)) (ma_nd_of (ks := [2, 3, 0, 1]) rfl (by decide)) (ma_le_cons rfl (ma_le_cons rfl (ma_le_cons rfl (ma_le_nil _)))) h
        · intro hc
          rw [if_neg hc] at h
          refine zw_push hm_81 dX7_thingAt_11 (v := .inr (.inr (some 69))) rfl ?_
          refine zw_gf hm_81 dX7_thingAt_12 (v := .inr (.inr (some 70))) (zT_is hS s_69) (zT_t hS s_69) rfl f_7_11_7 (zT_f hS r_69_0) ?_
          refine zw_push hm_81 dX7_thingAt_15 (v := .inl (mI S 76 (mI S 75 3).toNatClampNeg)) rfl ?_
          obtain ⟨hg, h⟩ := h
          refine zw_aa hm_81 dX7_thingAt_16 (zT_is hS s_70) (zT_h hS s_70) rfl rfl hg rfl ?_
          show ma_wp X (d - 1) (w - 21) 81 17 [(0, .inr (.inr (some 69))), (1, .inl (mI S 76 (mI S 75 3).toNatClampNeg))] [.inr (.inr (mR S 70 (mI S 76 (mI S 75 3).toNatClampNeg).toNatClampNeg))] S _
          refine zw_goto hm_81 dX7_thingAt_17 (t := 21) rfl ?_
          refine zw_aret hm_81 dX7_thingAt_21 ?_
          show ma_wp X d w 120 34 [(0, .inr (.inr (some 75))), (1, .inl l1), (2, .inl l2)] [.inr (.inr (mR S 70 (mI S 76 (mI S 75 3).toNatClampNeg).toNatClampNeg))] S _
          refine zw_sto hm_120 dX10_spread_34 [(3, .inr (.inr (mR S 70 (mI S 76 (mI S 75 3).toNatClampNeg).toNatClampNeg))), (0, .inr (.inr (some 75))), (1, .inl l1), (2, .inl l2)] rfl rfl rfl ?_
          refine zw_push hm_120 dX10_spread_35 (v := .inr (.inr (some 75))) rfl ?_
          refine zw_stk hm_120 dX10_spread_36 (st₉ := [.inr (.inr (some 75)), .inr (.inr (some 75))]) rfl rfl ?_
          refine zw_gf hm_120 dX10_spread_37 (v := .inl (mI S 75 3)) (zT_is hS s_75) (zT_t hS s_75) rfl f_10_28_10 rfl ?_
          refine zw_push hm_120 dX10_spread_40 (v := .inl (1 : Int32)) rfl ?_
          refine zw_stk hm_120 dX10_spread_41 (st₉ := [.inl ((mI S 75 3) + (1 : Int32)), .inr (.inr (some 75))]) rfl rfl ?_
          refine zw_pf hm_120 dX10_spread_42 (zT_is hS s_75) (zT_t hS s_75) p_10_28_10 zk_int ?_
          refine zw_push hm_120 dX10_spread_45 (v := .inr (.inr (mR S 70 (mI S 76 (mI S 75 3).toNatClampNeg).toNatClampNeg))) rfl ?_
          refine zw_ifnull hm_120 dX10_spread_46 (t := 88) rfl ?_ ?_
          · intro hc
            have h := h.1 hc
            (try rw [hc])
            show ma_wp X d w 120 88 [(3, .inr (.inr none)), (0, .inr (.inr (some 75))), (1, .inl l1), (2, .inl l2)] [] (ma_put S 75 3 (.inl ((mI S 75 3) + (1 : Int32)))) _
            refine zw_sto hm_120 dX10_spread_88 [(2, .inl (l2 + (1 : Int32))), (3, .inr (.inr none)), (0, .inr (.inr (some 75))), (1, .inl l1)] rfl rfl rfl ?_
            refine zw_goto hm_120 dX10_spread_91 (t := 2) rfl ?_
            exact zw_sub (ma_nd_of (ks := [0, 1, 2]) rfl (by decide)) (ma_nd_of (ks := [2, 3, 0, 1]) rfl (by decide)) (ma_le_cons rfl (ma_le_cons rfl (ma_le_cons rfl (ma_le_nil _)))) h
          · intro c1 hc
            have h := h.2 c1 hc
            (try rw [hc])
            show ma_wp X d w 120 49 [(3, .inr (.inr (some c1))), (0, .inr (.inr (some 75))), (1, .inl l1), (2, .inl l2)] [] (ma_put S 75 3 (.inl ((mI S 75 3) + (1 : Int32)))) _
            refine zw_push hm_120 dX10_spread_49 (v := .inr (.inr (some 75))) rfl ?_
            refine zw_push hm_120 dX10_spread_50 (v := .inr (.inr (some c1))) rfl ?_
            refine zw_cv hm_120 dX10_spread_51 v_10_86_10 hm_121 [.inr (.inr (some c1))] [] rfl (zT_rt (zT_pi hS) s_75 rfl) ⟨by omega, by omega⟩ rfl (zw_mono h (zv_go ?_ ?_))
            · intro S2 hv
              obtain ⟨hS2, h⟩ := hv
              refine zw_push hm_120 dX10_spread_54 (v := .inl (0 : Int32)) rfl ?_
              refine zw_sto hm_120 dX10_spread_55 [(4, .inl (0 : Int32)), (3, .inr (.inr (some c1))), (0, .inr (.inr (some 75))), (1, .inl l1), (2, .inl l2)] rfl rfl rfl ?_
              exact zw_sub (ma_nd_of (ks := [0, 1, 2, 3, 4]) rfl (by decide)) (ma_nd_of (ks := [4, 3, 0, 1, 2]) rfl (by decide)) (ma_le_cons rfl (ma_le_cons rfl (ma_le_cons rfl (ma_le_cons rfl (ma_le_cons rfl (ma_le_nil _)))))) h
            · intro x S9 hx
              exact ⟨by decide, hx⟩
theorem g_120_75_57 {X : Nat × (Nat → Int32)} {d w : Nat} {S : ma_S} {Q : Option ma_V ⊕ Nat → ma_S → Prop} (l1 : Int32) (l2 : Int32) (l3 : Nat) (l4 : Int32) (hd : 1 ≤ d) (hw : 25 ≤ w) (hS : zT S) (h : (126 ≤ l3 ∧ l3 < mN S) ∧ (if ((mI S l3 2) - (1 : Int32)) ≤ l4 then (ma_wp X d w 120 2 [(0, .inr (.inr (some 75))), (1, .inl l1), (2, .inl (l2 + (1 : Int32)))] [] S Q) else (ma_wp X (d - 1) (w - 25) 82 0 [(0, .inr (.inr (some 69))), (1, .inr (.inr (some l3))), (2, .inl l4)] [] S (zo (fun v2 S1 => zT S1 ∧ (ma_wp X (d - 1) (w - 21) 119 0 [(0, .inr (.inr (some 75))), (1, .inr (.inr v2))] [] S1 (zv (fun S3 => zT S3 ∧ (ma_wp X d w 120 57 [(0, .inr (.inr (some 75))), (1, .inl l1), (2, .inl l2), (3, .inr (.inr (some l3))), (4, .inl (l4 + (1 : Int32)))] [] S3 Q)) (fun x S9 => Q (.inr x) S9)))) (fun x S9 => Q (.inr x) S9))))) : ma_wp X d w 120 57 [(0, .inr (.inr (some 75))), (1, .inl l1), (2, .inl l2), (3, .inr (.inr (some l3))), (4, .inl l4)] [] S Q := by
  refine zw_push hm_120 dX10_spread_57 (v := .inl l4) rfl ?_
  refine zw_push hm_120 dX10_spread_59 (v := .inr (.inr (some l3))) rfl ?_
  obtain ⟨hg, h⟩ := h
  refine zw_gf hm_120 dX10_spread_60 (v := .inl (mI S l3 2)) (zT_tis hS hg) (zT_tt hS hg) rfl f_10_89_9 rfl ?_
  refine zw_push hm_120 dX10_spread_63 (v := .inl (1 : Int32)) rfl ?_
  refine zw_stk hm_120 dX10_spread_64 (st₉ := [.inl ((mI S l3 2) - (1 : Int32)), .inl l4]) rfl rfl ?_
  refine zw_if2 hm_120 dX10_spread_65 (t := 88) rfl zc2_ge ?_ ?_
  · intro hc
    rw [if_pos hc] at h
    refine zw_sto hm_120 dX10_spread_88 [(2, .inl (l2 + (1 : Int32))), (0, .inr (.inr (some 75))), (1, .inl l1), (3, .inr (.inr (some l3))), (4, .inl l4)] rfl rfl rfl ?_
    refine zw_goto hm_120 dX10_spread_91 (t := 2) rfl ?_
    exact zw_sub (ma_nd_of (ks := [0, 1, 2]) rfl (by decide)) (ma_nd_of (ks := [2, 0, 1, 3, 4]) rfl (by decide)) (ma_le_cons rfl (ma_le_cons rfl (ma_le_cons rfl (ma_le_nil _)))) h
  · intro hc
    rw [if_neg hc] at h
    refine zw_push hm_120 dX10_spread_68 (v := .inr (.inr (some 75))) rfl ?_
    refine zw_push hm_120 dX10_spread_69 (v := .inr (.inr (some 75))) rfl ?_
    refine zw_gf hm_120 dX10_spread_70 (v := .inr (.inr (some 69))) (zT_is hS s_75) (zT_t hS s_75) rfl f_10_18_10 (zT_f hS r_75_0) ?_
    refine zw_push hm_120 dX10_spread_73 (v := .inr (.inr (some l3))) rfl ?_
    refine zw_push hm_120 dX10_spread_74 (v := .inl l4) rfl ?_
    refine zw_cv hm_120 dX10_spread_76 v_10_92_7 hm_82 [.inl l4, .inr (.inr (some l3))] [.inr (.inr (some 75))] rfl (zT_rt hS s_69 rfl) ⟨by omega, by omega⟩ rfl (zw_mono h (zo_go ?_ ?_))
    · intro v2 S1 hv
      obtain ⟨hS1, h⟩ := hv
      refine zw_cv hm_120 dX10_spread_79 v_10_70_10 hm_119 [.inr (.inr v2)] [] rfl (zT_rt hS1 s_75 rfl) ⟨by omega, by omega⟩ rfl (zw_mono h (zv_go ?_ ?_))
      · intro S3 hv
        obtain ⟨hS3, h⟩ := hv
        refine zw_sto hm_120 dX10_spread_82 [(4, .inl (l4 + (1 : Int32))), (0, .inr (.inr (some 75))), (1, .inl l1), (2, .inl l2), (3, .inr (.inr (some l3)))] rfl rfl rfl ?_
        refine zw_goto hm_120 dX10_spread_85 (t := 57) rfl ?_
        exact zw_sub (ma_nd_of (ks := [0, 1, 2, 3, 4]) rfl (by decide)) (ma_nd_of (ks := [4, 0, 1, 2, 3]) rfl (by decide)) (ma_le_cons rfl (ma_le_cons rfl (ma_le_cons rfl (ma_le_cons rfl (ma_le_cons rfl (ma_le_nil _)))))) h
      · intro x S9 hx
        exact ⟨by decide, hx⟩
    · intro x S9 hx
      exact ⟨by decide, hx⟩
theorem lp_120_75_57 {X : Nat × (Nat → Int32)} {d w : Nat} {f : Nat → Nat → Int32} {r : Nat → Nat → Option Nat} {C Z N : Nat} {Q : Option ma_V ⊕ Nat → ma_S → Prop} (hd : 1 ≤ d) (hw : 25 ≤ w) (K : ∀ v S₉, zI f r C Z N S₉ → (True) → Q (.inl (some (.inl v))) S₉) {nB : Nat} (OUT : ∀ (S₉ : ma_S) (l1 : Int32) (l2 : Int32), (l1.toInt - l2.toInt).toNat < nB → zI f r C Z N S₉ → ma_wp X d w 120 2 [(0, .inr (.inr (some 75))), (1, .inl l1), (2, .inl l2)] [] S₉ Q) : ∀ (n : Nat) (S : ma_S) (l1 : Int32) (l2 : Int32) (l3 : Nat) (l4 : Int32), (61 - l4.toInt).toNat = n → zI f r C Z N S → (126 ≤ l3 ∧ l3 < N) → (l2.toInt < l1.toInt) → ((l1.toInt - l2.toInt).toNat = nB) → ma_wp X d w 120 57 [(0, .inr (.inr (some 75))), (1, .inl l1), (2, .inl l2), (3, .inr (.inr (some l3))), (4, .inl l4)] [] S Q := by
  intro n
  induction n using Nat.strongRecOn with
  | _ n IH =>
    intro S l1 l2 l3 l4 hmu hI th_l3 hi0 hi1
    refine g_120_75_57 l1 l2 l3 l4 (by omega) (by omega) (zG_T hI) ?_
    refine ⟨zG_n hI th_l3, ?_⟩
    have f1 := zG_th hI th_l3
    first | have e2 : ((mI S l3 2) - (1 : Int32)).toInt = (mI S l3 2).toInt - (1) := i_subk rfl (by omega) (by omega) | have b3 := i_bd ((mI S l3 2) - (1 : Int32))
    have b4 := i_bd l4
    refine zd (fun h5 => ?_) (fun h5 => ?_)
    · skip
      have g6 := i_le h5
      have b7 := i_bd l1
      have b8 := i_bd l2
      first | have e9 : (l2 + (1 : Int32)).toInt = l2.toInt + (1) := i_addk rfl (by omega) (by omega) | have b10 := i_bd (l2 + (1 : Int32))
      exact OUT _ (l1) ((l2 + (1 : Int32))) (by omega) hI 
    · skip
      have g11 := i_nle h5
      refine sp_82_69 l3 (l4) (by omega) (by omega) hI th_l3 (fun v2 S1 hI_S1 hq_v2 => zo_n ⟨zG_T hI_S1, ?_⟩)
      refine sp_119_75 (v2) (by omega) (by omega) hI_S1 hq_v2 (fun S3 hI_S3 => zv_n ⟨zG_T hI_S3, ?_⟩)
      have b12 := i_bd l1
      have b13 := i_bd l2
      first | have e14 : (l4 + (1 : Int32)).toInt = l4.toInt + (1) := i_addk rfl (by omega) (by omega) | have b15 := i_bd (l4 + (1 : Int32))
      exact IH _ (by omega) _ (l1) (l2) l3 ((l4 + (1 : Int32))) rfl hI_S3 th_l3 (by omega) (by omega)
theorem lp_120_75_2 {X : Nat × (Nat → Int32)} {d w : Nat} {f : Nat → Nat → Int32} {r : Nat → Nat → Option Nat} {C Z N : Nat} {Q : Option ma_V ⊕ Nat → ma_S → Prop} (hd : 1 ≤ d) (hw : 25 ≤ w) (K : ∀ v S₉, zI f r C Z N S₉ → (True) → Q (.inl (some (.inl v))) S₉) : ∀ (n : Nat) (S : ma_S) (l1 : Int32) (l2 : Int32), (l1.toInt - l2.toInt).toNat = n → zI f r C Z N S → ma_wp X d w 120 2 [(0, .inr (.inr (some 75))), (1, .inl l1), (2, .inl l2)] [] S Q := by
  intro n
  induction n using Nat.strongRecOn with
  | _ n IH =>
    intro S l1 l2 hmu hI  
    refine g_120_75_2 l1 l2 (by omega) (by omega) (zG_T hI) ?_
    have b1 := i_bd l1
    have b2 := i_bd l2
    refine zd (fun h3 => ?_) (fun h3 => ?_)
    · skip
      have g4 := i_le h3
      exact K (l2) _ hI trivial
    · skip
      have g5 := i_nle h3
      have f6 := zG_s hI (0) (512) (c := 75) (k := 4) (by decide)
      have f7 := zG_s hI (0) (512) (c := 75) (k := 3) (by decide)
      refine zd (fun h8 => ?_) (fun h8 => ?_)
      · skip
        have g9 := i_le h8
        exact K (l2) _ hI trivial
      · skip
        have g10 := i_nle h8
        refine ⟨i_ix (by omega) (by omega), ?_⟩
        have b11 := i_bd (mI S 76 (mI S 75 3).toNatClampNeg)
        have li12 : (0 : Int32).toInt = 0 := rfl
        refine zd (fun h13 => ?_) (fun h13 => ?_)
        · skip
          have g14 := i_lt h13
          first | have e16 : ((mI S 75 3) + (1 : Int32)).toInt = (mI S 75 3).toInt + (1) := i_addk rfl (by omega) (by omega) | have b17 := i_bd ((mI S 75 3) + (1 : Int32))
          have hI15 : zI f r C Z N (ma_put S 75 3 (.inl ((mI S 75 3) + (1 : Int32)))) := zG_sp hI (0) (512) rfl (by decide) (by decide) (by decide) trivial (by omega) (by omega)
          first | have e18 : (l2 + (1 : Int32)).toInt = l2.toInt + (1) := i_addk rfl (by omega) (by omega) | have b19 := i_bd (l2 + (1 : Int32))
          exact IH _ (by omega) _ (l1) ((l2 + (1 : Int32))) rfl hI15 
        · skip
          have g20 := i_nlt h13
          have li21 : (512 : Int32).toInt = 512 := rfl
          refine zd (fun h22 => ?_) (fun h22 => ?_)
          · skip
            have g23 := i_le h22
            first | have e25 : ((mI S 75 3) + (1 : Int32)).toInt = (mI S 75 3).toInt + (1) := i_addk rfl (by omega) (by omega) | have b26 := i_bd ((mI S 75 3) + (1 : Int32))
            have hI24 : zI f r C Z N (ma_put S 75 3 (.inl ((mI S 75 3) + (1 : Int32)))) := zG_sp hI (0) (512) rfl (by decide) (by decide) (by decide) trivial (by omega) (by omega)
            first | have e27 : (l2 + (1 : Int32)).toInt = l2.toInt + (1) := i_addk rfl (by omega) (by omega) | have b28 := i_bd (l2 + (1 : Int32))
            exact IH _ (by omega) _ (l1) ((l2 + (1 : Int32))) rfl hI24 
          · skip
            have g29 := i_nle h22
            refine ⟨i_ix (by omega) (by omega), ?_⟩
            refine ⟨fun _ => ?_, fun c1 hc => ?_⟩
            · skip
              first | have e31 : ((mI S 75 3) + (1 : Int32)).toInt = (mI S 75 3).toInt + (1) := i_addk rfl (by omega) (by omega) | have b32 := i_bd ((mI S 75 3) + (1 : Int32))
              have hI30 : zI f r C Z N (ma_put S 75 3 (.inl ((mI S 75 3) + (1 : Int32)))) := zG_sp hI (0) (512) rfl (by decide) (by decide) (by decide) trivial (by omega) (by omega)
              first | have e33 : (l2 + (1 : Int32)).toInt = l2.toInt + (1) := i_addk rfl (by omega) (by omega) | have b34 := i_bd (l2 + (1 : Int32))
              exact IH _ (by omega) _ (l1) ((l2 + (1 : Int32))) rfl hI30 
            · skip
              have th_c1 := (fun _ z => zG_70 hI (c := 70) (by decide) z) c1 hc
              first | have e36 : ((mI S 75 3) + (1 : Int32)).toInt = (mI S 75 3).toInt + (1) := i_addk rfl (by omega) (by omega) | have b37 := i_bd ((mI S 75 3) + (1 : Int32))
              have hI35 : zI f r C Z N (ma_put S 75 3 (.inl ((mI S 75 3) + (1 : Int32)))) := zG_sp hI (0) (512) rfl (by decide) (by decide) (by decide) trivial (by omega) (by omega)
              refine sp_121_75 c1 (by omega) (by omega) hI35 th_c1 (fun S2 hI_S2 => zv_n ⟨zG_T hI_S2, ?_⟩)
              exact lp_120_75_57 (by omega) (by omega) K (fun _ _ _ z1 z2  => IH _ z1 _ _ _ rfl z2 ) _ _ (l1) (l2) c1 ((0 : Int32)) rfl hI_S2 th_c1 (by omega) (by omega)
theorem sp_120_75 {X : Nat × (Nat → Int32)} {d w : Nat} {f : Nat → Nat → Int32} {r : Nat → Nat → Option Nat} {C Z N : Nat} {Q : Option ma_V ⊕ Nat → ma_S → Prop} {S : ma_S} (m : Int32) (hd : 1 ≤ d) (hw : 25 ≤ w) (hI : zI f r C Z N S)  (K : ∀ v S₉, zI f r C Z N S₉ → (True) → Q (.inl (some (.inl v))) S₉) : ma_wp X d w 120 0 [(0, .inr (.inr (some 75))), (1, .inl m)] [] S Q := by
  refine g_120_75_0 m (by omega) (by omega) (zG_T hI) ?_
  have b1 := i_bd m
  have li2 : (0 : Int32).toInt = 0 := rfl
  exact lp_120_75_2 (by omega) (by omega) K _ _ (m) ((0 : Int32)) rfl hI 
theorem g_116_75_0 {X : Nat × (Nat → Int32)} {d w : Nat} {S : ma_S} {Q : Option ma_V ⊕ Nat → ma_S → Prop}  (hd : 2 ≤ d) (hw : 49 ≤ w) (hS : zT S) (h : ma_wp X (d - 1) (w - 21) 117 0 [(0, .inr (.inr (some 75))), (1, .inl (0 : Int32))] [] S (zv (fun S1 => zT S1 ∧ (ma_wp X (d - 1) (w - 22) 118 0 [(0, .inr (.inr (some 75)))] [] S1 (zv (fun S3 => zT S3 ∧ (ma_wp X (d - 1) (w - 24) 120 0 [(0, .inr (.inr (some 75))), (1, .inl (512 : Int32))] [] S3 (zi (fun v6 S5 => zT S5 ∧ (Q (.inl none) S5)) (fun x S9 => Q (.inr x) S9)))) (fun x S9 => Q (.inr x) S9)))) (fun x S9 => Q (.inr x) S9))) : ma_wp X d w 116 0 [(0, .inr (.inr (some 75)))] [] S Q := by
  refine zw_push hm_116 dX10_reachAll_0 (v := .inr (.inr (some 75))) rfl ?_
  refine zw_push hm_116 dX10_reachAll_1 (v := .inl (0 : Int32)) rfl ?_
  refine zw_cv hm_116 dX10_reachAll_2 v_10_38_10 hm_117 [.inl (0 : Int32)] [] rfl (zT_rt hS s_75 rfl) ⟨by omega, by omega⟩ rfl (zw_mono h (zv_go ?_ ?_))
  · intro S1 hv
    obtain ⟨hS1, h⟩ := hv
    refine zw_push hm_116 dX10_reachAll_5 (v := .inr (.inr (some 75))) rfl ?_
    refine zw_cv hm_116 dX10_reachAll_6 v_10_42_10 hm_118 [] [] rfl (zT_rt hS1 s_75 rfl) ⟨by omega, by omega⟩ rfl (zw_mono h (zv_go ?_ ?_))
    · intro S3 hv
      obtain ⟨hS3, h⟩ := hv
      refine zw_push hm_116 dX10_reachAll_9 (v := .inr (.inr (some 75))) rfl ?_
      refine zw_push hm_116 dX10_reachAll_10 (v := .inl (512 : Int32)) rfl ?_
      refine zw_cv hm_116 dX10_reachAll_13 v_10_45_10 hm_120 [.inl (512 : Int32)] [] rfl (zT_rt hS3 s_75 rfl) ⟨by omega, by omega⟩ rfl (zw_mono h (zi_go ?_ ?_))
      · intro v6 S5 hv
        obtain ⟨hS5, h⟩ := hv
        refine zw_stk hm_116 dX10_reachAll_16 (st₉ := []) rfl rfl ?_
        exact zw_vret hm_116 dX10_reachAll_17 h
      · intro x S9 hx
        exact ⟨by decide, hx⟩
    · intro x S9 hx
      exact ⟨by decide, hx⟩
  · intro x S9 hx
    exact ⟨by decide, hx⟩
theorem sp_116_75 {X : Nat × (Nat → Int32)} {d w : Nat} {f : Nat → Nat → Int32} {r : Nat → Nat → Option Nat} {C Z N : Nat} {Q : Option ma_V ⊕ Nat → ma_S → Prop} {S : ma_S}  (hd : 2 ≤ d) (hw : 49 ≤ w) (hI : zI f r C Z N S)  (K : ∀ S₉, zI f r C Z N S₉ → Q (.inl none) S₉) : ma_wp X d w 116 0 [(0, .inr (.inr (some 75)))] [] S Q := by
  refine g_116_75_0  (by omega) (by omega) (zG_T hI) ?_
  have li1 : (0 : Int32).toInt = 0 := rfl
  refine sp_117_75 ((0 : Int32)) (by omega) (by omega) hI  (fun S1 hI_S1 => zv_n ⟨zG_T hI_S1, ?_⟩)
  refine sp_118_75  (by omega) (by omega) hI_S1  (fun S3 hI_S3 => zv_n ⟨zG_T hI_S3, ?_⟩)
  have li2 : (512 : Int32).toInt = 512 := rfl
  refine sp_120_75 ((512 : Int32)) (by omega) (by omega) hI_S3  (fun v6 S5 hI_S5 hp_v6 => zi_n ⟨zG_T hI_S5, ?_⟩)
  exact K _ hI_S5
theorem g_84_69_0 {X : Nat × (Nat → Int32)} {d w : Nat} {S : ma_S} {Q : Option ma_V ⊕ Nat → ma_S → Prop} (t : Nat) (hd : 1 ≤ d) (hw : 22 ≤ w) (hS : zT S) (h : ma_wp X (d - 1) (w - 22) 85 0 [(0, .inr (.inr (some 69))), (1, .inr (.inr (some t)))] [] S (zv (fun S1 => zT S1 ∧ ((126 ≤ t ∧ t < mN S1) ∧ (if (512 : Int32) ≤ (mI (ma_put S1 t 8 (.inl (0 : Int32))) 69 5) then (Q (.inl none) (ma_put S1 t 8 (.inl (0 : Int32)))) else ((126 ≤ t ∧ t < mN (ma_put S1 t 8 (.inl (0 : Int32)))) ∧ ((0 ≤ (mI (ma_put S1 t 8 (.inl (0 : Int32))) 69 5) ∧ (mI (ma_put S1 t 8 (.inl (0 : Int32))) 69 5).toNatClampNeg < 512) ∧ ((126 ≤ t ∧ t < mN (ma_put (ma_put (ma_put S1 t 8 (.inl (0 : Int32))) 74 (mI (ma_put S1 t 8 (.inl (0 : Int32))) 69 5).toNatClampNeg (.inl (mI (ma_put S1 t 8 (.inl (0 : Int32))) t 0))) 69 5 (.inl ((mI (ma_put S1 t 8 (.inl (0 : Int32))) 69 5) + (1 : Int32))))) ∧ ((126 ≤ t ∧ t < mN (ma_put (ma_put (ma_put S1 t 8 (.inl (0 : Int32))) 74 (mI (ma_put S1 t 8 (.inl (0 : Int32))) 69 5).toNatClampNeg (.inl (mI (ma_put S1 t 8 (.inl (0 : Int32))) t 0))) 69 5 (.inl ((mI (ma_put S1 t 8 (.inl (0 : Int32))) 69 5) + (1 : Int32))))) ∧ (Q (.inl none) (ma_put (ma_put (ma_put (ma_put S1 t 8 (.inl (0 : Int32))) 74 (mI (ma_put S1 t 8 (.inl (0 : Int32))) 69 5).toNatClampNeg (.inl (mI (ma_put S1 t 8 (.inl (0 : Int32))) t 0))) 69 5 (.inl ((mI (ma_put S1 t 8 (.inl (0 : Int32))) 69 5) + (1 : Int32)))) t 6 (.inl ((mI (ma_put (ma_put (ma_put S1 t 8 (.inl (0 : Int32))) 74 (mI (ma_put S1 t 8 (.inl (0 : Int32))) 69 5).toNatClampNeg (.inl (mI (ma_put S1 t 8 (.inl (0 : Int32))) t 0))) 69 5 (.inl ((mI (ma_put S1 t 8 (.inl (0 : Int32))) 69 5) + (1 : Int32)))) t 6) + (1 : Int32)))))))))))) (fun x S9 => Q (.inr x) S9))) : ma_wp X d w 84 0 [(0, .inr (.inr (some 69))), (1, .inr (.inr (some t)))] [] S Q := by
  refine zw_push hm_84 dX7_grant_0 (v := .inr (.inr (some 69))) rfl ?_
  refine zw_push hm_84 dX7_grant_1 (v := .inr (.inr (some t))) rfl ?_
  refine zw_cv hm_84 dX7_grant_2 v_7_104_7 hm_85 [.inr (.inr (some t))] [] rfl (zT_rt hS s_69 rfl) ⟨by omega, by omega⟩ rfl (zw_mono h (zv_go ?_ ?_))
  · intro S1 hv
    obtain ⟨hS1, h⟩ := hv
    refine zw_push hm_84 dX7_grant_5 (v := .inr (.inr (some t))) rfl ?_
    refine zw_push hm_84 dX7_grant_6 (v := .inl (0 : Int32)) rfl ?_
    obtain ⟨hg, h⟩ := h
    refine zw_pf hm_84 dX7_grant_7 (zT_tis hS1 hg) (zT_tt hS1 hg) p_7_108_9 (zk_bool (by decide)) ?_
    refine zw_push hm_84 dX7_grant_10 (v := .inr (.inr (some 69))) rfl ?_
    refine zw_gf hm_84 dX7_grant_11 (v := .inl (mI (ma_put S1 t 8 (.inl (0 : Int32))) 69 5)) (zT_is (zT_pi hS1) s_69) (zT_t (zT_pi hS1) s_69) rfl f_7_36_7 rfl ?_
    refine zw_push hm_84 dX7_grant_14 (v := .inl (512 : Int32)) rfl ?_
    refine zw_if2 hm_84 dX7_grant_17 (t := 53) rfl zc2_ge ?_ ?_
    · intro hc
      rw [if_pos hc] at h
      exact zw_vret hm_84 dX7_grant_53 h
    · intro hc
      rw [if_neg hc] at h
      refine zw_push hm_84 dX7_grant_20 (v := .inr (.inr (some 69))) rfl ?_
      refine zw_gf hm_84 dX7_grant_21 (v := .inr (.inr (some 74))) (zT_is (zT_pi hS1) s_69) (zT_t (zT_pi hS1) s_69) rfl f_7_27_7 (zT_f (zT_pi hS1) r_69_4) ?_
      refine zw_push hm_84 dX7_grant_24 (v := .inr (.inr (some 69))) rfl ?_
      refine zw_gf hm_84 dX7_grant_25 (v := .inl (mI (ma_put S1 t 8 (.inl (0 : Int32))) 69 5)) (zT_is (zT_pi hS1) s_69) (zT_t (zT_pi hS1) s_69) rfl f_7_36_7 rfl ?_
      refine zw_push hm_84 dX7_grant_28 (v := .inr (.inr (some t))) rfl ?_
      obtain ⟨hg, h⟩ := h
      refine zw_gf hm_84 dX7_grant_29 (v := .inl (mI (ma_put S1 t 8 (.inl (0 : Int32))) t 0)) (zT_tis (zT_pi hS1) hg) (zT_tt (zT_pi hS1) hg) rfl f_7_67_9 rfl ?_
      obtain ⟨hg, h⟩ := h
      refine zw_ias hm_84 dX7_grant_32 (zT_is (zT_pi hS1) s_74) (zT_h (zT_pi hS1) s_74) rfl hg ?_
      refine zw_push hm_84 dX7_grant_33 (v := .inr (.inr (some 69))) rfl ?_
      refine zw_stk hm_84 dX7_grant_34 (st₉ := [.inr (.inr (some 69)), .inr (.inr (some 69))]) rfl rfl ?_
      refine zw_gf hm_84 dX7_grant_35 (v := .inl (mI (ma_put S1 t 8 (.inl (0 : Int32))) 69 5)) (zT_is (zT_pi (zT_pi hS1)) s_69) (zT_t (zT_pi (zT_pi hS1)) s_69) rfl f_7_36_7 rfl ?_
      refine zw_push hm_84 dX7_grant_38 (v := .inl (1 : Int32)) rfl ?_
      refine zw_stk hm_84 dX7_grant_39 (st₉ := [.inl ((mI (ma_put S1 t 8 (.inl (0 : Int32))) 69 5) + (1 : Int32)), .inr (.inr (some 69))]) rfl rfl ?_
      refine zw_pf hm_84 dX7_grant_40 (zT_is (zT_pi (zT_pi hS1)) s_69) (zT_t (zT_pi (zT_pi hS1)) s_69) p_7_36_7 zk_int ?_
      refine zw_push hm_84 dX7_grant_43 (v := .inr (.inr (some t))) rfl ?_
      refine zw_stk hm_84 dX7_grant_44 (st₉ := [.inr (.inr (some t)), .inr (.inr (some t))]) rfl rfl ?_
      obtain ⟨hg, h⟩ := h
      refine zw_gf hm_84 dX7_grant_45 (v := .inl (mI (ma_put (ma_put (ma_put S1 t 8 (.inl (0 : Int32))) 74 (mI (ma_put S1 t 8 (.inl (0 : Int32))) 69 5).toNatClampNeg (.inl (mI (ma_put S1 t 8 (.inl (0 : Int32))) t 0))) 69 5 (.inl ((mI (ma_put S1 t 8 (.inl (0 : Int32))) 69 5) + (1 : Int32)))) t 6)) (zT_tis (zT_pi (zT_pi (zT_pi hS1))) hg) (zT_tt (zT_pi (zT_pi (zT_pi hS1))) hg) rfl f_7_98_9 rfl ?_
      refine zw_push hm_84 dX7_grant_48 (v := .inl (1 : Int32)) rfl ?_
      refine zw_stk hm_84 dX7_grant_49 (st₉ := [.inl ((mI (ma_put (ma_put (ma_put S1 t 8 (.inl (0 : Int32))) 74 (mI (ma_put S1 t 8 (.inl (0 : Int32))) 69 5).toNatClampNeg (.inl (mI (ma_put S1 t 8 (.inl (0 : Int32))) t 0))) 69 5 (.inl ((mI (ma_put S1 t 8 (.inl (0 : Int32))) 69 5) + (1 : Int32)))) t 6) + (1 : Int32)), .inr (.inr (some t))]) rfl rfl ?_
      obtain ⟨hg, h⟩ := h
      refine zw_pf hm_84 dX7_grant_50 (zT_tis (zT_pi (zT_pi (zT_pi hS1))) hg) (zT_tt (zT_pi (zT_pi (zT_pi hS1))) hg) p_7_98_9 zk_int ?_
      exact zw_vret hm_84 dX7_grant_53 h
  · intro x S9 hx
    exact ⟨by decide, hx⟩
theorem sp_84_69 {X : Nat × (Nat → Int32)} {d w : Nat} {f : Nat → Nat → Int32} {r : Nat → Nat → Option Nat} {C Z N : Nat} {Q : Option ma_V ⊕ Nat → ma_S → Prop} {S : ma_S} (t : Nat) (hd : 1 ≤ d) (hw : 22 ≤ w) (hI : zI f r C Z N S) (th_t : 126 ≤ t ∧ t < N) (K : ∀ S₉, zI f r C Z N S₉ → Q (.inl none) S₉) : ma_wp X d w 84 0 [(0, .inr (.inr (some 69))), (1, .inr (.inr (some t)))] [] S Q := by
  refine g_84_69_0 t (by omega) (by omega) (zG_T hI) ?_
  refine sp_85_69 t (by omega) (by omega) hI th_t (fun S1 hI_S1 => zv_n ⟨zG_T hI_S1, ?_⟩)
  refine ⟨zG_n hI_S1 th_t, ?_⟩
  have li1 : (512 : Int32).toInt = 512 := rfl
  have hI3 : zI f r C Z N (ma_put S1 t 8 (.inl (0 : Int32))) := zG_tf hI_S1 th_t.1 zI_t (by decide) (by decide) trivial (by decide) (by decide) (by decide)
  have f2 := zG_s hI3 (0) (512) (c := 69) (k := 5) (by decide)
  refine zd (fun h4 => ?_) (fun h4 => ?_)
  · skip
    have g5 := i_le h4
    exact K _ hI3
  · skip
    have g6 := i_nle h4
    refine ⟨zG_n hI3 th_t, ?_⟩
    refine ⟨i_ix (by omega) (by omega), ?_⟩
    have hI7 : zI f r C Z N (ma_put (ma_put S1 t 8 (.inl (0 : Int32))) 74 (mI (ma_put S1 t 8 (.inl (0 : Int32))) 69 5).toNatClampNeg (.inl (mI (ma_put S1 t 8 (.inl (0 : Int32))) t 0))) := zG_fa hI3 rfl (by decide) (by decide) (by decide) trivial
    first | have e9 : ((mI (ma_put S1 t 8 (.inl (0 : Int32))) 69 5) + (1 : Int32)).toInt = (mI (ma_put S1 t 8 (.inl (0 : Int32))) 69 5).toInt + (1) := i_addk rfl (by omega) (by omega) | have b10 := i_bd ((mI (ma_put S1 t 8 (.inl (0 : Int32))) 69 5) + (1 : Int32))
    have hI8 : zI f r C Z N (ma_put (ma_put (ma_put S1 t 8 (.inl (0 : Int32))) 74 (mI (ma_put S1 t 8 (.inl (0 : Int32))) 69 5).toNatClampNeg (.inl (mI (ma_put S1 t 8 (.inl (0 : Int32))) t 0))) 69 5 (.inl ((mI (ma_put S1 t 8 (.inl (0 : Int32))) 69 5) + (1 : Int32)))) := zG_sp hI7 (0) (512) rfl (by decide) (by decide) (by decide) trivial (by omega) (by omega)
    refine ⟨zG_n hI8 th_t, ?_⟩
    refine ⟨zG_n hI8 th_t, ?_⟩
    have hI11 : zI f r C Z N (ma_put (ma_put (ma_put (ma_put S1 t 8 (.inl (0 : Int32))) 74 (mI (ma_put S1 t 8 (.inl (0 : Int32))) 69 5).toNatClampNeg (.inl (mI (ma_put S1 t 8 (.inl (0 : Int32))) t 0))) 69 5 (.inl ((mI (ma_put S1 t 8 (.inl (0 : Int32))) 69 5) + (1 : Int32)))) t 6 (.inl ((mI (ma_put (ma_put (ma_put S1 t 8 (.inl (0 : Int32))) 74 (mI (ma_put S1 t 8 (.inl (0 : Int32))) 69 5).toNatClampNeg (.inl (mI (ma_put S1 t 8 (.inl (0 : Int32))) t 0))) 69 5 (.inl ((mI (ma_put S1 t 8 (.inl (0 : Int32))) 69 5) + (1 : Int32)))) t 6) + (1 : Int32)))) := zG_tf hI8 th_t.1 zI_t (by decide) (by decide) trivial (by decide) (by decide) (by decide)
    exact K _ hI11
theorem g_98_69_0 {X : Nat × (Nat → Int32)} {d w : Nat} {S : ma_S} {Q : Option ma_V ⊕ Nat → ma_S → Prop}  (hd : 1 ≤ d) (hw : 21 ≤ w) (hS : zT S) (h : if 0 < (mI S 69 5) then (if (mI S 74 0) < 0 then (ma_wp X d w 98 32 [(0, .inr (.inr (some 69))), (1, .inr (.inr none)), (2, .inl (0 : Int32))] [] (ma_put S 69 5 (.inl ((mI S 69 5) - (1 : Int32)))) Q) else (if (512 : Int32) ≤ (mI S 74 0) then (ma_wp X d w 98 32 [(0, .inr (.inr (some 69))), (1, .inr (.inr none)), (2, .inl (0 : Int32))] [] (ma_put S 69 5 (.inl ((mI S 69 5) - (1 : Int32)))) Q) else ((0 ≤ (mI S 74 0) ∧ (mI S 74 0).toNatClampNeg < 512) ∧ (ma_wp X d w 98 32 [(0, .inr (.inr (some 69))), (1, .inr (.inr (mR S 70 (mI S 74 0).toNatClampNeg))), (2, .inl (0 : Int32))] [] (ma_put S 69 5 (.inl ((mI S 69 5) - (1 : Int32)))) Q)))) else (Q (.inl (some (.inr (.inr none)))) S)) : ma_wp X d w 98 0 [(0, .inr (.inr (some 69)))] [] S Q := by
  refine zw_push hm_98 dX7_takeWish_0 (v := .inr (.inr (some 69))) rfl ?_
  refine zw_gf hm_98 dX7_takeWish_1 (v := .inl (mI S 69 5)) (zT_is hS s_69) (zT_t hS s_69) rfl f_7_36_7 rfl ?_
  refine zw_if0 hm_98 dX7_takeWish_4 (t := 9) rfl zc0_gt ?_ ?_
  · intro hc
    rw [if_pos hc] at h
    refine zw_push hm_98 dX7_takeWish_9 (v := .inr (.inr (some 69))) rfl ?_
    refine zw_push hm_98 dX7_takeWish_10 (v := .inr (.inr (some 69))) rfl ?_
    refine zw_gf hm_98 dX7_takeWish_11 (v := .inr (.inr (some 74))) (zT_is hS s_69) (zT_t hS s_69) rfl f_7_27_7 (zT_f hS r_69_4) ?_
    refine zw_push hm_98 dX7_takeWish_14 (v := .inl (0 : Int32)) rfl ?_
    refine zw_ia hm_98 dX7_takeWish_15 (zT_is hS s_74) (zT_h hS s_74) rfl ⟨by decide, by decide⟩ ?_
    show ma_wp X d w 98 16 [(0, .inr (.inr (some 69)))] [.inl (mI S 74 0), .inr (.inr (some 69))] S _
    refine zw_cv hm_98 dX7_takeWish_16 v_7_94_7 hm_81 [.inl (mI S 74 0)] [] rfl (zT_rt hS s_69 rfl) ⟨by omega, by omega⟩ rfl ?_
    show ma_wp X (d - 1) (w - 21) 81 0 [(0, .inr (.inr (some 69))), (1, .inl (mI S 74 0))] [] S _
    refine zw_push hm_81 dX7_thingAt_0 (v := .inl (mI S 74 0)) rfl ?_
    refine zw_if0 hm_81 dX7_thingAt_1 (t := 20) rfl zc0_lt ?_ ?_
    · intro hc
      rw [if_pos hc] at h
      refine zw_push hm_81 dX7_thingAt_20 (v := .inr (.inr none)) rfl ?_
      refine zw_aret hm_81 dX7_thingAt_21 ?_
      show ma_wp X d w 98 19 [(0, .inr (.inr (some 69)))] [.inr (.inr none)] S _
      refine zw_sto hm_98 dX7_takeWish_19 [(1, .inr (.inr none)), (0, .inr (.inr (some 69)))] rfl rfl rfl ?_
      refine zw_push hm_98 dX7_takeWish_20 (v := .inr (.inr (some 69))) rfl ?_
      refine zw_stk hm_98 dX7_takeWish_21 (st₉ := [.inr (.inr (some 69)), .inr (.inr (some 69))]) rfl rfl ?_
      refine zw_gf hm_98 dX7_takeWish_22 (v := .inl (mI S 69 5)) (zT_is hS s_69) (zT_t hS s_69) rfl f_7_36_7 rfl ?_
      refine zw_push hm_98 dX7_takeWish_25 (v := .inl (1 : Int32)) rfl ?_
      refine zw_stk hm_98 dX7_takeWish_26 (st₉ := [.inl ((mI S 69 5) - (1 : Int32)), .inr (.inr (some 69))]) rfl rfl ?_
      refine zw_pf hm_98 dX7_takeWish_27 (zT_is hS s_69) (zT_t hS s_69) p_7_36_7 zk_int ?_
      refine zw_push hm_98 dX7_takeWish_30 (v := .inl (0 : Int32)) rfl ?_
      refine zw_sto hm_98 dX7_takeWish_31 [(2, .inl (0 : Int32)), (1, .inr (.inr none)), (0, .inr (.inr (some 69)))] rfl rfl rfl ?_
      exact zw_sub (ma_nd_of (ks := [0, 1, 2]) rfl (by decide)) (ma_nd_of (ks := [2, 1, 0]) rfl (by decide)) (ma_le_cons rfl (ma_le_cons rfl (ma_le_cons rfl (ma_le_nil _)))) h
    · intro hc
      rw [if_neg hc] at h
      refine zw_push hm_81 dX7_thingAt_4 (v := .inl (mI S 74 0)) rfl ?_
      refine zw_push hm_81 dX7_thingAt_5 (v := .inl (512 : Int32)) rfl ?_
      refine zw_if2 hm_81 dX7_thingAt_8 (t := 20) rfl zc2_ge ?_ ?_
      · intro hc
        rw [if_pos hc] at h
        refine zw_push hm_81 dX7_thingAt_20 (v := .inr (.inr none)) rfl ?_
        refine zw_aret hm_81 dX7_thingAt_21 ?_
        show ma_wp X d w 98 19 [(0, .inr (.inr (some 69)))] [.inr (.inr none)] S _
        refine zw_sto hm_98 dX7_takeWish_19 [(1, .inr (.inr none)), (0, .inr (.inr (some 69)))] rfl rfl rfl ?_
        refine zw_push hm_98 dX7_takeWish_20 (v := .inr (.inr (some 69))) rfl ?_
        refine zw_stk hm_98 dX7_takeWish_21 (st₉ := [.inr (.inr (some 69)), .inr (.inr (some 69))]) rfl rfl ?_
        refine zw_gf hm_98 dX7_takeWish_22 (v := .inl (mI S 69 5)) (zT_is hS s_69) (zT_t hS s_69) rfl f_7_36_7 rfl ?_
        refine zw_push hm_98 dX7_takeWish_25 (v := .inl (1 : Int32)) rfl ?_
        refine zw_stk hm_98 dX7_takeWish_26 (st₉ := [.inl ((mI S 69 5) - (1 : Int32)), .inr (.inr (some 69))]) rfl rfl ?_
        refine zw_pf hm_98 dX7_takeWish_27 (zT_is hS s_69) (zT_t hS s_69) p_7_36_7 zk_int ?_
        refine zw_push hm_98 dX7_takeWish_30 (v := .inl (0 : Int32)) rfl ?_
        refine zw_sto hm_98 dX7_takeWish_31 [(2, .inl (0 : Int32)), (1, .inr (.inr none)), (0, .inr (.inr (some 69)))] rfl rfl rfl ?_
        exact zw_sub (ma_nd_of (ks := [0, 1, 2]) rfl (by decide)) (ma_nd_of (ks := [2, 1, 0]) rfl (by decide)) (ma_le_cons rfl (ma_le_cons rfl (ma_le_cons rfl (ma_le_nil _)))) h
      · intro hc
        rw [if_neg hc] at h
        refine zw_push hm_81 dX7_thingAt_11 (v := .inr (.inr (some 69))) rfl ?_
        refine zw_gf hm_81 dX7_thingAt_12 (v := .inr (.inr (some 70))) (zT_is hS s_69) (zT_t hS s_69) rfl f_7_11_7 (zT_f hS r_69_0) ?_
        refine zw_push hm_81 dX7_thingAt_15 (v := .inl (mI S 74 0)) rfl ?_
        obtain ⟨hg, h⟩ := h
        refine zw_aa hm_81 dX7_thingAt_16 (zT_is hS s_70) (zT_h hS s_70) rfl rfl hg rfl ?_
        show ma_wp X (d - 1) (w - 21) 81 17 [(0, .inr (.inr (some 69))), (1, .inl (mI S 74 0))] [.inr (.inr (mR S 70 (mI S 74 0).toNatClampNeg))] S _
        refine zw_goto hm_81 dX7_thingAt_17 (t := 21) rfl ?_
        refine zw_aret hm_81 dX7_thingAt_21 ?_
        show ma_wp X d w 98 19 [(0, .inr (.inr (some 69)))] [.inr (.inr (mR S 70 (mI S 74 0).toNatClampNeg))] S _
        refine zw_sto hm_98 dX7_takeWish_19 [(1, .inr (.inr (mR S 70 (mI S 74 0).toNatClampNeg))), (0, .inr (.inr (some 69)))] rfl rfl rfl ?_
        refine zw_push hm_98 dX7_takeWish_20 (v := .inr (.inr (some 69))) rfl ?_
        refine zw_stk hm_98 dX7_takeWish_21 (st₉ := [.inr (.inr (some 69)), .inr (.inr (some 69))]) rfl rfl ?_
        refine zw_gf hm_98 dX7_takeWish_22 (v := .inl (mI S 69 5)) (zT_is hS s_69) (zT_t hS s_69) rfl f_7_36_7 rfl ?_
        refine zw_push hm_98 dX7_takeWish_25 (v := .inl (1 : Int32)) rfl ?_
        refine zw_stk hm_98 dX7_takeWish_26 (st₉ := [.inl ((mI S 69 5) - (1 : Int32)), .inr (.inr (some 69))]) rfl rfl ?_
        refine zw_pf hm_98 dX7_takeWish_27 (zT_is hS s_69) (zT_t hS s_69) p_7_36_7 zk_int ?_
        refine zw_push hm_98 dX7_takeWish_30 (v := .inl (0 : Int32)) rfl ?_
        refine zw_sto hm_98 dX7_takeWish_31 [(2, .inl (0 : Int32)), (1, .inr (.inr (mR S 70 (mI S 74 0).toNatClampNeg))), (0, .inr (.inr (some 69)))] rfl rfl rfl ?_
        exact zw_sub (ma_nd_of (ks := [0, 1, 2]) rfl (by decide)) (ma_nd_of (ks := [2, 1, 0]) rfl (by decide)) (ma_le_cons rfl (ma_le_cons rfl (ma_le_cons rfl (ma_le_nil _)))) h
  · intro hc
    rw [if_neg hc] at h
    refine zw_push hm_98 dX7_takeWish_7 (v := .inr (.inr none)) rfl ?_
    exact zw_aret hm_98 dX7_takeWish_8 h
theorem g_98_69_32 {X : Nat × (Nat → Int32)} {d w : Nat} {S : ma_S} {Q : Option ma_V ⊕ Nat → ma_S → Prop} (l1 : Option Nat) (l2 : Int32) (hd : 1 ≤ d) (hw : 21 ≤ w) (hS : zT S) (h : if (mI S 69 5) ≤ l2 then ((l1 = none → Q (.inl (some (.inr (.inr none)))) S) ∧ (∀ c1, l1 = some c1 → (126 ≤ c1 ∧ c1 < mN S) ∧ ((126 ≤ c1 ∧ c1 < mN S) ∧ (Q (.inl (some (.inr (.inr (some c1))))) (ma_put S c1 6 (.inl ((mI S c1 6) - (1 : Int32)))))))) else ((0 ≤ (l2 + (1 : Int32)) ∧ (l2 + (1 : Int32)).toNatClampNeg < 512) ∧ ((0 ≤ l2 ∧ l2.toNatClampNeg < 512) ∧ (ma_wp X d w 98 32 [(0, .inr (.inr (some 69))), (1, .inr (.inr l1)), (2, .inl (l2 + (1 : Int32)))] [] (ma_put S 74 l2.toNatClampNeg (.inl (mI S 74 (l2 + (1 : Int32)).toNatClampNeg))) Q)))) : ma_wp X d w 98 32 [(0, .inr (.inr (some 69))), (1, .inr (.inr l1)), (2, .inl l2)] [] S Q := by
  refine zw_push hm_98 dX7_takeWish_32 (v := .inl l2) rfl ?_
  refine zw_push hm_98 dX7_takeWish_33 (v := .inr (.inr (some 69))) rfl ?_
  refine zw_gf hm_98 dX7_takeWish_34 (v := .inl (mI S 69 5)) (zT_is hS s_69) (zT_t hS s_69) rfl f_7_36_7 rfl ?_
  refine zw_if2 hm_98 dX7_takeWish_37 (t := 60) rfl zc2_ge ?_ ?_
  · intro hc
    rw [if_pos hc] at h
    refine zw_push hm_98 dX7_takeWish_60 (v := .inr (.inr l1)) rfl ?_
    refine zw_ifnull hm_98 dX7_takeWish_61 (t := 74) rfl ?_ ?_
    · intro hc
      have h := h.1 hc
      (try rw [hc])
      show ma_wp X d w 98 74 [(0, .inr (.inr (some 69))), (1, .inr (.inr none)), (2, .inl l2)] [] S _
      refine zw_push hm_98 dX7_takeWish_74 (v := .inr (.inr none)) rfl ?_
      exact zw_aret hm_98 dX7_takeWish_75 h
    · intro c1 hc
      have h := h.2 c1 hc
      (try rw [hc])
      show ma_wp X d w 98 64 [(0, .inr (.inr (some 69))), (1, .inr (.inr (some c1))), (2, .inl l2)] [] S _
      refine zw_push hm_98 dX7_takeWish_64 (v := .inr (.inr (some c1))) rfl ?_
      refine zw_stk hm_98 dX7_takeWish_65 (st₉ := [.inr (.inr (some c1)), .inr (.inr (some c1))]) rfl rfl ?_
      obtain ⟨hg, h⟩ := h
      refine zw_gf hm_98 dX7_takeWish_66 (v := .inl (mI S c1 6)) (zT_tis hS hg) (zT_tt hS hg) rfl f_7_98_9 rfl ?_
      refine zw_push hm_98 dX7_takeWish_69 (v := .inl (1 : Int32)) rfl ?_
      refine zw_stk hm_98 dX7_takeWish_70 (st₉ := [.inl ((mI S c1 6) - (1 : Int32)), .inr (.inr (some c1))]) rfl rfl ?_
      obtain ⟨hg, h⟩ := h
      refine zw_pf hm_98 dX7_takeWish_71 (zT_tis hS hg) (zT_tt hS hg) p_7_98_9 zk_int ?_
      refine zw_push hm_98 dX7_takeWish_74 (v := .inr (.inr (some c1))) rfl ?_
      exact zw_aret hm_98 dX7_takeWish_75 h
  · intro hc
    rw [if_neg hc] at h
    refine zw_push hm_98 dX7_takeWish_40 (v := .inr (.inr (some 69))) rfl ?_
    refine zw_gf hm_98 dX7_takeWish_41 (v := .inr (.inr (some 74))) (zT_is hS s_69) (zT_t hS s_69) rfl f_7_27_7 (zT_f hS r_69_4) ?_
    refine zw_push hm_98 dX7_takeWish_44 (v := .inl l2) rfl ?_
    refine zw_push hm_98 dX7_takeWish_45 (v := .inr (.inr (some 69))) rfl ?_
    refine zw_gf hm_98 dX7_takeWish_46 (v := .inr (.inr (some 74))) (zT_is hS s_69) (zT_t hS s_69) rfl f_7_27_7 (zT_f hS r_69_4) ?_
    refine zw_push hm_98 dX7_takeWish_49 (v := .inl l2) rfl ?_
    refine zw_push hm_98 dX7_takeWish_50 (v := .inl (1 : Int32)) rfl ?_
    refine zw_stk hm_98 dX7_takeWish_51 (st₉ := [.inl (l2 + (1 : Int32)), .inr (.inr (some 74)), .inl l2, .inr (.inr (some 74))]) rfl rfl ?_
    obtain ⟨hg, h⟩ := h
    refine zw_ia hm_98 dX7_takeWish_52 (zT_is hS s_74) (zT_h hS s_74) rfl hg ?_
    show ma_wp X d w 98 53 [(0, .inr (.inr (some 69))), (1, .inr (.inr l1)), (2, .inl l2)] [.inl (mI S 74 (l2 + (1 : Int32)).toNatClampNeg), .inl l2, .inr (.inr (some 74))] S _
    obtain ⟨hg, h⟩ := h
    refine zw_ias hm_98 dX7_takeWish_53 (zT_is hS s_74) (zT_h hS s_74) rfl hg ?_
    refine zw_sto hm_98 dX7_takeWish_54 [(2, .inl (l2 + (1 : Int32))), (0, .inr (.inr (some 69))), (1, .inr (.inr l1))] rfl rfl rfl ?_
    refine zw_goto hm_98 dX7_takeWish_57 (t := 32) rfl ?_
    exact zw_sub (ma_nd_of (ks := [0, 1, 2]) rfl (by decide)) (ma_nd_of (ks := [2, 0, 1]) rfl (by decide)) (ma_le_cons rfl (ma_le_cons rfl (ma_le_cons rfl (ma_le_nil _)))) h
theorem lp_98_69_32 {X : Nat × (Nat → Int32)} {d w : Nat} {f : Nat → Nat → Int32} {r : Nat → Nat → Option Nat} {C Z N : Nat} {Q : Option ma_V ⊕ Nat → ma_S → Prop} (hd : 1 ≤ d) (hw : 21 ≤ w) (K : ∀ v S₉, zI f r C Z N S₉ → (∀ c, v = some c → 126 ≤ c ∧ c < N) → Q (.inl (some (.inr (.inr v)))) S₉) : ∀ (n : Nat) (S : ma_S) (l1 : Option Nat) (l2 : Int32), (512 - l2.toInt).toNat = n → zI f r C Z N S → (∀ c, l1 = some c → 126 ≤ c ∧ c < N) → (0 ≤ l2.toInt) → ((mI S 69 5).toInt ≤ 511) → ma_wp X d w 98 32 [(0, .inr (.inr (some 69))), (1, .inr (.inr l1)), (2, .inl l2)] [] S Q := by
  intro n
  induction n using Nat.strongRecOn with
  | _ n IH =>
    intro S l1 l2 hmu hI th_l1 hi0 hi1
    refine g_98_69_32 l1 l2 (by omega) (by omega) (zG_T hI) ?_
    have f1 := zG_s hI (0) (512) (c := 69) (k := 5) (by decide)
    have b2 := i_bd l2
    refine zd (fun h3 => ?_) (fun h3 => ?_)
    · skip
      have g4 := i_le h3
      refine ⟨fun _ => ?_, fun c1 hc => ?_⟩
      · skip
        exact K (none) _ hI (fun _ z => by cases z)
      · skip
        have th_c1 := th_l1 c1 hc
        subst hc
        refine ⟨zG_n hI th_c1, ?_⟩
        refine ⟨zG_n hI th_c1, ?_⟩
        have hI5 : zI f r C Z N (ma_put S c1 6 (.inl ((mI S c1 6) - (1 : Int32)))) := zG_tf hI th_c1.1 zI_t (by decide) (by decide) trivial (by decide) (by decide) (by decide)
        exact K ((some c1)) _ hI5 (fun _ z => by cases z; exact th_c1)
    · skip
      have g6 := i_nle h3
      first | have e7 : (l2 + (1 : Int32)).toInt = l2.toInt + (1) := i_addk rfl (by omega) (by omega) | have b8 := i_bd (l2 + (1 : Int32))
      refine ⟨i_ix (by omega) (by omega), ?_⟩
      refine ⟨i_ix (by omega) (by omega), ?_⟩
      have hI9 : zI f r C Z N (ma_put S 74 l2.toNatClampNeg (.inl (mI S 74 (l2 + (1 : Int32)).toNatClampNeg))) := zG_fa hI rfl (by decide) (by decide) (by decide) trivial
      exact IH _ (by omega) _ (l1) ((l2 + (1 : Int32))) rfl hI9 th_l1 (by omega) (show (mI S 69 5).toInt ≤ 511 from by omega)
theorem sp_98_69 {X : Nat × (Nat → Int32)} {d w : Nat} {f : Nat → Nat → Int32} {r : Nat → Nat → Option Nat} {C Z N : Nat} {Q : Option ma_V ⊕ Nat → ma_S → Prop} {S : ma_S}  (hd : 1 ≤ d) (hw : 21 ≤ w) (hI : zI f r C Z N S)  (K : ∀ v S₉, zI f r C Z N S₉ → (∀ c, v = some c → 126 ≤ c ∧ c < N) → Q (.inl (some (.inr (.inr v)))) S₉) : ma_wp X d w 98 0 [(0, .inr (.inr (some 69)))] [] S Q := by
  refine g_98_69_0  (by omega) (by omega) (zG_T hI) ?_
  have li1 : (0 : Int32).toInt = 0 := rfl
  have f2 := zG_s hI (0) (512) (c := 69) (k := 5) (by decide)
  refine zd (fun h3 => ?_) (fun h3 => ?_)
  · skip
    have g4 := i_lt h3
    have b5 := i_bd (mI S 74 0)
    refine zd (fun h6 => ?_) (fun h6 => ?_)
    · skip
      have g7 := i_lt h6
      first | have e9 : ((mI S 69 5) - (1 : Int32)).toInt = (mI S 69 5).toInt - (1) := i_subk rfl (by omega) (by omega) | have b10 := i_bd ((mI S 69 5) - (1 : Int32))
      have hI8 : zI f r C Z N (ma_put S 69 5 (.inl ((mI S 69 5) - (1 : Int32)))) := zG_sp hI (0) (512) rfl (by decide) (by decide) (by decide) trivial (by omega) (by omega)
      exact lp_98_69_32 (by omega) (by omega) K _ _ (none) ((0 : Int32)) rfl hI8 (fun _ z => by cases z) (by omega) (show ((mI S 69 5) - (1 : Int32)).toInt ≤ 511 from by omega)
    · skip
      have g11 := i_nlt h6
      have li12 : (512 : Int32).toInt = 512 := rfl
      refine zd (fun h13 => ?_) (fun h13 => ?_)
      · skip
        have g14 := i_le h13
        first | have e16 : ((mI S 69 5) - (1 : Int32)).toInt = (mI S 69 5).toInt - (1) := i_subk rfl (by omega) (by omega) | have b17 := i_bd ((mI S 69 5) - (1 : Int32))
        have hI15 : zI f r C Z N (ma_put S 69 5 (.inl ((mI S 69 5) - (1 : Int32)))) := zG_sp hI (0) (512) rfl (by decide) (by decide) (by decide) trivial (by omega) (by omega)
        exact lp_98_69_32 (by omega) (by omega) K _ _ (none) ((0 : Int32)) rfl hI15 (fun _ z => by cases z) (by omega) (show ((mI S 69 5) - (1 : Int32)).toInt ≤ 511 from by omega)
      · skip
        have g18 := i_nle h13
        refine ⟨i_ix (by omega) (by omega), ?_⟩
        first | have e20 : ((mI S 69 5) - (1 : Int32)).toInt = (mI S 69 5).toInt - (1) := i_subk rfl (by omega) (by omega) | have b21 := i_bd ((mI S 69 5) - (1 : Int32))
        have hI19 : zI f r C Z N (ma_put S 69 5 (.inl ((mI S 69 5) - (1 : Int32)))) := zG_sp hI (0) (512) rfl (by decide) (by decide) (by decide) trivial (by omega) (by omega)
        exact lp_98_69_32 (by omega) (by omega) K _ _ ((mR S 70 (mI S 74 0).toNatClampNeg)) ((0 : Int32)) rfl hI19 (fun _ z => zG_70 hI (c := 70) (by decide) z) (by omega) (show ((mI S 69 5) - (1 : Int32)).toInt ≤ 511 from by omega)
  · skip
    have g22 := i_nlt h3
    exact K (none) _ hI (fun _ z => by cases z)
theorem g_88_69_0 {X : Nat × (Nat → Int32)} {d w : Nat} {S : ma_S} {Q : Option ma_V ⊕ Nat → ma_S → Prop} (a : Int32) (b : Int32) (hd : 0 ≤ d) (hw : 0 ≤ w) (hS : zT S) (h : ma_wp X d w 88 2 [(0, .inr (.inr (some 69))), (2, .inl b), (3, .inl a)] [] S Q) : ma_wp X d w 88 0 [(0, .inr (.inr (some 69))), (1, .inl a), (2, .inl b)] [] S Q := by
  refine zw_push hm_88 dX7_freeWords_0 (v := .inl a) rfl ?_
  refine zw_sto hm_88 dX7_freeWords_1 [(3, .inl a), (0, .inr (.inr (some 69))), (1, .inl a), (2, .inl b)] rfl rfl rfl ?_
  exact zw_sub (ma_nd_of (ks := [0, 2, 3]) rfl (by decide)) (ma_nd_of (ks := [3, 0, 1, 2]) rfl (by decide)) (ma_le_cons rfl (ma_le_cons rfl (ma_le_cons rfl (ma_le_nil _)))) h
theorem g_88_69_2 {X : Nat × (Nat → Int32)} {d w : Nat} {S : ma_S} {Q : Option ma_V ⊕ Nat → ma_S → Prop} (l2 : Int32) (l3 : Int32) (hd : 0 ≤ d) (hw : 0 ≤ w) (hS : zT S) (h : if l3 < 0 then (Q (.inl none) S) else (if l2 ≤ l3 then (Q (.inl none) S) else (if (4500 : Int32) ≤ l3 then (Q (.inl none) S) else ((0 ≤ l3 ∧ l3.toNatClampNeg < 4500) ∧ (ma_wp X d w 88 2 [(0, .inr (.inr (some 69))), (2, .inl l2), (3, .inl (l3 + (1 : Int32)))] [] (ma_put S 71 l3.toNatClampNeg (.inl (-1 : Int32))) Q))))) : ma_wp X d w 88 2 [(0, .inr (.inr (some 69))), (2, .inl l2), (3, .inl l3)] [] S Q := by
  refine zw_push hm_88 dX7_freeWords_2 (v := .inl l3) rfl ?_
  refine zw_if0 hm_88 dX7_freeWords_3 (t := 31) rfl zc0_lt ?_ ?_
  · intro hc
    rw [if_pos hc] at h
    exact zw_vret hm_88 dX7_freeWords_31 h
  · intro hc
    rw [if_neg hc] at h
    refine zw_push hm_88 dX7_freeWords_6 (v := .inl l3) rfl ?_
    refine zw_push hm_88 dX7_freeWords_7 (v := .inl l2) rfl ?_
    refine zw_if2 hm_88 dX7_freeWords_8 (t := 31) rfl zc2_ge ?_ ?_
    · intro hc
      rw [if_pos hc] at h
      exact zw_vret hm_88 dX7_freeWords_31 h
    · intro hc
      rw [if_neg hc] at h
      refine zw_push hm_88 dX7_freeWords_11 (v := .inl l3) rfl ?_
      refine zw_push hm_88 dX7_freeWords_12 (v := .inl (4500 : Int32)) rfl ?_
      refine zw_if2 hm_88 dX7_freeWords_15 (t := 31) rfl zc2_ge ?_ ?_
      · intro hc
        rw [if_pos hc] at h
        exact zw_vret hm_88 dX7_freeWords_31 h
      · intro hc
        rw [if_neg hc] at h
        refine zw_push hm_88 dX7_freeWords_18 (v := .inr (.inr (some 69))) rfl ?_
        refine zw_gf hm_88 dX7_freeWords_19 (v := .inr (.inr (some 71))) (zT_is hS s_69) (zT_t hS s_69) rfl f_7_17_7 (zT_f hS r_69_1) ?_
        refine zw_push hm_88 dX7_freeWords_22 (v := .inl l3) rfl ?_
        refine zw_push hm_88 dX7_freeWords_23 (v := .inl (-1 : Int32)) rfl ?_
        obtain ⟨hg, h⟩ := h
        refine zw_ias hm_88 dX7_freeWords_24 (zT_is hS s_71) (zT_h hS s_71) rfl hg ?_
        refine zw_sto hm_88 dX7_freeWords_25 [(3, .inl (l3 + (1 : Int32))), (0, .inr (.inr (some 69))), (2, .inl l2)] rfl rfl rfl ?_
        refine zw_goto hm_88 dX7_freeWords_28 (t := 2) rfl ?_
        exact zw_sub (ma_nd_of (ks := [0, 2, 3]) rfl (by decide)) (ma_nd_of (ks := [3, 0, 2]) rfl (by decide)) (ma_le_cons rfl (ma_le_cons rfl (ma_le_cons rfl (ma_le_nil _)))) h
theorem lp_88_69_2 {X : Nat × (Nat → Int32)} {d w : Nat} {f : Nat → Nat → Int32} {r : Nat → Nat → Option Nat} {C Z N : Nat} {Q : Option ma_V ⊕ Nat → ma_S → Prop} (hd : 0 ≤ d) (hw : 0 ≤ w) (K : ∀ S₉, zI f r C Z N S₉ → Q (.inl none) S₉) : ∀ (n : Nat) (S : ma_S) (l2 : Int32) (l3 : Int32), (4500 - l3.toInt).toNat = n → zI f r C Z N S → ma_wp X d w 88 2 [(0, .inr (.inr (some 69))), (2, .inl l2), (3, .inl l3)] [] S Q := by
  intro n
  induction n using Nat.strongRecOn with
  | _ n IH =>
    intro S l2 l3 hmu hI  
    refine g_88_69_2 l2 l3 (by omega) (by omega) (zG_T hI) ?_
    have b1 := i_bd l3
    have li2 : (0 : Int32).toInt = 0 := rfl
    refine zd (fun h3 => ?_) (fun h3 => ?_)
    · skip
      have g4 := i_lt h3
      exact K _ hI
    · skip
      have g5 := i_nlt h3
      have b6 := i_bd l2
      refine zd (fun h7 => ?_) (fun h7 => ?_)
      · skip
        have g8 := i_le h7
        exact K _ hI
      · skip
        have g9 := i_nle h7
        have li10 : (4500 : Int32).toInt = 4500 := rfl
        refine zd (fun h11 => ?_) (fun h11 => ?_)
        · skip
          have g12 := i_le h11
          exact K _ hI
        · skip
          have g13 := i_nle h11
          refine ⟨i_ix (by omega) (by omega), ?_⟩
          have hI14 : zI f r C Z N (ma_put S 71 l3.toNatClampNeg (.inl (-1 : Int32))) := zG_fa hI rfl (by decide) (by decide) (by decide) trivial
          first | have e15 : (l3 + (1 : Int32)).toInt = l3.toInt + (1) := i_addk rfl (by omega) (by omega) | have b16 := i_bd (l3 + (1 : Int32))
          exact IH _ (by omega) _ (l2) ((l3 + (1 : Int32))) rfl hI14 
theorem sp_88_69 {X : Nat × (Nat → Int32)} {d w : Nat} {f : Nat → Nat → Int32} {r : Nat → Nat → Option Nat} {C Z N : Nat} {Q : Option ma_V ⊕ Nat → ma_S → Prop} {S : ma_S} (a : Int32) (b : Int32) (hd : 0 ≤ d) (hw : 0 ≤ w) (hI : zI f r C Z N S)  (K : ∀ S₉, zI f r C Z N S₉ → Q (.inl none) S₉) : ma_wp X d w 88 0 [(0, .inr (.inr (some 69))), (1, .inl a), (2, .inl b)] [] S Q := by
  refine g_88_69_0 a b (by omega) (by omega) (zG_T hI) ?_
  have b1 := i_bd b
  have b2 := i_bd a
  exact lp_88_69_2 (by omega) (by omega) K _ _ (b) (a) rfl hI 
theorem g_87_69_0 {X : Nat × (Nat → Int32)} {d w : Nat} {S : ma_S} {Q : Option ma_V ⊕ Nat → ma_S → Prop} (t : Nat) (hd : 1 ≤ d) (hw : 25 ≤ w) (hS : zT S) (h : ma_wp X (d - 1) (w - 22) 85 0 [(0, .inr (.inr (some 69))), (1, .inr (.inr (some t)))] [] S (zv (fun S1 => zT S1 ∧ (ma_wp X d w 87 7 [(0, .inr (.inr (some 69))), (1, .inr (.inr (some t))), (2, .inl (0 : Int32))] [] S1 Q)) (fun x S9 => Q (.inr x) S9))) : ma_wp X d w 87 0 [(0, .inr (.inr (some 69))), (1, .inr (.inr (some t)))] [] S Q := by
  refine zw_push hm_87 dX7_remove_0 (v := .inr (.inr (some 69))) rfl ?_
  refine zw_push hm_87 dX7_remove_1 (v := .inr (.inr (some t))) rfl ?_
  refine zw_cv hm_87 dX7_remove_2 v_7_104_7 hm_85 [.inr (.inr (some t))] [] rfl (zT_rt hS s_69 rfl) ⟨by omega, by omega⟩ rfl (zw_mono h (zv_go ?_ ?_))
  · intro S1 hv
    obtain ⟨hS1, h⟩ := hv
    refine zw_push hm_87 dX7_remove_5 (v := .inl (0 : Int32)) rfl ?_
    refine zw_sto hm_87 dX7_remove_6 [(2, .inl (0 : Int32)), (0, .inr (.inr (some 69))), (1, .inr (.inr (some t)))] rfl rfl rfl ?_
    exact zw_sub (ma_nd_of (ks := [0, 1, 2]) rfl (by decide)) (ma_nd_of (ks := [2, 0, 1]) rfl (by decide)) (ma_le_cons rfl (ma_le_cons rfl (ma_le_cons rfl (ma_le_nil _)))) h
  · intro x S9 hx
    exact ⟨by decide, hx⟩
theorem g_87_69_7 {X : Nat × (Nat → Int32)} {d w : Nat} {S : ma_S} {Q : Option ma_V ⊕ Nat → ma_S → Prop} (l1 : Nat) (l2 : Int32) (hd : 1 ≤ d) (hw : 25 ≤ w) (hS : zT S) (h : (126 ≤ l1 ∧ l1 < mN S) ∧ (if ((mI S l1 2) - (1 : Int32)) ≤ l2 then ((126 ≤ l1 ∧ l1 < mN S) ∧ ((126 ≤ l1 ∧ l1 < mN S) ∧ ((126 ≤ l1 ∧ l1 < mN S) ∧ (ma_wp X (d - 1) (w - 23) 88 0 [(0, .inr (.inr (some 69))), (1, .inl (mI S l1 4)), (2, .inl ((mI S l1 4) + (mI S l1 2)))] [] S (zv (fun S1 => zT S1 ∧ ((126 ≤ l1 ∧ l1 < mN S1) ∧ (if (512 : Int32) ≤ (mI S1 l1 0) then ((126 ≤ l1 ∧ l1 < mN (ma_put S1 69 7 (.inl ((mI S1 69 7) - (1 : Int32))))) ∧ ((126 ≤ l1 ∧ l1 < mN (ma_put (ma_put S1 69 7 (.inl ((mI S1 69 7) - (1 : Int32)))) 69 8 (.inl ((mI S1 69 8) - (mI (ma_put S1 69 7 (.inl ((mI S1 69 7) - (1 : Int32)))) l1 2))))) ∧ (Q (.inl none) (ma_put (ma_put (ma_put S1 69 7 (.inl ((mI S1 69 7) - (1 : Int32)))) 69 8 (.inl ((mI S1 69 8) - (mI (ma_put S1 69 7 (.inl ((mI S1 69 7) - (1 : Int32)))) l1 2)))) 69 11 (.inl ((mI S1 69 11) + (mI (ma_put (ma_put S1 69 7 (.inl ((mI S1 69 7) - (1 : Int32)))) 69 8 (.inl ((mI S1 69 8) - (mI (ma_put S1 69 7 (.inl ((mI S1 69 7) - (1 : Int32)))) l1 2)))) l1 2))))))) else ((126 ≤ l1 ∧ l1 < mN S1) ∧ ((0 ≤ (mI S1 l1 0) ∧ (mI S1 l1 0).toNatClampNeg < 512) ∧ ((126 ≤ l1 ∧ l1 < mN (ma_put (ma_put S1 70 (mI S1 l1 0).toNatClampNeg (.inr (.inr none))) 69 7 (.inl ((mI S1 69 7) - (1 : Int32))))) ∧ ((126 ≤ l1 ∧ l1 < mN (ma_put (ma_put (ma_put S1 70 (mI S1 l1 0).toNatClampNeg (.inr (.inr none))) 69 7 (.inl ((mI S1 69 7) - (1 : Int32)))) 69 8 (.inl ((mI S1 69 8) - (mI (ma_put (ma_put S1 70 (mI S1 l1 0).toNatClampNeg (.inr (.inr none))) 69 7 (.inl ((mI S1 69 7) - (1 : Int32)))) l1 2))))) ∧ (Q (.inl none) (ma_put (ma_put (ma_put (ma_put S1 70 (mI S1 l1 0).toNatClampNeg (.inr (.inr none))) 69 7 (.inl ((mI S1 69 7) - (1 : Int32)))) 69 8 (.inl ((mI S1 69 8) - (mI (ma_put (ma_put S1 70 (mI S1 l1 0).toNatClampNeg (.inr (.inr none))) 69 7 (.inl ((mI S1 69 7) - (1 : Int32)))) l1 2)))) 69 11 (.inl ((mI S1 69 11) + (mI (ma_put (ma_put (ma_put S1 70 (mI S1 l1 0).toNatClampNeg (.inr (.inr none))) 69 7 (.inl ((mI S1 69 7) - (1 : Int32)))) 69 8 (.inl ((mI S1 69 8) - (mI (ma_put (ma_put S1 70 (mI S1 l1 0).toNatClampNeg (.inr (.inr none))) 69 7 (.inl ((mI S1 69 7) - (1 : Int32)))) l1 2)))) l1 2)))))))))))) (fun x S9 => Q (.inr x) S9)))))) else (ma_wp X (d - 1) (w - 25) 82 0 [(0, .inr (.inr (some 69))), (1, .inr (.inr (some l1))), (2, .inl l2)] [] S (zo (fun v4 S3 => zT S3 ∧ ((v4 = none → ma_wp X d w 87 7 [(0, .inr (.inr (some 69))), (1, .inr (.inr (some l1))), (2, .inl (l2 + (1 : Int32)))] [] S3 Q) ∧ (∀ c5, v4 = some c5 → (126 ≤ c5 ∧ c5 < mN S3) ∧ ((126 ≤ c5 ∧ c5 < mN S3) ∧ (ma_wp X d w 87 7 [(0, .inr (.inr (some 69))), (1, .inr (.inr (some l1))), (2, .inl (l2 + (1 : Int32)))] [] (ma_put S3 c5 6 (.inl ((mI S3 c5 6) - (1 : Int32)))) Q))))) (fun x S9 => Q (.inr x) S9))))) : ma_wp X d w 87 7 [(0, .inr (.inr (some 69))), (1, .inr (.inr (some l1))), (2, .inl l2)] [] S Q := by
  refine zw_push hm_87 dX7_remove_7 (v := .inl l2) rfl ?_
  refine zw_push hm_87 dX7_remove_8 (v := .inr (.inr (some l1))) rfl ?_
  obtain ⟨hg, h⟩ := h
  refine zw_gf hm_87 dX7_remove_9 (v := .inl (mI S l1 2)) (zT_tis hS hg) (zT_tt hS hg) rfl f_7_64_9 rfl ?_
  refine zw_push hm_87 dX7_remove_12 (v := .inl (1 : Int32)) rfl ?_
  refine zw_stk hm_87 dX7_remove_13 (st₉ := [.inl ((mI S l1 2) - (1 : Int32)), .inl l2]) rfl rfl ?_
  refine zw_if2 hm_87 dX7_remove_14 (t := 44) rfl zc2_ge ?_ ?_
  · intro hc
    rw [if_pos hc] at h
    refine zw_push hm_87 dX7_remove_44 (v := .inr (.inr (some 69))) rfl ?_
    refine zw_push hm_87 dX7_remove_45 (v := .inr (.inr (some l1))) rfl ?_
    obtain ⟨hg, h⟩ := h
    refine zw_gf hm_87 dX7_remove_46 (v := .inl (mI S l1 4)) (zT_tis hS hg) (zT_tt hS hg) rfl f_7_61_9 rfl ?_
    refine zw_push hm_87 dX7_remove_49 (v := .inr (.inr (some l1))) rfl ?_
    obtain ⟨hg, h⟩ := h
    refine zw_gf hm_87 dX7_remove_50 (v := .inl (mI S l1 4)) (zT_tis hS hg) (zT_tt hS hg) rfl f_7_61_9 rfl ?_
    refine zw_push hm_87 dX7_remove_53 (v := .inr (.inr (some l1))) rfl ?_
    obtain ⟨hg, h⟩ := h
    refine zw_gf hm_87 dX7_remove_54 (v := .inl (mI S l1 2)) (zT_tis hS hg) (zT_tt hS hg) rfl f_7_64_9 rfl ?_
    refine zw_stk hm_87 dX7_remove_57 (st₉ := [.inl ((mI S l1 4) + (mI S l1 2)), .inl (mI S l1 4), .inr (.inr (some 69))]) rfl rfl ?_
    refine zw_cv hm_87 dX7_remove_58 v_7_112_7 hm_88 [.inl ((mI S l1 4) + (mI S l1 2)), .inl (mI S l1 4)] [] rfl (zT_rt hS s_69 rfl) ⟨by omega, by omega⟩ rfl (zw_mono h (zv_go ?_ ?_))
    · intro S1 hv
      obtain ⟨hS1, h⟩ := hv
      refine zw_push hm_87 dX7_remove_61 (v := .inr (.inr (some l1))) rfl ?_
      obtain ⟨hg, h⟩ := h
      refine zw_gf hm_87 dX7_remove_62 (v := .inl (mI S1 l1 0)) (zT_tis hS1 hg) (zT_tt hS1 hg) rfl f_7_67_9 rfl ?_
      refine zw_push hm_87 dX7_remove_65 (v := .inl (512 : Int32)) rfl ?_
      refine zw_if2 hm_87 dX7_remove_68 (t := 81) rfl zc2_ge ?_ ?_
      · intro hc
        rw [if_pos hc] at h
        refine zw_push hm_87 dX7_remove_81 (v := .inr (.inr (some 69))) rfl ?_
        refine zw_stk hm_87 dX7_remove_82 (st₉ := [.inr (.inr (some 69)), .inr (.inr (some 69))]) rfl rfl ?_
        refine zw_gf hm_87 dX7_remove_83 (v := .inl (mI S1 69 7)) (zT_is hS1 s_69) (zT_t hS1 s_69) rfl f_7_43_7 rfl ?_
        refine zw_push hm_87 dX7_remove_86 (v := .inl (1 : Int32)) rfl ?_
        refine zw_stk hm_87 dX7_remove_87 (st₉ := [.inl ((mI S1 69 7) - (1 : Int32)), .inr (.inr (some 69))]) rfl rfl ?_
        refine zw_pf hm_87 dX7_remove_88 (zT_is hS1 s_69) (zT_t hS1 s_69) p_7_43_7 zk_int ?_
        refine zw_push hm_87 dX7_remove_91 (v := .inr (.inr (some 69))) rfl ?_
        refine zw_stk hm_87 dX7_remove_92 (st₉ := [.inr (.inr (some 69)), .inr (.inr (some 69))]) rfl rfl ?_
        refine zw_gf hm_87 dX7_remove_93 (v := .inl (mI S1 69 8)) (zT_is (zT_pi hS1) s_69) (zT_t (zT_pi hS1) s_69) rfl f_7_46_7 rfl ?_
        refine zw_push hm_87 dX7_remove_96 (v := .inr (.inr (some l1))) rfl ?_
        obtain ⟨hg, h⟩ := h
        refine zw_gf hm_87 dX7_remove_97 (v := .inl (mI (ma_put S1 69 7 (.inl ((mI S1 69 7) - (1 : Int32)))) l1 2)) (zT_tis (zT_pi hS1) hg) (zT_tt (zT_pi hS1) hg) rfl f_7_64_9 rfl ?_
        refine zw_stk hm_87 dX7_remove_100 (st₉ := [.inl ((mI S1 69 8) - (mI (ma_put S1 69 7 (.inl ((mI S1 69 7) - (1 : Int32)))) l1 2)), .inr (.inr (some 69))]) rfl rfl ?_
        refine zw_pf hm_87 dX7_remove_101 (zT_is (zT_pi hS1) s_69) (zT_t (zT_pi hS1) s_69) p_7_46_7 zk_int ?_
        refine zw_push hm_87 dX7_remove_104 (v := .inr (.inr (some 69))) rfl ?_
        refine zw_stk hm_87 dX7_remove_105 (st₉ := [.inr (.inr (some 69)), .inr (.inr (some 69))]) rfl rfl ?_
        refine zw_gf hm_87 dX7_remove_106 (v := .inl (mI S1 69 11)) (zT_is (zT_pi (zT_pi hS1)) s_69) (zT_t (zT_pi (zT_pi hS1)) s_69) rfl f_7_55_7 rfl ?_
        refine zw_push hm_87 dX7_remove_109 (v := .inr (.inr (some l1))) rfl ?_
        obtain ⟨hg, h⟩ := h
        refine zw_gf hm_87 dX7_remove_110 (v := .inl (mI (ma_put (ma_put S1 69 7 (.inl ((mI S1 69 7) - (1 : Int32)))) 69 8 (.inl ((mI S1 69 8) - (mI (ma_put S1 69 7 (.inl ((mI S1 69 7) - (1 : Int32)))) l1 2)))) l1 2)) (zT_tis (zT_pi (zT_pi hS1)) hg) (zT_tt (zT_pi (zT_pi hS1)) hg) rfl f_7_64_9 rfl ?_
        refine zw_stk hm_87 dX7_remove_113 (st₉ := [.inl ((mI S1 69 11) + (mI (ma_put (ma_put S1 69 7 (.inl ((mI S1 69 7) - (1 : Int32)))) 69 8 (.inl ((mI S1 69 8) - (mI (ma_put S1 69 7 (.inl ((mI S1 69 7) - (1 : Int32)))) l1 2)))) l1 2)), .inr (.inr (some 69))]) rfl rfl ?_
        refine zw_pf hm_87 dX7_remove_114 (zT_is (zT_pi (zT_pi hS1)) s_69) (zT_t (zT_pi (zT_pi hS1)) s_69) p_7_55_7 zk_int ?_
        exact zw_vret hm_87 dX7_remove_117 h
      · intro hc
        rw [if_neg hc] at h
        refine zw_push hm_87 dX7_remove_71 (v := .inr (.inr (some 69))) rfl ?_
        refine zw_gf hm_87 dX7_remove_72 (v := .inr (.inr (some 70))) (zT_is hS1 s_69) (zT_t hS1 s_69) rfl f_7_11_7 (zT_f hS1 r_69_0) ?_
        refine zw_push hm_87 dX7_remove_75 (v := .inr (.inr (some l1))) rfl ?_
        obtain ⟨hg, h⟩ := h
        refine zw_gf hm_87 dX7_remove_76 (v := .inl (mI S1 l1 0)) (zT_tis hS1 hg) (zT_tt hS1 hg) rfl f_7_67_9 rfl ?_
        refine zw_push hm_87 dX7_remove_79 (v := .inr (.inr none)) rfl ?_
        obtain ⟨hg, h⟩ := h
        refine zw_aas hm_87 dX7_remove_80 (zT_is hS1 s_70) (zT_h hS1 s_70) rfl hg (fun _ z => by cases z) ?_
        refine zw_push hm_87 dX7_remove_81 (v := .inr (.inr (some 69))) rfl ?_
        refine zw_stk hm_87 dX7_remove_82 (st₉ := [.inr (.inr (some 69)), .inr (.inr (some 69))]) rfl rfl ?_
        refine zw_gf hm_87 dX7_remove_83 (v := .inl (mI S1 69 7)) (zT_is (zT_pr hS1 (zfi_row (by decide +kernel))) s_69) (zT_t (zT_pr hS1 (zfi_row (by decide +kernel))) s_69) rfl f_7_43_7 rfl ?_
        refine zw_push hm_87 dX7_remove_86 (v := .inl (1 : Int32)) rfl ?_
        refine zw_stk hm_87 dX7_remove_87 (st₉ := [.inl ((mI S1 69 7) - (1 : Int32)), .inr (.inr (some 69))]) rfl rfl ?_
        refine zw_pf hm_87 dX7_remove_88 (zT_is (zT_pr hS1 (zfi_row (by decide +kernel))) s_69) (zT_t (zT_pr hS1 (zfi_row (by decide +kernel))) s_69) p_7_43_7 zk_int ?_
        refine zw_push hm_87 dX7_remove_91 (v := .inr (.inr (some 69))) rfl ?_
        refine zw_stk hm_87 dX7_remove_92 (st₉ := [.inr (.inr (some 69)), .inr (.inr (some 69))]) rfl rfl ?_
        refine zw_gf hm_87 dX7_remove_93 (v := .inl (mI S1 69 8)) (zT_is (zT_pi (zT_pr hS1 (zfi_row (by decide +kernel)))) s_69) (zT_t (zT_pi (zT_pr hS1 (zfi_row (by decide +kernel)))) s_69) rfl f_7_46_7 rfl ?_
        refine zw_push hm_87 dX7_remove_96 (v := .inr (.inr (some l1))) rfl ?_
        obtain ⟨hg, h⟩ := h
        refine zw_gf hm_87 dX7_remove_97 (v := .inl (mI (ma_put (ma_put S1 70 (mI S1 l1 0).toNatClampNeg (.inr (.inr none))) 69 7 (.inl ((mI S1 69 7) - (1 : Int32)))) l1 2)) (zT_tis (zT_pi (zT_pr hS1 (zfi_row (by decide +kernel)))) hg) (zT_tt (zT_pi (zT_pr hS1 (zfi_row (by decide +kernel)))) hg) rfl f_7_64_9 rfl ?_
        refine zw_stk hm_87 dX7_remove_100 (st₉ := [.inl ((mI S1 69 8) - (mI (ma_put (ma_put S1 70 (mI S1 l1 0).toNatClampNeg (.inr (.inr none))) 69 7 (.inl ((mI S1 69 7) - (1 : Int32)))) l1 2)), .inr (.inr (some 69))]) rfl rfl ?_
        refine zw_pf hm_87 dX7_remove_101 (zT_is (zT_pi (zT_pr hS1 (zfi_row (by decide +kernel)))) s_69) (zT_t (zT_pi (zT_pr hS1 (zfi_row (by decide +kernel)))) s_69) p_7_46_7 zk_int ?_
        refine zw_push hm_87 dX7_remove_104 (v := .inr (.inr (some 69))) rfl ?_
        refine zw_stk hm_87 dX7_remove_105 (st₉ := [.inr (.inr (some 69)), .inr (.inr (some 69))]) rfl rfl ?_
        refine zw_gf hm_87 dX7_remove_106 (v := .inl (mI S1 69 11)) (zT_is (zT_pi (zT_pi (zT_pr hS1 (zfi_row (by decide +kernel))))) s_69) (zT_t (zT_pi (zT_pi (zT_pr hS1 (zfi_row (by decide +kernel))))) s_69) rfl f_7_55_7 rfl ?_
        refine zw_push hm_87 dX7_remove_109 (v := .inr (.inr (some l1))) rfl ?_
        obtain ⟨hg, h⟩ := h
        refine zw_gf hm_87 dX7_remove_110 (v := .inl (mI (ma_put (ma_put (ma_put S1 70 (mI S1 l1 0).toNatClampNeg (.inr (.inr none))) 69 7 (.inl ((mI S1 69 7) - (1 : Int32)))) 69 8 (.inl ((mI S1 69 8) - (mI (ma_put (ma_put S1 70 (mI S1 l1 0).toNatClampNeg (.inr (.inr none))) 69 7 (.inl ((mI S1 69 7) - (1 : Int32)))) l1 2)))) l1 2)) (zT_tis (zT_pi (zT_pi (zT_pr hS1 (zfi_row (by decide +kernel))))) hg) (zT_tt (zT_pi (zT_pi (zT_pr hS1 (zfi_row (by decide +kernel))))) hg) rfl f_7_64_9 rfl ?_
        refine zw_stk hm_87 dX7_remove_113 (st₉ := [.inl ((mI S1 69 11) + (mI (ma_put (ma_put (ma_put S1 70 (mI S1 l1 0).toNatClampNeg (.inr (.inr none))) 69 7 (.inl ((mI S1 69 7) - (1 : Int32)))) 69 8 (.inl ((mI S1 69 8) - (mI (ma_put (ma_put S1 70 (mI S1 l1 0).toNatClampNeg (.inr (.inr none))) 69 7 (.inl ((mI S1 69 7) - (1 : Int32)))) l1 2)))) l1 2)), .inr (.inr (some 69))]) rfl rfl ?_
        refine zw_pf hm_87 dX7_remove_114 (zT_is (zT_pi (zT_pi (zT_pr hS1 (zfi_row (by decide +kernel))))) s_69) (zT_t (zT_pi (zT_pi (zT_pr hS1 (zfi_row (by decide +kernel))))) s_69) p_7_55_7 zk_int ?_
        exact zw_vret hm_87 dX7_remove_117 h
    · intro x S9 hx
      exact ⟨by decide, hx⟩
  · intro hc
    rw [if_neg hc] at h
    refine zw_push hm_87 dX7_remove_17 (v := .inr (.inr (some 69))) rfl ?_
    refine zw_push hm_87 dX7_remove_18 (v := .inr (.inr (some l1))) rfl ?_
    refine zw_push hm_87 dX7_remove_19 (v := .inl l2) rfl ?_
    refine zw_cv hm_87 dX7_remove_20 v_7_78_7 hm_82 [.inl l2, .inr (.inr (some l1))] [] rfl (zT_rt hS s_69 rfl) ⟨by omega, by omega⟩ rfl (zw_mono h (zo_go ?_ ?_))
    · intro v4 S3 hv
      obtain ⟨hS3, h⟩ := hv
      refine zw_sto hm_87 dX7_remove_23 [(3, .inr (.inr v4)), (0, .inr (.inr (some 69))), (1, .inr (.inr (some l1))), (2, .inl l2)] rfl rfl rfl ?_
      refine zw_push hm_87 dX7_remove_24 (v := .inr (.inr v4)) rfl ?_
      refine zw_ifnull hm_87 dX7_remove_25 (t := 38) rfl ?_ ?_
      · intro hc
        have h := h.1 hc
        (try rw [hc])
        show ma_wp X d w 87 38 [(3, .inr (.inr none)), (0, .inr (.inr (some 69))), (1, .inr (.inr (some l1))), (2, .inl l2)] [] S3 _
        refine zw_sto hm_87 dX7_remove_38 [(2, .inl (l2 + (1 : Int32))), (3, .inr (.inr none)), (0, .inr (.inr (some 69))), (1, .inr (.inr (some l1)))] rfl rfl rfl ?_
        refine zw_goto hm_87 dX7_remove_41 (t := 7) rfl ?_
        exact zw_sub (ma_nd_of (ks := [0, 1, 2]) rfl (by decide)) (ma_nd_of (ks := [2, 3, 0, 1]) rfl (by decide)) (ma_le_cons rfl (ma_le_cons rfl (ma_le_cons rfl (ma_le_nil _)))) h
      · intro c5 hc
        have h := h.2 c5 hc
        (try rw [hc])
        show ma_wp X d w 87 28 [(3, .inr (.inr (some c5))), (0, .inr (.inr (some 69))), (1, .inr (.inr (some l1))), (2, .inl l2)] [] S3 _
        refine zw_push hm_87 dX7_remove_28 (v := .inr (.inr (some c5))) rfl ?_
        refine zw_stk hm_87 dX7_remove_29 (st₉ := [.inr (.inr (some c5)), .inr (.inr (some c5))]) rfl rfl ?_
        obtain ⟨hg, h⟩ := h
        refine zw_gf hm_87 dX7_remove_30 (v := .inl (mI S3 c5 6)) (zT_tis hS3 hg) (zT_tt hS3 hg) rfl f_7_98_9 rfl ?_
        refine zw_push hm_87 dX7_remove_33 (v := .inl (1 : Int32)) rfl ?_
        refine zw_stk hm_87 dX7_remove_34 (st₉ := [.inl ((mI S3 c5 6) - (1 : Int32)), .inr (.inr (some c5))]) rfl rfl ?_
        obtain ⟨hg, h⟩ := h
        refine zw_pf hm_87 dX7_remove_35 (zT_tis hS3 hg) (zT_tt hS3 hg) p_7_98_9 zk_int ?_
        refine zw_sto hm_87 dX7_remove_38 [(2, .inl (l2 + (1 : Int32))), (3, .inr (.inr (some c5))), (0, .inr (.inr (some 69))), (1, .inr (.inr (some l1)))] rfl rfl rfl ?_
        refine zw_goto hm_87 dX7_remove_41 (t := 7) rfl ?_
        exact zw_sub (ma_nd_of (ks := [0, 1, 2]) rfl (by decide)) (ma_nd_of (ks := [2, 3, 0, 1]) rfl (by decide)) (ma_le_cons rfl (ma_le_cons rfl (ma_le_cons rfl (ma_le_nil _)))) h
    · intro x S9 hx
      exact ⟨by decide, hx⟩
theorem lp_87_69_7 {X : Nat × (Nat → Int32)} {d w : Nat} {f : Nat → Nat → Int32} {r : Nat → Nat → Option Nat} {C Z N : Nat} {Q : Option ma_V ⊕ Nat → ma_S → Prop} (hd : 1 ≤ d) (hw : 25 ≤ w) (K : ∀ S₉, zI f r C Z N S₉ → Q (.inl none) S₉) : ∀ (n : Nat) (S : ma_S) (l1 : Nat) (l2 : Int32), (61 - l2.toInt).toNat = n → zI f r C Z N S → (126 ≤ l1 ∧ l1 < N) → ma_wp X d w 87 7 [(0, .inr (.inr (some 69))), (1, .inr (.inr (some l1))), (2, .inl l2)] [] S Q := by
  intro n
  induction n using Nat.strongRecOn with
  | _ n IH =>
    intro S l1 l2 hmu hI th_l1 
    refine g_87_69_7 l1 l2 (by omega) (by omega) (zG_T hI) ?_
    refine ⟨zG_n hI th_l1, ?_⟩
    have f1 := zG_th hI th_l1
    first | have e2 : ((mI S l1 2) - (1 : Int32)).toInt = (mI S l1 2).toInt - (1) := i_subk rfl (by omega) (by omega) | have b3 := i_bd ((mI S l1 2) - (1 : Int32))
    have b4 := i_bd l2
    refine zd (fun h5 => ?_) (fun h5 => ?_)
    · skip
      have g6 := i_le h5
      refine ⟨zG_n hI th_l1, ?_⟩
      refine ⟨zG_n hI th_l1, ?_⟩
      refine ⟨zG_n hI th_l1, ?_⟩
      have f7 := zG_th hI th_l1
      first | have e8 : ((mI S l1 4) + (mI S l1 2)).toInt = (mI S l1 4).toInt + (mI S l1 2).toInt := i_add (by omega) (by omega) | have b9 := i_bd ((mI S l1 4) + (mI S l1 2))
      refine sp_88_69 ((mI S l1 4)) (((mI S l1 4) + (mI S l1 2))) (by omega) (by omega) hI  (fun S1 hI_S1 => zv_n ⟨zG_T hI_S1, ?_⟩)
      refine ⟨zG_n hI_S1 th_l1, ?_⟩
      have li10 : (512 : Int32).toInt = 512 := rfl
      have f11 := zG_th hI_S1 th_l1
      refine zd (fun h12 => ?_) (fun h12 => ?_)
      · skip
        have g13 := i_le h12
        have hI14 : zI f r C Z N (ma_put S1 69 7 (.inl ((mI S1 69 7) - (1 : Int32)))) := zG_fr hI_S1 rfl (by decide) (by decide) (by decide) trivial
        refine ⟨zG_n hI14 th_l1, ?_⟩
        have hI15 : zI f r C Z N (ma_put (ma_put S1 69 7 (.inl ((mI S1 69 7) - (1 : Int32)))) 69 8 (.inl ((mI S1 69 8) - (mI (ma_put S1 69 7 (.inl ((mI S1 69 7) - (1 : Int32)))) l1 2)))) := zG_fr hI14 rfl (by decide) (by decide) (by decide) trivial
        refine ⟨zG_n hI15 th_l1, ?_⟩
        have hI16 : zI f r C Z N (ma_put (ma_put (ma_put S1 69 7 (.inl ((mI S1 69 7) - (1 : Int32)))) 69 8 (.inl ((mI S1 69 8) - (mI (ma_put S1 69 7 (.inl ((mI S1 69 7) - (1 : Int32)))) l1 2)))) 69 11 (.inl ((mI S1 69 11) + (mI (ma_put (ma_put S1 69 7 (.inl ((mI S1 69 7) - (1 : Int32)))) 69 8 (.inl ((mI S1 69 8) - (mI (ma_put S1 69 7 (.inl ((mI S1 69 7) - (1 : Int32)))) l1 2)))) l1 2)))) := zG_fr hI15 rfl (by decide) (by decide) (by decide) trivial
        exact K _ hI16
      · skip
        have g17 := i_nle h12
        refine ⟨zG_n hI_S1 th_l1, ?_⟩
        refine ⟨i_ix (by omega) (by omega), ?_⟩
        have hI18 : zI f r C Z N (ma_put S1 70 (mI S1 l1 0).toNatClampNeg (.inr (.inr none))) := zG_rf hI_S1 (by decide) (by decide +kernel) (fun _ z => by cases z)
        have hI19 : zI f r C Z N (ma_put (ma_put S1 70 (mI S1 l1 0).toNatClampNeg (.inr (.inr none))) 69 7 (.inl ((mI S1 69 7) - (1 : Int32)))) := zG_fr hI18 rfl (by decide) (by decide) (by decide) trivial
        refine ⟨zG_n hI19 th_l1, ?_⟩
        have hI20 : zI f r C Z N (ma_put (ma_put (ma_put S1 70 (mI S1 l1 0).toNatClampNeg (.inr (.inr none))) 69 7 (.inl ((mI S1 69 7) - (1 : Int32)))) 69 8 (.inl ((mI S1 69 8) - (mI (ma_put (ma_put S1 70 (mI S1 l1 0).toNatClampNeg (.inr (.inr none))) 69 7 (.inl ((mI S1 69 7) - (1 : Int32)))) l1 2)))) := zG_fr hI19 rfl (by decide) (by decide) (by decide) trivial
        refine ⟨zG_n hI20 th_l1, ?_⟩
        have hI21 : zI f r C Z N (ma_put (ma_put (ma_put (ma_put S1 70 (mI S1 l1 0).toNatClampNeg (.inr (.inr none))) 69 7 (.inl ((mI S1 69 7) - (1 : Int32)))) 69 8 (.inl ((mI S1 69 8) - (mI (ma_put (ma_put S1 70 (mI S1 l1 0).toNatClampNeg (.inr (.inr none))) 69 7 (.inl ((mI S1 69 7) - (1 : Int32)))) l1 2)))) 69 11 (.inl ((mI S1 69 11) + (mI (ma_put (ma_put (ma_put S1 70 (mI S1 l1 0).toNatClampNeg (.inr (.inr none))) 69 7 (.inl ((mI S1 69 7) - (1 : Int32)))) 69 8 (.inl ((mI S1 69 8) - (mI (ma_put (ma_put S1 70 (mI S1 l1 0).toNatClampNeg (.inr (.inr none))) 69 7 (.inl ((mI S1 69 7) - (1 : Int32)))) l1 2)))) l1 2)))) := zG_fr hI20 rfl (by decide) (by decide) (by decide) trivial
        exact K _ hI21
    · skip
      have g22 := i_nle h5
      refine sp_82_69 l1 (l2) (by omega) (by omega) hI th_l1 (fun v4 S3 hI_S3 hq_v4 => zo_n ⟨zG_T hI_S3, ?_⟩)
      refine ⟨fun _ => ?_, fun c5 hc => ?_⟩
      · skip
        first | have e23 : (l2 + (1 : Int32)).toInt = l2.toInt + (1) := i_addk rfl (by omega) (by omega) | have b24 := i_bd (l2 + (1 : Int32))
        exact IH _ (by omega) _ l1 ((l2 + (1 : Int32))) rfl hI_S3 th_l1
      · skip
        have th_c5 := hq_v4 c5 hc
        subst hc
        refine ⟨zG_n hI_S3 th_c5, ?_⟩
        refine ⟨zG_n hI_S3 th_c5, ?_⟩
        have hI25 : zI f r C Z N (ma_put S3 c5 6 (.inl ((mI S3 c5 6) - (1 : Int32)))) := zG_tf hI_S3 th_c5.1 zI_t (by decide) (by decide) trivial (by decide) (by decide) (by decide)
        first | have e26 : (l2 + (1 : Int32)).toInt = l2.toInt + (1) := i_addk rfl (by omega) (by omega) | have b27 := i_bd (l2 + (1 : Int32))
        exact IH _ (by omega) _ l1 ((l2 + (1 : Int32))) rfl hI25 th_l1
theorem sp_87_69 {X : Nat × (Nat → Int32)} {d w : Nat} {f : Nat → Nat → Int32} {r : Nat → Nat → Option Nat} {C Z N : Nat} {Q : Option ma_V ⊕ Nat → ma_S → Prop} {S : ma_S} (t : Nat) (hd : 1 ≤ d) (hw : 25 ≤ w) (hI : zI f r C Z N S) (th_t : 126 ≤ t ∧ t < N) (K : ∀ S₉, zI f r C Z N S₉ → Q (.inl none) S₉) : ma_wp X d w 87 0 [(0, .inr (.inr (some 69))), (1, .inr (.inr (some t)))] [] S Q := by
  refine g_87_69_0 t (by omega) (by omega) (zG_T hI) ?_
  refine sp_85_69 t (by omega) (by omega) hI th_t (fun S1 hI_S1 => zv_n ⟨zG_T hI_S1, ?_⟩)
  have li1 : (0 : Int32).toInt = 0 := rfl
  exact lp_87_69_7 (by omega) (by omega) K _ _ t ((0 : Int32)) rfl hI_S1 th_t
theorem g_90_69_0 {X : Nat × (Nat → Int32)} {d w : Nat} {S : ma_S} {Q : Option ma_V ⊕ Nat → ma_S → Prop} (t : Nat) (to : Int32) (hd : 1 ≤ d) (hw : 90 ≤ w) (hS : zT S) (h : (126 ≤ t ∧ t < mN S) ∧ (if to = (mI S t 4) then (Q (.inl none) S) else (if to < 0 then (Q (.inl none) S) else ((126 ≤ t ∧ t < mN S) ∧ (if ((if (mI S t 4) < to then to else (mI S t 4)) + (mI S t 2)) ≤ (4500 : Int32) then ((126 ≤ t ∧ t < mN S) ∧ ((0 ≤ (mI S t 4) ∧ 0 ≤ to ∧ 0 ≤ (mI S t 2) ∧ (mI S t 4).toNatClampNeg + (mI S t 2).toNatClampNeg ≤ 4500 ∧ to.toNatClampNeg + (mI S t 2).toNatClampNeg ≤ 4500) ∧ ((126 ≤ t ∧ t < mN (ma_cp S 71 (va_cpy (mI S 71) (mI S 71) (mI S t 4).toNatClampNeg to.toNatClampNeg (mI S t 2).toNatClampNeg))) ∧ (if (mI S t 4) ≤ to then (ma_wp X (d - 1) (w - 23) 88 0 [(0, .inr (.inr (some 69))), (1, .inl (mI S t 4)), (2, .inl ((mI S t 4) + (mI (ma_cp S 71 (va_cpy (mI S 71) (mI S 71) (mI S t 4).toNatClampNeg to.toNatClampNeg (mI S t 2).toNatClampNeg)) t 2)))] [] (ma_cp S 71 (va_cpy (mI S 71) (mI S 71) (mI S t 4).toNatClampNeg to.toNatClampNeg (mI S t 2).toNatClampNeg)) (zv (fun S1 => zT S1 ∧ ((126 ≤ t ∧ t < mN S1) ∧ ((126 ≤ t ∧ t < mN (ma_put S1 t 4 (.inl to))) ∧ (Q (.inl none) (ma_put (ma_put S1 t 4 (.inl to)) 69 10 (.inl ((mI (ma_put S1 t 4 (.inl to)) 69 10) + (mI (ma_put S1 t 4 (.inl to)) t 2)))))))) (fun x S9 => Q (.inr x) S9))) else ((126 ≤ t ∧ t < mN (ma_cp S 71 (va_cpy (mI S 71) (mI S 71) (mI S t 4).toNatClampNeg to.toNatClampNeg (mI S t 2).toNatClampNeg))) ∧ (ma_wp X (d - 1) (w - 23) 88 0 [(0, .inr (.inr (some 69))), (1, .inl (if (mI S t 4) < (to + (mI (ma_cp S 71 (va_cpy (mI S 71) (mI S 71) (mI S t 4).toNatClampNeg to.toNatClampNeg (mI S t 2).toNatClampNeg)) t 2)) then (to + (mI (ma_cp S 71 (va_cpy (mI S 71) (mI S 71) (mI S t 4).toNatClampNeg to.toNatClampNeg (mI S t 2).toNatClampNeg)) t 2)) else (mI S t 4))), (2, .inl ((mI S t 4) + (mI (ma_cp S 71 (va_cpy (mI S 71) (mI S 71) (mI S t 4).toNatClampNeg to.toNatClampNeg (mI S t 2).toNatClampNeg)) t 2)))] [] (ma_cp S 71 (va_cpy (mI S 71) (mI S 71) (mI S t 4).toNatClampNeg to.toNatClampNeg (mI S t 2).toNatClampNeg)) (zv (fun S3 => zT S3 ∧ ((126 ≤ t ∧ t < mN S3) ∧ ((126 ≤ t ∧ t < mN (ma_put S3 t 4 (.inl to))) ∧ (Q (.inl none) (ma_put (ma_put S3 t 4 (.inl to)) 69 10 (.inl ((mI (ma_put S3 t 4 (.inl to)) 69 10) + (mI (ma_put S3 t 4 (.inl to)) t 2)))))))) (fun x S9 => Q (.inr x) S9)))))))) else (Q (.inl none) S)))))) : ma_wp X d w 90 0 [(0, .inr (.inr (some 69))), (1, .inr (.inr (some t))), (2, .inl to)] [] S Q := by
  refine zw_push hm_90 dX7_move_0 (v := .inr (.inr (some t))) rfl ?_
  obtain ⟨hg, h⟩ := h
  refine zw_gf hm_90 dX7_move_1 (v := .inl (mI S t 4)) (zT_tis hS hg) (zT_tt hS hg) rfl f_7_61_9 rfl ?_
  refine zw_sto hm_90 dX7_move_4 [(3, .inl (mI S t 4)), (0, .inr (.inr (some 69))), (1, .inr (.inr (some t))), (2, .inl to)] rfl rfl rfl ?_
  refine zw_push hm_90 dX7_move_5 (v := .inl to) rfl ?_
  refine zw_push hm_90 dX7_move_6 (v := .inl (mI S t 4)) rfl ?_
  refine zw_if2 hm_90 dX7_move_7 (t := 30) rfl zc2_eq ?_ ?_
  · intro hc
    rw [if_pos hc] at h
    exact zw_vret hm_90 dX7_move_30 h
  · intro hc
    rw [if_neg hc] at h
    refine zw_push hm_90 dX7_move_10 (v := .inl to) rfl ?_
    refine zw_if0 hm_90 dX7_move_11 (t := 30) rfl zc0_lt ?_ ?_
    · intro hc
      rw [if_pos hc] at h
      exact zw_vret hm_90 dX7_move_30 h
    · intro hc
      rw [if_neg hc] at h
      refine zw_push hm_90 dX7_move_14 (v := .inl (mI S t 4)) rfl ?_
      refine zw_push hm_90 dX7_move_15 (v := .inl to) rfl ?_
      refine zw_max hm_90 dX7_move_16 pr_7_116 (by omega) (by show 0 + 13 ≤ w; omega) (fun _ _ _ _ z => by cases z) ?_
      refine zw_push hm_90 dX7_move_19 (v := .inr (.inr (some t))) rfl ?_
      obtain ⟨hg, h⟩ := h
      refine zw_gf hm_90 dX7_move_20 (v := .inl (mI S t 2)) (zT_tis hS hg) (zT_tt hS hg) rfl f_7_64_9 rfl ?_
      refine zw_stk hm_90 dX7_move_23 (st₉ := [.inl ((if (mI S t 4) < to then to else (mI S t 4)) + (mI S t 2))]) rfl rfl ?_
      refine zw_push hm_90 dX7_move_24 (v := .inl (4500 : Int32)) rfl ?_
      refine zw_if2 hm_90 dX7_move_27 (t := 31) rfl zc2_le ?_ ?_
      · intro hc
        rw [if_pos hc] at h
        refine zw_push hm_90 dX7_move_31 (v := .inr (.inr (some 69))) rfl ?_
        refine zw_gf hm_90 dX7_move_32 (v := .inr (.inr (some 71))) (zT_is hS s_69) (zT_t hS s_69) rfl f_7_17_7 (zT_f hS r_69_1) ?_
        refine zw_push hm_90 dX7_move_35 (v := .inl (mI S t 4)) rfl ?_
        refine zw_push hm_90 dX7_move_36 (v := .inr (.inr (some 69))) rfl ?_
        refine zw_gf hm_90 dX7_move_37 (v := .inr (.inr (some 71))) (zT_is hS s_69) (zT_t hS s_69) rfl f_7_17_7 (zT_f hS r_69_1) ?_
        refine zw_push hm_90 dX7_move_40 (v := .inl to) rfl ?_
        refine zw_push hm_90 dX7_move_41 (v := .inr (.inr (some t))) rfl ?_
        obtain ⟨hg, h⟩ := h
        refine zw_gf hm_90 dX7_move_42 (v := .inl (mI S t 2)) (zT_tis hS hg) (zT_tt hS hg) rfl f_7_64_9 rfl ?_
        obtain ⟨hg, h⟩ := h
        refine zw_acp hm_90 dX7_move_45 pr_7_122 (by omega) (by show 0 + _ ≤ w; exact Nat.le_trans (by decide : _ ≤ 90) (by omega)) (zT_is hS s_71) (zT_h hS s_71) hg.1 hg.2.1 hg.2.2.1 hg.2.2.2.1 hg.2.2.2.2 ?_
        refine zw_push hm_90 dX7_move_48 (v := .inl (mI S t 4)) rfl ?_
        refine zw_push hm_90 dX7_move_49 (v := .inr (.inr (some t))) rfl ?_
        obtain ⟨hg, h⟩ := h
        refine zw_gf hm_90 dX7_move_50 (v := .inl (mI (ma_cp S 71 (va_cpy (mI S 71) (mI S 71) (mI S t 4).toNatClampNeg to.toNatClampNeg (mI S t 2).toNatClampNeg)) t 2)) (zT_tis (zT_cp hS) hg) (zT_tt (zT_cp hS) hg) rfl f_7_64_9 rfl ?_
        refine zw_stk hm_90 dX7_move_53 (st₉ := [.inl ((mI S t 4) + (mI (ma_cp S 71 (va_cpy (mI S 71) (mI S 71) (mI S t 4).toNatClampNeg to.toNatClampNeg (mI S t 2).toNatClampNeg)) t 2))]) rfl rfl ?_
        refine zw_sto hm_90 dX7_move_54 [(4, .inl ((mI S t 4) + (mI (ma_cp S 71 (va_cpy (mI S 71) (mI S 71) (mI S t 4).toNatClampNeg to.toNatClampNeg (mI S t 2).toNatClampNeg)) t 2))), (3, .inl (mI S t 4)), (0, .inr (.inr (some 69))), (1, .inr (.inr (some t))), (2, .inl to)] rfl rfl rfl ?_
        refine zw_push hm_90 dX7_move_56 (v := .inr (.inr (some 69))) rfl ?_
        refine zw_push hm_90 dX7_move_57 (v := .inl to) rfl ?_
        refine zw_push hm_90 dX7_move_58 (v := .inl (mI S t 4)) rfl ?_
        refine zw_if2 hm_90 dX7_move_59 (t := 75) rfl zc2_ge ?_ ?_
        · intro hc
          rw [if_pos hc] at h
          refine zw_push hm_90 dX7_move_75 (v := .inl (mI S t 4)) rfl ?_
          refine zw_push hm_90 dX7_move_76 (v := .inl ((mI S t 4) + (mI (ma_cp S 71 (va_cpy (mI S 71) (mI S 71) (mI S t 4).toNatClampNeg to.toNatClampNeg (mI S t 2).toNatClampNeg)) t 2))) rfl ?_
          refine zw_cv hm_90 dX7_move_78 v_7_112_7 hm_88 [.inl ((mI S t 4) + (mI (ma_cp S 71 (va_cpy (mI S 71) (mI S 71) (mI S t 4).toNatClampNeg to.toNatClampNeg (mI S t 2).toNatClampNeg)) t 2)), .inl (mI S t 4)] [] rfl (zT_rt (zT_cp hS) s_69 rfl) ⟨by omega, by omega⟩ rfl (zw_mono h (zv_go ?_ ?_))
          · intro S1 hv
            obtain ⟨hS1, h⟩ := hv
            refine zw_push hm_90 dX7_move_81 (v := .inr (.inr (some t))) rfl ?_
            refine zw_push hm_90 dX7_move_82 (v := .inl to) rfl ?_
            obtain ⟨hg, h⟩ := h
            refine zw_pf hm_90 dX7_move_83 (zT_tis hS1 hg) (zT_tt hS1 hg) p_7_61_9 zk_int ?_
            refine zw_push hm_90 dX7_move_86 (v := .inr (.inr (some 69))) rfl ?_
            refine zw_stk hm_90 dX7_move_87 (st₉ := [.inr (.inr (some 69)), .inr (.inr (some 69))]) rfl rfl ?_
            refine zw_gf hm_90 dX7_move_88 (v := .inl (mI (ma_put S1 t 4 (.inl to)) 69 10)) (zT_is (zT_pi hS1) s_69) (zT_t (zT_pi hS1) s_69) rfl f_7_52_7 rfl ?_
            refine zw_push hm_90 dX7_move_91 (v := .inr (.inr (some t))) rfl ?_
            obtain ⟨hg, h⟩ := h
            refine zw_gf hm_90 dX7_move_92 (v := .inl (mI (ma_put S1 t 4 (.inl to)) t 2)) (zT_tis (zT_pi hS1) hg) (zT_tt (zT_pi hS1) hg) rfl f_7_64_9 rfl ?_
            refine zw_stk hm_90 dX7_move_95 (st₉ := [.inl ((mI (ma_put S1 t 4 (.inl to)) 69 10) + (mI (ma_put S1 t 4 (.inl to)) t 2)), .inr (.inr (some 69))]) rfl rfl ?_
            refine zw_pf hm_90 dX7_move_96 (zT_is (zT_pi hS1) s_69) (zT_t (zT_pi hS1) s_69) p_7_52_7 zk_int ?_
            exact zw_vret hm_90 dX7_move_99 h
          · intro x S9 hx
            exact ⟨by decide, hx⟩
        · intro hc
          rw [if_neg hc] at h
          refine zw_push hm_90 dX7_move_62 (v := .inl (mI S t 4)) rfl ?_
          refine zw_push hm_90 dX7_move_63 (v := .inl to) rfl ?_
          refine zw_push hm_90 dX7_move_64 (v := .inr (.inr (some t))) rfl ?_
          obtain ⟨hg, h⟩ := h
          refine zw_gf hm_90 dX7_move_65 (v := .inl (mI (ma_cp S 71 (va_cpy (mI S 71) (mI S 71) (mI S t 4).toNatClampNeg to.toNatClampNeg (mI S t 2).toNatClampNeg)) t 2)) (zT_tis (zT_cp hS) hg) (zT_tt (zT_cp hS) hg) rfl f_7_64_9 rfl ?_
          refine zw_stk hm_90 dX7_move_68 (st₉ := [.inl (to + (mI (ma_cp S 71 (va_cpy (mI S 71) (mI S 71) (mI S t 4).toNatClampNeg to.toNatClampNeg (mI S t 2).toNatClampNeg)) t 2)), .inl (mI S t 4), .inr (.inr (some 69))]) rfl rfl ?_
          refine zw_max hm_90 dX7_move_69 pr_7_116 (by omega) (by show 1 + 13 ≤ w; omega) (fun _ _ _ _ z => by cases z) ?_
          refine zw_goto hm_90 dX7_move_72 (t := 76) rfl ?_
          refine zw_push hm_90 dX7_move_76 (v := .inl ((mI S t 4) + (mI (ma_cp S 71 (va_cpy (mI S 71) (mI S 71) (mI S t 4).toNatClampNeg to.toNatClampNeg (mI S t 2).toNatClampNeg)) t 2))) rfl ?_
          refine zw_cv hm_90 dX7_move_78 v_7_112_7 hm_88 [.inl ((mI S t 4) + (mI (ma_cp S 71 (va_cpy (mI S 71) (mI S 71) (mI S t 4).toNatClampNeg to.toNatClampNeg (mI S t 2).toNatClampNeg)) t 2)), .inl (if (mI S t 4) < (to + (mI (ma_cp S 71 (va_cpy (mI S 71) (mI S 71) (mI S t 4).toNatClampNeg to.toNatClampNeg (mI S t 2).toNatClampNeg)) t 2)) then (to + (mI (ma_cp S 71 (va_cpy (mI S 71) (mI S 71) (mI S t 4).toNatClampNeg to.toNatClampNeg (mI S t 2).toNatClampNeg)) t 2)) else (mI S t 4))] [] rfl (zT_rt (zT_cp hS) s_69 rfl) ⟨by omega, by omega⟩ rfl (zw_mono h (zv_go ?_ ?_))
          · intro S3 hv
            obtain ⟨hS3, h⟩ := hv
            refine zw_push hm_90 dX7_move_81 (v := .inr (.inr (some t))) rfl ?_
            refine zw_push hm_90 dX7_move_82 (v := .inl to) rfl ?_
            obtain ⟨hg, h⟩ := h
            refine zw_pf hm_90 dX7_move_83 (zT_tis hS3 hg) (zT_tt hS3 hg) p_7_61_9 zk_int ?_
            refine zw_push hm_90 dX7_move_86 (v := .inr (.inr (some 69))) rfl ?_
            refine zw_stk hm_90 dX7_move_87 (st₉ := [.inr (.inr (some 69)), .inr (.inr (some 69))]) rfl rfl ?_
            refine zw_gf hm_90 dX7_move_88 (v := .inl (mI (ma_put S3 t 4 (.inl to)) 69 10)) (zT_is (zT_pi hS3) s_69) (zT_t (zT_pi hS3) s_69) rfl f_7_52_7 rfl ?_
            refine zw_push hm_90 dX7_move_91 (v := .inr (.inr (some t))) rfl ?_
            obtain ⟨hg, h⟩ := h
            refine zw_gf hm_90 dX7_move_92 (v := .inl (mI (ma_put S3 t 4 (.inl to)) t 2)) (zT_tis (zT_pi hS3) hg) (zT_tt (zT_pi hS3) hg) rfl f_7_64_9 rfl ?_
            refine zw_stk hm_90 dX7_move_95 (st₉ := [.inl ((mI (ma_put S3 t 4 (.inl to)) 69 10) + (mI (ma_put S3 t 4 (.inl to)) t 2)), .inr (.inr (some 69))]) rfl rfl ?_
            refine zw_pf hm_90 dX7_move_96 (zT_is (zT_pi hS3) s_69) (zT_t (zT_pi hS3) s_69) p_7_52_7 zk_int ?_
            exact zw_vret hm_90 dX7_move_99 h
          · intro x S9 hx
            exact ⟨by decide, hx⟩
      · intro hc
        rw [if_neg hc] at h
        exact zw_vret hm_90 dX7_move_30 h
theorem sp_90_69 {X : Nat × (Nat → Int32)} {d w : Nat} {f : Nat → Nat → Int32} {r : Nat → Nat → Option Nat} {C Z N : Nat} {Q : Option ma_V ⊕ Nat → ma_S → Prop} {S : ma_S} (t : Nat) (to : Int32) (hd : 1 ≤ d) (hw : 90 ≤ w) (hI : zI f r C Z N S) (th_t : 126 ≤ t ∧ t < N) (hpre0 : to.toInt ≤ 1000000) (K : ∀ S₉, zI f r C Z N S₉ → Q (.inl none) S₉) : ma_wp X d w 90 0 [(0, .inr (.inr (some 69))), (1, .inr (.inr (some t))), (2, .inl to)] [] S Q := by
  refine g_90_69_0 t to (by omega) (by omega) (zG_T hI) ?_
  refine ⟨zG_n hI th_t, ?_⟩
  have b1 := i_bd to
  have f2 := zG_th hI th_t
  refine zd (fun h3 => ?_) (fun h3 => ?_)
  · skip
    have g4 := i_eq h3
    exact K _ hI
  · skip
    have g5 := i_ne h3
    have li6 : (0 : Int32).toInt = 0 := rfl
    refine zd (fun h7 => ?_) (fun h7 => ?_)
    · skip
      have g8 := i_lt h7
      exact K _ hI
    · skip
      have g9 := i_nlt h7
      refine ⟨zG_n hI th_t, ?_⟩
      have f10 := i_max (mI S t 4) to
      have f11 := zG_th hI th_t
      first | have e12 : ((if (mI S t 4) < to then to else (mI S t 4)) + (mI S t 2)).toInt = (if (mI S t 4) < to then to else (mI S t 4)).toInt + (mI S t 2).toInt := i_add (by omega) (by omega) | have b13 := i_bd ((if (mI S t 4) < to then to else (mI S t 4)) + (mI S t 2))
      have li14 : (4500 : Int32).toInt = 4500 := rfl
      refine zd (fun h15 => ?_) (fun h15 => ?_)
      · skip
        have g16 := i_le h15
        refine ⟨zG_n hI th_t, ?_⟩
        refine ⟨i_copy (by omega) (by omega) (by omega) (by omega) (by omega), ?_⟩
        have hI17 : zI f r C Z N (ma_cp S 71 (va_cpy (mI S 71) (mI S 71) (mI S t 4).toNatClampNeg to.toNatClampNeg (mI S t 2).toNatClampNeg)) := zG_cp hI (fun _ => rfl) (by decide) (by decide) (by decide) trivial
        refine ⟨zG_n hI17 th_t, ?_⟩
        refine zd (fun h18 => ?_) (fun h18 => ?_)
        · skip
          have g19 := i_le h18
          have f20 := zG_th hI17 th_t
          first | have e21 : ((mI S t 4) + (mI (ma_cp S 71 (va_cpy (mI S 71) (mI S 71) (mI S t 4).toNatClampNeg to.toNatClampNeg (mI S t 2).toNatClampNeg)) t 2)).toInt = (mI S t 4).toInt + (mI (ma_cp S 71 (va_cpy (mI S 71) (mI S 71) (mI S t 4).toNatClampNeg to.toNatClampNeg (mI S t 2).toNatClampNeg)) t 2).toInt := i_add (by omega) (by omega) | have b22 := i_bd ((mI S t 4) + (mI (ma_cp S 71 (va_cpy (mI S 71) (mI S 71) (mI S t 4).toNatClampNeg to.toNatClampNeg (mI S t 2).toNatClampNeg)) t 2))
          refine sp_88_69 ((mI S t 4)) (((mI S t 4) + (mI (ma_cp S 71 (va_cpy (mI S 71) (mI S 71) (mI S t 4).toNatClampNeg to.toNatClampNeg (mI S t 2).toNatClampNeg)) t 2))) (by omega) (by omega) hI17  (fun S1 hI_S1 => zv_n ⟨zG_T hI_S1, ?_⟩)
          refine ⟨zG_n hI_S1 th_t, ?_⟩
          have hI23 : zI f r C Z N (ma_put S1 t 4 (.inl to)) := zG_t4 hI_S1 th_t.1 zI_t (by decide) (by decide) trivial (by omega) (by omega)
          refine ⟨zG_n hI23 th_t, ?_⟩
          have hI24 : zI f r C Z N (ma_put (ma_put S1 t 4 (.inl to)) 69 10 (.inl ((mI (ma_put S1 t 4 (.inl to)) 69 10) + (mI (ma_put S1 t 4 (.inl to)) t 2)))) := zG_fr hI23 rfl (by decide) (by decide) (by decide) trivial
          exact K _ hI24
        · skip
          have g25 := i_nle h18
          refine ⟨zG_n hI17 th_t, ?_⟩
          have f26 := zG_th hI17 th_t
          first | have e27 : (to + (mI (ma_cp S 71 (va_cpy (mI S 71) (mI S 71) (mI S t 4).toNatClampNeg to.toNatClampNeg (mI S t 2).toNatClampNeg)) t 2)).toInt = to.toInt + (mI (ma_cp S 71 (va_cpy (mI S 71) (mI S 71) (mI S t 4).toNatClampNeg to.toNatClampNeg (mI S t 2).toNatClampNeg)) t 2).toInt := i_add (by omega) (by omega) | have b28 := i_bd (to + (mI (ma_cp S 71 (va_cpy (mI S 71) (mI S 71) (mI S t 4).toNatClampNeg to.toNatClampNeg (mI S t 2).toNatClampNeg)) t 2))
          have f29 := i_max (mI S t 4) (to + (mI (ma_cp S 71 (va_cpy (mI S 71) (mI S 71) (mI S t 4).toNatClampNeg to.toNatClampNeg (mI S t 2).toNatClampNeg)) t 2))
          first | have e30 : ((mI S t 4) + (mI (ma_cp S 71 (va_cpy (mI S 71) (mI S 71) (mI S t 4).toNatClampNeg to.toNatClampNeg (mI S t 2).toNatClampNeg)) t 2)).toInt = (mI S t 4).toInt + (mI (ma_cp S 71 (va_cpy (mI S 71) (mI S 71) (mI S t 4).toNatClampNeg to.toNatClampNeg (mI S t 2).toNatClampNeg)) t 2).toInt := i_add (by omega) (by omega) | have b31 := i_bd ((mI S t 4) + (mI (ma_cp S 71 (va_cpy (mI S 71) (mI S 71) (mI S t 4).toNatClampNeg to.toNatClampNeg (mI S t 2).toNatClampNeg)) t 2))
          refine sp_88_69 ((if (mI S t 4) < (to + (mI (ma_cp S 71 (va_cpy (mI S 71) (mI S 71) (mI S t 4).toNatClampNeg to.toNatClampNeg (mI S t 2).toNatClampNeg)) t 2)) then (to + (mI (ma_cp S 71 (va_cpy (mI S 71) (mI S 71) (mI S t 4).toNatClampNeg to.toNatClampNeg (mI S t 2).toNatClampNeg)) t 2)) else (mI S t 4))) (((mI S t 4) + (mI (ma_cp S 71 (va_cpy (mI S 71) (mI S 71) (mI S t 4).toNatClampNeg to.toNatClampNeg (mI S t 2).toNatClampNeg)) t 2))) (by omega) (by omega) hI17  (fun S3 hI_S3 => zv_n ⟨zG_T hI_S3, ?_⟩)
          refine ⟨zG_n hI_S3 th_t, ?_⟩
          have hI32 : zI f r C Z N (ma_put S3 t 4 (.inl to)) := zG_t4 hI_S3 th_t.1 zI_t (by decide) (by decide) trivial (by omega) (by omega)
          refine ⟨zG_n hI32 th_t, ?_⟩
          have hI33 : zI f r C Z N (ma_put (ma_put S3 t 4 (.inl to)) 69 10 (.inl ((mI (ma_put S3 t 4 (.inl to)) 69 10) + (mI (ma_put S3 t 4 (.inl to)) t 2)))) := zG_fr hI32 rfl (by decide) (by decide) (by decide) trivial
          exact K _ hI33
      · skip
        have g34 := i_nle h15
        exact K _ hI
theorem g_83_69_75_0 {X : Nat × (Nat → Int32)} {d w : Nat} {S : ma_S} {Q : Option ma_V ⊕ Nat → ma_S → Prop}  (hd : 2 ≤ d) (hw : 49 ≤ w) (hS : zT S) (h : ma_wp X d w 83 2 [(0, .inr (.inr (some 69))), (1, .inr (.inr (some 75))), (2, .inl (0 : Int32))] [] S Q) : ma_wp X d w 83 0 [(0, .inr (.inr (some 69))), (1, .inr (.inr (some 75)))] [] S Q := by
  refine zw_push hm_83 dX7_grantWishes_0 (v := .inl (0 : Int32)) rfl ?_
  refine zw_sto hm_83 dX7_grantWishes_1 [(2, .inl (0 : Int32)), (0, .inr (.inr (some 69))), (1, .inr (.inr (some 75)))] rfl rfl rfl ?_
  exact zw_sub (ma_nd_of (ks := [0, 1, 2]) rfl (by decide)) (ma_nd_of (ks := [2, 0, 1]) rfl (by decide)) (ma_le_cons rfl (ma_le_cons rfl (ma_le_cons rfl (ma_le_nil _)))) h
theorem g_83_69_75_2 {X : Nat × (Nat → Int32)} {d w : Nat} {S : ma_S} {Q : Option ma_V ⊕ Nat → ma_S → Prop} (l2 : Int32) (hd : 2 ≤ d) (hw : 49 ≤ w) (hS : zT S) (h : if (mI S 69 6) ≤ l2 then (Q (.inl none) S) else (if l2 < 0 then (ma_wp X d w 83 2 [(0, .inr (.inr (some 69))), (1, .inr (.inr (some 75))), (2, .inl (l2 + (1 : Int32)))] [] S Q) else (if (512 : Int32) ≤ l2 then (ma_wp X d w 83 2 [(0, .inr (.inr (some 69))), (1, .inr (.inr (some 75))), (2, .inl (l2 + (1 : Int32)))] [] S Q) else ((0 ≤ l2 ∧ l2.toNatClampNeg < 512) ∧ (((mR S 70 l2.toNatClampNeg) = none → ma_wp X d w 83 2 [(0, .inr (.inr (some 69))), (1, .inr (.inr (some 75))), (2, .inl (l2 + (1 : Int32)))] [] S Q) ∧ (∀ c1, (mR S 70 l2.toNatClampNeg) = some c1 → (126 ≤ c1 ∧ c1 < mN S) ∧ (if (mI S c1 8) = 0 then (ma_wp X d w 83 2 [(0, .inr (.inr (some 69))), (1, .inr (.inr (some 75))), (2, .inl (l2 + (1 : Int32)))] [] S Q) else (ma_wp X (d - 1) (w - 21) 122 0 [(0, .inr (.inr (some 75))), (1, .inr (.inr (some c1)))] [] S (zi (fun v3 S2 => zT S2 ∧ (if v3 = 0 then (ma_wp X (d - 1) (w - 21) 84 0 [(0, .inr (.inr (some 69))), (1, .inr (.inr (some c1)))] [] S2 (zv (fun S4 => zT S4 ∧ (ma_wp X (d - 1) (w - 21) 119 0 [(0, .inr (.inr (some 75))), (1, .inr (.inr (some c1)))] [] S4 (zv (fun S6 => zT S6 ∧ (ma_wp X (d - 1) (w - 24) 120 0 [(0, .inr (.inr (some 75))), (1, .inl (512 : Int32))] [] S6 (zi (fun v9 S8 => zT S8 ∧ (ma_wp X d w 83 2 [(0, .inr (.inr (some 69))), (1, .inr (.inr (some 75))), (2, .inl (l2 + (1 : Int32)))] [] S8 Q)) (fun x S9 => Q (.inr x) S9)))) (fun x S9 => Q (.inr x) S9)))) (fun x S9 => Q (.inr x) S9))) else (ma_wp X d w 83 2 [(0, .inr (.inr (some 69))), (1, .inr (.inr (some 75))), (2, .inl (l2 + (1 : Int32)))] [] S2 Q))) (fun x S9 => Q (.inr x) S9)))))))))) : ma_wp X d w 83 2 [(0, .inr (.inr (some 69))), (1, .inr (.inr (some 75))), (2, .inl l2)] [] S Q := by
  refine zw_push hm_83 dX7_grantWishes_2 (v := .inl l2) rfl ?_
  refine zw_push hm_83 dX7_grantWishes_3 (v := .inr (.inr (some 69))) rfl ?_
  refine zw_gf hm_83 dX7_grantWishes_4 (v := .inl (mI S 69 6)) (zT_is hS s_69) (zT_t hS s_69) rfl f_7_40_7 rfl ?_
  refine zw_if2 hm_83 dX7_grantWishes_7 (t := 59) rfl zc2_ge ?_ ?_
  · intro hc
    rw [if_pos hc] at h
    exact zw_vret hm_83 dX7_grantWishes_59 h
  · intro hc
    rw [if_neg hc] at h
    refine zw_push hm_83 dX7_grantWishes_10 (v := .inr (.inr (some 69))) rfl ?_
    refine zw_push hm_83 dX7_grantWishes_11 (v := .inl l2) rfl ?_
    refine zw_cv hm_83 dX7_grantWishes_12 v_7_94_7 hm_81 [.inl l2] [] rfl (zT_rt hS s_69 rfl) ⟨by omega, by omega⟩ rfl ?_
    show ma_wp X (d - 1) (w - 21) 81 0 [(0, .inr (.inr (some 69))), (1, .inl l2)] [] S _
    refine zw_push hm_81 dX7_thingAt_0 (v := .inl l2) rfl ?_
    refine zw_if0 hm_81 dX7_thingAt_1 (t := 20) rfl zc0_lt ?_ ?_
    · intro hc
      rw [if_pos hc] at h
      refine zw_push hm_81 dX7_thingAt_20 (v := .inr (.inr none)) rfl ?_
      refine zw_aret hm_81 dX7_thingAt_21 ?_
      show ma_wp X d w 83 15 [(0, .inr (.inr (some 69))), (1, .inr (.inr (some 75))), (2, .inl l2)] [.inr (.inr none)] S _
      refine zw_sto hm_83 dX7_grantWishes_15 [(3, .inr (.inr none)), (0, .inr (.inr (some 69))), (1, .inr (.inr (some 75))), (2, .inl l2)] rfl rfl rfl ?_
      refine zw_push hm_83 dX7_grantWishes_16 (v := .inr (.inr none)) rfl ?_
      refine zw_ifnull hm_83 dX7_grantWishes_17 (t := 53) rfl (fun _ => ?_) (fun _ z => by cases z)
      refine zw_sto hm_83 dX7_grantWishes_53 [(2, .inl (l2 + (1 : Int32))), (3, .inr (.inr none)), (0, .inr (.inr (some 69))), (1, .inr (.inr (some 75)))] rfl rfl rfl ?_
      refine zw_goto hm_83 dX7_grantWishes_56 (t := 2) rfl ?_
      exact zw_sub (ma_nd_of (ks := [0, 1, 2]) rfl (by decide)) (ma_nd_of (ks := [2, 3, 0, 1]) rfl (by decide)) (ma_le_cons rfl (ma_le_cons rfl (ma_le_cons rfl (ma_le_nil _)))) h
    · intro hc
      rw [if_neg hc] at h
      refine zw_push hm_81 dX7_thingAt_4 (v := .inl l2) rfl ?_
      refine zw_push hm_81 dX7_thingAt_5 (v := .inl (512 : Int32)) rfl ?_
      refine zw_if2 hm_81 dX7_thingAt_8 (t := 20) rfl zc2_ge ?_ ?_
      · intro hc
        rw [if_pos hc] at h
        refine zw_push hm_81 dX7_thingAt_20 (v := .inr (.inr none)) rfl ?_
        refine zw_aret hm_81 dX7_thingAt_21 ?_
        show ma_wp X d w 83 15 [(0, .inr (.inr (some 69))), (1, .inr (.inr (some 75))), (2, .inl l2)] [.inr (.inr none)] S _
        refine zw_sto hm_83 dX7_grantWishes_15 [(3, .inr (.inr none)), (0, .inr (.inr (some 69))), (1, .inr (.inr (some 75))), (2, .inl l2)] rfl rfl rfl ?_
        refine zw_push hm_83 dX7_grantWishes_16 (v := .inr (.inr none)) rfl ?_
        refine zw_ifnull hm_83 dX7_grantWishes_17 (t := 53) rfl (fun _ => ?_) (fun _ z => by cases z)
        refine zw_sto hm_83 dX7_grantWishes_53 [(2, .inl (l2 + (1 : Int32))), (3, .inr (.inr none)), (0, .inr (.inr (some 69))), (1, .inr (.inr (some 75)))] rfl rfl rfl ?_
        refine zw_goto hm_83 dX7_grantWishes_56 (t := 2) rfl ?_
        exact zw_sub (ma_nd_of (ks := [0, 1, 2]) rfl (by decide)) (ma_nd_of (ks := [2, 3, 0, 1]) rfl (by decide)) (ma_le_cons rfl (ma_le_cons rfl (ma_le_cons rfl (ma_le_nil _)))) h
      · intro hc
        rw [if_neg hc] at h
        refine zw_push hm_81 dX7_thingAt_11 (v := .inr (.inr (some 69))) rfl ?_
        refine zw_gf hm_81 dX7_thingAt_12 (v := .inr (.inr (some 70))) (zT_is hS s_69) (zT_t hS s_69) rfl f_7_11_7 (zT_f hS r_69_0) ?_
        refine zw_push hm_81 dX7_thingAt_15 (v := .inl l2) rfl ?_
        obtain ⟨hg, h⟩ := h
        refine zw_aa hm_81 dX7_thingAt_16 (zT_is hS s_70) (zT_h hS s_70) rfl rfl hg rfl ?_
        show ma_wp X (d - 1) (w - 21) 81 17 [(0, .inr (.inr (some 69))), (1, .inl l2)] [.inr (.inr (mR S 70 l2.toNatClampNeg))] S _
        refine zw_goto hm_81 dX7_thingAt_17 (t := 21) rfl ?_
        refine zw_aret hm_81 dX7_thingAt_21 ?_
        show ma_wp X d w 83 15 [(0, .inr (.inr (some 69))), (1, .inr (.inr (some 75))), (2, .inl l2)] [.inr (.inr (mR S 70 l2.toNatClampNeg))] S _
        refine zw_sto hm_83 dX7_grantWishes_15 [(3, .inr (.inr (mR S 70 l2.toNatClampNeg))), (0, .inr (.inr (some 69))), (1, .inr (.inr (some 75))), (2, .inl l2)] rfl rfl rfl ?_
        refine zw_push hm_83 dX7_grantWishes_16 (v := .inr (.inr (mR S 70 l2.toNatClampNeg))) rfl ?_
        refine zw_ifnull hm_83 dX7_grantWishes_17 (t := 53) rfl ?_ ?_
        · intro hc
          have h := h.1 hc
          (try rw [hc])
          show ma_wp X d w 83 53 [(3, .inr (.inr none)), (0, .inr (.inr (some 69))), (1, .inr (.inr (some 75))), (2, .inl l2)] [] S _
          refine zw_sto hm_83 dX7_grantWishes_53 [(2, .inl (l2 + (1 : Int32))), (3, .inr (.inr none)), (0, .inr (.inr (some 69))), (1, .inr (.inr (some 75)))] rfl rfl rfl ?_
          refine zw_goto hm_83 dX7_grantWishes_56 (t := 2) rfl ?_
          exact zw_sub (ma_nd_of (ks := [0, 1, 2]) rfl (by decide)) (ma_nd_of (ks := [2, 3, 0, 1]) rfl (by decide)) (ma_le_cons rfl (ma_le_cons rfl (ma_le_cons rfl (ma_le_nil _)))) h
        · intro c1 hc
          have h := h.2 c1 hc
          (try rw [hc])
          show ma_wp X d w 83 20 [(3, .inr (.inr (some c1))), (0, .inr (.inr (some 69))), (1, .inr (.inr (some 75))), (2, .inl l2)] [] S _
          refine zw_push hm_83 dX7_grantWishes_20 (v := .inr (.inr (some c1))) rfl ?_
          obtain ⟨hg, h⟩ := h
          refine zw_gf hm_83 dX7_grantWishes_21 (v := .inl (mI S c1 8)) (zT_tis hS hg) (zT_tt hS hg) rfl f_7_108_9 rfl ?_
          refine zw_if0 hm_83 dX7_grantWishes_24 (t := 53) rfl zc0_eq ?_ ?_
          · intro hc
            rw [if_pos hc] at h
            refine zw_sto hm_83 dX7_grantWishes_53 [(2, .inl (l2 + (1 : Int32))), (3, .inr (.inr (some c1))), (0, .inr (.inr (some 69))), (1, .inr (.inr (some 75)))] rfl rfl rfl ?_
            refine zw_goto hm_83 dX7_grantWishes_56 (t := 2) rfl ?_
            exact zw_sub (ma_nd_of (ks := [0, 1, 2]) rfl (by decide)) (ma_nd_of (ks := [2, 3, 0, 1]) rfl (by decide)) (ma_le_cons rfl (ma_le_cons rfl (ma_le_cons rfl (ma_le_nil _)))) h
          · intro hc
            rw [if_neg hc] at h
            refine zw_push hm_83 dX7_grantWishes_27 (v := .inr (.inr (some 75))) rfl ?_
            refine zw_push hm_83 dX7_grantWishes_28 (v := .inr (.inr (some c1))) rfl ?_
            refine zw_cv hm_83 dX7_grantWishes_29 v_7_128_10 hm_122 [.inr (.inr (some c1))] [] rfl (zT_rt hS s_75 rfl) ⟨by omega, by omega⟩ rfl (zw_mono h (zi_go ?_ ?_))
            · intro v3 S2 hv
              obtain ⟨hS2, h⟩ := hv
              refine zw_if0 hm_83 dX7_grantWishes_32 (t := 53) rfl zc0_ne ?_ ?_
              · intro hc
                rw [if_neg hc] at h
                refine zw_sto hm_83 dX7_grantWishes_53 [(2, .inl (l2 + (1 : Int32))), (3, .inr (.inr (some c1))), (0, .inr (.inr (some 69))), (1, .inr (.inr (some 75)))] rfl rfl rfl ?_
                refine zw_goto hm_83 dX7_grantWishes_56 (t := 2) rfl ?_
                exact zw_sub (ma_nd_of (ks := [0, 1, 2]) rfl (by decide)) (ma_nd_of (ks := [2, 3, 0, 1]) rfl (by decide)) (ma_le_cons rfl (ma_le_cons rfl (ma_le_cons rfl (ma_le_nil _)))) h
              · intro hc
                rw [if_pos (Classical.not_not.mp hc)] at h
                refine zw_push hm_83 dX7_grantWishes_35 (v := .inr (.inr (some 69))) rfl ?_
                refine zw_push hm_83 dX7_grantWishes_36 (v := .inr (.inr (some c1))) rfl ?_
                refine zw_cv hm_83 dX7_grantWishes_37 v_7_134_7 hm_84 [.inr (.inr (some c1))] [] rfl (zT_rt hS2 s_69 rfl) ⟨by omega, by omega⟩ rfl (zw_mono h (zv_go ?_ ?_))
                · intro S4 hv
                  obtain ⟨hS4, h⟩ := hv
                  refine zw_push hm_83 dX7_grantWishes_40 (v := .inr (.inr (some 75))) rfl ?_
                  refine zw_push hm_83 dX7_grantWishes_41 (v := .inr (.inr (some c1))) rfl ?_
                  refine zw_cv hm_83 dX7_grantWishes_42 v_7_137_10 hm_119 [.inr (.inr (some c1))] [] rfl (zT_rt hS4 s_75 rfl) ⟨by omega, by omega⟩ rfl (zw_mono h (zv_go ?_ ?_))
                  · intro S6 hv
                    obtain ⟨hS6, h⟩ := hv
                    refine zw_push hm_83 dX7_grantWishes_45 (v := .inr (.inr (some 75))) rfl ?_
                    refine zw_push hm_83 dX7_grantWishes_46 (v := .inl (512 : Int32)) rfl ?_
                    refine zw_cv hm_83 dX7_grantWishes_49 v_7_140_10 hm_120 [.inl (512 : Int32)] [] rfl (zT_rt hS6 s_75 rfl) ⟨by omega, by omega⟩ rfl (zw_mono h (zi_go ?_ ?_))
                    · intro v9 S8 hv
                      obtain ⟨hS8, h⟩ := hv
                      refine zw_stk hm_83 dX7_grantWishes_52 (st₉ := []) rfl rfl ?_
                      refine zw_sto hm_83 dX7_grantWishes_53 [(2, .inl (l2 + (1 : Int32))), (3, .inr (.inr (some c1))), (0, .inr (.inr (some 69))), (1, .inr (.inr (some 75)))] rfl rfl rfl ?_
                      refine zw_goto hm_83 dX7_grantWishes_56 (t := 2) rfl ?_
                      exact zw_sub (ma_nd_of (ks := [0, 1, 2]) rfl (by decide)) (ma_nd_of (ks := [2, 3, 0, 1]) rfl (by decide)) (ma_le_cons rfl (ma_le_cons rfl (ma_le_cons rfl (ma_le_nil _)))) h
                    · intro x S9 hx
                      exact ⟨by decide, hx⟩
                  · intro x S9 hx
                    exact ⟨by decide, hx⟩
                · intro x S9 hx
                  exact ⟨by decide, hx⟩
            · intro x S9 hx
              exact ⟨by decide, hx⟩
theorem lp_83_69_75_2 {X : Nat × (Nat → Int32)} {d w : Nat} {f : Nat → Nat → Int32} {r : Nat → Nat → Option Nat} {C Z N : Nat} {Q : Option ma_V ⊕ Nat → ma_S → Prop} (hd : 2 ≤ d) (hw : 49 ≤ w) (K : ∀ S₉, zI f r C Z N S₉ → Q (.inl none) S₉) : ∀ (n : Nat) (S : ma_S) (l2 : Int32), (512 - l2.toInt).toNat = n → zI f r C Z N S → ma_wp X d w 83 2 [(0, .inr (.inr (some 69))), (1, .inr (.inr (some 75))), (2, .inl l2)] [] S Q := by
  intro n
  induction n using Nat.strongRecOn with
  | _ n IH =>
    intro S l2 hmu hI  
    refine g_83_69_75_2 l2 (by omega) (by omega) (zG_T hI) ?_
    have f1 := zG_s hI (0) (512) (c := 69) (k := 6) (by decide)
    have b2 := i_bd l2
    refine zd (fun h3 => ?_) (fun h3 => ?_)
    · skip
      have g4 := i_le h3
      exact K _ hI
    · skip
      have g5 := i_nle h3
      have li6 : (0 : Int32).toInt = 0 := rfl
      refine zd (fun h7 => ?_) (fun h7 => ?_)
      · skip
        have g8 := i_lt h7
        first | have e9 : (l2 + (1 : Int32)).toInt = l2.toInt + (1) := i_addk rfl (by omega) (by omega) | have b10 := i_bd (l2 + (1 : Int32))
        exact IH _ (by omega) _ ((l2 + (1 : Int32))) rfl hI 
      · skip
        have g11 := i_nlt h7
        have li12 : (512 : Int32).toInt = 512 := rfl
        refine zd (fun h13 => ?_) (fun h13 => ?_)
        · skip
          have g14 := i_le h13
          first | have e15 : (l2 + (1 : Int32)).toInt = l2.toInt + (1) := i_addk rfl (by omega) (by omega) | have b16 := i_bd (l2 + (1 : Int32))
          exact IH _ (by omega) _ ((l2 + (1 : Int32))) rfl hI 
        · skip
          have g17 := i_nle h13
          refine ⟨i_ix (by omega) (by omega), ?_⟩
          refine ⟨fun _ => ?_, fun c1 hc => ?_⟩
          · skip
            first | have e18 : (l2 + (1 : Int32)).toInt = l2.toInt + (1) := i_addk rfl (by omega) (by omega) | have b19 := i_bd (l2 + (1 : Int32))
            exact IH _ (by omega) _ ((l2 + (1 : Int32))) rfl hI 
          · skip
            have th_c1 := (fun _ z => zG_70 hI (c := 70) (by decide) z) c1 hc
            refine ⟨zG_n hI th_c1, ?_⟩
            have b20 := i_bd (mI S c1 8)
            refine zd (fun h21 => ?_) (fun h21 => ?_)
            · skip
              have g22 := i_eq h21
              first | have e23 : (l2 + (1 : Int32)).toInt = l2.toInt + (1) := i_addk rfl (by omega) (by omega) | have b24 := i_bd (l2 + (1 : Int32))
              exact IH _ (by omega) _ ((l2 + (1 : Int32))) rfl hI 
            · skip
              have g25 := i_ne h21
              refine sp_122_75 c1 (by omega) (by omega) hI th_c1 (fun v3 S2 hI_S2 hp_v3 => zi_n ⟨zG_T hI_S2, ?_⟩)
              have b26 := i_bd v3
              refine zd (fun h27 => ?_) (fun h27 => ?_)
              · skip
                have g28 := i_eq h27
                refine sp_84_69 c1 (by omega) (by omega) hI_S2 th_c1 (fun S4 hI_S4 => zv_n ⟨zG_T hI_S4, ?_⟩)
                refine sp_119_75 ((some c1)) (by omega) (by omega) hI_S4 (fun _ z => by cases z; exact th_c1) (fun S6 hI_S6 => zv_n ⟨zG_T hI_S6, ?_⟩)
                refine sp_120_75 ((512 : Int32)) (by omega) (by omega) hI_S6  (fun v9 S8 hI_S8 hp_v9 => zi_n ⟨zG_T hI_S8, ?_⟩)
                first | have e29 : (l2 + (1 : Int32)).toInt = l2.toInt + (1) := i_addk rfl (by omega) (by omega) | have b30 := i_bd (l2 + (1 : Int32))
                exact IH _ (by omega) _ ((l2 + (1 : Int32))) rfl hI_S8 
              · skip
                have g31 := i_ne h27
                first | have e32 : (l2 + (1 : Int32)).toInt = l2.toInt + (1) := i_addk rfl (by omega) (by omega) | have b33 := i_bd (l2 + (1 : Int32))
                exact IH _ (by omega) _ ((l2 + (1 : Int32))) rfl hI_S2 
theorem sp_83_69_75 {X : Nat × (Nat → Int32)} {d w : Nat} {f : Nat → Nat → Int32} {r : Nat → Nat → Option Nat} {C Z N : Nat} {Q : Option ma_V ⊕ Nat → ma_S → Prop} {S : ma_S}  (hd : 2 ≤ d) (hw : 49 ≤ w) (hI : zI f r C Z N S)  (K : ∀ S₉, zI f r C Z N S₉ → Q (.inl none) S₉) : ma_wp X d w 83 0 [(0, .inr (.inr (some 69))), (1, .inr (.inr (some 75)))] [] S Q := by
  refine g_83_69_75_0  (by omega) (by omega) (zG_T hI) ?_
  have li1 : (0 : Int32).toInt = 0 := rfl
  exact lp_83_69_75_2 (by omega) (by omega) K _ _ ((0 : Int32)) rfl hI 
theorem g_86_69_75_0 {X : Nat × (Nat → Int32)} {d w : Nat} {S : ma_S} {Q : Option ma_V ⊕ Nat → ma_S → Prop}  (hd : 2 ≤ d) (hw : 48 ≤ w) (hS : zT S) (h : ma_wp X d w 86 7 [(0, .inr (.inr (some 69))), (1, .inr (.inr (some 75))), (2, .inl (mI S 69 11)), (3, .inl (0 : Int32))] [] S Q) : ma_wp X d w 86 0 [(0, .inr (.inr (some 69))), (1, .inr (.inr (some 75)))] [] S Q := by
  refine zw_push hm_86 dX7_removeOthers_0 (v := .inr (.inr (some 69))) rfl ?_
  refine zw_gf hm_86 dX7_removeOthers_1 (v := .inl (mI S 69 11)) (zT_is hS s_69) (zT_t hS s_69) rfl f_7_55_7 rfl ?_
  refine zw_sto hm_86 dX7_removeOthers_4 [(2, .inl (mI S 69 11)), (0, .inr (.inr (some 69))), (1, .inr (.inr (some 75)))] rfl rfl rfl ?_
  refine zw_push hm_86 dX7_removeOthers_5 (v := .inl (0 : Int32)) rfl ?_
  refine zw_sto hm_86 dX7_removeOthers_6 [(3, .inl (0 : Int32)), (2, .inl (mI S 69 11)), (0, .inr (.inr (some 69))), (1, .inr (.inr (some 75)))] rfl rfl rfl ?_
  exact zw_sub (ma_nd_of (ks := [0, 1, 2, 3]) rfl (by decide)) (ma_nd_of (ks := [3, 2, 0, 1]) rfl (by decide)) (ma_le_cons rfl (ma_le_cons rfl (ma_le_cons rfl (ma_le_cons rfl (ma_le_nil _))))) h
theorem g_86_69_75_7 {X : Nat × (Nat → Int32)} {d w : Nat} {S : ma_S} {Q : Option ma_V ⊕ Nat → ma_S → Prop} (l2 : Int32) (l3 : Int32) (hd : 2 ≤ d) (hw : 48 ≤ w) (hS : zT S) (h : if (mI S 69 6) ≤ l3 then (Q (.inl (some (.inl ((mI S 69 11) - l2)))) (ma_put S 69 9 (.inl ((mI S 69 9) + (1 : Int32))))) else (if l3 < 0 then (ma_wp X d w 86 7 [(0, .inr (.inr (some 69))), (1, .inr (.inr (some 75))), (2, .inl l2), (3, .inl (l3 + (1 : Int32)))] [] S Q) else (if (512 : Int32) ≤ l3 then (ma_wp X d w 86 7 [(0, .inr (.inr (some 69))), (1, .inr (.inr (some 75))), (2, .inl l2), (3, .inl (l3 + (1 : Int32)))] [] S Q) else ((0 ≤ l3 ∧ l3.toNatClampNeg < 512) ∧ (((mR S 70 l3.toNatClampNeg) = none → ma_wp X d w 86 7 [(0, .inr (.inr (some 69))), (1, .inr (.inr (some 75))), (2, .inl l2), (3, .inl (l3 + (1 : Int32)))] [] S Q) ∧ (∀ c1, (mR S 70 l3.toNatClampNeg) = some c1 → ma_wp X (d - 1) (w - 21) 122 0 [(0, .inr (.inr (some 75))), (1, .inr (.inr (some c1)))] [] S (zi (fun v3 S2 => zT S2 ∧ (if v3 = 0 then (ma_wp X (d - 1) (w - 23) 87 0 [(0, .inr (.inr (some 69))), (1, .inr (.inr (some c1)))] [] S2 (zv (fun S4 => zT S4 ∧ (ma_wp X d w 86 7 [(0, .inr (.inr (some 69))), (1, .inr (.inr (some 75))), (2, .inl l2), (3, .inl (l3 + (1 : Int32)))] [] S4 Q)) (fun x S9 => Q (.inr x) S9))) else (ma_wp X d w 86 7 [(0, .inr (.inr (some 69))), (1, .inr (.inr (some 75))), (2, .inl l2), (3, .inl (l3 + (1 : Int32)))] [] S2 Q))) (fun x S9 => Q (.inr x) S9)))))))) : ma_wp X d w 86 7 [(0, .inr (.inr (some 69))), (1, .inr (.inr (some 75))), (2, .inl l2), (3, .inl l3)] [] S Q := by
  refine zw_push hm_86 dX7_removeOthers_7 (v := .inl l3) rfl ?_
  refine zw_push hm_86 dX7_removeOthers_8 (v := .inr (.inr (some 69))) rfl ?_
  refine zw_gf hm_86 dX7_removeOthers_9 (v := .inl (mI S 69 6)) (zT_is hS s_69) (zT_t hS s_69) rfl f_7_40_7 rfl ?_
  refine zw_if2 hm_86 dX7_removeOthers_12 (t := 48) rfl zc2_ge ?_ ?_
  · intro hc
    rw [if_pos hc] at h
    refine zw_push hm_86 dX7_removeOthers_48 (v := .inr (.inr (some 69))) rfl ?_
    refine zw_stk hm_86 dX7_removeOthers_49 (st₉ := [.inr (.inr (some 69)), .inr (.inr (some 69))]) rfl rfl ?_
    refine zw_gf hm_86 dX7_removeOthers_50 (v := .inl (mI S 69 9)) (zT_is hS s_69) (zT_t hS s_69) rfl f_7_49_7 rfl ?_
    refine zw_push hm_86 dX7_removeOthers_53 (v := .inl (1 : Int32)) rfl ?_
    refine zw_stk hm_86 dX7_removeOthers_54 (st₉ := [.inl ((mI S 69 9) + (1 : Int32)), .inr (.inr (some 69))]) rfl rfl ?_
    refine zw_pf hm_86 dX7_removeOthers_55 (zT_is hS s_69) (zT_t hS s_69) p_7_49_7 zk_int ?_
    refine zw_push hm_86 dX7_removeOthers_58 (v := .inr (.inr (some 69))) rfl ?_
    refine zw_gf hm_86 dX7_removeOthers_59 (v := .inl (mI S 69 11)) (zT_is (zT_pi hS) s_69) (zT_t (zT_pi hS) s_69) rfl f_7_55_7 rfl ?_
    refine zw_push hm_86 dX7_removeOthers_62 (v := .inl l2) rfl ?_
    refine zw_stk hm_86 dX7_removeOthers_63 (st₉ := [.inl ((mI S 69 11) - l2)]) rfl rfl ?_
    exact zw_iret hm_86 dX7_removeOthers_64 h
  · intro hc
    rw [if_neg hc] at h
    refine zw_push hm_86 dX7_removeOthers_15 (v := .inr (.inr (some 69))) rfl ?_
    refine zw_push hm_86 dX7_removeOthers_16 (v := .inl l3) rfl ?_
    refine zw_cv hm_86 dX7_removeOthers_17 v_7_94_7 hm_81 [.inl l3] [] rfl (zT_rt hS s_69 rfl) ⟨by omega, by omega⟩ rfl ?_
    show ma_wp X (d - 1) (w - 21) 81 0 [(0, .inr (.inr (some 69))), (1, .inl l3)] [] S _
    refine zw_push hm_81 dX7_thingAt_0 (v := .inl l3) rfl ?_
    refine zw_if0 hm_81 dX7_thingAt_1 (t := 20) rfl zc0_lt ?_ ?_
    · intro hc
      rw [if_pos hc] at h
      refine zw_push hm_81 dX7_thingAt_20 (v := .inr (.inr none)) rfl ?_
      refine zw_aret hm_81 dX7_thingAt_21 ?_
      show ma_wp X d w 86 20 [(0, .inr (.inr (some 69))), (1, .inr (.inr (some 75))), (2, .inl l2), (3, .inl l3)] [.inr (.inr none)] S _
      refine zw_sto hm_86 dX7_removeOthers_20 [(4, .inr (.inr none)), (0, .inr (.inr (some 69))), (1, .inr (.inr (some 75))), (2, .inl l2), (3, .inl l3)] rfl rfl rfl ?_
      refine zw_push hm_86 dX7_removeOthers_22 (v := .inr (.inr none)) rfl ?_
      refine zw_ifnull hm_86 dX7_removeOthers_24 (t := 42) rfl (fun _ => ?_) (fun _ z => by cases z)
      refine zw_sto hm_86 dX7_removeOthers_42 [(3, .inl (l3 + (1 : Int32))), (4, .inr (.inr none)), (0, .inr (.inr (some 69))), (1, .inr (.inr (some 75))), (2, .inl l2)] rfl rfl rfl ?_
      refine zw_goto hm_86 dX7_removeOthers_45 (t := 7) rfl ?_
      exact zw_sub (ma_nd_of (ks := [0, 1, 2, 3]) rfl (by decide)) (ma_nd_of (ks := [3, 4, 0, 1, 2]) rfl (by decide)) (ma_le_cons rfl (ma_le_cons rfl (ma_le_cons rfl (ma_le_cons rfl (ma_le_nil _))))) h
    · intro hc
      rw [if_neg hc] at h
      refine zw_push hm_81 dX7_thingAt_4 (v := .inl l3) rfl ?_
      refine zw_push hm_81 dX7_thingAt_5 (v := .inl (512 : Int32)) rfl ?_
      refine zw_if2 hm_81 dX7_thingAt_8 (t := 20) rfl zc2_ge ?_ ?_
      · intro hc
        rw [if_pos hc] at h
        refine zw_push hm_81 dX7_thingAt_20 (v := .inr (.inr none)) rfl ?_
        refine zw_aret hm_81 dX7_thingAt_21 ?_
        show ma_wp X d w 86 20 [(0, .inr (.inr (some 69))), (1, .inr (.inr (some 75))), (2, .inl l2), (3, .inl l3)] [.inr (.inr none)] S _
        refine zw_sto hm_86 dX7_removeOthers_20 [(4, .inr (.inr none)), (0, .inr (.inr (some 69))), (1, .inr (.inr (some 75))), (2, .inl l2), (3, .inl l3)] rfl rfl rfl ?_
        refine zw_push hm_86 dX7_removeOthers_22 (v := .inr (.inr none)) rfl ?_
        refine zw_ifnull hm_86 dX7_removeOthers_24 (t := 42) rfl (fun _ => ?_) (fun _ z => by cases z)
        refine zw_sto hm_86 dX7_removeOthers_42 [(3, .inl (l3 + (1 : Int32))), (4, .inr (.inr none)), (0, .inr (.inr (some 69))), (1, .inr (.inr (some 75))), (2, .inl l2)] rfl rfl rfl ?_
        refine zw_goto hm_86 dX7_removeOthers_45 (t := 7) rfl ?_
        exact zw_sub (ma_nd_of (ks := [0, 1, 2, 3]) rfl (by decide)) (ma_nd_of (ks := [3, 4, 0, 1, 2]) rfl (by decide)) (ma_le_cons rfl (ma_le_cons rfl (ma_le_cons rfl (ma_le_cons rfl (ma_le_nil _))))) h
      · intro hc
        rw [if_neg hc] at h
        refine zw_push hm_81 dX7_thingAt_11 (v := .inr (.inr (some 69))) rfl ?_
        refine zw_gf hm_81 dX7_thingAt_12 (v := .inr (.inr (some 70))) (zT_is hS s_69) (zT_t hS s_69) rfl f_7_11_7 (zT_f hS r_69_0) ?_
        refine zw_push hm_81 dX7_thingAt_15 (v := .inl l3) rfl ?_
        obtain ⟨hg, h⟩ := h
        refine zw_aa hm_81 dX7_thingAt_16 (zT_is hS s_70) (zT_h hS s_70) rfl rfl hg rfl ?_
        show ma_wp X (d - 1) (w - 21) 81 17 [(0, .inr (.inr (some 69))), (1, .inl l3)] [.inr (.inr (mR S 70 l3.toNatClampNeg))] S _
        refine zw_goto hm_81 dX7_thingAt_17 (t := 21) rfl ?_
        refine zw_aret hm_81 dX7_thingAt_21 ?_
        show ma_wp X d w 86 20 [(0, .inr (.inr (some 69))), (1, .inr (.inr (some 75))), (2, .inl l2), (3, .inl l3)] [.inr (.inr (mR S 70 l3.toNatClampNeg))] S _
        refine zw_sto hm_86 dX7_removeOthers_20 [(4, .inr (.inr (mR S 70 l3.toNatClampNeg))), (0, .inr (.inr (some 69))), (1, .inr (.inr (some 75))), (2, .inl l2), (3, .inl l3)] rfl rfl rfl ?_
        refine zw_push hm_86 dX7_removeOthers_22 (v := .inr (.inr (mR S 70 l3.toNatClampNeg))) rfl ?_
        refine zw_ifnull hm_86 dX7_removeOthers_24 (t := 42) rfl ?_ ?_
        · intro hc
          have h := h.1 hc
          (try rw [hc])
          show ma_wp X d w 86 42 [(4, .inr (.inr none)), (0, .inr (.inr (some 69))), (1, .inr (.inr (some 75))), (2, .inl l2), (3, .inl l3)] [] S _
          refine zw_sto hm_86 dX7_removeOthers_42 [(3, .inl (l3 + (1 : Int32))), (4, .inr (.inr none)), (0, .inr (.inr (some 69))), (1, .inr (.inr (some 75))), (2, .inl l2)] rfl rfl rfl ?_
          refine zw_goto hm_86 dX7_removeOthers_45 (t := 7) rfl ?_
          exact zw_sub (ma_nd_of (ks := [0, 1, 2, 3]) rfl (by decide)) (ma_nd_of (ks := [3, 4, 0, 1, 2]) rfl (by decide)) (ma_le_cons rfl (ma_le_cons rfl (ma_le_cons rfl (ma_le_cons rfl (ma_le_nil _))))) h
        · intro c1 hc
          have h := h.2 c1 hc
          (try rw [hc])
          show ma_wp X d w 86 27 [(4, .inr (.inr (some c1))), (0, .inr (.inr (some 69))), (1, .inr (.inr (some 75))), (2, .inl l2), (3, .inl l3)] [] S _
          refine zw_push hm_86 dX7_removeOthers_27 (v := .inr (.inr (some 75))) rfl ?_
          refine zw_push hm_86 dX7_removeOthers_28 (v := .inr (.inr (some c1))) rfl ?_
          refine zw_cv hm_86 dX7_removeOthers_30 v_7_128_10 hm_122 [.inr (.inr (some c1))] [] rfl (zT_rt hS s_75 rfl) ⟨by omega, by omega⟩ rfl (zw_mono h (zi_go ?_ ?_))
          · intro v3 S2 hv
            obtain ⟨hS2, h⟩ := hv
            refine zw_if0 hm_86 dX7_removeOthers_33 (t := 42) rfl zc0_ne ?_ ?_
            · intro hc
              rw [if_neg hc] at h
              refine zw_sto hm_86 dX7_removeOthers_42 [(3, .inl (l3 + (1 : Int32))), (4, .inr (.inr (some c1))), (0, .inr (.inr (some 69))), (1, .inr (.inr (some 75))), (2, .inl l2)] rfl rfl rfl ?_
              refine zw_goto hm_86 dX7_removeOthers_45 (t := 7) rfl ?_
              exact zw_sub (ma_nd_of (ks := [0, 1, 2, 3]) rfl (by decide)) (ma_nd_of (ks := [3, 4, 0, 1, 2]) rfl (by decide)) (ma_le_cons rfl (ma_le_cons rfl (ma_le_cons rfl (ma_le_cons rfl (ma_le_nil _))))) h
            · intro hc
              rw [if_pos (Classical.not_not.mp hc)] at h
              refine zw_push hm_86 dX7_removeOthers_36 (v := .inr (.inr (some 69))) rfl ?_
              refine zw_push hm_86 dX7_removeOthers_37 (v := .inr (.inr (some c1))) rfl ?_
              refine zw_cv hm_86 dX7_removeOthers_39 v_7_144_7 hm_87 [.inr (.inr (some c1))] [] rfl (zT_rt hS2 s_69 rfl) ⟨by omega, by omega⟩ rfl (zw_mono h (zv_go ?_ ?_))
              · intro S4 hv
                obtain ⟨hS4, h⟩ := hv
                refine zw_sto hm_86 dX7_removeOthers_42 [(3, .inl (l3 + (1 : Int32))), (4, .inr (.inr (some c1))), (0, .inr (.inr (some 69))), (1, .inr (.inr (some 75))), (2, .inl l2)] rfl rfl rfl ?_
                refine zw_goto hm_86 dX7_removeOthers_45 (t := 7) rfl ?_
                exact zw_sub (ma_nd_of (ks := [0, 1, 2, 3]) rfl (by decide)) (ma_nd_of (ks := [3, 4, 0, 1, 2]) rfl (by decide)) (ma_le_cons rfl (ma_le_cons rfl (ma_le_cons rfl (ma_le_cons rfl (ma_le_nil _))))) h
              · intro x S9 hx
                exact ⟨by decide, hx⟩
          · intro x S9 hx
            exact ⟨by decide, hx⟩
theorem lp_86_69_75_7 {X : Nat × (Nat → Int32)} {d w : Nat} {f : Nat → Nat → Int32} {r : Nat → Nat → Option Nat} {C Z N : Nat} {Q : Option ma_V ⊕ Nat → ma_S → Prop} (hd : 2 ≤ d) (hw : 48 ≤ w) (K : ∀ v S₉, zI f r C Z N S₉ → (True) → Q (.inl (some (.inl v))) S₉) : ∀ (n : Nat) (S : ma_S) (l2 : Int32) (l3 : Int32), (512 - l3.toInt).toNat = n → zI f r C Z N S → ma_wp X d w 86 7 [(0, .inr (.inr (some 69))), (1, .inr (.inr (some 75))), (2, .inl l2), (3, .inl l3)] [] S Q := by
  intro n
  induction n using Nat.strongRecOn with
  | _ n IH =>
    intro S l2 l3 hmu hI  
    refine g_86_69_75_7 l2 l3 (by omega) (by omega) (zG_T hI) ?_
    have f1 := zG_s hI (0) (512) (c := 69) (k := 6) (by decide)
    have b2 := i_bd l3
    refine zd (fun h3 => ?_) (fun h3 => ?_)
    · skip
      have g4 := i_le h3
      have hI5 : zI f r C Z N (ma_put S 69 9 (.inl ((mI S 69 9) + (1 : Int32)))) := zG_fr hI rfl (by decide) (by decide) (by decide) trivial
      have b6 := i_bd (mI S 69 11)
      have b7 := i_bd l2
      first | have e8 : ((mI S 69 11) - l2).toInt = (mI S 69 11).toInt - l2.toInt := i_sub (by omega) (by omega) | have b9 := i_bd ((mI S 69 11) - l2)
      exact K (((mI S 69 11) - l2)) _ hI5 trivial
    · skip
      have g10 := i_nle h3
      have li11 : (0 : Int32).toInt = 0 := rfl
      refine zd (fun h12 => ?_) (fun h12 => ?_)
      · skip
        have g13 := i_lt h12
        have b14 := i_bd l2
        first | have e15 : (l3 + (1 : Int32)).toInt = l3.toInt + (1) := i_addk rfl (by omega) (by omega) | have b16 := i_bd (l3 + (1 : Int32))
        exact IH _ (by omega) _ (l2) ((l3 + (1 : Int32))) rfl hI 
      · skip
        have g17 := i_nlt h12
        have li18 : (512 : Int32).toInt = 512 := rfl
        refine zd (fun h19 => ?_) (fun h19 => ?_)
        · skip
          have g20 := i_le h19
          have b21 := i_bd l2
          first | have e22 : (l3 + (1 : Int32)).toInt = l3.toInt + (1) := i_addk rfl (by omega) (by omega) | have b23 := i_bd (l3 + (1 : Int32))
          exact IH _ (by omega) _ (l2) ((l3 + (1 : Int32))) rfl hI 
        · skip
          have g24 := i_nle h19
          refine ⟨i_ix (by omega) (by omega), ?_⟩
          refine ⟨fun _ => ?_, fun c1 hc => ?_⟩
          · skip
            have b25 := i_bd l2
            first | have e26 : (l3 + (1 : Int32)).toInt = l3.toInt + (1) := i_addk rfl (by omega) (by omega) | have b27 := i_bd (l3 + (1 : Int32))
            exact IH _ (by omega) _ (l2) ((l3 + (1 : Int32))) rfl hI 
          · skip
            have th_c1 := (fun _ z => zG_70 hI (c := 70) (by decide) z) c1 hc
            refine sp_122_75 c1 (by omega) (by omega) hI th_c1 (fun v3 S2 hI_S2 hp_v3 => zi_n ⟨zG_T hI_S2, ?_⟩)
            have b28 := i_bd v3
            refine zd (fun h29 => ?_) (fun h29 => ?_)
            · skip
              have g30 := i_eq h29
              refine sp_87_69 c1 (by omega) (by omega) hI_S2 th_c1 (fun S4 hI_S4 => zv_n ⟨zG_T hI_S4, ?_⟩)
              have b31 := i_bd l2
              first | have e32 : (l3 + (1 : Int32)).toInt = l3.toInt + (1) := i_addk rfl (by omega) (by omega) | have b33 := i_bd (l3 + (1 : Int32))
              exact IH _ (by omega) _ (l2) ((l3 + (1 : Int32))) rfl hI_S4 
            · skip
              have g34 := i_ne h29
              have b35 := i_bd l2
              first | have e36 : (l3 + (1 : Int32)).toInt = l3.toInt + (1) := i_addk rfl (by omega) (by omega) | have b37 := i_bd (l3 + (1 : Int32))
              exact IH _ (by omega) _ (l2) ((l3 + (1 : Int32))) rfl hI_S2 
theorem sp_86_69_75 {X : Nat × (Nat → Int32)} {d w : Nat} {f : Nat → Nat → Int32} {r : Nat → Nat → Option Nat} {C Z N : Nat} {Q : Option ma_V ⊕ Nat → ma_S → Prop} {S : ma_S}  (hd : 2 ≤ d) (hw : 48 ≤ w) (hI : zI f r C Z N S)  (K : ∀ v S₉, zI f r C Z N S₉ → (True) → Q (.inl (some (.inl v))) S₉) : ma_wp X d w 86 0 [(0, .inr (.inr (some 69))), (1, .inr (.inr (some 75)))] [] S Q := by
  refine g_86_69_75_0  (by omega) (by omega) (zG_T hI) ?_
  have b1 := i_bd (mI S 69 11)
  have li2 : (0 : Int32).toInt = 0 := rfl
  exact lp_86_69_75_7 (by omega) (by omega) K _ _ ((mI S 69 11)) ((0 : Int32)) rfl hI 
