/-! collectors, by what they keep (written by wip/tools/gen93b.py) -/
theorem g_25_84_0 {X : Nat × (Nat → Int32)} {d w : Nat} {S : ma_S} {Q : Option ma_V ⊕ Nat → ma_S → Prop} (t : Option Nat) (hd : 2 ≤ d) (hw : 43 ≤ w) (hS : zT S) (h : (t = none → Q (.inl none) S) ∧ (∀ c1, t = some c1 → (126 ≤ c1 ∧ c1 < mN S) ∧ (if (mI S c1 6) ≤ 0 then ((126 ≤ c1 ∧ c1 < mN S) ∧ (if (mI S c1 8) = 0 then (if (512 : Int32) ≤ (mI S 84 7) then (Q (.inl none) S) else ((0 ≤ (mI S 84 7) ∧ (mI S 84 7).toNatClampNeg < 512) ∧ ((126 ≤ c1 ∧ c1 < mN S) ∧ ((0 ≤ (mI S 84 7) ∧ (mI S 84 7).toNatClampNeg < 512) ∧ (Q (.inl none) (ma_put (ma_put (ma_put S 85 (mI S 84 7).toNatClampNeg (.inr (.inr (some c1)))) 86 (mI S 84 7).toNatClampNeg (.inl (0 : Int32))) 84 7 (.inl ((mI S 84 7) + (1 : Int32))))))))) else (ma_wp X (d - 1) (w - 21) 84 0 [(0, .inr (.inr (some 69))), (1, .inr (.inr (some c1)))] [] S (zv (fun S2 => zT S2 ∧ (Q (.inl none) S2)) (fun x S9 => Q (.inr x) S9))))) else (Q (.inl none) S)))) : ma_wp X d w 25 0 [(0, .inr (.inr (some 84))), (1, .inr (.inr t))] [] S Q := by
  refine zw_push hm_25 dX2_fallIfUncounted_0 (v := .inr (.inr t)) rfl ?_
  refine zw_ifnull hm_25 dX2_fallIfUncounted_1 (t := 11) rfl ?_ ?_
  · intro hc
    have h := h.1 hc
    (try rw [hc])
    show ma_wp X d w 25 11 [(0, .inr (.inr (some 84))), (1, .inr (.inr none))] [] S _
    exact zw_vret hm_25 dX2_fallIfUncounted_11 h
  · intro c1 hc
    have h := h.2 c1 hc
    (try rw [hc])
    show ma_wp X d w 25 4 [(0, .inr (.inr (some 84))), (1, .inr (.inr (some c1)))] [] S _
    refine zw_push hm_25 dX2_fallIfUncounted_4 (v := .inr (.inr (some c1))) rfl ?_
    obtain ⟨hg, h⟩ := h
    refine zw_gf hm_25 dX2_fallIfUncounted_5 (v := .inl (mI S c1 6)) (zT_tis hS hg) (zT_tt hS hg) rfl f_2_21_9 rfl ?_
    refine zw_if0 hm_25 dX2_fallIfUncounted_8 (t := 12) rfl zc0_le ?_ ?_
    · intro hc
      rw [if_pos hc] at h
      refine zw_push hm_25 dX2_fallIfUncounted_12 (v := .inr (.inr (some c1))) rfl ?_
      obtain ⟨hg, h⟩ := h
      refine zw_gf hm_25 dX2_fallIfUncounted_13 (v := .inl (mI S c1 8)) (zT_tis hS hg) (zT_tt hS hg) rfl f_2_57_9 rfl ?_
      refine zw_if0 hm_25 dX2_fallIfUncounted_16 (t := 30) rfl zc0_eq ?_ ?_
      · intro hc
        rw [if_pos hc] at h
        refine zw_push hm_25 dX2_fallIfUncounted_30 (v := .inr (.inr (some 84))) rfl ?_
        refine zw_gf hm_25 dX2_fallIfUncounted_31 (v := .inl (mI S 84 7)) (zT_is hS s_84) (zT_t hS s_84) rfl f_2_25_2 rfl ?_
        refine zw_push hm_25 dX2_fallIfUncounted_34 (v := .inl (512 : Int32)) rfl ?_
        refine zw_if2 hm_25 dX2_fallIfUncounted_37 (t := 70) rfl zc2_ge ?_ ?_
        · intro hc
          rw [if_pos hc] at h
          exact zw_vret hm_25 dX2_fallIfUncounted_70 h
        · intro hc
          rw [if_neg hc] at h
          refine zw_push hm_25 dX2_fallIfUncounted_40 (v := .inr (.inr (some 84))) rfl ?_
          refine zw_gf hm_25 dX2_fallIfUncounted_41 (v := .inr (.inr (some 85))) (zT_is hS s_84) (zT_t hS s_84) rfl f_2_11_2 (zT_f hS r_84_5) ?_
          refine zw_push hm_25 dX2_fallIfUncounted_44 (v := .inr (.inr (some 84))) rfl ?_
          refine zw_gf hm_25 dX2_fallIfUncounted_45 (v := .inl (mI S 84 7)) (zT_is hS s_84) (zT_t hS s_84) rfl f_2_25_2 rfl ?_
          refine zw_push hm_25 dX2_fallIfUncounted_48 (v := .inr (.inr (some c1))) rfl ?_
          obtain ⟨hg, h⟩ := h
          obtain ⟨hg2, h⟩ := h
          refine zw_aas hm_25 dX2_fallIfUncounted_49 (zT_is hS s_85) (zT_h hS s_85) rfl hg (fun b z => by cases z; exact ⟨zT_tis hS hg2, zT_tt hS hg2⟩) ?_
          refine zw_push hm_25 dX2_fallIfUncounted_50 (v := .inr (.inr (some 84))) rfl ?_
          refine zw_gf hm_25 dX2_fallIfUncounted_51 (v := .inr (.inr (some 86))) (zT_is (zT_pr hS (zfi_row (by decide +kernel))) s_84) (zT_t (zT_pr hS (zfi_row (by decide +kernel))) s_84) rfl f_2_17_2 (zT_f (zT_pr hS (zfi_row (by decide +kernel))) r_84_6) ?_
          refine zw_push hm_25 dX2_fallIfUncounted_54 (v := .inr (.inr (some 84))) rfl ?_
          refine zw_gf hm_25 dX2_fallIfUncounted_55 (v := .inl (mI S 84 7)) (zT_is (zT_pr hS (zfi_row (by decide +kernel))) s_84) (zT_t (zT_pr hS (zfi_row (by decide +kernel))) s_84) rfl f_2_25_2 rfl ?_
          refine zw_push hm_25 dX2_fallIfUncounted_58 (v := .inl (0 : Int32)) rfl ?_
          obtain ⟨hg, h⟩ := h
          refine zw_ias hm_25 dX2_fallIfUncounted_59 (zT_is (zT_pr hS (zfi_row (by decide +kernel))) s_86) (zT_h (zT_pr hS (zfi_row (by decide +kernel))) s_86) rfl hg ?_
          refine zw_push hm_25 dX2_fallIfUncounted_60 (v := .inr (.inr (some 84))) rfl ?_
          refine zw_stk hm_25 dX2_fallIfUncounted_61 (st' := [.inr (.inr (some 84)), .inr (.inr (some 84))]) rfl rfl ?_
          refine zw_gf hm_25 dX2_fallIfUncounted_62 (v := .inl (mI S 84 7)) (zT_is (zT_pi (zT_pr hS (zfi_row (by decide +kernel)))) s_84) (zT_t (zT_pi (zT_pr hS (zfi_row (by decide +kernel)))) s_84) rfl f_2_25_2 rfl ?_
          refine zw_push hm_25 dX2_fallIfUncounted_65 (v := .inl (1 : Int32)) rfl ?_
          refine zw_stk hm_25 dX2_fallIfUncounted_66 (st' := [.inl ((mI S 84 7) + (1 : Int32)), .inr (.inr (some 84))]) rfl rfl ?_
          refine zw_pf hm_25 dX2_fallIfUncounted_67 (zT_is (zT_pi (zT_pr hS (zfi_row (by decide +kernel)))) s_84) (zT_t (zT_pi (zT_pr hS (zfi_row (by decide +kernel)))) s_84) p_2_25_2 zk_int ?_
          exact zw_vret hm_25 dX2_fallIfUncounted_70 h
      · intro hc
        rw [if_neg hc] at h
        refine zw_push hm_25 dX2_fallIfUncounted_19 (v := .inr (.inr (some 84))) rfl ?_
        refine zw_gf hm_25 dX2_fallIfUncounted_20 (v := .inr (.inr (some 69))) (zT_is hS s_84) (zT_t hS s_84) rfl f_2_41_2 (zT_f hS r_84_3) ?_
        refine zw_push hm_25 dX2_fallIfUncounted_23 (v := .inr (.inr (some c1))) rfl ?_
        refine zw_cv hm_25 dX2_fallIfUncounted_24 v_2_61_7 hm_84 [.inr (.inr (some c1))] [] rfl (zT_rt hS s_69 rfl) ⟨by omega, by omega⟩ rfl (zw_mono h (zv_go ?_ ?_))
        · intro S2 hv
          obtain ⟨hS2, h⟩ := hv
          refine zw_goto hm_25 dX2_fallIfUncounted_27 (t := 70) rfl ?_
          exact zw_vret hm_25 dX2_fallIfUncounted_70 h
        · intro x S9 hx
          exact ⟨by decide, hx⟩
    · intro hc
      rw [if_neg hc] at h
      exact zw_vret hm_25 dX2_fallIfUncounted_11 h
theorem sp_25_84 {X : Nat × (Nat → Int32)} {d w : Nat} {f : Nat → Nat → Int32} {r : Nat → Nat → Option Nat} {C Z N : Nat} {Q : Option ma_V ⊕ Nat → ma_S → Prop} {S : ma_S} (t : Option Nat) (hd : 2 ≤ d) (hw : 43 ≤ w) (hI : zJ84 f r C Z N S) (hq_t : ∀ c, t = some c → 126 ≤ c ∧ c < N) (K : ∀ S', zJ84 f r C Z N S' → Q (.inl none) S') : ma_wp X d w 25 0 [(0, .inr (.inr (some 84))), (1, .inr (.inr t))] [] S Q := by
  refine g_25_84_0 t (by omega) (by omega) (zG_T hI) ?_
  refine ⟨fun _ => ?_, fun c1 hc => ?_⟩
  · skip
    exact K _ hI
  · skip
    have th_c1 := hq_t c1 hc
    subst hc
    refine ⟨zG_n hI th_c1, ?_⟩
    have b1 := i_bd (mI S c1 6)
    have li2 : (0 : Int32).toInt = 0 := rfl
    refine zd (fun h3 => ?_) (fun h3 => ?_)
    · skip
      have g4 := i_le h3
      refine ⟨zG_n hI th_c1, ?_⟩
      have b5 := i_bd (mI S c1 8)
      refine zd (fun h6 => ?_) (fun h6 => ?_)
      · skip
        have g7 := i_eq h6
        have li8 : (512 : Int32).toInt = 512 := rfl
        have f9 := zG_s hI (0) (512) (c := 84) (k := 7) (by decide)
        refine zd (fun h10 => ?_) (fun h10 => ?_)
        · skip
          have g11 := i_le h10
          exact K _ hI
        · skip
          have g12 := i_nle h10
          refine ⟨i_ix (by omega) (by omega), ?_⟩
          refine ⟨zG_n hI th_c1, ?_⟩
          refine ⟨i_ix (by omega) (by omega), ?_⟩
          have hI13 : zJ84 f r C Z N (ma_put S 85 (mI S 84 7).toNatClampNeg (.inr (.inr (some c1)))) := zG_rf hI (by decide) (by decide +kernel) (fun _ z => by cases z; exact th_c1)
          have hI14 : zJ84 f r C Z N (ma_put (ma_put S 85 (mI S 84 7).toNatClampNeg (.inr (.inr (some c1)))) 86 (mI S 84 7).toNatClampNeg (.inl (0 : Int32))) := zG_fa hI13 rfl (by decide) (by decide) (by decide) trivial
          first | have e16 : ((mI S 84 7) + (1 : Int32)).toInt = (mI S 84 7).toInt + (1) := i_addk rfl (by omega) (by omega) | have b17 := i_bd ((mI S 84 7) + (1 : Int32))
          have hI15 : zJ84 f r C Z N (ma_put (ma_put (ma_put S 85 (mI S 84 7).toNatClampNeg (.inr (.inr (some c1)))) 86 (mI S 84 7).toNatClampNeg (.inl (0 : Int32))) 84 7 (.inl ((mI S 84 7) + (1 : Int32)))) := zG_sp hI14 (0) (512) rfl (by decide) (by decide) (by decide) trivial (by omega) (by omega)
          exact K _ hI15
      · skip
        have g18 := i_ne h6
        refine sp_84_69 c1 (by omega) (by omega) (zJ84_dn hI) th_c1 (fun S2 hL_S2 => zv_n ⟨zG_T hL_S2, ?_⟩)
        have hI_S2 := zJ84_up hI hL_S2
        exact K _ hI_S2
    · skip
      have g19 := i_nle h3
      exact K _ hI
theorem g_26_84_0 {X : Nat × (Nat → Int32)} {d w : Nat} {S : ma_S} {Q : Option ma_V ⊕ Nat → ma_S → Prop} (t : Nat) (i : Int32) (hd : 3 ≤ d) (hw : 64 ≤ w) (hS : zT S) (h : (126 ≤ t ∧ t < mN S) ∧ ((126 ≤ t ∧ t < mN S) ∧ (if i < 0 then (Q (.inl none) S) else ((126 ≤ t ∧ t < mN S) ∧ (if ((mI S t 2) - (1 : Int32)) ≤ i then (Q (.inl none) S) else ((126 ≤ t ∧ t < mN S) ∧ (if (lg_cmp ((((mL S t 3).toUInt64 >>> (i.toInt64.toUInt64 &&& Int64.toUInt64 63)).toInt64) &&& (1 : Int64)) (0 : Int64)) = 0 then (Q (.inl none) S) else (ma_wp X (d - 1) (w - 24) 94 0 [(0, .inr (.inr (some 69))), (1, .inr (.inr (some t))), (2, .inl i), (3, .inr (.inr none))] [] S (zo (fun v2 S1 => zT S1 ∧ (ma_wp X (d - 1) (w - 21) 25 0 [(0, .inr (.inr (some 84))), (1, .inr (.inr v2))] [] S1 (zv (fun S3 => zT S3 ∧ (Q (.inl none) S3)) (fun x S9 => Q (.inr x) S9)))) (fun x S9 => Q (.inr x) S9)))))))))) : ma_wp X d w 26 0 [(0, .inr (.inr (some 84))), (1, .inr (.inr (some t))), (2, .inl i)] [] S Q := by
  refine zw_push hm_26 dX2_dropWord_0 (v := .inr (.inr (some t))) rfl ?_
  refine zw_push hm_26 dX2_dropWord_1 (v := .inl i) rfl ?_
  obtain ⟨hg, h⟩ := h
  refine zw_cv hm_26 dX2_dropWord_2 v_2_50_9 hm_113 [.inl i] [] rfl (zT_trt hS hg) ⟨by omega, by omega⟩ rfl ?_
  show ma_wp X (d - 1) (w - 21) 113 0 [(0, .inr (.inr (some t))), (1, .inl i)] [] S _
  refine zw_push hm_113 dX9_isReference_0 (v := .inr (.inr (some t))) rfl ?_
  refine zw_push hm_113 dX9_isReference_1 (v := .inl i) rfl ?_
  obtain ⟨hg, h⟩ := h
  refine zw_cv hm_113 dX9_isReference_2 v_9_26_9 hm_114 [.inl i] [] rfl (zT_trt hS hg) ⟨by omega, by omega⟩ rfl ?_
  show ma_wp X ((d - 1) - 1) ((w - 21) - 21) 114 0 [(0, .inr (.inr (some t))), (1, .inl i)] [] S _
  refine zw_push hm_114 dX9_hasWord_0 (v := .inl i) rfl ?_
  refine zw_if0 hm_114 dX9_hasWord_1 (t := 18) rfl zc0_lt ?_ ?_
  · intro hc
    rw [if_pos hc] at h
    refine zw_push hm_114 dX9_hasWord_18 (v := .inl (0 : Int32)) rfl ?_
    refine zw_bret hm_114 dX9_hasWord_19 (by decide) ?_
    show ma_wp X (d - 1) (w - 21) 113 5 [(0, .inr (.inr (some t))), (1, .inl i)] [.inl (0 : Int32)] S _
    refine zw_if0 hm_113 dX9_isReference_5 (t := 25) rfl zc0_eq (fun _ => ?_) (fun hc => absurd (by decide) hc)
    refine zw_push hm_113 dX9_isReference_25 (v := .inl (0 : Int32)) rfl ?_
    refine zw_bret hm_113 dX9_isReference_26 (by decide) ?_
    show ma_wp X d w 26 5 [(0, .inr (.inr (some 84))), (1, .inr (.inr (some t))), (2, .inl i)] [.inl (0 : Int32)] S _
    refine zw_if0 hm_26 dX2_dropWord_5 (t := 22) rfl zc0_eq (fun _ => ?_) (fun hc => absurd (by decide) hc)
    exact zw_vret hm_26 dX2_dropWord_22 h
  · intro hc
    rw [if_neg hc] at h
    refine zw_push hm_114 dX9_hasWord_4 (v := .inl i) rfl ?_
    refine zw_push hm_114 dX9_hasWord_5 (v := .inr (.inr (some t))) rfl ?_
    obtain ⟨hg, h⟩ := h
    refine zw_gf hm_114 dX9_hasWord_6 (v := .inl (mI S t 2)) (zT_tis hS hg) (zT_tt hS hg) rfl f_9_16_9 rfl ?_
    refine zw_push hm_114 dX9_hasWord_9 (v := .inl (1 : Int32)) rfl ?_
    refine zw_stk hm_114 dX9_hasWord_10 (st' := [.inl ((mI S t 2) - (1 : Int32)), .inl i]) rfl rfl ?_
    refine zw_if2 hm_114 dX9_hasWord_11 (t := 18) rfl zc2_ge ?_ ?_
    · intro hc
      rw [if_pos hc] at h
      refine zw_push hm_114 dX9_hasWord_18 (v := .inl (0 : Int32)) rfl ?_
      refine zw_bret hm_114 dX9_hasWord_19 (by decide) ?_
      show ma_wp X (d - 1) (w - 21) 113 5 [(0, .inr (.inr (some t))), (1, .inl i)] [.inl (0 : Int32)] S _
      refine zw_if0 hm_113 dX9_isReference_5 (t := 25) rfl zc0_eq (fun _ => ?_) (fun hc => absurd (by decide) hc)
      refine zw_push hm_113 dX9_isReference_25 (v := .inl (0 : Int32)) rfl ?_
      refine zw_bret hm_113 dX9_isReference_26 (by decide) ?_
      show ma_wp X d w 26 5 [(0, .inr (.inr (some 84))), (1, .inr (.inr (some t))), (2, .inl i)] [.inl (0 : Int32)] S _
      refine zw_if0 hm_26 dX2_dropWord_5 (t := 22) rfl zc0_eq (fun _ => ?_) (fun hc => absurd (by decide) hc)
      exact zw_vret hm_26 dX2_dropWord_22 h
    · intro hc
      rw [if_neg hc] at h
      refine zw_push hm_114 dX9_hasWord_14 (v := .inl (1 : Int32)) rfl ?_
      refine zw_goto hm_114 dX9_hasWord_15 (t := 19) rfl ?_
      refine zw_bret hm_114 dX9_hasWord_19 (by decide) ?_
      show ma_wp X (d - 1) (w - 21) 113 5 [(0, .inr (.inr (some t))), (1, .inl i)] [.inl (1 : Int32)] S _
      refine zw_if0 hm_113 dX9_isReference_5 (t := 25) rfl zc0_eq (fun hc => absurd hc (by decide)) (fun _ => ?_)
      refine zw_push hm_113 dX9_isReference_8 (v := .inr (.inr (some t))) rfl ?_
      obtain ⟨hg, h⟩ := h
      refine zw_gf hm_113 dX9_isReference_9 (v := .inr (.inl (mL S t 3))) (zT_tis hS hg) (zT_tt hS hg) rfl f_9_19_9 rfl ?_
      refine zw_push hm_113 dX9_isReference_12 (v := .inl i) rfl ?_
      refine zw_stk hm_113 dX9_isReference_13 (st' := [.inr (.inl (((mL S t 3).toUInt64 >>> (i.toInt64.toUInt64 &&& Int64.toUInt64 63)).toInt64))]) rfl rfl ?_
      refine zw_push hm_113 dX9_isReference_14 (v := .inr (.inl (1 : Int64))) rfl ?_
      refine zw_stk hm_113 dX9_isReference_15 (st' := [.inr (.inl ((((mL S t 3).toUInt64 >>> (i.toInt64.toUInt64 &&& Int64.toUInt64 63)).toInt64) &&& (1 : Int64)))]) rfl rfl ?_
      refine zw_push hm_113 dX9_isReference_16 (v := .inr (.inl (0 : Int64))) rfl ?_
      refine zw_stk hm_113 dX9_isReference_17 (st' := [.inl (lg_cmp ((((mL S t 3).toUInt64 >>> (i.toInt64.toUInt64 &&& Int64.toUInt64 63)).toInt64) &&& (1 : Int64)) (0 : Int64))]) rfl rfl ?_
      refine zw_if0 hm_113 dX9_isReference_18 (t := 25) rfl zc0_eq ?_ ?_
      · intro hc
        rw [if_pos hc] at h
        refine zw_push hm_113 dX9_isReference_25 (v := .inl (0 : Int32)) rfl ?_
        refine zw_bret hm_113 dX9_isReference_26 (by decide) ?_
        show ma_wp X d w 26 5 [(0, .inr (.inr (some 84))), (1, .inr (.inr (some t))), (2, .inl i)] [.inl (0 : Int32)] S _
        refine zw_if0 hm_26 dX2_dropWord_5 (t := 22) rfl zc0_eq (fun _ => ?_) (fun hc => absurd (by decide) hc)
        exact zw_vret hm_26 dX2_dropWord_22 h
      · intro hc
        rw [if_neg hc] at h
        refine zw_push hm_113 dX9_isReference_21 (v := .inl (1 : Int32)) rfl ?_
        refine zw_goto hm_113 dX9_isReference_22 (t := 26) rfl ?_
        refine zw_bret hm_113 dX9_isReference_26 (by decide) ?_
        show ma_wp X d w 26 5 [(0, .inr (.inr (some 84))), (1, .inr (.inr (some t))), (2, .inl i)] [.inl (1 : Int32)] S _
        refine zw_if0 hm_26 dX2_dropWord_5 (t := 22) rfl zc0_eq (fun hc => absurd hc (by decide)) (fun _ => ?_)
        refine zw_push hm_26 dX2_dropWord_8 (v := .inr (.inr (some 84))) rfl ?_
        refine zw_push hm_26 dX2_dropWord_9 (v := .inr (.inr (some 84))) rfl ?_
        refine zw_gf hm_26 dX2_dropWord_10 (v := .inr (.inr (some 69))) (zT_is hS s_84) (zT_t hS s_84) rfl f_2_41_2 (zT_f hS r_84_3) ?_
        refine zw_push hm_26 dX2_dropWord_13 (v := .inr (.inr (some t))) rfl ?_
        refine zw_push hm_26 dX2_dropWord_14 (v := .inl i) rfl ?_
        refine zw_push hm_26 dX2_dropWord_15 (v := .inr (.inr none)) rfl ?_
        refine zw_cv hm_26 dX2_dropWord_16 v_2_53_7 hm_94 [.inr (.inr none), .inl i, .inr (.inr (some t))] [.inr (.inr (some 84))] rfl (zT_rt hS s_69 rfl) ⟨by omega, by omega⟩ rfl (zw_mono h (zo_go ?_ ?_))
        · intro v2 S1 hv
          obtain ⟨hS1, h⟩ := hv
          refine zw_cv hm_26 dX2_dropWord_19 v_2_28_2 hm_25 [.inr (.inr v2)] [] rfl (zT_rt hS1 s_84 rfl) ⟨by omega, by omega⟩ rfl (zw_mono h (zv_go ?_ ?_))
          · intro S3 hv
            obtain ⟨hS3, h⟩ := hv
            exact zw_vret hm_26 dX2_dropWord_22 h
          · intro x S9 hx
            exact ⟨by decide, hx⟩
        · intro x S9 hx
          exact ⟨by decide, hx⟩
theorem sp_26_84 {X : Nat × (Nat → Int32)} {d w : Nat} {f : Nat → Nat → Int32} {r : Nat → Nat → Option Nat} {C Z N : Nat} {Q : Option ma_V ⊕ Nat → ma_S → Prop} {S : ma_S} (t : Nat) (i : Int32) (hd : 3 ≤ d) (hw : 64 ≤ w) (hI : zJ84 f r C Z N S) (th_t : 126 ≤ t ∧ t < N) (K : ∀ S', zJ84 f r C Z N S' → Q (.inl none) S') : ma_wp X d w 26 0 [(0, .inr (.inr (some 84))), (1, .inr (.inr (some t))), (2, .inl i)] [] S Q := by
  refine g_26_84_0 t i (by omega) (by omega) (zG_T hI) ?_
  refine ⟨zG_n hI th_t, ?_⟩
  refine ⟨zG_n hI th_t, ?_⟩
  have b1 := i_bd i
  have li2 : (0 : Int32).toInt = 0 := rfl
  refine zd (fun h3 => ?_) (fun h3 => ?_)
  · skip
    have g4 := i_lt h3
    exact K _ hI
  · skip
    have g5 := i_nlt h3
    refine ⟨zG_n hI th_t, ?_⟩
    have f6 := zG_th hI th_t
    first | have e7 : ((mI S t 2) - (1 : Int32)).toInt = (mI S t 2).toInt - (1) := i_subk rfl (by omega) (by omega) | have b8 := i_bd ((mI S t 2) - (1 : Int32))
    refine zd (fun h9 => ?_) (fun h9 => ?_)
    · skip
      have g10 := i_le h9
      exact K _ hI
    · skip
      have g11 := i_nle h9
      refine ⟨zG_n hI th_t, ?_⟩
      have b12 := i_bd (lg_cmp ((((mL S t 3).toUInt64 >>> (i.toInt64.toUInt64 &&& Int64.toUInt64 63)).toInt64) &&& (1 : Int64)) (0 : Int64))
      refine zd (fun h13 => ?_) (fun h13 => ?_)
      · skip
        have g14 := i_eq h13
        exact K _ hI
      · skip
        have g15 := i_ne h13
        refine sp_94_69 t (i) (none) (by omega) (by omega) (zJ84_dn hI) th_t (fun _ z => by cases z) (fun v2 S1 hL_S1 hq_v2 => zo_n ⟨zG_T hL_S1, ?_⟩)
        have hI_S1 := zJ84_up hI hL_S1
        refine sp_25_84 (v2) (by omega) (by omega) hI_S1 hq_v2 (fun S3 hI_S3 => zv_n ⟨zG_T hI_S3, ?_⟩)
        exact K _ hI_S3
theorem g_24_84_0 {X : Nat × (Nat → Int32)} {d w : Nat} {S : ma_S} {Q : Option ma_V ⊕ Nat → ma_S → Prop} (t : Option Nat) (hd : 4 ≤ d) (hw : 86 ≤ w) (hS : zT S) (h : ma_wp X (d - 1) (w - 21) 25 0 [(0, .inr (.inr (some 84))), (1, .inr (.inr t))] [] (ma_put S 84 7 (.inl (0 : Int32))) (zv (fun S1 => zT S1 ∧ (ma_wp X d w 24 12 [(0, .inr (.inr (some 84))), (2, .inl (0 : Int32))] [] S1 Q)) (fun x S9 => Q (.inr x) S9))) : ma_wp X d w 24 0 [(0, .inr (.inr (some 84))), (1, .inr (.inr t))] [] S Q := by
  refine zw_push hm_24 dX2_noteFewer_0 (v := .inr (.inr (some 84))) rfl ?_
  refine zw_push hm_24 dX2_noteFewer_1 (v := .inl (0 : Int32)) rfl ?_
  refine zw_pf hm_24 dX2_noteFewer_2 (zT_is hS s_84) (zT_t hS s_84) p_2_25_2 zk_int ?_
  refine zw_push hm_24 dX2_noteFewer_5 (v := .inr (.inr (some 84))) rfl ?_
  refine zw_push hm_24 dX2_noteFewer_6 (v := .inr (.inr t)) rfl ?_
  refine zw_cv hm_24 dX2_noteFewer_7 v_2_28_2 hm_25 [.inr (.inr t)] [] rfl (zT_rt (zT_pi hS) s_84 rfl) ⟨by omega, by omega⟩ rfl (zw_mono h (zv_go ?_ ?_))
  · intro S1 hv
    obtain ⟨hS1, h⟩ := hv
    refine zw_push hm_24 dX2_noteFewer_10 (v := .inl (0 : Int32)) rfl ?_
    refine zw_sto hm_24 dX2_noteFewer_11 [(2, .inl (0 : Int32)), (0, .inr (.inr (some 84))), (1, .inr (.inr t))] rfl rfl rfl ?_
    exact zw_sub (ma_nd_of (ks := [0, 2]) rfl (by decide)) (ma_nd_of (ks := [2, 0, 1]) rfl (by decide)) (ma_le_cons rfl (ma_le_cons rfl (ma_le_nil _))) h
  · intro x S9 hx
    exact ⟨by decide, hx⟩
theorem g_24_84_12 {X : Nat × (Nat → Int32)} {d w : Nat} {S : ma_S} {Q : Option ma_V ⊕ Nat → ma_S → Prop} (l2 : Int32) (hd : 4 ≤ d) (hw : 86 ≤ w) (hS : zT S) (h : if (mI S 84 7) ≤ 0 then (Q (.inl none) S) else (if (1000000 : Int32) ≤ l2 then (Q (.inl none) S) else ((0 ≤ ((mI S 84 7) - (1 : Int32)) ∧ ((mI S 84 7) - (1 : Int32)).toNatClampNeg < 512) ∧ ((0 ≤ ((mI S 84 7) - (1 : Int32)) ∧ ((mI S 84 7) - (1 : Int32)).toNatClampNeg < 512) ∧ (((mR S 85 ((mI S 84 7) - (1 : Int32)).toNatClampNeg) = none → ma_wp X d w 24 12 [(0, .inr (.inr (some 84))), (2, .inl (l2 + (1 : Int32)))] [] (ma_put S 84 7 (.inl ((mI S 84 7) - (1 : Int32)))) Q) ∧ (∀ c1, (mR S 85 ((mI S 84 7) - (1 : Int32)).toNatClampNeg) = some c1 → (126 ≤ c1 ∧ c1 < mN S) ∧ (if (mI S 86 ((mI S 84 7) - (1 : Int32)).toNatClampNeg) < 0 then (ma_wp X (d - 1) (w - 23) 87 0 [(0, .inr (.inr (some 69))), (1, .inr (.inr (some c1)))] [] (ma_put S 84 7 (.inl ((mI S 84 7) - (1 : Int32)))) (zv (fun S2 => zT S2 ∧ (ma_wp X d w 24 12 [(0, .inr (.inr (some 84))), (2, .inl (l2 + (1 : Int32)))] [] S2 Q)) (fun x S9 => Q (.inr x) S9))) else ((126 ≤ c1 ∧ c1 < mN S) ∧ (if ((mI S c1 2) - (1 : Int32)) ≤ (mI S 86 ((mI S 84 7) - (1 : Int32)).toNatClampNeg) then (ma_wp X (d - 1) (w - 23) 87 0 [(0, .inr (.inr (some 69))), (1, .inr (.inr (some c1)))] [] (ma_put S 84 7 (.inl ((mI S 84 7) - (1 : Int32)))) (zv (fun S4 => zT S4 ∧ (ma_wp X d w 24 12 [(0, .inr (.inr (some 84))), (2, .inl (l2 + (1 : Int32)))] [] S4 Q)) (fun x S9 => Q (.inr x) S9))) else ((0 ≤ ((mI S 84 7) - (1 : Int32)) ∧ ((mI S 84 7) - (1 : Int32)).toNatClampNeg < 512) ∧ (ma_wp X (d - 1) (w - 22) 26 0 [(0, .inr (.inr (some 84))), (1, .inr (.inr (some c1))), (2, .inl (mI S 86 ((mI S 84 7) - (1 : Int32)).toNatClampNeg))] [] (ma_put S 86 ((mI S 84 7) - (1 : Int32)).toNatClampNeg (.inl ((mI S 86 ((mI S 84 7) - (1 : Int32)).toNatClampNeg) + (1 : Int32)))) (zv (fun S6 => zT S6 ∧ (ma_wp X d w 24 12 [(0, .inr (.inr (some 84))), (2, .inl (l2 + (1 : Int32)))] [] S6 Q)) (fun x S9 => Q (.inr x) S9))))))))))))) : ma_wp X d w 24 12 [(0, .inr (.inr (some 84))), (2, .inl l2)] [] S Q := by
  refine zw_push hm_24 dX2_noteFewer_12 (v := .inr (.inr (some 84))) rfl ?_
  refine zw_gf hm_24 dX2_noteFewer_13 (v := .inl (mI S 84 7)) (zT_is hS s_84) (zT_t hS s_84) rfl f_2_25_2 rfl ?_
  refine zw_if0 hm_24 dX2_noteFewer_16 (t := 125) rfl zc0_le ?_ ?_
  · intro hc
    rw [if_pos hc] at h
    exact zw_vret hm_24 dX2_noteFewer_125 h
  · intro hc
    rw [if_neg hc] at h
    refine zw_push hm_24 dX2_noteFewer_19 (v := .inl l2) rfl ?_
    refine zw_lc hm_24 dX2_noteFewer_20 lc_2_32 ?_
    refine zw_if2 hm_24 dX2_noteFewer_22 (t := 125) rfl zc2_ge ?_ ?_
    · intro hc
      rw [if_pos hc] at h
      exact zw_vret hm_24 dX2_noteFewer_125 h
    · intro hc
      rw [if_neg hc] at h
      refine zw_push hm_24 dX2_noteFewer_25 (v := .inr (.inr (some 84))) rfl ?_
      refine zw_gf hm_24 dX2_noteFewer_26 (v := .inr (.inr (some 85))) (zT_is hS s_84) (zT_t hS s_84) rfl f_2_11_2 (zT_f hS r_84_5) ?_
      refine zw_push hm_24 dX2_noteFewer_29 (v := .inr (.inr (some 84))) rfl ?_
      refine zw_gf hm_24 dX2_noteFewer_30 (v := .inl (mI S 84 7)) (zT_is hS s_84) (zT_t hS s_84) rfl f_2_25_2 rfl ?_
      refine zw_push hm_24 dX2_noteFewer_33 (v := .inl (1 : Int32)) rfl ?_
      refine zw_stk hm_24 dX2_noteFewer_34 (st' := [.inl ((mI S 84 7) - (1 : Int32)), .inr (.inr (some 85))]) rfl rfl ?_
      obtain ⟨hg, h⟩ := h
      refine zw_aa hm_24 dX2_noteFewer_35 (zT_is hS s_85) (zT_h hS s_85) rfl rfl hg rfl ?_
      show ma_wp X d w 24 36 [(0, .inr (.inr (some 84))), (2, .inl l2)] [.inr (.inr (mR S 85 ((mI S 84 7) - (1 : Int32)).toNatClampNeg))] S _
      refine zw_sto hm_24 dX2_noteFewer_36 [(3, .inr (.inr (mR S 85 ((mI S 84 7) - (1 : Int32)).toNatClampNeg))), (0, .inr (.inr (some 84))), (2, .inl l2)] rfl rfl rfl ?_
      refine zw_push hm_24 dX2_noteFewer_37 (v := .inr (.inr (some 84))) rfl ?_
      refine zw_gf hm_24 dX2_noteFewer_38 (v := .inr (.inr (some 86))) (zT_is hS s_84) (zT_t hS s_84) rfl f_2_17_2 (zT_f hS r_84_6) ?_
      refine zw_push hm_24 dX2_noteFewer_41 (v := .inr (.inr (some 84))) rfl ?_
      refine zw_gf hm_24 dX2_noteFewer_42 (v := .inl (mI S 84 7)) (zT_is hS s_84) (zT_t hS s_84) rfl f_2_25_2 rfl ?_
      refine zw_push hm_24 dX2_noteFewer_45 (v := .inl (1 : Int32)) rfl ?_
      refine zw_stk hm_24 dX2_noteFewer_46 (st' := [.inl ((mI S 84 7) - (1 : Int32)), .inr (.inr (some 86))]) rfl rfl ?_
      obtain ⟨hg, h⟩ := h
      refine zw_ia hm_24 dX2_noteFewer_47 (zT_is hS s_86) (zT_h hS s_86) rfl hg ?_
      show ma_wp X d w 24 48 [(3, .inr (.inr (mR S 85 ((mI S 84 7) - (1 : Int32)).toNatClampNeg))), (0, .inr (.inr (some 84))), (2, .inl l2)] [.inl (mI S 86 ((mI S 84 7) - (1 : Int32)).toNatClampNeg)] S _
      refine zw_sto hm_24 dX2_noteFewer_48 [(4, .inl (mI S 86 ((mI S 84 7) - (1 : Int32)).toNatClampNeg)), (3, .inr (.inr (mR S 85 ((mI S 84 7) - (1 : Int32)).toNatClampNeg))), (0, .inr (.inr (some 84))), (2, .inl l2)] rfl rfl rfl ?_
      refine zw_push hm_24 dX2_noteFewer_50 (v := .inr (.inr (mR S 85 ((mI S 84 7) - (1 : Int32)).toNatClampNeg))) rfl ?_
      refine zw_ifnonnull hm_24 dX2_noteFewer_51 (t := 67) rfl ?_ ?_
      · intro hc
        have h := h.1 hc
        (try rw [hc])
        show ma_wp X d w 24 54 [(4, .inl (mI S 86 ((mI S 84 7) - (1 : Int32)).toNatClampNeg)), (3, .inr (.inr none)), (0, .inr (.inr (some 84))), (2, .inl l2)] [] S _
        refine zw_push hm_24 dX2_noteFewer_54 (v := .inr (.inr (some 84))) rfl ?_
        refine zw_stk hm_24 dX2_noteFewer_55 (st' := [.inr (.inr (some 84)), .inr (.inr (some 84))]) rfl rfl ?_
        refine zw_gf hm_24 dX2_noteFewer_56 (v := .inl (mI S 84 7)) (zT_is hS s_84) (zT_t hS s_84) rfl f_2_25_2 rfl ?_
        refine zw_push hm_24 dX2_noteFewer_59 (v := .inl (1 : Int32)) rfl ?_
        refine zw_stk hm_24 dX2_noteFewer_60 (st' := [.inl ((mI S 84 7) - (1 : Int32)), .inr (.inr (some 84))]) rfl rfl ?_
        refine zw_pf hm_24 dX2_noteFewer_61 (zT_is hS s_84) (zT_t hS s_84) p_2_25_2 zk_int ?_
        refine zw_goto hm_24 dX2_noteFewer_64 (t := 119) rfl ?_
        refine zw_sto hm_24 dX2_noteFewer_119 [(2, .inl (l2 + (1 : Int32))), (4, .inl (mI S 86 ((mI S 84 7) - (1 : Int32)).toNatClampNeg)), (3, .inr (.inr none)), (0, .inr (.inr (some 84)))] rfl rfl rfl ?_
        refine zw_goto hm_24 dX2_noteFewer_122 (t := 12) rfl ?_
        exact zw_sub (ma_nd_of (ks := [0, 2]) rfl (by decide)) (ma_nd_of (ks := [2, 4, 3, 0]) rfl (by decide)) (ma_le_cons rfl (ma_le_cons rfl (ma_le_nil _))) h
      · intro c1 hc
        have h := h.2 c1 hc
        (try rw [hc])
        show ma_wp X d w 24 67 [(4, .inl (mI S 86 ((mI S 84 7) - (1 : Int32)).toNatClampNeg)), (3, .inr (.inr (some c1))), (0, .inr (.inr (some 84))), (2, .inl l2)] [] S _
        refine zw_push hm_24 dX2_noteFewer_67 (v := .inr (.inr (some c1))) rfl ?_
        refine zw_push hm_24 dX2_noteFewer_68 (v := .inl (mI S 86 ((mI S 84 7) - (1 : Int32)).toNatClampNeg)) rfl ?_
        obtain ⟨hg, h⟩ := h
        refine zw_cv hm_24 dX2_noteFewer_70 v_2_33_9 hm_114 [.inl (mI S 86 ((mI S 84 7) - (1 : Int32)).toNatClampNeg)] [] rfl (zT_trt hS hg) ⟨by omega, by omega⟩ rfl ?_
        show ma_wp X (d - 1) (w - 21) 114 0 [(0, .inr (.inr (some c1))), (1, .inl (mI S 86 ((mI S 84 7) - (1 : Int32)).toNatClampNeg))] [] S _
        refine zw_push hm_114 dX9_hasWord_0 (v := .inl (mI S 86 ((mI S 84 7) - (1 : Int32)).toNatClampNeg)) rfl ?_
        refine zw_if0 hm_114 dX9_hasWord_1 (t := 18) rfl zc0_lt ?_ ?_
        · intro hc
          rw [if_pos hc] at h
          refine zw_push hm_114 dX9_hasWord_18 (v := .inl (0 : Int32)) rfl ?_
          refine zw_bret hm_114 dX9_hasWord_19 (by decide) ?_
          show ma_wp X d w 24 73 [(4, .inl (mI S 86 ((mI S 84 7) - (1 : Int32)).toNatClampNeg)), (3, .inr (.inr (some c1))), (0, .inr (.inr (some 84))), (2, .inl l2)] [.inl (0 : Int32)] S _
          refine zw_if0 hm_24 dX2_noteFewer_73 (t := 101) rfl zc0_eq (fun _ => ?_) (fun hc => absurd (by decide) hc)
          refine zw_push hm_24 dX2_noteFewer_101 (v := .inr (.inr (some 84))) rfl ?_
          refine zw_stk hm_24 dX2_noteFewer_102 (st' := [.inr (.inr (some 84)), .inr (.inr (some 84))]) rfl rfl ?_
          refine zw_gf hm_24 dX2_noteFewer_103 (v := .inl (mI S 84 7)) (zT_is hS s_84) (zT_t hS s_84) rfl f_2_25_2 rfl ?_
          refine zw_push hm_24 dX2_noteFewer_106 (v := .inl (1 : Int32)) rfl ?_
          refine zw_stk hm_24 dX2_noteFewer_107 (st' := [.inl ((mI S 84 7) - (1 : Int32)), .inr (.inr (some 84))]) rfl rfl ?_
          refine zw_pf hm_24 dX2_noteFewer_108 (zT_is hS s_84) (zT_t hS s_84) p_2_25_2 zk_int ?_
          refine zw_push hm_24 dX2_noteFewer_111 (v := .inr (.inr (some 84))) rfl ?_
          refine zw_gf hm_24 dX2_noteFewer_112 (v := .inr (.inr (some 69))) (zT_is (zT_pi hS) s_84) (zT_t (zT_pi hS) s_84) rfl f_2_41_2 (zT_f (zT_pi hS) r_84_3) ?_
          refine zw_push hm_24 dX2_noteFewer_115 (v := .inr (.inr (some c1))) rfl ?_
          refine zw_cv hm_24 dX2_noteFewer_116 v_2_45_7 hm_87 [.inr (.inr (some c1))] [] rfl (zT_rt (zT_pi hS) s_69 rfl) ⟨by omega, by omega⟩ rfl (zw_mono h (zv_go ?_ ?_))
          · intro S2 hv
            obtain ⟨hS2, h⟩ := hv
            refine zw_sto hm_24 dX2_noteFewer_119 [(2, .inl (l2 + (1 : Int32))), (4, .inl (mI S 86 ((mI S 84 7) - (1 : Int32)).toNatClampNeg)), (3, .inr (.inr (some c1))), (0, .inr (.inr (some 84)))] rfl rfl rfl ?_
            refine zw_goto hm_24 dX2_noteFewer_122 (t := 12) rfl ?_
            exact zw_sub (ma_nd_of (ks := [0, 2]) rfl (by decide)) (ma_nd_of (ks := [2, 4, 3, 0]) rfl (by decide)) (ma_le_cons rfl (ma_le_cons rfl (ma_le_nil _))) h
          · intro x S9 hx
            exact ⟨by decide, hx⟩
        · intro hc
          rw [if_neg hc] at h
          refine zw_push hm_114 dX9_hasWord_4 (v := .inl (mI S 86 ((mI S 84 7) - (1 : Int32)).toNatClampNeg)) rfl ?_
          refine zw_push hm_114 dX9_hasWord_5 (v := .inr (.inr (some c1))) rfl ?_
          obtain ⟨hg, h⟩ := h
          refine zw_gf hm_114 dX9_hasWord_6 (v := .inl (mI S c1 2)) (zT_tis hS hg) (zT_tt hS hg) rfl f_9_16_9 rfl ?_
          refine zw_push hm_114 dX9_hasWord_9 (v := .inl (1 : Int32)) rfl ?_
          refine zw_stk hm_114 dX9_hasWord_10 (st' := [.inl ((mI S c1 2) - (1 : Int32)), .inl (mI S 86 ((mI S 84 7) - (1 : Int32)).toNatClampNeg)]) rfl rfl ?_
          refine zw_if2 hm_114 dX9_hasWord_11 (t := 18) rfl zc2_ge ?_ ?_
          · intro hc
            rw [if_pos hc] at h
            refine zw_push hm_114 dX9_hasWord_18 (v := .inl (0 : Int32)) rfl ?_
            refine zw_bret hm_114 dX9_hasWord_19 (by decide) ?_
            show ma_wp X d w 24 73 [(4, .inl (mI S 86 ((mI S 84 7) - (1 : Int32)).toNatClampNeg)), (3, .inr (.inr (some c1))), (0, .inr (.inr (some 84))), (2, .inl l2)] [.inl (0 : Int32)] S _
            refine zw_if0 hm_24 dX2_noteFewer_73 (t := 101) rfl zc0_eq (fun _ => ?_) (fun hc => absurd (by decide) hc)
            refine zw_push hm_24 dX2_noteFewer_101 (v := .inr (.inr (some 84))) rfl ?_
            refine zw_stk hm_24 dX2_noteFewer_102 (st' := [.inr (.inr (some 84)), .inr (.inr (some 84))]) rfl rfl ?_
            refine zw_gf hm_24 dX2_noteFewer_103 (v := .inl (mI S 84 7)) (zT_is hS s_84) (zT_t hS s_84) rfl f_2_25_2 rfl ?_
            refine zw_push hm_24 dX2_noteFewer_106 (v := .inl (1 : Int32)) rfl ?_
            refine zw_stk hm_24 dX2_noteFewer_107 (st' := [.inl ((mI S 84 7) - (1 : Int32)), .inr (.inr (some 84))]) rfl rfl ?_
            refine zw_pf hm_24 dX2_noteFewer_108 (zT_is hS s_84) (zT_t hS s_84) p_2_25_2 zk_int ?_
            refine zw_push hm_24 dX2_noteFewer_111 (v := .inr (.inr (some 84))) rfl ?_
            refine zw_gf hm_24 dX2_noteFewer_112 (v := .inr (.inr (some 69))) (zT_is (zT_pi hS) s_84) (zT_t (zT_pi hS) s_84) rfl f_2_41_2 (zT_f (zT_pi hS) r_84_3) ?_
            refine zw_push hm_24 dX2_noteFewer_115 (v := .inr (.inr (some c1))) rfl ?_
            refine zw_cv hm_24 dX2_noteFewer_116 v_2_45_7 hm_87 [.inr (.inr (some c1))] [] rfl (zT_rt (zT_pi hS) s_69 rfl) ⟨by omega, by omega⟩ rfl (zw_mono h (zv_go ?_ ?_))
            · intro S4 hv
              obtain ⟨hS4, h⟩ := hv
              refine zw_sto hm_24 dX2_noteFewer_119 [(2, .inl (l2 + (1 : Int32))), (4, .inl (mI S 86 ((mI S 84 7) - (1 : Int32)).toNatClampNeg)), (3, .inr (.inr (some c1))), (0, .inr (.inr (some 84)))] rfl rfl rfl ?_
              refine zw_goto hm_24 dX2_noteFewer_122 (t := 12) rfl ?_
              exact zw_sub (ma_nd_of (ks := [0, 2]) rfl (by decide)) (ma_nd_of (ks := [2, 4, 3, 0]) rfl (by decide)) (ma_le_cons rfl (ma_le_cons rfl (ma_le_nil _))) h
            · intro x S9 hx
              exact ⟨by decide, hx⟩
          · intro hc
            rw [if_neg hc] at h
            refine zw_push hm_114 dX9_hasWord_14 (v := .inl (1 : Int32)) rfl ?_
            refine zw_goto hm_114 dX9_hasWord_15 (t := 19) rfl ?_
            refine zw_bret hm_114 dX9_hasWord_19 (by decide) ?_
            show ma_wp X d w 24 73 [(4, .inl (mI S 86 ((mI S 84 7) - (1 : Int32)).toNatClampNeg)), (3, .inr (.inr (some c1))), (0, .inr (.inr (some 84))), (2, .inl l2)] [.inl (1 : Int32)] S _
            refine zw_if0 hm_24 dX2_noteFewer_73 (t := 101) rfl zc0_eq (fun hc => absurd hc (by decide)) (fun _ => ?_)
            refine zw_push hm_24 dX2_noteFewer_76 (v := .inr (.inr (some 84))) rfl ?_
            refine zw_gf hm_24 dX2_noteFewer_77 (v := .inr (.inr (some 86))) (zT_is hS s_84) (zT_t hS s_84) rfl f_2_17_2 (zT_f hS r_84_6) ?_
            refine zw_push hm_24 dX2_noteFewer_80 (v := .inr (.inr (some 84))) rfl ?_
            refine zw_gf hm_24 dX2_noteFewer_81 (v := .inl (mI S 84 7)) (zT_is hS s_84) (zT_t hS s_84) rfl f_2_25_2 rfl ?_
            refine zw_push hm_24 dX2_noteFewer_84 (v := .inl (1 : Int32)) rfl ?_
            refine zw_stk hm_24 dX2_noteFewer_85 (st' := [.inl ((mI S 84 7) - (1 : Int32)), .inr (.inr (some 86))]) rfl rfl ?_
            refine zw_push hm_24 dX2_noteFewer_86 (v := .inl (mI S 86 ((mI S 84 7) - (1 : Int32)).toNatClampNeg)) rfl ?_
            refine zw_push hm_24 dX2_noteFewer_88 (v := .inl (1 : Int32)) rfl ?_
            refine zw_stk hm_24 dX2_noteFewer_89 (st' := [.inl ((mI S 86 ((mI S 84 7) - (1 : Int32)).toNatClampNeg) + (1 : Int32)), .inl ((mI S 84 7) - (1 : Int32)), .inr (.inr (some 86))]) rfl rfl ?_
            obtain ⟨hg, h⟩ := h
            refine zw_ias hm_24 dX2_noteFewer_90 (zT_is hS s_86) (zT_h hS s_86) rfl hg ?_
            refine zw_push hm_24 dX2_noteFewer_91 (v := .inr (.inr (some 84))) rfl ?_
            refine zw_push hm_24 dX2_noteFewer_92 (v := .inr (.inr (some c1))) rfl ?_
            refine zw_push hm_24 dX2_noteFewer_93 (v := .inl (mI S 86 ((mI S 84 7) - (1 : Int32)).toNatClampNeg)) rfl ?_
            refine zw_cv hm_24 dX2_noteFewer_95 v_2_37_2 hm_26 [.inl (mI S 86 ((mI S 84 7) - (1 : Int32)).toNatClampNeg), .inr (.inr (some c1))] [] rfl (zT_rt (zT_pi hS) s_84 rfl) ⟨by omega, by omega⟩ rfl (zw_mono h (zv_go ?_ ?_))
            · intro S6 hv
              obtain ⟨hS6, h⟩ := hv
              refine zw_goto hm_24 dX2_noteFewer_98 (t := 119) rfl ?_
              refine zw_sto hm_24 dX2_noteFewer_119 [(2, .inl (l2 + (1 : Int32))), (4, .inl (mI S 86 ((mI S 84 7) - (1 : Int32)).toNatClampNeg)), (3, .inr (.inr (some c1))), (0, .inr (.inr (some 84)))] rfl rfl rfl ?_
              refine zw_goto hm_24 dX2_noteFewer_122 (t := 12) rfl ?_
              exact zw_sub (ma_nd_of (ks := [0, 2]) rfl (by decide)) (ma_nd_of (ks := [2, 4, 3, 0]) rfl (by decide)) (ma_le_cons rfl (ma_le_cons rfl (ma_le_nil _))) h
            · intro x S9 hx
              exact ⟨by decide, hx⟩
theorem lp_24_84_12 {X : Nat × (Nat → Int32)} {d w : Nat} {f : Nat → Nat → Int32} {r : Nat → Nat → Option Nat} {C Z N : Nat} {Q : Option ma_V ⊕ Nat → ma_S → Prop} (hd : 4 ≤ d) (hw : 86 ≤ w) (K : ∀ S', zJ84 f r C Z N S' → Q (.inl none) S') : ∀ (n : Nat) (S : ma_S) (l2 : Int32), (1000000 - l2.toInt).toNat = n → zJ84 f r C Z N S → ma_wp X d w 24 12 [(0, .inr (.inr (some 84))), (2, .inl l2)] [] S Q := by
  intro n
  induction n using Nat.strongRecOn with
  | _ n IH =>
    intro S l2 hmu hI  
    refine g_24_84_12 l2 (by omega) (by omega) (zG_T hI) ?_
    have f1 := zG_s hI (0) (512) (c := 84) (k := 7) (by decide)
    have li2 : (0 : Int32).toInt = 0 := rfl
    refine zd (fun h3 => ?_) (fun h3 => ?_)
    · skip
      have g4 := i_le h3
      exact K _ hI
    · skip
      have g5 := i_nle h3
      have li6 : (1000000 : Int32).toInt = 1000000 := rfl
      have b7 := i_bd l2
      refine zd (fun h8 => ?_) (fun h8 => ?_)
      · skip
        have g9 := i_le h8
        exact K _ hI
      · skip
        have g10 := i_nle h8
        first | have e11 : ((mI S 84 7) - (1 : Int32)).toInt = (mI S 84 7).toInt - (1) := i_subk rfl (by omega) (by omega) | have b12 := i_bd ((mI S 84 7) - (1 : Int32))
        refine ⟨i_ix (by omega) (by omega), ?_⟩
        refine ⟨i_ix (by omega) (by omega), ?_⟩
        refine ⟨fun _ => ?_, fun c1 hc => ?_⟩
        · skip
          have hI13 : zJ84 f r C Z N (ma_put S 84 7 (.inl ((mI S 84 7) - (1 : Int32)))) := zG_sp hI (0) (512) rfl (by decide) (by decide) (by decide) trivial (by omega) (by omega)
          first | have e14 : (l2 + (1 : Int32)).toInt = l2.toInt + (1) := i_addk rfl (by omega) (by omega) | have b15 := i_bd (l2 + (1 : Int32))
          exact IH _ (by omega) _ ((l2 + (1 : Int32))) rfl hI13 
        · skip
          have th_c1 := (fun _ z => zG_70 hI (c := 85) (by decide) z) c1 hc
          refine ⟨zG_n hI th_c1, ?_⟩
          have b16 := i_bd (mI S 86 ((mI S 84 7) - (1 : Int32)).toNatClampNeg)
          refine zd (fun h17 => ?_) (fun h17 => ?_)
          · skip
            have g18 := i_lt h17
            have hI19 : zJ84 f r C Z N (ma_put S 84 7 (.inl ((mI S 84 7) - (1 : Int32)))) := zG_sp hI (0) (512) rfl (by decide) (by decide) (by decide) trivial (by omega) (by omega)
            refine sp_87_69 c1 (by omega) (by omega) (zJ84_dn hI19) th_c1 (fun S2 hL_S2 => zv_n ⟨zG_T hL_S2, ?_⟩)
            have hI_S2 := zJ84_up hI19 hL_S2
            first | have e20 : (l2 + (1 : Int32)).toInt = l2.toInt + (1) := i_addk rfl (by omega) (by omega) | have b21 := i_bd (l2 + (1 : Int32))
            exact IH _ (by omega) _ ((l2 + (1 : Int32))) rfl hI_S2 
          · skip
            have g22 := i_nlt h17
            refine ⟨zG_n hI th_c1, ?_⟩
            have f23 := zG_th hI th_c1
            first | have e24 : ((mI S c1 2) - (1 : Int32)).toInt = (mI S c1 2).toInt - (1) := i_subk rfl (by omega) (by omega) | have b25 := i_bd ((mI S c1 2) - (1 : Int32))
            refine zd (fun h26 => ?_) (fun h26 => ?_)
            · skip
              have g27 := i_le h26
              have hI28 : zJ84 f r C Z N (ma_put S 84 7 (.inl ((mI S 84 7) - (1 : Int32)))) := zG_sp hI (0) (512) rfl (by decide) (by decide) (by decide) trivial (by omega) (by omega)
              refine sp_87_69 c1 (by omega) (by omega) (zJ84_dn hI28) th_c1 (fun S4 hL_S4 => zv_n ⟨zG_T hL_S4, ?_⟩)
              have hI_S4 := zJ84_up hI28 hL_S4
              first | have e29 : (l2 + (1 : Int32)).toInt = l2.toInt + (1) := i_addk rfl (by omega) (by omega) | have b30 := i_bd (l2 + (1 : Int32))
              exact IH _ (by omega) _ ((l2 + (1 : Int32))) rfl hI_S4 
            · skip
              have g31 := i_nle h26
              refine ⟨i_ix (by omega) (by omega), ?_⟩
              have hI32 : zJ84 f r C Z N (ma_put S 86 ((mI S 84 7) - (1 : Int32)).toNatClampNeg (.inl ((mI S 86 ((mI S 84 7) - (1 : Int32)).toNatClampNeg) + (1 : Int32)))) := zG_fa hI rfl (by decide) (by decide) (by decide) trivial
              refine sp_26_84 c1 ((mI S 86 ((mI S 84 7) - (1 : Int32)).toNatClampNeg)) (by omega) (by omega) hI32 th_c1 (fun S6 hI_S6 => zv_n ⟨zG_T hI_S6, ?_⟩)
              first | have e33 : (l2 + (1 : Int32)).toInt = l2.toInt + (1) := i_addk rfl (by omega) (by omega) | have b34 := i_bd (l2 + (1 : Int32))
              exact IH _ (by omega) _ ((l2 + (1 : Int32))) rfl hI_S6 
theorem sp_24_84 {X : Nat × (Nat → Int32)} {d w : Nat} {f : Nat → Nat → Int32} {r : Nat → Nat → Option Nat} {C Z N : Nat} {Q : Option ma_V ⊕ Nat → ma_S → Prop} {S : ma_S} (t : Option Nat) (hd : 4 ≤ d) (hw : 86 ≤ w) (hI : zJ84 f r C Z N S) (hq_t : ∀ c, t = some c → 126 ≤ c ∧ c < N) (K : ∀ S', zJ84 f r C Z N S' → Q (.inl none) S') : ma_wp X d w 24 0 [(0, .inr (.inr (some 84))), (1, .inr (.inr t))] [] S Q := by
  refine g_24_84_0 t (by omega) (by omega) (zG_T hI) ?_
  have li2 : (0 : Int32).toInt = 0 := rfl
  have hI1 : zJ84 f r C Z N (ma_put S 84 7 (.inl (0 : Int32))) := zG_sp hI (0) (512) rfl (by decide) (by decide) (by decide) trivial (by omega) (by omega)
  refine sp_25_84 (t) (by omega) (by omega) hI1 hq_t (fun S1 hI_S1 => zv_n ⟨zG_T hI_S1, ?_⟩)
  exact lp_24_84_12 (by omega) (by omega) K _ _ ((0 : Int32)) rfl hI_S1 
theorem g_27_84_0 {X : Nat × (Nat → Int32)} {d w : Nat} {S : ma_S} {Q : Option ma_V ⊕ Nat → ma_S → Prop} (t : Nat) (hd : 0 ≤ d) (hw : 0 ≤ w) (hS : zT S) (h : (126 ≤ t ∧ t < mN S) ∧ (Q (.inl (some (.inl (mI S t 6)))) S)) : ma_wp X d w 27 0 [(0, .inr (.inr (some 84))), (1, .inr (.inr (some t)))] [] S Q := by
  refine zw_push hm_27 dX2_countOf_0 (v := .inr (.inr (some t))) rfl ?_
  obtain ⟨hg, h⟩ := h
  refine zw_gf hm_27 dX2_countOf_1 (v := .inl (mI S t 6)) (zT_tis hS hg) (zT_tt hS hg) rfl f_2_21_9 rfl ?_
  exact zw_iret hm_27 dX2_countOf_4 h
theorem sp_27_84 {X : Nat × (Nat → Int32)} {d w : Nat} {f : Nat → Nat → Int32} {r : Nat → Nat → Option Nat} {C Z N : Nat} {Q : Option ma_V ⊕ Nat → ma_S → Prop} {S : ma_S} (t : Nat) (hd : 0 ≤ d) (hw : 0 ≤ w) (hI : zJ84 f r C Z N S) (th_t : 126 ≤ t ∧ t < N) (K : ∀ v S', zJ84 f r C Z N S' → (True) → Q (.inl (some (.inl v))) S') : ma_wp X d w 27 0 [(0, .inr (.inr (some 84))), (1, .inr (.inr (some t)))] [] S Q := by
  refine g_27_84_0 t (by omega) (by omega) (zG_T hI) ?_
  refine ⟨zG_n hI th_t, ?_⟩
  have b1 := i_bd (mI S t 6)
  exact K ((mI S t 6)) _ hI trivial
theorem g_105_87_0 {X : Nat × (Nat → Int32)} {d w : Nat} {S : ma_S} {Q : Option ma_V ⊕ Nat → ma_S → Prop} (p : Int32) (hd : 1 ≤ d) (hw : 22 ≤ w) (hS : zT S) (h : ma_wp X d w 105 2 [(0, .inr (.inr (some 87))), (2, .inl p)] [] S Q) : ma_wp X d w 105 0 [(0, .inr (.inr (some 87))), (1, .inl p)] [] S Q := by
  refine zw_push hm_105 dX8_freeFrom_0 (v := .inl p) rfl ?_
  refine zw_sto hm_105 dX8_freeFrom_1 [(2, .inl p), (0, .inr (.inr (some 87))), (1, .inl p)] rfl rfl rfl ?_
  exact zw_sub (ma_nd_of (ks := [0, 2]) rfl (by decide)) (ma_nd_of (ks := [2, 0, 1]) rfl (by decide)) (ma_le_cons rfl (ma_le_cons rfl (ma_le_nil _))) h
theorem g_105_87_2 {X : Nat × (Nat → Int32)} {d w : Nat} {S : ma_S} {Q : Option ma_V ⊕ Nat → ma_S → Prop} (l2 : Int32) (hd : 1 ≤ d) (hw : 22 ≤ w) (hS : zT S) (h : if (mI S 87 0) ≤ l2 then (Q (.inl (some (.inl (mI S 87 0)))) S) else (if l2 < 0 then (Q (.inl (some (.inl l2))) S) else (if (4500 : Int32) ≤ l2 then (Q (.inl (some (.inl l2))) S) else ((0 ≤ l2 ∧ l2.toNatClampNeg < 4500) ∧ (if (mI S 71 l2.toNatClampNeg) < 0 then (Q (.inl (some (.inl l2))) S) else (if (512 : Int32) ≤ (mI S 71 l2.toNatClampNeg) then (Q (.inl (some (.inl l2))) S) else ((0 ≤ (mI S 71 l2.toNatClampNeg) ∧ (mI S 71 l2.toNatClampNeg).toNatClampNeg < 512) ∧ (((mR S 70 (mI S 71 l2.toNatClampNeg).toNatClampNeg) = none → Q (.inl (some (.inl l2))) S) ∧ (∀ c1, (mR S 70 (mI S 71 l2.toNatClampNeg).toNatClampNeg) = some c1 → (126 ≤ c1 ∧ c1 < mN S) ∧ (ma_wp X d w 105 2 [(0, .inr (.inr (some 87))), (2, .inl (l2 + (mI S c1 2)))] [] S Q)))))))))) : ma_wp X d w 105 2 [(0, .inr (.inr (some 87))), (2, .inl l2)] [] S Q := by
  refine zw_push hm_105 dX8_freeFrom_2 (v := .inl l2) rfl ?_
  refine zw_push hm_105 dX8_freeFrom_3 (v := .inr (.inr (some 87))) rfl ?_
  refine zw_gf hm_105 dX8_freeFrom_4 (v := .inl (mI S 87 0)) (zT_is hS s_87) (zT_t hS s_87) rfl f_8_9_6 rfl ?_
  refine zw_if2 hm_105 dX8_freeFrom_7 (t := 35) rfl zc2_ge ?_ ?_
  · intro hc
    rw [if_pos hc] at h
    refine zw_push hm_105 dX8_freeFrom_35 (v := .inr (.inr (some 87))) rfl ?_
    refine zw_gf hm_105 dX8_freeFrom_36 (v := .inl (mI S 87 0)) (zT_is hS s_87) (zT_t hS s_87) rfl f_8_9_6 rfl ?_
    exact zw_iret hm_105 dX8_freeFrom_39 h
  · intro hc
    rw [if_neg hc] at h
    refine zw_push hm_105 dX8_freeFrom_10 (v := .inr (.inr (some 87))) rfl ?_
    refine zw_gf hm_105 dX8_freeFrom_11 (v := .inr (.inr (some 69))) (zT_is hS s_87) (zT_t hS s_87) rfl f_8_46_6 (zT_f hS r_87_3) ?_
    refine zw_push hm_105 dX8_freeFrom_14 (v := .inl l2) rfl ?_
    refine zw_cv hm_105 dX8_freeFrom_15 v_8_50_7 hm_89 [.inl l2] [] rfl (zT_rt hS s_69 rfl) ⟨by omega, by omega⟩ rfl ?_
    show ma_wp X (d - 1) (w - 22) 89 0 [(0, .inr (.inr (some 69))), (1, .inl l2)] [] S _
    refine zw_push hm_89 dX7_thingFrom_0 (v := .inl l2) rfl ?_
    refine zw_if0 hm_89 dX7_thingFrom_1 (t := 20) rfl zc0_lt ?_ ?_
    · intro hc
      rw [if_pos hc] at h
      refine zw_push hm_89 dX7_thingFrom_20 (v := .inl (-1 : Int32)) rfl ?_
      refine zw_sto hm_89 dX7_thingFrom_21 [(2, .inl (-1 : Int32)), (0, .inr (.inr (some 69))), (1, .inl l2)] rfl rfl rfl ?_
      refine zw_push hm_89 dX7_thingFrom_22 (v := .inl (-1 : Int32)) rfl ?_
      refine zw_if0 hm_89 dX7_thingFrom_23 (t := 42) rfl zc0_lt (fun _ => ?_) (fun hc => absurd (by decide) hc)
      refine zw_push hm_89 dX7_thingFrom_42 (v := .inr (.inr none)) rfl ?_
      refine zw_aret hm_89 dX7_thingFrom_43 ?_
      show ma_wp X d w 105 18 [(0, .inr (.inr (some 87))), (2, .inl l2)] [.inr (.inr none)] S _
      refine zw_sto hm_105 dX8_freeFrom_18 [(3, .inr (.inr none)), (0, .inr (.inr (some 87))), (2, .inl l2)] rfl rfl rfl ?_
      refine zw_push hm_105 dX8_freeFrom_19 (v := .inr (.inr none)) rfl ?_
      refine zw_ifnonnull hm_105 dX8_freeFrom_20 (t := 25) rfl (fun _ => ?_) (fun _ z => by cases z)
      refine zw_push hm_105 dX8_freeFrom_23 (v := .inl l2) rfl ?_
      exact zw_iret hm_105 dX8_freeFrom_24 h
    · intro hc
      rw [if_neg hc] at h
      refine zw_push hm_89 dX7_thingFrom_4 (v := .inl l2) rfl ?_
      refine zw_push hm_89 dX7_thingFrom_5 (v := .inl (4500 : Int32)) rfl ?_
      refine zw_if2 hm_89 dX7_thingFrom_8 (t := 20) rfl zc2_ge ?_ ?_
      · intro hc
        rw [if_pos hc] at h
        refine zw_push hm_89 dX7_thingFrom_20 (v := .inl (-1 : Int32)) rfl ?_
        refine zw_sto hm_89 dX7_thingFrom_21 [(2, .inl (-1 : Int32)), (0, .inr (.inr (some 69))), (1, .inl l2)] rfl rfl rfl ?_
        refine zw_push hm_89 dX7_thingFrom_22 (v := .inl (-1 : Int32)) rfl ?_
        refine zw_if0 hm_89 dX7_thingFrom_23 (t := 42) rfl zc0_lt (fun _ => ?_) (fun hc => absurd (by decide) hc)
        refine zw_push hm_89 dX7_thingFrom_42 (v := .inr (.inr none)) rfl ?_
        refine zw_aret hm_89 dX7_thingFrom_43 ?_
        show ma_wp X d w 105 18 [(0, .inr (.inr (some 87))), (2, .inl l2)] [.inr (.inr none)] S _
        refine zw_sto hm_105 dX8_freeFrom_18 [(3, .inr (.inr none)), (0, .inr (.inr (some 87))), (2, .inl l2)] rfl rfl rfl ?_
        refine zw_push hm_105 dX8_freeFrom_19 (v := .inr (.inr none)) rfl ?_
        refine zw_ifnonnull hm_105 dX8_freeFrom_20 (t := 25) rfl (fun _ => ?_) (fun _ z => by cases z)
        refine zw_push hm_105 dX8_freeFrom_23 (v := .inl l2) rfl ?_
        exact zw_iret hm_105 dX8_freeFrom_24 h
      · intro hc
        rw [if_neg hc] at h
        refine zw_push hm_89 dX7_thingFrom_11 (v := .inr (.inr (some 69))) rfl ?_
        refine zw_gf hm_89 dX7_thingFrom_12 (v := .inr (.inr (some 71))) (zT_is hS s_69) (zT_t hS s_69) rfl f_7_17_7 (zT_f hS r_69_1) ?_
        refine zw_push hm_89 dX7_thingFrom_15 (v := .inl l2) rfl ?_
        obtain ⟨hg, h⟩ := h
        refine zw_ia hm_89 dX7_thingFrom_16 (zT_is hS s_71) (zT_h hS s_71) rfl hg ?_
        show ma_wp X (d - 1) (w - 22) 89 17 [(0, .inr (.inr (some 69))), (1, .inl l2)] [.inl (mI S 71 l2.toNatClampNeg)] S _
        refine zw_goto hm_89 dX7_thingFrom_17 (t := 21) rfl ?_
        refine zw_sto hm_89 dX7_thingFrom_21 [(2, .inl (mI S 71 l2.toNatClampNeg)), (0, .inr (.inr (some 69))), (1, .inl l2)] rfl rfl rfl ?_
        refine zw_push hm_89 dX7_thingFrom_22 (v := .inl (mI S 71 l2.toNatClampNeg)) rfl ?_
        refine zw_if0 hm_89 dX7_thingFrom_23 (t := 42) rfl zc0_lt ?_ ?_
        · intro hc
          rw [if_pos hc] at h
          refine zw_push hm_89 dX7_thingFrom_42 (v := .inr (.inr none)) rfl ?_
          refine zw_aret hm_89 dX7_thingFrom_43 ?_
          show ma_wp X d w 105 18 [(0, .inr (.inr (some 87))), (2, .inl l2)] [.inr (.inr none)] S _
          refine zw_sto hm_105 dX8_freeFrom_18 [(3, .inr (.inr none)), (0, .inr (.inr (some 87))), (2, .inl l2)] rfl rfl rfl ?_
          refine zw_push hm_105 dX8_freeFrom_19 (v := .inr (.inr none)) rfl ?_
          refine zw_ifnonnull hm_105 dX8_freeFrom_20 (t := 25) rfl (fun _ => ?_) (fun _ z => by cases z)
          refine zw_push hm_105 dX8_freeFrom_23 (v := .inl l2) rfl ?_
          exact zw_iret hm_105 dX8_freeFrom_24 h
        · intro hc
          rw [if_neg hc] at h
          refine zw_push hm_89 dX7_thingFrom_26 (v := .inl (mI S 71 l2.toNatClampNeg)) rfl ?_
          refine zw_push hm_89 dX7_thingFrom_27 (v := .inl (512 : Int32)) rfl ?_
          refine zw_if2 hm_89 dX7_thingFrom_30 (t := 42) rfl zc2_ge ?_ ?_
          · intro hc
            rw [if_pos hc] at h
            refine zw_push hm_89 dX7_thingFrom_42 (v := .inr (.inr none)) rfl ?_
            refine zw_aret hm_89 dX7_thingFrom_43 ?_
            show ma_wp X d w 105 18 [(0, .inr (.inr (some 87))), (2, .inl l2)] [.inr (.inr none)] S _
            refine zw_sto hm_105 dX8_freeFrom_18 [(3, .inr (.inr none)), (0, .inr (.inr (some 87))), (2, .inl l2)] rfl rfl rfl ?_
            refine zw_push hm_105 dX8_freeFrom_19 (v := .inr (.inr none)) rfl ?_
            refine zw_ifnonnull hm_105 dX8_freeFrom_20 (t := 25) rfl (fun _ => ?_) (fun _ z => by cases z)
            refine zw_push hm_105 dX8_freeFrom_23 (v := .inl l2) rfl ?_
            exact zw_iret hm_105 dX8_freeFrom_24 h
          · intro hc
            rw [if_neg hc] at h
            refine zw_push hm_89 dX7_thingFrom_33 (v := .inr (.inr (some 69))) rfl ?_
            refine zw_gf hm_89 dX7_thingFrom_34 (v := .inr (.inr (some 70))) (zT_is hS s_69) (zT_t hS s_69) rfl f_7_11_7 (zT_f hS r_69_0) ?_
            refine zw_push hm_89 dX7_thingFrom_37 (v := .inl (mI S 71 l2.toNatClampNeg)) rfl ?_
            obtain ⟨hg, h⟩ := h
            refine zw_aa hm_89 dX7_thingFrom_38 (zT_is hS s_70) (zT_h hS s_70) rfl rfl hg rfl ?_
            show ma_wp X (d - 1) (w - 22) 89 39 [(2, .inl (mI S 71 l2.toNatClampNeg)), (0, .inr (.inr (some 69))), (1, .inl l2)] [.inr (.inr (mR S 70 (mI S 71 l2.toNatClampNeg).toNatClampNeg))] S _
            refine zw_goto hm_89 dX7_thingFrom_39 (t := 43) rfl ?_
            refine zw_aret hm_89 dX7_thingFrom_43 ?_
            show ma_wp X d w 105 18 [(0, .inr (.inr (some 87))), (2, .inl l2)] [.inr (.inr (mR S 70 (mI S 71 l2.toNatClampNeg).toNatClampNeg))] S _
            refine zw_sto hm_105 dX8_freeFrom_18 [(3, .inr (.inr (mR S 70 (mI S 71 l2.toNatClampNeg).toNatClampNeg))), (0, .inr (.inr (some 87))), (2, .inl l2)] rfl rfl rfl ?_
            refine zw_push hm_105 dX8_freeFrom_19 (v := .inr (.inr (mR S 70 (mI S 71 l2.toNatClampNeg).toNatClampNeg))) rfl ?_
            refine zw_ifnonnull hm_105 dX8_freeFrom_20 (t := 25) rfl ?_ ?_
            · intro hc
              have h := h.1 hc
              (try rw [hc])
              show ma_wp X d w 105 23 [(3, .inr (.inr none)), (0, .inr (.inr (some 87))), (2, .inl l2)] [] S _
              refine zw_push hm_105 dX8_freeFrom_23 (v := .inl l2) rfl ?_
              exact zw_iret hm_105 dX8_freeFrom_24 h
            · intro c1 hc
              have h := h.2 c1 hc
              (try rw [hc])
              show ma_wp X d w 105 25 [(3, .inr (.inr (some c1))), (0, .inr (.inr (some 87))), (2, .inl l2)] [] S _
              refine zw_push hm_105 dX8_freeFrom_25 (v := .inl l2) rfl ?_
              refine zw_push hm_105 dX8_freeFrom_26 (v := .inr (.inr (some c1))) rfl ?_
              obtain ⟨hg, h⟩ := h
              refine zw_gf hm_105 dX8_freeFrom_27 (v := .inl (mI S c1 2)) (zT_tis hS hg) (zT_tt hS hg) rfl f_8_34_9 rfl ?_
              refine zw_stk hm_105 dX8_freeFrom_30 (st' := [.inl (l2 + (mI S c1 2))]) rfl rfl ?_
              refine zw_sto hm_105 dX8_freeFrom_31 [(2, .inl (l2 + (mI S c1 2))), (3, .inr (.inr (some c1))), (0, .inr (.inr (some 87)))] rfl rfl rfl ?_
              refine zw_goto hm_105 dX8_freeFrom_32 (t := 2) rfl ?_
              exact zw_sub (ma_nd_of (ks := [0, 2]) rfl (by decide)) (ma_nd_of (ks := [2, 3, 0]) rfl (by decide)) (ma_le_cons rfl (ma_le_cons rfl (ma_le_nil _))) h
theorem lp_105_87_2 {X : Nat × (Nat → Int32)} {d w : Nat} {f : Nat → Nat → Int32} {r : Nat → Nat → Option Nat} {C Z N : Nat} {Q : Option ma_V ⊕ Nat → ma_S → Prop} (hd : 1 ≤ d) (hw : 22 ≤ w) (K : ∀ v S', zJ87 f r C Z N S' → (0 ≤ v.toInt ∧ v.toInt ≤ 1500) → Q (.inl (some (.inl v))) S') : ∀ (n : Nat) (S : ma_S) (l2 : Int32), (1500 - l2.toInt).toNat = n → zJ87 f r C Z N S → (0 ≤ l2.toInt) → ma_wp X d w 105 2 [(0, .inr (.inr (some 87))), (2, .inl l2)] [] S Q := by
  intro n
  induction n using Nat.strongRecOn with
  | _ n IH =>
    intro S l2 hmu hI  hi0
    refine g_105_87_2 l2 (by omega) (by omega) (zG_T hI) ?_
    have f1 := zG_s hI (0) (1500) (c := 87) (k := 0) (by decide)
    have b2 := i_bd l2
    refine zd (fun h3 => ?_) (fun h3 => ?_)
    · skip
      have g4 := i_le h3
      exact K ((mI S 87 0)) _ hI (by omega)
    · skip
      have g5 := i_nle h3
      have li6 : (0 : Int32).toInt = 0 := rfl
      refine zd (fun h7 => ?_) (fun h7 => ?_)
      · skip
        have g8 := i_lt h7
        exact K (l2) _ hI (by omega)
      · skip
        have g9 := i_nlt h7
        have li10 : (4500 : Int32).toInt = 4500 := rfl
        refine zd (fun h11 => ?_) (fun h11 => ?_)
        · skip
          have g12 := i_le h11
          exact K (l2) _ hI (by omega)
        · skip
          have g13 := i_nle h11
          refine ⟨i_ix (by omega) (by omega), ?_⟩
          have b14 := i_bd (mI S 71 l2.toNatClampNeg)
          refine zd (fun h15 => ?_) (fun h15 => ?_)
          · skip
            have g16 := i_lt h15
            exact K (l2) _ hI (by omega)
          · skip
            have g17 := i_nlt h15
            have li18 : (512 : Int32).toInt = 512 := rfl
            refine zd (fun h19 => ?_) (fun h19 => ?_)
            · skip
              have g20 := i_le h19
              exact K (l2) _ hI (by omega)
            · skip
              have g21 := i_nle h19
              refine ⟨i_ix (by omega) (by omega), ?_⟩
              refine ⟨fun _ => ?_, fun c1 hc => ?_⟩
              · skip
                exact K (l2) _ hI (by omega)
              · skip
                have th_c1 := (fun _ z => zG_70 hI (c := 70) (by decide) z) c1 hc
                refine ⟨zG_n hI th_c1, ?_⟩
                have f22 := zG_th hI th_c1
                first | have e23 : (l2 + (mI S c1 2)).toInt = l2.toInt + (mI S c1 2).toInt := i_add (by omega) (by omega) | have b24 := i_bd (l2 + (mI S c1 2))
                exact IH _ (by omega) _ ((l2 + (mI S c1 2))) rfl hI (by omega)
theorem sp_105_87 {X : Nat × (Nat → Int32)} {d w : Nat} {f : Nat → Nat → Int32} {r : Nat → Nat → Option Nat} {C Z N : Nat} {Q : Option ma_V ⊕ Nat → ma_S → Prop} {S : ma_S} (p : Int32) (hd : 1 ≤ d) (hw : 22 ≤ w) (hI : zJ87 f r C Z N S) (hpre0 : 0 ≤ p.toInt) (K : ∀ v S', zJ87 f r C Z N S' → (0 ≤ v.toInt ∧ v.toInt ≤ 1500) → Q (.inl (some (.inl v))) S') : ma_wp X d w 105 0 [(0, .inr (.inr (some 87))), (1, .inl p)] [] S Q := by
  refine g_105_87_0 p (by omega) (by omega) (zG_T hI) ?_
  have b1 := i_bd p
  exact lp_105_87_2 (by omega) (by omega) K _ _ (p) rfl hI (by omega)
theorem g_106_87_0 {X : Nat × (Nat → Int32)} {d w : Nat} {S : ma_S} {Q : Option ma_V ⊕ Nat → ma_S → Prop} (p : Int32) (hd : 1 ≤ d) (hw : 22 ≤ w) (hS : zT S) (h : ma_wp X d w 106 2 [(0, .inr (.inr (some 87))), (2, .inl p)] [] S Q) : ma_wp X d w 106 0 [(0, .inr (.inr (some 87))), (1, .inl p)] [] S Q := by
  refine zw_push hm_106 dX8_freeEnd_0 (v := .inl p) rfl ?_
  refine zw_sto hm_106 dX8_freeEnd_1 [(2, .inl p), (0, .inr (.inr (some 87))), (1, .inl p)] rfl rfl rfl ?_
  exact zw_sub (ma_nd_of (ks := [0, 2]) rfl (by decide)) (ma_nd_of (ks := [2, 0, 1]) rfl (by decide)) (ma_le_cons rfl (ma_le_cons rfl (ma_le_nil _))) h
theorem g_106_87_2 {X : Nat × (Nat → Int32)} {d w : Nat} {S : ma_S} {Q : Option ma_V ⊕ Nat → ma_S → Prop} (l2 : Int32) (hd : 1 ≤ d) (hw : 22 ≤ w) (hS : zT S) (h : if (mI S 87 0) ≤ l2 then (Q (.inl (some (.inl l2))) S) else (if l2 < 0 then (ma_wp X d w 106 2 [(0, .inr (.inr (some 87))), (2, .inl (l2 + (1 : Int32)))] [] S Q) else (if (4500 : Int32) ≤ l2 then (ma_wp X d w 106 2 [(0, .inr (.inr (some 87))), (2, .inl (l2 + (1 : Int32)))] [] S Q) else ((0 ≤ l2 ∧ l2.toNatClampNeg < 4500) ∧ (if (mI S 71 l2.toNatClampNeg) < 0 then (ma_wp X d w 106 2 [(0, .inr (.inr (some 87))), (2, .inl (l2 + (1 : Int32)))] [] S Q) else (if (512 : Int32) ≤ (mI S 71 l2.toNatClampNeg) then (ma_wp X d w 106 2 [(0, .inr (.inr (some 87))), (2, .inl (l2 + (1 : Int32)))] [] S Q) else ((0 ≤ (mI S 71 l2.toNatClampNeg) ∧ (mI S 71 l2.toNatClampNeg).toNatClampNeg < 512) ∧ (((mR S 70 (mI S 71 l2.toNatClampNeg).toNatClampNeg) = none → ma_wp X d w 106 2 [(0, .inr (.inr (some 87))), (2, .inl (l2 + (1 : Int32)))] [] S Q) ∧ (∀ c1, (mR S 70 (mI S 71 l2.toNatClampNeg).toNatClampNeg) = some c1 → Q (.inl (some (.inl l2))) S))))))))) : ma_wp X d w 106 2 [(0, .inr (.inr (some 87))), (2, .inl l2)] [] S Q := by
  refine zw_push hm_106 dX8_freeEnd_2 (v := .inl l2) rfl ?_
  refine zw_push hm_106 dX8_freeEnd_3 (v := .inr (.inr (some 87))) rfl ?_
  refine zw_gf hm_106 dX8_freeEnd_4 (v := .inl (mI S 87 0)) (zT_is hS s_87) (zT_t hS s_87) rfl f_8_9_6 rfl ?_
  refine zw_if2 hm_106 dX8_freeEnd_7 (t := 27) rfl zc2_ge ?_ ?_
  · intro hc
    rw [if_pos hc] at h
    refine zw_push hm_106 dX8_freeEnd_27 (v := .inl l2) rfl ?_
    exact zw_iret hm_106 dX8_freeEnd_28 h
  · intro hc
    rw [if_neg hc] at h
    refine zw_push hm_106 dX8_freeEnd_10 (v := .inr (.inr (some 87))) rfl ?_
    refine zw_gf hm_106 dX8_freeEnd_11 (v := .inr (.inr (some 69))) (zT_is hS s_87) (zT_t hS s_87) rfl f_8_46_6 (zT_f hS r_87_3) ?_
    refine zw_push hm_106 dX8_freeEnd_14 (v := .inl l2) rfl ?_
    refine zw_cv hm_106 dX8_freeEnd_15 v_8_50_7 hm_89 [.inl l2] [] rfl (zT_rt hS s_69 rfl) ⟨by omega, by omega⟩ rfl ?_
    show ma_wp X (d - 1) (w - 22) 89 0 [(0, .inr (.inr (some 69))), (1, .inl l2)] [] S _
    refine zw_push hm_89 dX7_thingFrom_0 (v := .inl l2) rfl ?_
    refine zw_if0 hm_89 dX7_thingFrom_1 (t := 20) rfl zc0_lt ?_ ?_
    · intro hc
      rw [if_pos hc] at h
      refine zw_push hm_89 dX7_thingFrom_20 (v := .inl (-1 : Int32)) rfl ?_
      refine zw_sto hm_89 dX7_thingFrom_21 [(2, .inl (-1 : Int32)), (0, .inr (.inr (some 69))), (1, .inl l2)] rfl rfl rfl ?_
      refine zw_push hm_89 dX7_thingFrom_22 (v := .inl (-1 : Int32)) rfl ?_
      refine zw_if0 hm_89 dX7_thingFrom_23 (t := 42) rfl zc0_lt (fun _ => ?_) (fun hc => absurd (by decide) hc)
      refine zw_push hm_89 dX7_thingFrom_42 (v := .inr (.inr none)) rfl ?_
      refine zw_aret hm_89 dX7_thingFrom_43 ?_
      show ma_wp X d w 106 18 [(0, .inr (.inr (some 87))), (2, .inl l2)] [.inr (.inr none)] S _
      refine zw_ifnonnull hm_106 dX8_freeEnd_18 (t := 27) rfl (fun _ => ?_) (fun _ z => by cases z)
      refine zw_sto hm_106 dX8_freeEnd_21 [(2, .inl (l2 + (1 : Int32))), (0, .inr (.inr (some 87)))] rfl rfl rfl ?_
      refine zw_goto hm_106 dX8_freeEnd_24 (t := 2) rfl ?_
      exact zw_sub (ma_nd_of (ks := [0, 2]) rfl (by decide)) (ma_nd_of (ks := [2, 0]) rfl (by decide)) (ma_le_cons rfl (ma_le_cons rfl (ma_le_nil _))) h
    · intro hc
      rw [if_neg hc] at h
      refine zw_push hm_89 dX7_thingFrom_4 (v := .inl l2) rfl ?_
      refine zw_push hm_89 dX7_thingFrom_5 (v := .inl (4500 : Int32)) rfl ?_
      refine zw_if2 hm_89 dX7_thingFrom_8 (t := 20) rfl zc2_ge ?_ ?_
      · intro hc
        rw [if_pos hc] at h
        refine zw_push hm_89 dX7_thingFrom_20 (v := .inl (-1 : Int32)) rfl ?_
        refine zw_sto hm_89 dX7_thingFrom_21 [(2, .inl (-1 : Int32)), (0, .inr (.inr (some 69))), (1, .inl l2)] rfl rfl rfl ?_
        refine zw_push hm_89 dX7_thingFrom_22 (v := .inl (-1 : Int32)) rfl ?_
        refine zw_if0 hm_89 dX7_thingFrom_23 (t := 42) rfl zc0_lt (fun _ => ?_) (fun hc => absurd (by decide) hc)
        refine zw_push hm_89 dX7_thingFrom_42 (v := .inr (.inr none)) rfl ?_
        refine zw_aret hm_89 dX7_thingFrom_43 ?_
        show ma_wp X d w 106 18 [(0, .inr (.inr (some 87))), (2, .inl l2)] [.inr (.inr none)] S _
        refine zw_ifnonnull hm_106 dX8_freeEnd_18 (t := 27) rfl (fun _ => ?_) (fun _ z => by cases z)
        refine zw_sto hm_106 dX8_freeEnd_21 [(2, .inl (l2 + (1 : Int32))), (0, .inr (.inr (some 87)))] rfl rfl rfl ?_
        refine zw_goto hm_106 dX8_freeEnd_24 (t := 2) rfl ?_
        exact zw_sub (ma_nd_of (ks := [0, 2]) rfl (by decide)) (ma_nd_of (ks := [2, 0]) rfl (by decide)) (ma_le_cons rfl (ma_le_cons rfl (ma_le_nil _))) h
      · intro hc
        rw [if_neg hc] at h
        refine zw_push hm_89 dX7_thingFrom_11 (v := .inr (.inr (some 69))) rfl ?_
        refine zw_gf hm_89 dX7_thingFrom_12 (v := .inr (.inr (some 71))) (zT_is hS s_69) (zT_t hS s_69) rfl f_7_17_7 (zT_f hS r_69_1) ?_
        refine zw_push hm_89 dX7_thingFrom_15 (v := .inl l2) rfl ?_
        obtain ⟨hg, h⟩ := h
        refine zw_ia hm_89 dX7_thingFrom_16 (zT_is hS s_71) (zT_h hS s_71) rfl hg ?_
        show ma_wp X (d - 1) (w - 22) 89 17 [(0, .inr (.inr (some 69))), (1, .inl l2)] [.inl (mI S 71 l2.toNatClampNeg)] S _
        refine zw_goto hm_89 dX7_thingFrom_17 (t := 21) rfl ?_
        refine zw_sto hm_89 dX7_thingFrom_21 [(2, .inl (mI S 71 l2.toNatClampNeg)), (0, .inr (.inr (some 69))), (1, .inl l2)] rfl rfl rfl ?_
        refine zw_push hm_89 dX7_thingFrom_22 (v := .inl (mI S 71 l2.toNatClampNeg)) rfl ?_
        refine zw_if0 hm_89 dX7_thingFrom_23 (t := 42) rfl zc0_lt ?_ ?_
        · intro hc
          rw [if_pos hc] at h
          refine zw_push hm_89 dX7_thingFrom_42 (v := .inr (.inr none)) rfl ?_
          refine zw_aret hm_89 dX7_thingFrom_43 ?_
          show ma_wp X d w 106 18 [(0, .inr (.inr (some 87))), (2, .inl l2)] [.inr (.inr none)] S _
          refine zw_ifnonnull hm_106 dX8_freeEnd_18 (t := 27) rfl (fun _ => ?_) (fun _ z => by cases z)
          refine zw_sto hm_106 dX8_freeEnd_21 [(2, .inl (l2 + (1 : Int32))), (0, .inr (.inr (some 87)))] rfl rfl rfl ?_
          refine zw_goto hm_106 dX8_freeEnd_24 (t := 2) rfl ?_
          exact zw_sub (ma_nd_of (ks := [0, 2]) rfl (by decide)) (ma_nd_of (ks := [2, 0]) rfl (by decide)) (ma_le_cons rfl (ma_le_cons rfl (ma_le_nil _))) h
        · intro hc
          rw [if_neg hc] at h
          refine zw_push hm_89 dX7_thingFrom_26 (v := .inl (mI S 71 l2.toNatClampNeg)) rfl ?_
          refine zw_push hm_89 dX7_thingFrom_27 (v := .inl (512 : Int32)) rfl ?_
          refine zw_if2 hm_89 dX7_thingFrom_30 (t := 42) rfl zc2_ge ?_ ?_
          · intro hc
            rw [if_pos hc] at h
            refine zw_push hm_89 dX7_thingFrom_42 (v := .inr (.inr none)) rfl ?_
            refine zw_aret hm_89 dX7_thingFrom_43 ?_
            show ma_wp X d w 106 18 [(0, .inr (.inr (some 87))), (2, .inl l2)] [.inr (.inr none)] S _
            refine zw_ifnonnull hm_106 dX8_freeEnd_18 (t := 27) rfl (fun _ => ?_) (fun _ z => by cases z)
            refine zw_sto hm_106 dX8_freeEnd_21 [(2, .inl (l2 + (1 : Int32))), (0, .inr (.inr (some 87)))] rfl rfl rfl ?_
            refine zw_goto hm_106 dX8_freeEnd_24 (t := 2) rfl ?_
            exact zw_sub (ma_nd_of (ks := [0, 2]) rfl (by decide)) (ma_nd_of (ks := [2, 0]) rfl (by decide)) (ma_le_cons rfl (ma_le_cons rfl (ma_le_nil _))) h
          · intro hc
            rw [if_neg hc] at h
            refine zw_push hm_89 dX7_thingFrom_33 (v := .inr (.inr (some 69))) rfl ?_
            refine zw_gf hm_89 dX7_thingFrom_34 (v := .inr (.inr (some 70))) (zT_is hS s_69) (zT_t hS s_69) rfl f_7_11_7 (zT_f hS r_69_0) ?_
            refine zw_push hm_89 dX7_thingFrom_37 (v := .inl (mI S 71 l2.toNatClampNeg)) rfl ?_
            obtain ⟨hg, h⟩ := h
            refine zw_aa hm_89 dX7_thingFrom_38 (zT_is hS s_70) (zT_h hS s_70) rfl rfl hg rfl ?_
            show ma_wp X (d - 1) (w - 22) 89 39 [(2, .inl (mI S 71 l2.toNatClampNeg)), (0, .inr (.inr (some 69))), (1, .inl l2)] [.inr (.inr (mR S 70 (mI S 71 l2.toNatClampNeg).toNatClampNeg))] S _
            refine zw_goto hm_89 dX7_thingFrom_39 (t := 43) rfl ?_
            refine zw_aret hm_89 dX7_thingFrom_43 ?_
            show ma_wp X d w 106 18 [(0, .inr (.inr (some 87))), (2, .inl l2)] [.inr (.inr (mR S 70 (mI S 71 l2.toNatClampNeg).toNatClampNeg))] S _
            refine zw_ifnonnull hm_106 dX8_freeEnd_18 (t := 27) rfl ?_ ?_
            · intro hc
              have h := h.1 hc
              (try rw [hc])
              show ma_wp X d w 106 21 [(0, .inr (.inr (some 87))), (2, .inl l2)] [] S _
              refine zw_sto hm_106 dX8_freeEnd_21 [(2, .inl (l2 + (1 : Int32))), (0, .inr (.inr (some 87)))] rfl rfl rfl ?_
              refine zw_goto hm_106 dX8_freeEnd_24 (t := 2) rfl ?_
              exact zw_sub (ma_nd_of (ks := [0, 2]) rfl (by decide)) (ma_nd_of (ks := [2, 0]) rfl (by decide)) (ma_le_cons rfl (ma_le_cons rfl (ma_le_nil _))) h
            · intro c1 hc
              have h := h.2 c1 hc
              (try rw [hc])
              show ma_wp X d w 106 27 [(0, .inr (.inr (some 87))), (2, .inl l2)] [] S _
              refine zw_push hm_106 dX8_freeEnd_27 (v := .inl l2) rfl ?_
              exact zw_iret hm_106 dX8_freeEnd_28 h
theorem lp_106_87_2 {X : Nat × (Nat → Int32)} {d w : Nat} {f : Nat → Nat → Int32} {r : Nat → Nat → Option Nat} {C Z N : Nat} {Q : Option ma_V ⊕ Nat → ma_S → Prop} (hd : 1 ≤ d) (hw : 22 ≤ w) (K : ∀ v S', zJ87 f r C Z N S' → (0 ≤ v.toInt ∧ v.toInt ≤ 300000) → Q (.inl (some (.inl v))) S') : ∀ (n : Nat) (S : ma_S) (l2 : Int32), (1500 - l2.toInt).toNat = n → zJ87 f r C Z N S → (0 ≤ l2.toInt) → (l2.toInt ≤ 300000) → ma_wp X d w 106 2 [(0, .inr (.inr (some 87))), (2, .inl l2)] [] S Q := by
  intro n
  induction n using Nat.strongRecOn with
  | _ n IH =>
    intro S l2 hmu hI  hi0 hi1
    refine g_106_87_2 l2 (by omega) (by omega) (zG_T hI) ?_
    have f1 := zG_s hI (0) (1500) (c := 87) (k := 0) (by decide)
    have b2 := i_bd l2
    refine zd (fun h3 => ?_) (fun h3 => ?_)
    · skip
      have g4 := i_le h3
      exact K (l2) _ hI (by omega)
    · skip
      have g5 := i_nle h3
      have li6 : (0 : Int32).toInt = 0 := rfl
      refine zd (fun h7 => ?_) (fun h7 => ?_)
      · skip
        have g8 := i_lt h7
        first | have e9 : (l2 + (1 : Int32)).toInt = l2.toInt + (1) := i_addk rfl (by omega) (by omega) | have b10 := i_bd (l2 + (1 : Int32))
        exact IH _ (by omega) _ ((l2 + (1 : Int32))) rfl hI (by omega) (by omega)
      · skip
        have g11 := i_nlt h7
        have li12 : (4500 : Int32).toInt = 4500 := rfl
        refine zd (fun h13 => ?_) (fun h13 => ?_)
        · skip
          have g14 := i_le h13
          first | have e15 : (l2 + (1 : Int32)).toInt = l2.toInt + (1) := i_addk rfl (by omega) (by omega) | have b16 := i_bd (l2 + (1 : Int32))
          exact IH _ (by omega) _ ((l2 + (1 : Int32))) rfl hI (by omega) (by omega)
        · skip
          have g17 := i_nle h13
          refine ⟨i_ix (by omega) (by omega), ?_⟩
          have b18 := i_bd (mI S 71 l2.toNatClampNeg)
          refine zd (fun h19 => ?_) (fun h19 => ?_)
          · skip
            have g20 := i_lt h19
            first | have e21 : (l2 + (1 : Int32)).toInt = l2.toInt + (1) := i_addk rfl (by omega) (by omega) | have b22 := i_bd (l2 + (1 : Int32))
            exact IH _ (by omega) _ ((l2 + (1 : Int32))) rfl hI (by omega) (by omega)
          · skip
            have g23 := i_nlt h19
            have li24 : (512 : Int32).toInt = 512 := rfl
            refine zd (fun h25 => ?_) (fun h25 => ?_)
            · skip
              have g26 := i_le h25
              first | have e27 : (l2 + (1 : Int32)).toInt = l2.toInt + (1) := i_addk rfl (by omega) (by omega) | have b28 := i_bd (l2 + (1 : Int32))
              exact IH _ (by omega) _ ((l2 + (1 : Int32))) rfl hI (by omega) (by omega)
            · skip
              have g29 := i_nle h25
              refine ⟨i_ix (by omega) (by omega), ?_⟩
              refine ⟨fun _ => ?_, fun c1 hc => ?_⟩
              · skip
                first | have e30 : (l2 + (1 : Int32)).toInt = l2.toInt + (1) := i_addk rfl (by omega) (by omega) | have b31 := i_bd (l2 + (1 : Int32))
                exact IH _ (by omega) _ ((l2 + (1 : Int32))) rfl hI (by omega) (by omega)
              · skip
                have th_c1 := (fun _ z => zG_70 hI (c := 70) (by decide) z) c1 hc
                exact K (l2) _ hI (by omega)
theorem sp_106_87 {X : Nat × (Nat → Int32)} {d w : Nat} {f : Nat → Nat → Int32} {r : Nat → Nat → Option Nat} {C Z N : Nat} {Q : Option ma_V ⊕ Nat → ma_S → Prop} {S : ma_S} (p : Int32) (hd : 1 ≤ d) (hw : 22 ≤ w) (hI : zJ87 f r C Z N S) (hpre0 : 0 ≤ p.toInt) (hpre1 : p.toInt ≤ 300000) (K : ∀ v S', zJ87 f r C Z N S' → (0 ≤ v.toInt ∧ v.toInt ≤ 300000) → Q (.inl (some (.inl v))) S') : ma_wp X d w 106 0 [(0, .inr (.inr (some 87))), (1, .inl p)] [] S Q := by
  refine g_106_87_0 p (by omega) (by omega) (zG_T hI) ?_
  have b1 := i_bd p
  exact lp_106_87_2 (by omega) (by omega) K _ _ (p) rfl hI (by omega) (by omega)
theorem g_104_87_0 {X : Nat × (Nat → Int32)} {d w : Nat} {S : ma_S} {Q : Option ma_V ⊕ Nat → ma_S → Prop} (a : Int32) (b : Int32) (n : Int32) (hd : 2 ≤ d) (hw : 45 ≤ w) (hS : zT S) (h : ma_wp X (d - 1) (w - 23) 105 0 [(0, .inr (.inr (some 87))), (1, .inl a)] [] S (zi (fun v2 S1 => zT S1 ∧ (ma_wp X d w 104 10 [(0, .inr (.inr (some 87))), (2, .inl b), (3, .inl n), (4, .inl v2), (5, .inl (0 : Int32))] [] S1 Q)) (fun x S9 => Q (.inr x) S9))) : ma_wp X d w 104 0 [(0, .inr (.inr (some 87))), (1, .inl a), (2, .inl b), (3, .inl n)] [] S Q := by
  refine zw_push hm_104 dX8_fitFirst_0 (v := .inr (.inr (some 87))) rfl ?_
  refine zw_push hm_104 dX8_fitFirst_1 (v := .inl a) rfl ?_
  refine zw_cv hm_104 dX8_fitFirst_2 v_8_40_6 hm_105 [.inl a] [] rfl (zT_rt hS s_87 rfl) ⟨by omega, by omega⟩ rfl (zw_mono h (zi_go ?_ ?_))
  · intro v2 S1 hv
    obtain ⟨hS1, h⟩ := hv
    refine zw_sto hm_104 dX8_fitFirst_5 [(4, .inl v2), (0, .inr (.inr (some 87))), (1, .inl a), (2, .inl b), (3, .inl n)] rfl rfl rfl ?_
    refine zw_push hm_104 dX8_fitFirst_7 (v := .inl (0 : Int32)) rfl ?_
    refine zw_sto hm_104 dX8_fitFirst_8 [(5, .inl (0 : Int32)), (4, .inl v2), (0, .inr (.inr (some 87))), (1, .inl a), (2, .inl b), (3, .inl n)] rfl rfl rfl ?_
    exact zw_sub (ma_nd_of (ks := [0, 2, 3, 4, 5]) rfl (by decide)) (ma_nd_of (ks := [5, 4, 0, 1, 2, 3]) rfl (by decide)) (ma_le_cons rfl (ma_le_cons rfl (ma_le_cons rfl (ma_le_cons rfl (ma_le_cons rfl (ma_le_nil _)))))) h
  · intro x S9 hx
    exact ⟨by decide, hx⟩
theorem g_104_87_10 {X : Nat × (Nat → Int32)} {d w : Nat} {S : ma_S} {Q : Option ma_V ⊕ Nat → ma_S → Prop} (l2 : Int32) (l3 : Int32) (l4 : Int32) (l5 : Int32) (hd : 2 ≤ d) (hw : 45 ≤ w) (hS : zT S) (h : if (4500 : Int32) ≤ l5 then (Q (.inl (some (.inl (-1 : Int32)))) S) else (if l2 ≤ l4 then (Q (.inl (some (.inl (-1 : Int32)))) S) else (ma_wp X (d - 1) (w - 22) 106 0 [(0, .inr (.inr (some 87))), (1, .inl l4)] [] S (zi (fun v2 S1 => zT S1 ∧ (if (v2 - l4) < l3 then (ma_wp X (d - 1) (w - 23) 105 0 [(0, .inr (.inr (some 87))), (1, .inl v2)] [] (ma_put S1 69 12 (.inl ((mI S1 69 12) + (1 : Int32)))) (zi (fun v4 S3 => zT S3 ∧ (ma_wp X d w 104 10 [(0, .inr (.inr (some 87))), (2, .inl l2), (3, .inl l3), (4, .inl v4), (5, .inl (l5 + (1 : Int32)))] [] S3 Q)) (fun x S9 => Q (.inr x) S9))) else (Q (.inl (some (.inl l4))) (ma_put S1 69 12 (.inl ((mI S1 69 12) + (1 : Int32))))))) (fun x S9 => Q (.inr x) S9))))) : ma_wp X d w 104 10 [(0, .inr (.inr (some 87))), (2, .inl l2), (3, .inl l3), (4, .inl l4), (5, .inl l5)] [] S Q := by
  refine zw_push hm_104 dX8_fitFirst_10 (v := .inl l5) rfl ?_
  refine zw_push hm_104 dX8_fitFirst_12 (v := .inl (4500 : Int32)) rfl ?_
  refine zw_if2 hm_104 dX8_fitFirst_15 (t := 71) rfl zc2_ge ?_ ?_
  · intro hc
    rw [if_pos hc] at h
    refine zw_push hm_104 dX8_fitFirst_71 (v := .inl (-1 : Int32)) rfl ?_
    exact zw_iret hm_104 dX8_fitFirst_72 h
  · intro hc
    rw [if_neg hc] at h
    refine zw_push hm_104 dX8_fitFirst_18 (v := .inl l4) rfl ?_
    refine zw_push hm_104 dX8_fitFirst_20 (v := .inl l2) rfl ?_
    refine zw_if2 hm_104 dX8_fitFirst_21 (t := 71) rfl zc2_ge ?_ ?_
    · intro hc
      rw [if_pos hc] at h
      refine zw_push hm_104 dX8_fitFirst_71 (v := .inl (-1 : Int32)) rfl ?_
      exact zw_iret hm_104 dX8_fitFirst_72 h
    · intro hc
      rw [if_neg hc] at h
      refine zw_push hm_104 dX8_fitFirst_24 (v := .inr (.inr (some 87))) rfl ?_
      refine zw_push hm_104 dX8_fitFirst_25 (v := .inl l4) rfl ?_
      refine zw_cv hm_104 dX8_fitFirst_27 v_8_43_6 hm_106 [.inl l4] [] rfl (zT_rt hS s_87 rfl) ⟨by omega, by omega⟩ rfl (zw_mono h (zi_go ?_ ?_))
      · intro v2 S1 hv
        obtain ⟨hS1, h⟩ := hv
        refine zw_sto hm_104 dX8_fitFirst_30 [(6, .inl v2), (0, .inr (.inr (some 87))), (2, .inl l2), (3, .inl l3), (4, .inl l4), (5, .inl l5)] rfl rfl rfl ?_
        refine zw_push hm_104 dX8_fitFirst_32 (v := .inr (.inr (some 87))) rfl ?_
        refine zw_gf hm_104 dX8_fitFirst_33 (v := .inr (.inr (some 69))) (zT_is hS1 s_87) (zT_t hS1 s_87) rfl f_8_46_6 (zT_f hS1 r_87_3) ?_
        refine zw_stk hm_104 dX8_fitFirst_36 (st' := [.inr (.inr (some 69)), .inr (.inr (some 69))]) rfl rfl ?_
        refine zw_gf hm_104 dX8_fitFirst_37 (v := .inl (mI S1 69 12)) (zT_is hS1 s_69) (zT_t hS1 s_69) rfl f_8_67_7 rfl ?_
        refine zw_push hm_104 dX8_fitFirst_40 (v := .inl (1 : Int32)) rfl ?_
        refine zw_stk hm_104 dX8_fitFirst_41 (st' := [.inl ((mI S1 69 12) + (1 : Int32)), .inr (.inr (some 69))]) rfl rfl ?_
        refine zw_pf hm_104 dX8_fitFirst_42 (zT_is hS1 s_69) (zT_t hS1 s_69) p_8_67_7 zk_int ?_
        refine zw_push hm_104 dX8_fitFirst_45 (v := .inl v2) rfl ?_
        refine zw_push hm_104 dX8_fitFirst_47 (v := .inl l4) rfl ?_
        refine zw_stk hm_104 dX8_fitFirst_49 (st' := [.inl (v2 - l4)]) rfl rfl ?_
        refine zw_push hm_104 dX8_fitFirst_50 (v := .inl l3) rfl ?_
        refine zw_if2 hm_104 dX8_fitFirst_51 (t := 57) rfl zc2_lt ?_ ?_
        · intro hc
          rw [if_pos hc] at h
          refine zw_push hm_104 dX8_fitFirst_57 (v := .inr (.inr (some 87))) rfl ?_
          refine zw_push hm_104 dX8_fitFirst_58 (v := .inl v2) rfl ?_
          refine zw_cv hm_104 dX8_fitFirst_60 v_8_40_6 hm_105 [.inl v2] [] rfl (zT_rt (zT_pi hS1) s_87 rfl) ⟨by omega, by omega⟩ rfl (zw_mono h (zi_go ?_ ?_))
          · intro v4 S3 hv
            obtain ⟨hS3, h⟩ := hv
            refine zw_sto hm_104 dX8_fitFirst_63 [(4, .inl v4), (6, .inl v2), (0, .inr (.inr (some 87))), (2, .inl l2), (3, .inl l3), (5, .inl l5)] rfl rfl rfl ?_
            refine zw_sto hm_104 dX8_fitFirst_65 [(5, .inl (l5 + (1 : Int32))), (4, .inl v4), (6, .inl v2), (0, .inr (.inr (some 87))), (2, .inl l2), (3, .inl l3)] rfl rfl rfl ?_
            refine zw_goto hm_104 dX8_fitFirst_68 (t := 10) rfl ?_
            exact zw_sub (ma_nd_of (ks := [0, 2, 3, 4, 5]) rfl (by decide)) (ma_nd_of (ks := [5, 4, 6, 0, 2, 3]) rfl (by decide)) (ma_le_cons rfl (ma_le_cons rfl (ma_le_cons rfl (ma_le_cons rfl (ma_le_cons rfl (ma_le_nil _)))))) h
          · intro x S9 hx
            exact ⟨by decide, hx⟩
        · intro hc
          rw [if_neg hc] at h
          refine zw_push hm_104 dX8_fitFirst_54 (v := .inl l4) rfl ?_
          exact zw_iret hm_104 dX8_fitFirst_56 h
      · intro x S9 hx
        exact ⟨by decide, hx⟩
theorem lp_104_87_10 {X : Nat × (Nat → Int32)} {d w : Nat} {f : Nat → Nat → Int32} {r : Nat → Nat → Option Nat} {C Z N : Nat} {Q : Option ma_V ⊕ Nat → ma_S → Prop} (hd : 2 ≤ d) (hw : 45 ≤ w) (K : ∀ v S', zJ87 f r C Z N S' → (-1 ≤ v.toInt ∧ v.toInt ≤ 300000) → Q (.inl (some (.inl v))) S') : ∀ (n : Nat) (S : ma_S) (l2 : Int32) (l3 : Int32) (l4 : Int32) (l5 : Int32), (4500 - l5.toInt).toNat = n → zJ87 f r C Z N S → (0 ≤ l4.toInt) → (l4.toInt ≤ 300000) → (0 ≤ l5.toInt) → ma_wp X d w 104 10 [(0, .inr (.inr (some 87))), (2, .inl l2), (3, .inl l3), (4, .inl l4), (5, .inl l5)] [] S Q := by
  intro n
  induction n using Nat.strongRecOn with
  | _ n IH =>
    intro S l2 l3 l4 l5 hmu hI  hi0 hi1 hi2
    refine g_104_87_10 l2 l3 l4 l5 (by omega) (by omega) (zG_T hI) ?_
    have li1 : (4500 : Int32).toInt = 4500 := rfl
    have b2 := i_bd l5
    refine zd (fun h3 => ?_) (fun h3 => ?_)
    · skip
      have g4 := i_le h3
      have li5 : (-1 : Int32).toInt = -1 := rfl
      exact K ((-1 : Int32)) _ hI (by omega)
    · skip
      have g6 := i_nle h3
      have b7 := i_bd l2
      have b8 := i_bd l4
      refine zd (fun h9 => ?_) (fun h9 => ?_)
      · skip
        have g10 := i_le h9
        have li11 : (-1 : Int32).toInt = -1 := rfl
        exact K ((-1 : Int32)) _ hI (by omega)
      · skip
        have g12 := i_nle h9
        refine sp_106_87 (l4) (by omega) (by omega) hI (by omega) (by omega) (fun v2 S1 hI_S1 hp_v2 => zi_n ⟨zG_T hI_S1, ?_⟩)
        have b13 := i_bd v2
        first | have e14 : (v2 - l4).toInt = v2.toInt - l4.toInt := i_sub (by omega) (by omega) | have b15 := i_bd (v2 - l4)
        have b16 := i_bd l3
        refine zd (fun h17 => ?_) (fun h17 => ?_)
        · skip
          have g18 := i_lt h17
          have hI19 : zJ87 f r C Z N (ma_put S1 69 12 (.inl ((mI S1 69 12) + (1 : Int32)))) := zG_fr hI_S1 rfl (by decide) (by decide) (by decide) trivial
          refine sp_105_87 (v2) (by omega) (by omega) hI19 (by omega) (fun v4 S3 hI_S3 hp_v4 => zi_n ⟨zG_T hI_S3, ?_⟩)
          have b20 := i_bd v4
          first | have e21 : (l5 + (1 : Int32)).toInt = l5.toInt + (1) := i_addk rfl (by omega) (by omega) | have b22 := i_bd (l5 + (1 : Int32))
          exact IH _ (by omega) _ (l2) (l3) (v4) ((l5 + (1 : Int32))) rfl hI_S3 (by omega) (by omega) (by omega)
        · skip
          have g23 := i_nlt h17
          have hI24 : zJ87 f r C Z N (ma_put S1 69 12 (.inl ((mI S1 69 12) + (1 : Int32)))) := zG_fr hI_S1 rfl (by decide) (by decide) (by decide) trivial
          exact K (l4) _ hI24 (by omega)
theorem sp_104_87 {X : Nat × (Nat → Int32)} {d w : Nat} {f : Nat → Nat → Int32} {r : Nat → Nat → Option Nat} {C Z N : Nat} {Q : Option ma_V ⊕ Nat → ma_S → Prop} {S : ma_S} (a : Int32) (b : Int32) (n : Int32) (hd : 2 ≤ d) (hw : 45 ≤ w) (hI : zJ87 f r C Z N S) (hpre0 : 0 ≤ a.toInt) (K : ∀ v S', zJ87 f r C Z N S' → (-1 ≤ v.toInt ∧ v.toInt ≤ 300000) → Q (.inl (some (.inl v))) S') : ma_wp X d w 104 0 [(0, .inr (.inr (some 87))), (1, .inl a), (2, .inl b), (3, .inl n)] [] S Q := by
  refine g_104_87_0 a b n (by omega) (by omega) (zG_T hI) ?_
  have b1 := i_bd a
  refine sp_105_87 (a) (by omega) (by omega) hI (by omega) (fun v2 S1 hI_S1 hp_v2 => zi_n ⟨zG_T hI_S1, ?_⟩)
  have b2 := i_bd b
  have b3 := i_bd n
  have b4 := i_bd v2
  have li5 : (0 : Int32).toInt = 0 := rfl
  exact lp_104_87_10 (by omega) (by omega) K _ _ (b) (n) (v2) ((0 : Int32)) rfl hI_S1 (by omega) (by omega) (by omega)
theorem g_107_87_0 {X : Nat × (Nat → Int32)} {d w : Nat} {S : ma_S} {Q : Option ma_V ⊕ Nat → ma_S → Prop} (n : Int32) (hd : 3 ≤ d) (hw : 71 ≤ w) (hS : zT S) (h : ma_wp X (d - 1) (w - 26) 104 0 [(0, .inr (.inr (some 87))), (1, .inl (mI S 87 2)), (2, .inl (mI S 87 0)), (3, .inl n)] [] S (zi (fun v2 S1 => zT S1 ∧ (if v2 = (-1 : Int32) then (ma_wp X (d - 1) (w - 26) 104 0 [(0, .inr (.inr (some 87))), (1, .inl (0 : Int32)), (2, .inl (mI S1 87 2)), (3, .inl n)] [] S1 (zi (fun v4 S3 => zT S3 ∧ (Q (.inl (some (.inl v4))) S3)) (fun x S9 => Q (.inr x) S9))) else (Q (.inl (some (.inl v2))) S1))) (fun x S9 => Q (.inr x) S9))) : ma_wp X d w 107 0 [(0, .inr (.inr (some 87))), (1, .inl n)] [] S Q := by
  refine zw_push hm_107 dX8_fitNext_0 (v := .inr (.inr (some 87))) rfl ?_
  refine zw_push hm_107 dX8_fitNext_1 (v := .inr (.inr (some 87))) rfl ?_
  refine zw_gf hm_107 dX8_fitNext_2 (v := .inl (mI S 87 2)) (zT_is hS s_87) (zT_t hS s_87) rfl f_8_18_6 rfl ?_
  refine zw_push hm_107 dX8_fitNext_5 (v := .inr (.inr (some 87))) rfl ?_
  refine zw_gf hm_107 dX8_fitNext_6 (v := .inl (mI S 87 0)) (zT_is hS s_87) (zT_t hS s_87) rfl f_8_9_6 rfl ?_
  refine zw_push hm_107 dX8_fitNext_9 (v := .inl n) rfl ?_
  refine zw_cv hm_107 dX8_fitNext_10 v_8_56_6 hm_104 [.inl n, .inl (mI S 87 0), .inl (mI S 87 2)] [] rfl (zT_rt hS s_87 rfl) ⟨by omega, by omega⟩ rfl (zw_mono h (zi_go ?_ ?_))
  · intro v2 S1 hv
    obtain ⟨hS1, h⟩ := hv
    refine zw_sto hm_107 dX8_fitNext_13 [(2, .inl v2), (0, .inr (.inr (some 87))), (1, .inl n)] rfl rfl rfl ?_
    refine zw_push hm_107 dX8_fitNext_14 (v := .inl v2) rfl ?_
    refine zw_push hm_107 dX8_fitNext_15 (v := .inl (-1 : Int32)) rfl ?_
    refine zw_if2 hm_107 dX8_fitNext_16 (t := 23) rfl zc2_eq ?_ ?_
    · intro hc
      rw [if_pos hc] at h
      refine zw_push hm_107 dX8_fitNext_23 (v := .inr (.inr (some 87))) rfl ?_
      refine zw_push hm_107 dX8_fitNext_24 (v := .inl (0 : Int32)) rfl ?_
      refine zw_push hm_107 dX8_fitNext_25 (v := .inr (.inr (some 87))) rfl ?_
      refine zw_gf hm_107 dX8_fitNext_26 (v := .inl (mI S1 87 2)) (zT_is hS1 s_87) (zT_t hS1 s_87) rfl f_8_18_6 rfl ?_
      refine zw_push hm_107 dX8_fitNext_29 (v := .inl n) rfl ?_
      refine zw_cv hm_107 dX8_fitNext_30 v_8_56_6 hm_104 [.inl n, .inl (mI S1 87 2), .inl (0 : Int32)] [] rfl (zT_rt hS1 s_87 rfl) ⟨by omega, by omega⟩ rfl (zw_mono h (zi_go ?_ ?_))
      · intro v4 S3 hv
        obtain ⟨hS3, h⟩ := hv
        exact zw_iret hm_107 dX8_fitNext_33 h
      · intro x S9 hx
        exact ⟨by decide, hx⟩
    · intro hc
      rw [if_neg hc] at h
      refine zw_push hm_107 dX8_fitNext_19 (v := .inl v2) rfl ?_
      refine zw_goto hm_107 dX8_fitNext_20 (t := 33) rfl ?_
      exact zw_iret hm_107 dX8_fitNext_33 h
  · intro x S9 hx
    exact ⟨by decide, hx⟩
theorem sp_107_87 {X : Nat × (Nat → Int32)} {d w : Nat} {f : Nat → Nat → Int32} {r : Nat → Nat → Option Nat} {C Z N : Nat} {Q : Option ma_V ⊕ Nat → ma_S → Prop} {S : ma_S} (n : Int32) (hd : 3 ≤ d) (hw : 71 ≤ w) (hI : zJ87 f r C Z N S)  (K : ∀ v S', zJ87 f r C Z N S' → (-1 ≤ v.toInt ∧ v.toInt ≤ 300000) → Q (.inl (some (.inl v))) S') : ma_wp X d w 107 0 [(0, .inr (.inr (some 87))), (1, .inl n)] [] S Q := by
  refine g_107_87_0 n (by omega) (by omega) (zG_T hI) ?_
  have f1 := zG_s hI (0) (400000) (c := 87) (k := 2) (by decide)
  have f2 := zG_s hI (0) (1500) (c := 87) (k := 0) (by decide)
  have b3 := i_bd n
  refine sp_104_87 ((mI S 87 2)) ((mI S 87 0)) (n) (by omega) (by omega) hI (by omega) (fun v2 S1 hI_S1 hp_v2 => zi_n ⟨zG_T hI_S1, ?_⟩)
  have b4 := i_bd v2
  have li5 : (-1 : Int32).toInt = -1 := rfl
  refine zd (fun h6 => ?_) (fun h6 => ?_)
  · skip
    have g7 := i_eq h6
    have li8 : (0 : Int32).toInt = 0 := rfl
    have f9 := zG_s hI_S1 (0) (400000) (c := 87) (k := 2) (by decide)
    refine sp_104_87 ((0 : Int32)) ((mI S1 87 2)) (n) (by omega) (by omega) hI_S1 (by omega) (fun v4 S3 hI_S3 hp_v4 => zi_n ⟨zG_T hI_S3, ?_⟩)
    have b10 := i_bd v4
    exact K (v4) _ hI_S3 (by omega)
  · skip
    have g11 := i_ne h6
    exact K (v2) _ hI_S1 (by omega)
