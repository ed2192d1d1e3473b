/-! collectors, by what they keep (written by wip/tools/gen93b.py) -/
theorem g_25_84_0 {X : Nat × (Nat → Int32)} {d w : Nat} {S : ma_S} {Q : Option ma_V ⊕ Nat → ma_S → Prop} (t : Option Nat) (hd : 2 ≤ d) (hw : 43 ≤ w) (hS : zT S) (h : (t = none → Q (.inl none) S) ∧ (∀ c1, t = some c1 → (126 ≤ c1 ∧ c1 < mN S) ∧ (if (mI S c1 6) ≤ 0 then ((126 ≤ c1 ∧ c1 < mN S) ∧ (if (mI S c1 8) = 0 then (if (512 : Int32) ≤ (mI S 84 7) then (Q (.inl none) S) else ((0 ≤ (mI S 84 7) ∧ (mI S 84 7).toNatClampNeg < 512) ∧ ((126 ≤ c1 ∧ c1 < mN S) ∧ ((0 ≤ (mI S 84 7) ∧ (mI S 84 7).toNatClampNeg < 512) ∧ (Q (.inl none) (ma_put (ma_put (ma_put S 85 (mI S 84 7).toNatClampNeg (.inr (.inr (some c1)))) 86 (mI S 84 7).toNatClampNeg (.inl (0 : Int32))) 84 7 (.inl ((mI S 84 7) + (1 : Int32))))))))) else (ma_wp X (d - 1) (w - 21) 84 0 [(0, .inr (.inr (some 69))), (1, .inr (.inr (some c1)))] [] S (zv (fun S2 => zT S2 ∧ (Q (.inl none) S2)) (fun x S9 => Q (.inr x) S9))))) else (Q (.inl none) S)))) : ma_wp X d w 25 0 [(0, .inr (.inr (some 84))), (1, .inr (.inr t))] [] S Q := by
  refine zw_push hm_25 dX2_fallIfUncounted_0 (v := .inr (.inr t)) rfl ?_
  refine zw_ifnull hm_25 dX2_fallIfUncounted_1 (t := 11) rfl ?_ ?_
  · intro hc
    have h := h.1 hc
    (try rw [hc])
    show ma_wp X d w 25 11 [(0, .inr (.inr (some 84))), (1, .inr (.inr none))] [] S _
    exact zw_vret hm_25 dX2_fallIfUncounted_11 h
  · intro c1 hc
    have h := h.2 c1 hc
    (try rw [hc])
    show ma_wp X d w 25 4 [(0, .inr (.inr (some 84))), (1, .inr (.inr (some c1)))] [] S _
    refine zw_push hm_25 dX2_fallIfUncounted_4 (v := .inr (.inr (some c1))) rfl ?_
    obtain ⟨hg, h⟩ := h
    refine zw_gf hm_25 dX2_fallIfUncounted_5 (v := .inl (mI S c1 6)) (zT_tis hS hg) (zT_tt hS hg) rfl f_2_21_9 rfl ?_
    refine zw_if0 hm_25 dX2_fallIfUncounted_8 (t := 12) rfl zc0_le ?_ ?_
    · intro hc
      rw [if_pos hc] at h
      refine zw_push hm_25 dX2_fallIfUncounted_12 (v := .inr (.inr (some c1))) rfl ?_
      obtain ⟨hg, h⟩ := h
      refine zw_gf hm_25 dX2_fallIfUncounted_13 (v := .inl (mI S c1 8)) (zT_tis hS hg) (zT_tt hS hg) rfl f_2_57_9 rfl ?_
      refine zw_if0 hm_25 dX2_fallIfUncounted_16 (t := 30) rfl zc0_eq ?_ ?_
      · intro hc
        rw [if_pos hc] at h
        refine zw_push hm_25 dX2_fallIfUncounted_30 (v := .inr (.inr (some 84))) rfl ?_
        refine zw_gf hm_25 dX2_fallIfUncounted_31 (v := .inl (mI S 84 7)) (zT_is hS s_84) (zT_t hS s_84) rfl f_2_25_2 rfl ?_
        refine zw_push hm_25 dX2_fallIfUncounted_34 (v := .inl (512 : Int32)) rfl ?_
        refine zw_if2 hm_25 dX2_fallIfUncounted_37 (t := 70) rfl zc2_ge ?_ ?_
        · intro hc
          rw [if_pos hc] at h
          exact zw_vret hm_25 dX2_fallIfUncounted_70 h
        · intro hc
          rw [if_neg hc] at h
          refine zw_push hm_25 dX2_fallIfUncounted_40 (v := .inr (.inr (some 84))) rfl ?_
          refine zw_gf hm_25 dX2_fallIfUncounted_41 (v := .inr (.inr (some 85))) (zT_is hS s_84) (zT_t hS s_84) rfl f_2_11_2 (zT_f hS r_84_5) ?_
          refine zw_push hm_25 dX2_fallIfUncounted_44 (v := .inr (.inr (some 84))) rfl ?_
          refine zw_gf hm_25 dX2_fallIfUncounted_45 (v := .inl (mI S 84 7)) (zT_is hS s_84) (zT_t hS s_84) rfl f_2_25_2 rfl ?_
          refine zw_push hm_25 dX2_fallIfUncounted_48 (v := .inr (.inr (some c1))) rfl ?_
          obtain ⟨hg, h⟩ := h
          obtain ⟨hg2, h⟩ := h
          refine zw_aas hm_25 dX2_fallIfUncounted_49 (zT_is hS s_85) (zT_h hS s_85) rfl hg (fun b z => by cases z; exact ⟨zT_tis hS hg2, zT_tt hS hg2⟩) ?_
          refine zw_push hm_25 dX2_fallIfUncounted_50 (v := .inr (.inr (some 84))) rfl ?_
          refine zw_gf hm_25 dX2_fallIfUncounted_51 (v := .inr (.inr (some 86))) (zT_is (zT_pr hS (zfi_row (by decide +kernel))) s_84) (zT_t (zT_pr hS (zfi_row (by decide +kernel))) s_84) rfl f_2_17_2 (zT_f (zT_pr hS (zfi_row (by decide +kernel))) r_84_6) ?_
          refine zw_push hm_25 dX2_fallIfUncounted_54 (v := .inr (.inr (some 84))) rfl ?_
          refine zw_gf hm_25 dX2_fallIfUncounted_55 (v := .inl (mI S 84 7)) (zT_is (zT_pr hS (zfi_row (by decide +kernel))) s_84) (zT_t (zT_pr hS (zfi_row (by decide +kernel))) s_84) rfl f_2_25_2 rfl ?_
          refine zw_push hm_25 dX2_fallIfUncounted_58 (v := .inl (0 : Int32)) rfl ?_
          obtain ⟨hg, h⟩ := h
          refine zw_ias hm_25 dX2_fallIfUncounted_59 (zT_is (zT_pr hS (zfi_row (by decide +kernel))) s_86) (zT_h (zT_pr hS (zfi_row (by decide +kernel))) s_86) rfl hg ?_
          refine zw_push hm_25 dX2_fallIfUncounted_60 (v := .inr (.inr (some 84))) rfl ?_
          refine zw_stk hm_25 dX2_fallIfUncounted_61 (st' := [.inr (.inr (some 84)), .inr (.inr (some 84))]) rfl rfl ?_
          refine zw_gf hm_25 dX2_fallIfUncounted_62 (v := .inl (mI S 84 7)) (zT_is (zT_pi (zT_pr hS (zfi_row (by decide +kernel)))) s_84) (zT_t (zT_pi (zT_pr hS (zfi_row (by decide +kernel)))) s_84) rfl f_2_25_2 rfl ?_
          refine zw_push hm_25 dX2_fallIfUncounted_65 (v := .inl (1 : Int32)) rfl ?_
          refine zw_stk hm_25 dX2_fallIfUncounted_66 (st' := [.inl ((mI S 84 7) + (1 : Int32)), .inr (.inr (some 84))]) rfl rfl ?_
          refine zw_pf hm_25 dX2_fallIfUncounted_67 (zT_is (zT_pi (zT_pr hS (zfi_row (by decide +kernel)))) s_84) (zT_t (zT_pi (zT_pr hS (zfi_row (by decide +kernel)))) s_84) p_2_25_2 zk_int ?_
          exact zw_vret hm_25 dX2_fallIfUncounted_70 h
      · intro hc
        rw [if_neg hc] at h
        refine zw_push hm_25 dX2_fallIfUncounted_19 (v := .inr (.inr (some 84))) rfl ?_
        refine zw_gf hm_25 dX2_fallIfUncounted_20 (v := .inr (.inr (some 69))) (zT_is hS s_84) (zT_t hS s_84) rfl f_2_41_2 (zT_f hS r_84_3) ?_
        refine zw_push hm_25 dX2_fallIfUncounted_23 (v := .inr (.inr (some c1))) rfl ?_
        refine zw_cv hm_25 dX2_fallIfUncounted_24 v_2_61_7 hm_84 [.inr (.inr (some c1))] [] rfl (zT_rt hS s_69 rfl) ⟨by omega, by omega⟩ rfl (zw_mono h (zv_go ?_ ?_))
        · intro S2 hv
          obtain ⟨hS2, h⟩ := hv
          refine zw_goto hm_25 dX2_fallIfUncounted_27 (t := 70) rfl ?_
          exact zw_vret hm_25 dX2_fallIfUncounted_70 h
        · intro x S9 hx
          exact ⟨by decide, hx⟩
    · intro hc
      rw [if_neg hc] at h
      exact zw_vret hm_25 dX2_fallIfUncounted_11 h
theorem sp_25_84 {X : Nat × (Nat → Int32)} {d w : Nat} {f : Nat → Nat → Int32} {r : Nat → Nat → Option Nat} {C Z N : Nat} {Q : Option ma_V ⊕ Nat → ma_S → Prop} {S : ma_S} (t : Option Nat) (hd : 2 ≤ d) (hw : 43 ≤ w) (hI : zJ84 f r C Z N S) (hq_t : ∀ c, t = some c → 126 ≤ c ∧ c < N) (K : ∀ S', zJ84 f r C Z N S' → Q (.inl none) S') : ma_wp X d w 25 0 [(0, .inr (.inr (some 84))), (1, .inr (.inr t))] [] S Q := by
  refine g_25_84_0 t (by omega) (by omega) (zG_T hI) ?_
  refine ⟨fun _ => ?_, fun c1 hc => ?_⟩
  · skip
    exact K _ hI
  · skip
    have th_c1 := hq_t c1 hc
    subst hc
    refine ⟨zG_n hI th_c1, ?_⟩
    have b1 := i_bd (mI S c1 6)
    have li2 : (0 : Int32).toInt = 0 := rfl
    refine zd (fun h3 => ?_) (fun h3 => ?_)
    · skip
      have g4 := i_le h3
      refine ⟨zG_n hI th_c1, ?_⟩
      have b5 := i_bd (mI S c1 8)
      refine zd (fun h6 => ?_) (fun h6 => ?_)
      · skip
        have g7 := i_eq h6
        have li8 : (512 : Int32).toInt = 512 := rfl
        have f9 := zG_s hI 0 512 (c := 84) (k := 7) (by decide)
        refine zd (fun h10 => ?_) (fun h10 => ?_)
        · skip
          have g11 := i_le h10
          exact K _ hI
        · skip
          have g12 := i_nle h10
          refine ⟨i_ix (by omega) (by omega), ?_⟩
          refine ⟨zG_n hI th_c1, ?_⟩
          refine ⟨i_ix (by omega) (by omega), ?_⟩
          have hI13 : zJ84 f r C Z N (ma_put S 85 (mI S 84 7).toNatClampNeg (.inr (.inr (some c1)))) := zG_rf hI (by decide) (by decide +kernel) (fun _ z => by cases z; exact th_c1)
          have hI14 : zJ84 f r C Z N (ma_put (ma_put S 85 (mI S 84 7).toNatClampNeg (.inr (.inr (some c1)))) 86 (mI S 84 7).toNatClampNeg (.inl (0 : Int32))) := zG_fa hI13 rfl (by decide) (by decide) (by decide) trivial
          first | have e16 : ((mI S 84 7) + (1 : Int32)).toInt = (mI S 84 7).toInt + (1) := i_addk rfl (by omega) (by omega) | have b17 := i_bd ((mI S 84 7) + (1 : Int32))
          have hI15 : zJ84 f r C Z N (ma_put (ma_put (ma_put S 85 (mI S 84 7).toNatClampNeg (.inr (.inr (some c1)))) 86 (mI S 84 7).toNatClampNeg (.inl (0 : Int32))) 84 7 (.inl ((mI S 84 7) + (1 : Int32)))) := zG_sp hI14 0 512 rfl (by decide) (by decide) (by decide) trivial (by omega) (by omega)
          exact K _ hI15
      · skip
        have g18 := i_ne h6
        refine sp_84_69 c1 (by omega) (by omega) (zJ84_dn hI) th_c1 (fun S2 hL_S2 => zv_n ⟨zG_T hL_S2, ?_⟩)
        have hI_S2 := zJ84_up hI hL_S2
        exact K _ hI_S2
    · skip
      have g19 := i_nle h3
      exact K _ hI
theorem g_26_84_0 {X : Nat × (Nat → Int32)} {d w : Nat} {S : ma_S} {Q : Option ma_V ⊕ Nat → ma_S → Prop} (t : Nat) (i : Int32) (hd : 3 ≤ d) (hw : 64 ≤ w) (hS : zT S) (h : (126 ≤ t ∧ t < mN S) ∧ ((126 ≤ t ∧ t < mN S) ∧ (if i < 0 then (Q (.inl none) S) else ((126 ≤ t ∧ t < mN S) ∧ (if ((mI S t 2) - (1 : Int32)) ≤ i then (Q (.inl none) S) else ((126 ≤ t ∧ t < mN S) ∧ (if (lg_cmp ((((mL S t 3).toUInt64 >>> (i.toInt64.toUInt64 &&& Int64.toUInt64 63)).toInt64) &&& (1 : Int64)) (0 : Int64)) = 0 then (Q (.inl none) S) else (ma_wp X (d - 1) (w - 24) 94 0 [(0, .inr (.inr (some 69))), (1, .inr (.inr (some t))), (2, .inl i), (3, .inr (.inr none))] [] S (zo (fun v2 S1 => zT S1 ∧ (ma_wp X (d - 1) (w - 21) 25 0 [(0, .inr (.inr (some 84))), (1, .inr (.inr v2))] [] S1 (zv (fun S3 => zT S3 ∧ (Q (.inl none) S3)) (fun x S9 => Q (.inr x) S9)))) (fun x S9 => Q (.inr x) S9)))))))))) : ma_wp X d w 26 0 [(0, .inr (.inr (some 84))), (1, .inr (.inr (some t))), (2, .inl i)] [] S Q := by
  refine zw_push hm_26 dX2_dropWord_0 (v := .inr (.inr (some t))) rfl ?_
  refine zw_push hm_26 dX2_dropWord_1 (v := .inl i) rfl ?_
  obtain ⟨hg, h⟩ := h
  refine zw_cv hm_26 dX2_dropWord_2 v_2_50_9 hm_113 [.inl i] [] rfl (zT_trt hS hg) ⟨by omega, by omega⟩ rfl ?_
  show ma_wp X (d - 1) (w - 21) 113 0 [(0, .inr (.inr (some t))), (1, .inl i)] [] S _
  refine zw_push hm_113 dX9_isReference_0 (v := .inr (.inr (some t))) rfl ?_
  refine zw_push hm_113 dX9_isReference_1 (v := .inl i) rfl ?_
  obtain ⟨hg, h⟩ := h
  refine zw_cv hm_113 dX9_isReference_2 v_9_26_9 hm_114 [.inl i] [] rfl (zT_trt hS hg) ⟨by omega, by omega⟩ rfl ?_
  show ma_wp X ((d - 1) - 1) ((w - 21) - 21) 114 0 [(0, .inr (.inr (some t))), (1, .inl i)] [] S _
  refine zw_push hm_114 dX9_hasWord_0 (v := .inl i) rfl ?_
  refine zw_if0 hm_114 dX9_hasWord_1 (t := 18) rfl zc0_lt ?_ ?_
  · intro hc
    rw [if_pos hc] at h
    refine zw_push hm_114 dX9_hasWord_18 (v := .inl (0 : Int32)) rfl ?_
    refine zw_bret hm_114 dX9_hasWord_19 (by decide) ?_
    show ma_wp X (d - 1) (w - 21) 113 5 [(0, .inr (.inr (some t))), (1, .inl i)] [.inl (0 : Int32)] S _
    refine zw_if0 hm_113 dX9_isReference_5 (t := 25) rfl zc0_eq (fun _ => ?_) (fun hc => absurd (by decide) hc)
    refine zw_push hm_113 dX9_isReference_25 (v := .inl (0 : Int32)) rfl ?_
    refine zw_bret hm_113 dX9_isReference_26 (by decide) ?_
    show ma_wp X d w 26 5 [(0, .inr (.inr (some 84))), (1, .inr (.inr (some t))), (2, .inl i)] [.inl (0 : Int32)] S _
    refine zw_if0 hm_26 dX2_dropWord_5 (t := 22) rfl zc0_eq (fun _ => ?_) (fun hc => absurd (by decide) hc)
    exact zw_vret hm_26 dX2_dropWord_22 h
  · intro hc
    rw [if_neg hc] at h
    refine zw_push hm_114 dX9_hasWord_4 (v := .inl i) rfl ?_
    refine zw_push hm_114 dX9_hasWord_5 (v := .inr (.inr (some t))) rfl ?_
    obtain ⟨hg, h⟩ := h
    refine zw_gf hm_114 dX9_hasWord_6 (v := .inl (mI S t 2)) (zT_tis hS hg) (zT_tt hS hg) rfl f_9_16_9 rfl ?_
    refine zw_push hm_114 dX9_hasWord_9 (v := .inl (1 : Int32)) rfl ?_
    refine zw_stk hm_114 dX9_hasWord_10 (st' := [.inl ((mI S t 2) - (1 : Int32)), .inl i]) rfl rfl ?_
    refine zw_if2 hm_114 dX9_hasWord_11 (t := 18) rfl zc2_ge ?_ ?_
    · intro hc
      rw [if_pos hc] at h
      refine zw_push hm_114 dX9_hasWord_18 (v := .inl (0 : Int32)) rfl ?_
      refine zw_bret hm_114 dX9_hasWord_19 (by decide) ?_
      show ma_wp X (d - 1) (w - 21) 113 5 [(0, .inr (.inr (some t))), (1, .inl i)] [.inl (0 : Int32)] S _
      refine zw_if0 hm_113 dX9_isReference_5 (t := 25) rfl zc0_eq (fun _ => ?_) (fun hc => absurd (by decide) hc)
      refine zw_push hm_113 dX9_isReference_25 (v := .inl (0 : Int32)) rfl ?_
      refine zw_bret hm_113 dX9_isReference_26 (by decide) ?_
      show ma_wp X d w 26 5 [(0, .inr (.inr (some 84))), (1, .inr (.inr (some t))), (2, .inl i)] [.inl (0 : Int32)] S _
      refine zw_if0 hm_26 dX2_dropWord_5 (t := 22) rfl zc0_eq (fun _ => ?_) (fun hc => absurd (by decide) hc)
      exact zw_vret hm_26 dX2_dropWord_22 h
    · intro hc
      rw [if_neg hc] at h
      refine zw_push hm_114 dX9_hasWord_14 (v := .inl (1 : Int32)) rfl ?_
      refine zw_goto hm_114 dX9_hasWord_15 (t := 19) rfl ?_
      refine zw_bret hm_114 dX9_hasWord_19 (by decide) ?_
      show ma_wp X (d - 1) (w - 21) 113 5 [(0, .inr (.inr (some t))), (1, .inl i)] [.inl (1 : Int32)] S _
      refine zw_if0 hm_113 dX9_isReference_5 (t := 25) rfl zc0_eq (fun hc => absurd hc (by decide)) (fun _ => ?_)
      refine zw_push hm_113 dX9_isReference_8 (v := .inr (.inr (some t))) rfl ?_
      obtain ⟨hg, h⟩ := h
      refine zw_gf hm_113 dX9_isReference_9 (v := .inr (.inl (mL S t 3))) (zT_tis hS hg) (zT_tt hS hg) rfl f_9_19_9 rfl ?_
      refine zw_push hm_113 dX9_isReference_12 (v := .inl i) rfl ?_
      refine zw_stk hm_113 dX9_isReference_13 (st' := [.inr (.inl (((mL S t 3).toUInt64 >>> (i.toInt64.toUInt64 &&& Int64.toUInt64 63)).toInt64))]) rfl rfl ?_
      refine zw_push hm_113 dX9_isReference_14 (v := .inr (.inl (1 : Int64))) rfl ?_
      refine zw_stk hm_113 dX9_isReference_15 (st' := [.inr (.inl ((((mL S t 3).toUInt64 >>> (i.toInt64.toUInt64 &&& Int64.toUInt64 63)).toInt64) &&& (1 : Int64)))]) rfl rfl ?_
      refine zw_push hm_113 dX9_isReference_16 (v := .inr (.inl (0 : Int64))) rfl ?_
      refine zw_stk hm_113 dX9_isReference_17 (st' := [.inl (lg_cmp ((((mL S t 3).toUInt64 >>> (i.toInt64.toUInt64 &&& Int64.toUInt64 63)).toInt64) &&& (1 : Int64)) (0 : Int64))]) rfl rfl ?_
      refine zw_if0 hm_113 dX9_isReference_18 (t := 25) rfl zc0_eq ?_ ?_
      · intro hc
        rw [if_pos hc] at h
        refine zw_push hm_113 dX9_isReference_25 (v := .inl (0 : Int32)) rfl ?_
        refine zw_bret hm_113 dX9_isReference_26 (by decide) ?_
        show ma_wp X d w 26 5 [(0, .inr (.inr (some 84))), (1, .inr (.inr (some t))), (2, .inl i)] [.inl (0 : Int32)] S _
        refine zw_if0 hm_26 dX2_dropWord_5 (t := 22) rfl zc0_eq (fun _ => ?_) (fun hc => absurd (by decide) hc)
        exact zw_vret hm_26 dX2_dropWord_22 h
      · intro hc
        rw [if_neg hc] at h
        refine zw_push hm_113 dX9_isReference_21 (v := .inl (1 : Int32)) rfl ?_
        refine zw_goto hm_113 dX9_isReference_22 (t := 26) rfl ?_
        refine zw_bret hm_113 dX9_isReference_26 (by decide) ?_
        show ma_wp X d w 26 5 [(0, .inr (.inr (some 84))), (1, .inr (.inr (some t))), (2, .inl i)] [.inl (1 : Int32)] S _
        refine zw_if0 hm_26 dX2_dropWord_5 (t := 22) rfl zc0_eq (fun hc => absurd hc (by decide)) (fun _ => ?_)
        refine zw_push hm_26 dX2_dropWord_8 (v := .inr (.inr (some 84))) rfl ?_
        refine zw_push hm_26 dX2_dropWord_9 (v := .inr (.inr (some 84))) rfl ?_
        refine zw_gf hm_26 dX2_dropWord_10 (v := .inr (.inr (some 69))) (zT_is hS s_84) (zT_t hS s_84) rfl f_2_41_2 (zT_f hS r_84_3) ?_
        refine zw_push hm_26 dX2_dropWord_13 (v := .inr (.inr (some t))) rfl ?_
        refine zw_push hm_26 dX2_dropWord_14 (v := .inl i) rfl ?_
        refine zw_push hm_26 dX2_dropWord_15 (v := .inr (.inr none)) rfl ?_
        refine zw_cv hm_26 dX2_dropWord_16 v_2_53_7 hm_94 [.inr (.inr none), .inl i, .inr (.inr (some t))] [.inr (.inr (some 84))] rfl (zT_rt hS s_69 rfl) ⟨by omega, by omega⟩ rfl (zw_mono h (zo_go ?_ ?_))
        · intro v2 S1 hv
          obtain ⟨hS1, h⟩ := hv
          refine zw_cv hm_26 dX2_dropWord_19 v_2_28_2 hm_25 [.inr (.inr v2)] [] rfl (zT_rt hS1 s_84 rfl) ⟨by omega, by omega⟩ rfl (zw_mono h (zv_go ?_ ?_))
          · intro S3 hv
            obtain ⟨hS3, h⟩ := hv
            exact zw_vret hm_26 dX2_dropWord_22 h
          · intro x S9 hx
            exact ⟨by decide, hx⟩
        · intro x S9 hx
          exact ⟨by decide, hx⟩
theorem sp_26_84 {X : Nat × (Nat → Int32)} {d w : Nat} {f : Nat → Nat → Int32} {r : Nat → Nat → Option Nat} {C Z N : Nat} {Q : Option ma_V ⊕ Nat → ma_S → Prop} {S : ma_S} (t : Nat) (i : Int32) (hd : 3 ≤ d) (hw : 64 ≤ w) (hI : zJ84 f r C Z N S) (th_t : 126 ≤ t ∧ t < N) (K : ∀ S', zJ84 f r C Z N S' → Q (.inl none) S') : ma_wp X d w 26 0 [(0, .inr (.inr (some 84))), (1, .inr (.inr (some t))), (2, .inl i)] [] S Q := by
  refine g_26_84_0 t i (by omega) (by omega) (zG_T hI) ?_
  refine ⟨zG_n hI th_t, ?_⟩
  refine ⟨zG_n hI th_t, ?_⟩
  have b1 := i_bd i
  have li2 : (0 : Int32).toInt = 0 := rfl
  refine zd (fun h3 => ?_) (fun h3 => ?_)
  · skip
    have g4 := i_lt h3
    exact K _ hI
  · skip
    have g5 := i_nlt h3
    refine ⟨zG_n hI th_t, ?_⟩
    have f6 := zG_th hI th_t
    first | have e7 : ((mI S t 2) - (1 : Int32)).toInt = (mI S t 2).toInt - (1) := i_subk rfl (by omega) (by omega) | have b8 := i_bd ((mI S t 2) - (1 : Int32))
    refine zd (fun h9 => ?_) (fun h9 => ?_)
    · skip
      have g10 := i_le h9
      exact K _ hI
    · skip
      have g11 := i_nle h9
      refine ⟨zG_n hI th_t, ?_⟩
      have b12 := i_bd (lg_cmp ((((mL S t 3).toUInt64 >>> (i.toInt64.toUInt64 &&& Int64.toUInt64 63)).toInt64) &&& (1 : Int64)) (0 : Int64))
      refine zd (fun h13 => ?_) (fun h13 => ?_)
      · skip
        have g14 := i_eq h13
        exact K _ hI
      · skip
        have g15 := i_ne h13
        refine sp_94_69 t (i) (none) (by omega) (by omega) (zJ84_dn hI) th_t (fun _ z => by cases z) (fun v2 S1 hL_S1 hq_v2 => zo_n ⟨zG_T hL_S1, ?_⟩)
        have hI_S1 := zJ84_up hI hL_S1
        refine sp_25_84 (v2) (by omega) (by omega) hI_S1 hq_v2 (fun S3 hI_S3 => zv_n ⟨zG_T hI_S3, ?_⟩)
        exact K _ hI_S3
theorem g_24_84_0 {X : Nat × (Nat → Int32)} {d w : Nat} {S : ma_S} {Q : Option ma_V ⊕ Nat → ma_S → Prop} (t : Option Nat) (hd : 4 ≤ d) (hw : 86 ≤ w) (hS : zT S) (h : ma_wp X (d - 1) (w - 21) 25 0 [(0, .inr (.inr (some 84))), (1, .inr (.inr t))] [] (ma_put S 84 7 (.inl (0 : Int32))) (zv (fun S1 => zT S1 ∧ (ma_wp X d w 24 12 [(0, .inr (.inr (some 84))), (2, .inl (0 : Int32))] [] S1 Q)) (fun x S9 => Q (.inr x) S9))) : ma_wp X d w 24 0 [(0, .inr (.inr (some 84))), (1, .inr (.inr t))] [] S Q := by
  refine zw_push hm_24 dX2_noteFewer_0 (v := .inr (.inr (some 84))) rfl ?_
  refine zw_push hm_24 dX2_noteFewer_1 (v := .inl (0 : Int32)) rfl ?_
  refine zw_pf hm_24 dX2_noteFewer_2 (zT_is hS s_84) (zT_t hS s_84) p_2_25_2 zk_int ?_
  refine zw_push hm_24 dX2_noteFewer_5 (v := .inr (.inr (some 84))) rfl ?_
  refine zw_push hm_24 dX2_noteFewer_6 (v := .inr (.inr t)) rfl ?_
  refine zw_cv hm_24 dX2_noteFewer_7 v_2_28_2 hm_25 [.inr (.inr t)] [] rfl (zT_rt (zT_pi hS) s_84 rfl) ⟨by omega, by omega⟩ rfl (zw_mono h (zv_go ?_ ?_))
  · intro S1 hv
    obtain ⟨hS1, h⟩ := hv
    refine zw_push hm_24 dX2_noteFewer_10 (v := .inl (0 : Int32)) rfl ?_
    refine zw_sto hm_24 dX2_noteFewer_11 [(2, .inl (0 : Int32)), (0, .inr (.inr (some 84))), (1, .inr (.inr t))] rfl rfl rfl ?_
    exact zw_sub (ma_nd_of (ks := [0, 2]) rfl (by decide)) (ma_nd_of (ks := [2, 0, 1]) rfl (by decide)) (ma_le_cons rfl (ma_le_cons rfl (ma_le_nil _))) h
  · intro x S9 hx
    exact ⟨by decide, hx⟩
theorem g_24_84_12 {X : Nat × (Nat → Int32)} {d w : Nat} {S : ma_S} {Q : Option ma_V ⊕ Nat → ma_S → Prop} (l2 : Int32) (hd : 4 ≤ d) (hw : 86 ≤ w) (hS : zT S) (h : if (mI S 84 7) ≤ 0 then (Q (.inl none) S) else (if (1000000 : Int32) ≤ l2 then (Q (.inl none) S) else ((0 ≤ ((mI S 84 7) - (1 : Int32)) ∧ ((mI S 84 7) - (1 : Int32)).toNatClampNeg < 512) ∧ ((0 ≤ ((mI S 84 7) - (1 : Int32)) ∧ ((mI S 84 7) - (1 : Int32)).toNatClampNeg < 512) ∧ (((mR S 85 ((mI S 84 7) - (1 : Int32)).toNatClampNeg) = none → ma_wp X d w 24 12 [(0, .inr (.inr (some 84))), (2, .inl (l2 + (1 : Int32)))] [] (ma_put S 84 7 (.inl ((mI S 84 7) - (1 : Int32)))) Q) ∧ (∀ c1, (mR S 85 ((mI S 84 7) - (1 : Int32)).toNatClampNeg) = some c1 → (126 ≤ c1 ∧ c1 < mN S) ∧ (if (mI S 86 ((mI S 84 7) - (1 : Int32)).toNatClampNeg) < 0 then (ma_wp X (d - 1) (w - 23) 87 0 [(0, .inr (.inr (some 69))), (1, .inr (.inr (some c1)))] [] (ma_put S 84 7 (.inl ((mI S 84 7) - (1 : Int32)))) (zv (fun S2 => zT S2 ∧ (ma_wp X d w 24 12 [(0, .inr (.inr (some 84))), (2, .inl (l2 + (1 : Int32)))] [] S2 Q)) (fun x S9 => Q (.inr x) S9))) else ((126 ≤ c1 ∧ c1 < mN S) ∧ (if ((mI S c1 2) - (1 : Int32)) ≤ (mI S 86 ((mI S 84 7) - (1 : Int32)).toNatClampNeg) then (ma_wp X (d - 1) (w - 23) 87 0 [(0, .inr (.inr (some 69))), (1, .inr (.inr (some c1)))] [] (ma_put S 84 7 (.inl ((mI S 84 7) - (1 : Int32)))) (zv (fun S4 => zT S4 ∧ (ma_wp X d w 24 12 [(0, .inr (.inr (some 84))), (2, .inl (l2 + (1 : Int32)))] [] S4 Q)) (fun x S9 => Q (.inr x) S9))) else ((0 ≤ ((mI S 84 7) - (1 : Int32)) ∧ ((mI S 84 7) - (1 : Int32)).toNatClampNeg < 512) ∧ (ma_wp X (d - 1) (w - 22) 26 0 [(0, .inr (.inr (some 84))), (1, .inr (.inr (some c1))), (2, .inl (mI S 86 ((mI S 84 7) - (1 : Int32)).toNatClampNeg))] [] (ma_put S 86 ((mI S 84 7) - (1 : Int32)).toNatClampNeg (.inl ((mI S 86 ((mI S 84 7) - (1 : Int32)).toNatClampNeg) + (1 : Int32)))) (zv (fun S6 => zT S6 ∧ (ma_wp X d w 24 12 [(0, .inr (.inr (some 84))), (2, .inl (l2 + (1 : Int32)))] [] S6 Q)) (fun x S9 => Q (.inr x) S9))))))))))))) : ma_wp X d w 24 12 [(0, .inr (.inr (some 84))), (2, .inl l2)] [] S Q := by
  refine zw_push hm_24 dX2_noteFewer_12 (v := .inr (.inr (some 84))) rfl ?_
  refine zw_gf hm_24 dX2_noteFewer_13 (v := .inl (mI S 84 7)) (zT_is hS s_84) (zT_t hS s_84) rfl f_2_25_2 rfl ?_
  refine zw_if0 hm_24 dX2_noteFewer_16 (t := 125) rfl zc0_le ?_ ?_
  · intro hc
    rw [if_pos hc] at h
    exact zw_vret hm_24 dX2_noteFewer_125 h
  · intro hc
    rw [if_neg hc] at h
    refine zw_push hm_24 dX2_noteFewer_19 (v := .inl l2) rfl ?_
    refine zw_lc hm_24 dX2_noteFewer_20 lc_2_32 ?_
    refine zw_if2 hm_24 dX2_noteFewer_22 (t := 125) rfl zc2_ge ?_ ?_
    · intro hc
      rw [if_pos hc] at h
      exact zw_vret hm_24 dX2_noteFewer_125 h
    · intro hc
      rw [if_neg hc] at h
      refine zw_push hm_24 dX2_noteFewer_25 (v := .inr (.inr (some 84))) rfl ?_
      refine zw_gf hm_24 dX2_noteFewer_26 (v := .inr (.inr (some 85))) (zT_is hS s_84) (zT_t hS s_84) rfl f_2_11_2 (zT_f hS r_84_5) ?_
      refine zw_push hm_24 dX2_noteFewer_29 (v := .inr (.inr (some 84))) rfl ?_
      refine zw_gf hm_24 dX2_noteFewer_30 (v := .inl (mI S 84 7)) (zT_is hS s_84) (zT_t hS s_84) rfl f_2_25_2 rfl ?_
      refine zw_push hm_24 dX2_noteFewer_33 (v := .inl (1 : Int32)) rfl ?_
      refine zw_stk hm_24 dX2_noteFewer_34 (st' := [.inl ((mI S 84 7) - (1 : Int32)), .inr (.inr (some 85))]) rfl rfl ?_
      obtain ⟨hg, h⟩ := h
      refine zw_aa hm_24 dX2_noteFewer_35 (zT_is hS s_85) (zT_h hS s_85) rfl rfl hg rfl ?_
      show ma_wp X d w 24 36 [(0, .inr (.inr (some 84))), (2, .inl l2)] [.inr (.inr (mR S 85 ((mI S 84 7) - (1 : Int32)).toNatClampNeg))] S _
      refine zw_sto hm_24 dX2_noteFewer_36 [(3, .inr (.inr (mR S 85 ((mI S 84 7) - (1 : Int32)).toNatClampNeg))), (0, .inr (.inr (some 84))), (2, .inl l2)] rfl rfl rfl ?_
      refine zw_push hm_24 dX2_noteFewer_37 (v := .inr (.inr (some 84))) rfl ?_
      refine zw_gf hm_24 dX2_noteFewer_38 (v := .inr (.inr (some 86))) (zT_is hS s_84) (zT_t hS s_84) rfl f_2_17_2 (zT_f hS r_84_6) ?_
      refine zw_push hm_24 dX2_noteFewer_41 (v := .inr (.inr (some 84))) rfl ?_
      refine zw_gf hm_24 dX2_noteFewer_42 (v := .inl (mI S 84 7)) (zT_is hS s_84) (zT_t hS s_84) rfl f_2_25_2 rfl ?_
      refine zw_push hm_24 dX2_noteFewer_45 (v := .inl (1 : Int32)) rfl ?_
      refine zw_stk hm_24 dX2_noteFewer_46 (st' := [.inl ((mI S 84 7) - (1 : Int32)), .inr (.inr (some 86))]) rfl rfl ?_
      obtain ⟨hg, h⟩ := h
      refine zw_ia hm_24 dX2_noteFewer_47 (zT_is hS s_86) (zT_h hS s_86) rfl hg ?_
      show ma_wp X d w 24 48 [(3, .inr (.inr (mR S 85 ((mI S 84 7) - (1 : Int32)).toNatClampNeg))), (0, .inr (.inr (some 84))), (2, .inl l2)] [.inl (mI S 86 ((mI S 84 7) - (1 : Int32)).toNatClampNeg)] S _
      refine zw_sto hm_24 dX2_noteFewer_48 [(4, .inl (mI S 86 ((mI S 84 7) - (1 : Int32)).toNatClampNeg)), (3, .inr (.inr (mR S 85 ((mI S 84 7) - (1 : Int32)).toNatClampNeg))), (0, .inr (.inr (some 84))), (2, .inl l2)] rfl rfl rfl ?_
      refine zw_push hm_24 dX2_noteFewer_50 (v := .inr (.inr (mR S 85 ((mI S 84 7) - (1 : Int32)).toNatClampNeg))) rfl ?_
      refine zw_ifnonnull hm_24 dX2_noteFewer_51 (t := 67) rfl ?_ ?_
      · intro hc
        have h := h.1 hc
        (try rw [hc])
        show ma_wp X d w 24 54 [(4, .inl (mI S 86 ((mI S 84 7) - (1 : Int32)).toNatClampNeg)), (3, .inr (.inr none)), (0, .inr (.inr (some 84))), (2, .inl l2)] [] S _
        refine zw_push hm_24 dX2_noteFewer_54 (v := .inr (.inr (some 84))) rfl ?_
        refine zw_stk hm_24 dX2_noteFewer_55 (st' := [.inr (.inr (some 84)), .inr (.inr (some 84))]) rfl rfl ?_
        refine zw_gf hm_24 dX2_noteFewer_56 (v := .inl (mI S 84 7)) (zT_is hS s_84) (zT_t hS s_84) rfl f_2_25_2 rfl ?_
        refine zw_push hm_24 dX2_noteFewer_59 (v := .inl (1 : Int32)) rfl ?_
        refine zw_stk hm_24 dX2_noteFewer_60 (st' := [.inl ((mI S 84 7) - (1 : Int32)), .inr (.inr (some 84))]) rfl rfl ?_
        refine zw_pf hm_24 dX2_noteFewer_61 (zT_is hS s_84) (zT_t hS s_84) p_2_25_2 zk_int ?_
        refine zw_goto hm_24 dX2_noteFewer_64 (t := 119) rfl ?_
        refine zw_sto hm_24 dX2_noteFewer_119 [(2, .inl (l2 + (1 : Int32))), (4, .inl (mI S 86 ((mI S 84 7) - (1 : Int32)).toNatClampNeg)), (3, .inr (.inr none)), (0, .inr (.inr (some 84)))] rfl rfl rfl ?_
        refine zw_goto hm_24 dX2_noteFewer_122 (t := 12) rfl ?_
        exact zw_sub (ma_nd_of (ks := [0, 2]) rfl (by decide)) (ma_nd_of (ks := [2, 4, 3, 0]) rfl (by decide)) (ma_le_cons rfl (ma_le_cons rfl (ma_le_nil _))) h
      · intro c1 hc
        have h := h.2 c1 hc
        (try rw [hc])
        show ma_wp X d w 24 67 [(4, .inl (mI S 86 ((mI S 84 7) - (1 : Int32)).toNatClampNeg)), (3, .inr (.inr (some c1))), (0, .inr (.inr (some 84))), (2, .inl l2)] [] S _
        refine zw_push hm_24 dX2_noteFewer_67 (v := .inr (.inr (some c1))) rfl ?_
        refine zw_push hm_24 dX2_noteFewer_68 (v := .inl (mI S 86 ((mI S 84 7) - (1 : Int32)).toNatClampNeg)) rfl ?_
        obtain ⟨hg, h⟩ := h
        refine zw_cv hm_24 dX2_noteFewer_70 v_2_33_9 hm_114 [.inl (mI S 86 ((mI S 84 7) - (1 : Int32)).toNatClampNeg)] [] rfl (zT_trt hS hg) ⟨by omega, by omega⟩ rfl ?_
        show ma_wp X (d - 1) (w - 21) 114 0 [(0, .inr (.inr (some c1))), (1, .inl (mI S 86 ((mI S 84 7) - (1 : Int32)).toNatClampNeg))] [] S _
        refine zw_push hm_114 dX9_hasWord_0 (v := .inl (mI S 86 ((mI S 84 7) - (1 : Int32)).toNatClampNeg)) rfl ?_
        refine zw_if0 hm_114 dX9_hasWord_1 (t := 18) rfl zc0_lt ?_ ?_
        · intro hc
          rw [if_pos hc] at h
          refine zw_push hm_114 dX9_hasWord_18 (v := .inl (0 : Int32)) rfl ?_
          refine zw_bret hm_114 dX9_hasWord_19 (by decide) ?_
          show ma_wp X d w 24 73 [(4, .inl (mI S 86 ((mI S 84 7) - (1 : Int32)).toNatClampNeg)), (3, .inr (.inr (some c1))), (0, .inr (.inr (some 84))), (2, .inl l2)] [.inl (0 : Int32)] S _
          refine zw_if0 hm_24 dX2_noteFewer_73 (t := 101) rfl zc0_eq (fun _ => ?_) (fun hc => absurd (by decide) hc)
          refine zw_push hm_24 dX2_noteFewer_101 (v := .inr (.inr (some 84))) rfl ?_
          refine zw_stk hm_24 dX2_noteFewer_102 (st' := [.inr (.inr (some 84)), .inr (.inr (some 84))]) rfl rfl ?_
          refine zw_gf hm_24 dX2_noteFewer_103 (v := .inl (mI S 84 7)) (zT_is hS s_84) (zT_t hS s_84) rfl f_2_25_2 rfl ?_
          refine zw_push hm_24 dX2_noteFewer_106 (v := .inl (1 : Int32)) rfl ?_
          refine zw_stk hm_24 dX2_noteFewer_107 (st' := [.inl ((mI S 84 7) - (1 : Int32)), .inr (.inr (some 84))]) rfl rfl ?_
          refine zw_pf hm_24 dX2_noteFewer_108 (zT_is hS s_84) (zT_t hS s_84) p_2_25_2 zk_int ?_
          refine zw_push hm_24 dX2_noteFewer_111 (v := .inr (.inr (some 84))) rfl ?_
          refine zw_gf hm_24 dX2_noteFewer_112 (v := .inr (.inr (some 69))) (zT_is (zT_pi hS) s_84) (zT_t (zT_pi hS) s_84) rfl f_2_41_2 (zT_f (zT_pi hS) r_84_3) ?_
          refine zw_push hm_24 dX2_noteFewer_115 (v := .inr (.inr (some c1))) rfl ?_
          refine zw_cv hm_24 dX2_noteFewer_116 v_2_45_7 hm_87 [.inr (.inr (some c1))] [] rfl (zT_rt (zT_pi hS) s_69 rfl) ⟨by omega, by omega⟩ rfl (zw_mono h (zv_go ?_ ?_))
          · intro S2 hv
            obtain ⟨hS2, h⟩ := hv
            refine zw_sto hm_24 dX2_noteFewer_119 [(2, .inl (l2 + (1 : Int32))), (4, .inl (mI S 86 ((mI S 84 7) - (1 : Int32)).toNatClampNeg)), (3, .inr (.inr (some c1))), (0, .inr (.inr (some 84)))] rfl rfl rfl ?_
            refine zw_goto hm_24 dX2_noteFewer_122 (t := 12) rfl ?_
            exact zw_sub (ma_nd_of (ks := [0, 2]) rfl (by decide)) (ma_nd_of (ks := [2, 4, 3, 0]) rfl (by decide)) (ma_le_cons rfl (ma_le_cons rfl (ma_le_nil _))) h
          · intro x S9 hx
            exact ⟨by decide, hx⟩
        · intro hc
          rw [if_neg hc] at h
          refine zw_push hm_114 dX9_hasWord_4 (v := .inl (mI S 86 ((mI S 84 7) - (1 : Int32)).toNatClampNeg)) rfl ?_
          refine zw_push hm_114 dX9_hasWord_5 (v := .inr (.inr (some c1))) rfl ?_
          obtain ⟨hg, h⟩ := h
          refine zw_gf hm_114 dX9_hasWord_6 (v := .inl (mI S c1 2)) (zT_tis hS hg) (zT_tt hS hg) rfl f_9_16_9 rfl ?_
          refine zw_push hm_114 dX9_hasWord_9 (v := .inl (1 : Int32)) rfl ?_
          refine zw_stk hm_114 dX9_hasWord_10 (st' := [.inl ((mI S c1 2) - (1 : Int32)), .inl (mI S 86 ((mI S 84 7) - (1 : Int32)).toNatClampNeg)]) rfl rfl ?_
          refine zw_if2 hm_114 dX9_hasWord_11 (t := 18) rfl zc2_ge ?_ ?_
          · intro hc
            rw [if_pos hc] at h
            refine zw_push hm_114 dX9_hasWord_18 (v := .inl (0 : Int32)) rfl ?_
            refine zw_bret hm_114 dX9_hasWord_19 (by decide) ?_
            show ma_wp X d w 24 73 [(4, .inl (mI S 86 ((mI S 84 7) - (1 : Int32)).toNatClampNeg)), (3, .inr (.inr (some c1))), (0, .inr (.inr (some 84))), (2, .inl l2)] [.inl (0 : Int32)] S _
            refine zw_if0 hm_24 dX2_noteFewer_73 (t := 101) rfl zc0_eq (fun _ => ?_) (fun hc => absurd (by decide) hc)
            refine zw_push hm_24 dX2_noteFewer_101 (v := .inr (.inr (some 84))) rfl ?_
            refine zw_stk hm_24 dX2_noteFewer_102 (st' := [.inr (.inr (some 84)), .inr (.inr (some 84))]) rfl rfl ?_
            refine zw_gf hm_24 dX2_noteFewer_103 (v := .inl (mI S 84 7)) (zT_is hS s_84) (zT_t hS s_84) rfl f_2_25_2 rfl ?_
            refine zw_push hm_24 dX2_noteFewer_106 (v := .inl (1 : Int32)) rfl ?_
            refine zw_stk hm_24 dX2_noteFewer_107 (st' := [.inl ((mI S 84 7) - (1 : Int32)), .inr (.inr (some 84))]) rfl rfl ?_
            refine zw_pf hm_24 dX2_noteFewer_108 (zT_is hS s_84) (zT_t hS s_84) p_2_25_2 zk_int ?_
            refine zw_push hm_24 dX2_noteFewer_111 (v := .inr (.inr (some 84))) rfl ?_
            refine zw_gf hm_24 dX2_noteFewer_112 (v := .inr (.inr (some 69))) (zT_is (zT_pi hS) s_84) (zT_t (zT_pi hS) s_84) rfl f_2_41_2 (zT_f (zT_pi hS) r_84_3) ?_
            refine zw_push hm_24 dX2_noteFewer_115 (v := .inr (.inr (some c1))) rfl ?_
            refine zw_cv hm_24 dX2_noteFewer_116 v_2_45_7 hm_87 [.inr (.inr (some c1))] [] rfl (zT_rt (zT_pi hS) s_69 rfl) ⟨by omega, by omega⟩ rfl (zw_mono h (zv_go ?_ ?_))
            · intro S4 hv
              obtain ⟨hS4, h⟩ := hv
              refine zw_sto hm_24 dX2_noteFewer_119 [(2, .inl (l2 + (1 : Int32))), (4, .inl (mI S 86 ((mI S 84 7) - (1 : Int32)).toNatClampNeg)), (3, .inr (.inr (some c1))), (0, .inr (.inr (some 84)))] rfl rfl rfl ?_
              refine zw_goto hm_24 dX2_noteFewer_122 (t := 12) rfl ?_
              exact zw_sub (ma_nd_of (ks := [0, 2]) rfl (by decide)) (ma_nd_of (ks := [2, 4, 3, 0]) rfl (by decide)) (ma_le_cons rfl (ma_le_cons rfl (ma_le_nil _))) h
            · intro x S9 hx
              exact ⟨by decide, hx⟩
          · intro hc
            rw [if_neg hc] at h
            refine zw_push hm_114 dX9_hasWord_14 (v := .inl (1 : Int32)) rfl ?_
            refine zw_goto hm_114 dX9_hasWord_15 (t := 19) rfl ?_
            refine zw_bret hm_114 dX9_hasWord_19 (by decide) ?_
            show ma_wp X d w 24 73 [(4, .inl (mI S 86 ((mI S 84 7) - (1 : Int32)).toNatClampNeg)), (3, .inr (.inr (some c1))), (0, .inr (.inr (some 84))), (2, .inl l2)] [.inl (1 : Int32)] S _
            refine zw_if0 hm_24 dX2_noteFewer_73 (t := 101) rfl zc0_eq (fun hc => absurd hc (by decide)) (fun _ => ?_)
            refine zw_push hm_24 dX2_noteFewer_76 (v := .inr (.inr (some 84))) rfl ?_
            refine zw_gf hm_24 dX2_noteFewer_77 (v := .inr (.inr (some 86))) (zT_is hS s_84) (zT_t hS s_84) rfl f_2_17_2 (zT_f hS r_84_6) ?_
            refine zw_push hm_24 dX2_noteFewer_80 (v := .inr (.inr (some 84))) rfl ?_
            refine zw_gf hm_24 dX2_noteFewer_81 (v := .inl (mI S 84 7)) (zT_is hS s_84) (zT_t hS s_84) rfl f_2_25_2 rfl ?_
            refine zw_push hm_24 dX2_noteFewer_84 (v := .inl (1 : Int32)) rfl ?_
            refine zw_stk hm_24 dX2_noteFewer_85 (st' := [.inl ((mI S 84 7) - (1 : Int32)), .inr (.inr (some 86))]) rfl rfl ?_
            refine zw_push hm_24 dX2_noteFewer_86 (v := .inl (mI S 86 ((mI S 84 7) - (1 : Int32)).toNatClampNeg)) rfl ?_
            refine zw_push hm_24 dX2_noteFewer_88 (v := .inl (1 : Int32)) rfl ?_
            refine zw_stk hm_24 dX2_noteFewer_89 (st' := [.inl ((mI S 86 ((mI S 84 7) - (1 : Int32)).toNatClampNeg) + (1 : Int32)), .inl ((mI S 84 7) - (1 : Int32)), .inr (.inr (some 86))]) rfl rfl ?_
            obtain ⟨hg, h⟩ := h
            refine zw_ias hm_24 dX2_noteFewer_90 (zT_is hS s_86) (zT_h hS s_86) rfl hg ?_
            refine zw_push hm_24 dX2_noteFewer_91 (v := .inr (.inr (some 84))) rfl ?_
            refine zw_push hm_24 dX2_noteFewer_92 (v := .inr (.inr (some c1))) rfl ?_
            refine zw_push hm_24 dX2_noteFewer_93 (v := .inl (mI S 86 ((mI S 84 7) - (1 : Int32)).toNatClampNeg)) rfl ?_
            refine zw_cv hm_24 dX2_noteFewer_95 v_2_37_2 hm_26 [.inl (mI S 86 ((mI S 84 7) - (1 : Int32)).toNatClampNeg), .inr (.inr (some c1))] [] rfl (zT_rt (zT_pi hS) s_84 rfl) ⟨by omega, by omega⟩ rfl (zw_mono h (zv_go ?_ ?_))
            · intro S6 hv
              obtain ⟨hS6, h⟩ := hv
              refine zw_goto hm_24 dX2_noteFewer_98 (t := 119) rfl ?_
              refine zw_sto hm_24 dX2_noteFewer_119 [(2, .inl (l2 + (1 : Int32))), (4, .inl (mI S 86 ((mI S 84 7) - (1 : Int32)).toNatClampNeg)), (3, .inr (.inr (some c1))), (0, .inr (.inr (some 84)))] rfl rfl rfl ?_
              refine zw_goto hm_24 dX2_noteFewer_122 (t := 12) rfl ?_
              exact zw_sub (ma_nd_of (ks := [0, 2]) rfl (by decide)) (ma_nd_of (ks := [2, 4, 3, 0]) rfl (by decide)) (ma_le_cons rfl (ma_le_cons rfl (ma_le_nil _))) h
            · intro x S9 hx
              exact ⟨by decide, hx⟩
theorem lp_24_84_12 {X : Nat × (Nat → Int32)} {d w : Nat} {f : Nat → Nat → Int32} {r : Nat → Nat → Option Nat} {C Z N : Nat} {Q : Option ma_V ⊕ Nat → ma_S → Prop} (hd : 4 ≤ d) (hw : 86 ≤ w) (K : ∀ S', zJ84 f r C Z N S' → Q (.inl none) S') : ∀ (n : Nat) (S : ma_S) (l2 : Int32), (1000000 - l2.toInt).toNat = n → zJ84 f r C Z N S → ma_wp X d w 24 12 [(0, .inr (.inr (some 84))), (2, .inl l2)] [] S Q := by
  intro n
  induction n using Nat.strongRecOn with
  | _ n IH =>
    intro S l2 hmu hI  
    refine g_24_84_12 l2 (by omega) (by omega) (zG_T hI) ?_
    have f1 := zG_s hI 0 512 (c := 84) (k := 7) (by decide)
    have li2 : (0 : Int32).toInt = 0 := rfl
    refine zd (fun h3 => ?_) (fun h3 => ?_)
    · skip
      have g4 := i_le h3
      exact K _ hI
    · skip
      have g5 := i_nle h3
      have li6 : (1000000 : Int32).toInt = 1000000 := rfl
      have b7 := i_bd l2
      refine zd (fun h8 => ?_) (fun h8 => ?_)
      · skip
        have g9 := i_le h8
        exact K _ hI
      · skip
        have g10 := i_nle h8
        first | have e11 : ((mI S 84 7) - (1 : Int32)).toInt = (mI S 84 7).toInt - (1) := i_subk rfl (by omega) (by omega) | have b12 := i_bd ((mI S 84 7) - (1 : Int32))
        refine ⟨i_ix (by omega) (by omega), ?_⟩
        refine ⟨i_ix (by omega) (by omega), ?_⟩
        refine ⟨fun _ => ?_, fun c1 hc => ?_⟩
        · skip
          have hI13 : zJ84 f r C Z N (ma_put S 84 7 (.inl ((mI S 84 7) - (1 : Int32)))) := zG_sp hI 0 512 rfl (by decide) (by decide) (by decide) trivial (by omega) (by omega)
          first | have e14 : (l2 + (1 : Int32)).toInt = l2.toInt + (1) := i_addk rfl (by omega) (by omega) | have b15 := i_bd (l2 + (1 : Int32))
          exact IH _ (by omega) _ ((l2 + (1 : Int32))) rfl hI13 
        · skip
          have th_c1 := (fun _ z => zG_70 hI (c := 85) (by decide) z) c1 hc
          refine ⟨zG_n hI th_c1, ?_⟩
          have b16 := i_bd (mI S 86 ((mI S 84 7) - (1 : Int32)).toNatClampNeg)
          refine zd (fun h17 => ?_) (fun h17 => ?_)
          · skip
            have g18 := i_lt h17
            have hI19 : zJ84 f r C Z N (ma_put S 84 7 (.inl ((mI S 84 7) - (1 : Int32)))) := zG_sp hI 0 512 rfl (by decide) (by decide) (by decide) trivial (by omega) (by omega)
            refine sp_87_69 c1 (by omega) (by omega) (zJ84_dn hI19) th_c1 (fun S2 hL_S2 => zv_n ⟨zG_T hL_S2, ?_⟩)
            have hI_S2 := zJ84_up hI19 hL_S2
            first | have e20 : (l2 + (1 : Int32)).toInt = l2.toInt + (1) := i_addk rfl (by omega) (by omega) | have b21 := i_bd (l2 + (1 : Int32))
            exact IH _ (by omega) _ ((l2 + (1 : Int32))) rfl hI_S2 
          · skip
            have g22 := i_nlt h17
            refine ⟨zG_n hI th_c1, ?_⟩
            have f23 := zG_th hI th_c1
            first | have e24 : ((mI S c1 2) - (1 : Int32)).toInt = (mI S c1 2).toInt - (1) := i_subk rfl (by omega) (by omega) | have b25 := i_bd ((mI S c1 2) - (1 : Int32))
            refine zd (fun h26 => ?_) (fun h26 => ?_)
            · skip
              have g27 := i_le h26
              have hI28 : zJ84 f r C Z N (ma_put S 84 7 (.inl ((mI S 84 7) - (1 : Int32)))) := zG_sp hI 0 512 rfl (by decide) (by decide) (by decide) trivial (by omega) (by omega)
              refine sp_87_69 c1 (by omega) (by omega) (zJ84_dn hI28) th_c1 (fun S4 hL_S4 => zv_n ⟨zG_T hL_S4, ?_⟩)
              have hI_S4 := zJ84_up hI28 hL_S4
              first | have e29 : (l2 + (1 : Int32)).toInt = l2.toInt + (1) := i_addk rfl (by omega) (by omega) | have b30 := i_bd (l2 + (1 : Int32))
              exact IH _ (by omega) _ ((l2 + (1 : Int32))) rfl hI_S4 
            · skip
              have g31 := i_nle h26
              refine ⟨i_ix (by omega) (by omega), ?_⟩
              have hI32 : zJ84 f r C Z N (ma_put S 86 ((mI S 84 7) - (1 : Int32)).toNatClampNeg (.inl ((mI S 86 ((mI S 84 7) - (1 : Int32)).toNatClampNeg) + (1 : Int32)))) := zG_fa hI rfl (by decide) (by decide) (by decide) trivial
              refine sp_26_84 c1 ((mI S 86 ((mI S 84 7) - (1 : Int32)).toNatClampNeg)) (by omega) (by omega) hI32 th_c1 (fun S6 hI_S6 => zv_n ⟨zG_T hI_S6, ?_⟩)
              first | have e33 : (l2 + (1 : Int32)).toInt = l2.toInt + (1) := i_addk rfl (by omega) (by omega) | have b34 := i_bd (l2 + (1 : Int32))
              exact IH _ (by omega) _ ((l2 + (1 : Int32))) rfl hI_S6 
theorem sp_24_84 {X : Nat × (Nat → Int32)} {d w : Nat} {f : Nat → Nat → Int32} {r : Nat → Nat → Option Nat} {C Z N : Nat} {Q : Option ma_V ⊕ Nat → ma_S → Prop} {S : ma_S} (t : Option Nat) (hd : 4 ≤ d) (hw : 86 ≤ w) (hI : zJ84 f r C Z N S) (hq_t : ∀ c, t = some c → 126 ≤ c ∧ c < N) (K : ∀ S', zJ84 f r C Z N S' → Q (.inl none) S') : ma_wp X d w 24 0 [(0, .inr (.inr (some 84))), (1, .inr (.inr t))] [] S Q := by
  refine g_24_84_0 t (by omega) (by omega) (zG_T hI) ?_
  have li2 : (0 : Int32).toInt = 0 := rfl
  have hI1 : zJ84 f r C Z N (ma_put S 84 7 (.inl (0 : Int32))) := zG_sp hI 0 512 rfl (by decide) (by decide) (by decide) trivial (by omega) (by omega)
  refine sp_25_84 (t) (by omega) (by omega) hI1 hq_t (fun S1 hI_S1 => zv_n ⟨zG_T hI_S1, ?_⟩)
  exact lp_24_84_12 (by omega) (by omega) K _ _ ((0 : Int32)) rfl hI_S1 
theorem g_27_84_0 {X : Nat × (Nat → Int32)} {d w : Nat} {S : ma_S} {Q : Option ma_V ⊕ Nat → ma_S → Prop} (t : Nat) (hd : 0 ≤ d) (hw : 0 ≤ w) (hS : zT S) (h : (126 ≤ t ∧ t < mN S) ∧ (Q (.inl (some (.inl (mI S t 6)))) S)) : ma_wp X d w 27 0 [(0, .inr (.inr (some 84))), (1, .inr (.inr (some t)))] [] S Q := by
  refine zw_push hm_27 dX2_countOf_0 (v := .inr (.inr (some t))) rfl ?_
  obtain ⟨hg, h⟩ := h
  refine zw_gf hm_27 dX2_countOf_1 (v := .inl (mI S t 6)) (zT_tis hS hg) (zT_tt hS hg) rfl f_2_21_9 rfl ?_
  exact zw_iret hm_27 dX2_countOf_4 h
theorem sp_27_84 {X : Nat × (Nat → Int32)} {d w : Nat} {f : Nat → Nat → Int32} {r : Nat → Nat → Option Nat} {C Z N : Nat} {Q : Option ma_V ⊕ Nat → ma_S → Prop} {S : ma_S} (t : Nat) (hd : 0 ≤ d) (hw : 0 ≤ w) (hI : zJ84 f r C Z N S) (th_t : 126 ≤ t ∧ t < N) (K : ∀ v S', zJ84 f r C Z N S' → (True) → Q (.inl (some (.inl v))) S') : ma_wp X d w 27 0 [(0, .inr (.inr (some 84))), (1, .inr (.inr (some t)))] [] S Q := by
  refine g_27_84_0 t (by omega) (by omega) (zG_T hI) ?_
  refine ⟨zG_n hI th_t, ?_⟩
  have b1 := i_bd (mI S t 6)
  exact K ((mI S t 6)) _ hI trivial
