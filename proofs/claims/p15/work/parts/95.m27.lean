/-! COUNTS, the class (written by wip/tools/gen20k.py) -/
theorem g_26_84_sk_0 {X : Nat × (Nat → Int32)} {d w : Nat} {S : ma_S} {Q : Option ma_V ⊕ Nat → ma_S → Prop} (t : Nat) (i : Int32) (hd : 3 ≤ d) (hw : 64 ≤ w) (hS : zT S) (h : (126 ≤ t ∧ t < mN S) ∧ ((126 ≤ t ∧ t < mN S) ∧ (if i < 0 then (Q (.inl none) S) else ((126 ≤ t ∧ t < mN S) ∧ (if ((mI S t 2) - (1 : Int32)) ≤ i then (Q (.inl none) S) else ((126 ≤ t ∧ t < mN S) ∧ (if (lg_cmp ((((mL S t 3).toUInt64 >>> (i.toInt64.toUInt64 &&& Int64.toUInt64 63)).toInt64) &&& (1 : Int64)) (0 : Int64)) = 0 then (Q (.inl none) S) else (ma_wp X (d - 1) (w - 24) 94 0 [(0, .inr (.inr (some 69))), (1, .inr (.inr (some t))), (2, .inl i), (3, .inr (.inr none))] [] S (zo (fun v2 S1 => zT S1 ∧ (ma_wp X (d - 1) (w - 21) 25 0 [(0, .inr (.inr (some 84))), (1, .inr (.inr v2))] [] S1 (zv (fun S3 => zT S3 ∧ (Q (.inl none) S3)) (fun x S9 => Q (.inr x) S9)))) (fun x S9 => Q (.inr x) S9)))))))))) : ma_wp X d w 26 0 [(0, .inr (.inr (some 84))), (1, .inr (.inr (some t))), (2, .inl i)] [] S Q := by
  refine zw_push hm_26 dX2_dropWord_0 (v := .inr (.inr (some t))) rfl ?_
  refine zw_push hm_26 dX2_dropWord_1 (v := .inl i) rfl ?_
  obtain ⟨hg, h⟩ := h
  refine zw_cv hm_26 dX2_dropWord_2 v_2_50_9 hm_113 [.inl i] [] rfl (zT_trt hS hg) ⟨by omega, by omega⟩ rfl ?_
  show ma_wp X (d - 1) (w - 21) 113 0 [(0, .inr (.inr (some t))), (1, .inl i)] [] S _
  refine zw_push hm_113 dX9_isReference_0 (v := .inr (.inr (some t))) rfl ?_
  refine zw_push hm_113 dX9_isReference_1 (v := .inl i) rfl ?_
  obtain ⟨hg, h⟩ := h
  refine zw_cv hm_113 dX9_isReference_2 v_9_26_9 hm_114 [.inl i] [] rfl (zT_trt hS hg) ⟨by omega, by omega⟩ rfl ?_
  show ma_wp X ((d - 1) - 1) ((w - 21) - 21) 114 0 [(0, .inr (.inr (some t))), (1, .inl i)] [] S _
  refine zw_push hm_114 dX9_hasWord_0 (v := .inl i) rfl ?_
  refine zw_if0 hm_114 dX9_hasWord_1 (t := 18) rfl zc0_lt ?_ ?_
  · intro hc
    rw [if_pos hc] at h
    refine zw_push hm_114 dX9_hasWord_18 (v := .inl (0 : Int32)) rfl ?_
    refine zw_bret hm_114 dX9_hasWord_19 (by decide) ?_
    show ma_wp X (d - 1) (w - 21) 113 5 [(0, .inr (.inr (some t))), (1, .inl i)] [.inl (0 : Int32)] S _
    refine zw_if0 hm_113 dX9_isReference_5 (t := 25) rfl zc0_eq (fun _ => ?_) (fun hc => absurd (by decide) hc)
    refine zw_push hm_113 dX9_isReference_25 (v := .inl (0 : Int32)) rfl ?_
    refine zw_bret hm_113 dX9_isReference_26 (by decide) ?_
    show ma_wp X d w 26 5 [(0, .inr (.inr (some 84))), (1, .inr (.inr (some t))), (2, .inl i)] [.inl (0 : Int32)] S _
    refine zw_if0 hm_26 dX2_dropWord_5 (t := 22) rfl zc0_eq (fun _ => ?_) (fun hc => absurd (by decide) hc)
    exact zw_vret hm_26 dX2_dropWord_22 h
  · intro hc
    rw [if_neg hc] at h
    refine zw_push hm_114 dX9_hasWord_4 (v := .inl i) rfl ?_
    refine zw_push hm_114 dX9_hasWord_5 (v := .inr (.inr (some t))) rfl ?_
    obtain ⟨hg, h⟩ := h
    refine zw_gf hm_114 dX9_hasWord_6 (v := .inl (mI S t 2)) (zT_tis hS hg) (zT_tt hS hg) rfl f_9_16_9 rfl ?_
    refine zw_push hm_114 dX9_hasWord_9 (v := .inl (1 : Int32)) rfl ?_
    refine zw_stk hm_114 dX9_hasWord_10 (st' := [.inl ((mI S t 2) - (1 : Int32)), .inl i]) rfl rfl ?_
    refine zw_if2 hm_114 dX9_hasWord_11 (t := 18) rfl zc2_ge ?_ ?_
    · intro hc
      rw [if_pos hc] at h
      refine zw_push hm_114 dX9_hasWord_18 (v := .inl (0 : Int32)) rfl ?_
      refine zw_bret hm_114 dX9_hasWord_19 (by decide) ?_
      show ma_wp X (d - 1) (w - 21) 113 5 [(0, .inr (.inr (some t))), (1, .inl i)] [.inl (0 : Int32)] S _
      refine zw_if0 hm_113 dX9_isReference_5 (t := 25) rfl zc0_eq (fun _ => ?_) (fun hc => absurd (by decide) hc)
      refine zw_push hm_113 dX9_isReference_25 (v := .inl (0 : Int32)) rfl ?_
      refine zw_bret hm_113 dX9_isReference_26 (by decide) ?_
      show ma_wp X d w 26 5 [(0, .inr (.inr (some 84))), (1, .inr (.inr (some t))), (2, .inl i)] [.inl (0 : Int32)] S _
      refine zw_if0 hm_26 dX2_dropWord_5 (t := 22) rfl zc0_eq (fun _ => ?_) (fun hc => absurd (by decide) hc)
      exact zw_vret hm_26 dX2_dropWord_22 h
    · intro hc
      rw [if_neg hc] at h
      refine zw_push hm_114 dX9_hasWord_14 (v := .inl (1 : Int32)) rfl ?_
      refine zw_goto hm_114 dX9_hasWord_15 (t := 19) rfl ?_
      refine zw_bret hm_114 dX9_hasWord_19 (by decide) ?_
      show ma_wp X (d - 1) (w - 21) 113 5 [(0, .inr (.inr (some t))), (1, .inl i)] [.inl (1 : Int32)] S _
      refine zw_if0 hm_113 dX9_isReference_5 (t := 25) rfl zc0_eq (fun hc => absurd hc (by decide)) (fun _ => ?_)
      refine zw_push hm_113 dX9_isReference_8 (v := .inr (.inr (some t))) rfl ?_
      obtain ⟨hg, h⟩ := h
      refine zw_gf hm_113 dX9_isReference_9 (v := .inr (.inl (mL S t 3))) (zT_tis hS hg) (zT_tt hS hg) rfl f_9_19_9 rfl ?_
      refine zw_push hm_113 dX9_isReference_12 (v := .inl i) rfl ?_
      refine zw_stk hm_113 dX9_isReference_13 (st' := [.inr (.inl (((mL S t 3).toUInt64 >>> (i.toInt64.toUInt64 &&& Int64.toUInt64 63)).toInt64))]) rfl rfl ?_
      refine zw_push hm_113 dX9_isReference_14 (v := .inr (.inl (1 : Int64))) rfl ?_
      refine zw_stk hm_113 dX9_isReference_15 (st' := [.inr (.inl ((((mL S t 3).toUInt64 >>> (i.toInt64.toUInt64 &&& Int64.toUInt64 63)).toInt64) &&& (1 : Int64)))]) rfl rfl ?_
      refine zw_push hm_113 dX9_isReference_16 (v := .inr (.inl (0 : Int64))) rfl ?_
      refine zw_stk hm_113 dX9_isReference_17 (st' := [.inl (lg_cmp ((((mL S t 3).toUInt64 >>> (i.toInt64.toUInt64 &&& Int64.toUInt64 63)).toInt64) &&& (1 : Int64)) (0 : Int64))]) rfl rfl ?_
      refine zw_if0 hm_113 dX9_isReference_18 (t := 25) rfl zc0_eq ?_ ?_
      · intro hc
        rw [if_pos hc] at h
        refine zw_push hm_113 dX9_isReference_25 (v := .inl (0 : Int32)) rfl ?_
        refine zw_bret hm_113 dX9_isReference_26 (by decide) ?_
        show ma_wp X d w 26 5 [(0, .inr (.inr (some 84))), (1, .inr (.inr (some t))), (2, .inl i)] [.inl (0 : Int32)] S _
        refine zw_if0 hm_26 dX2_dropWord_5 (t := 22) rfl zc0_eq (fun _ => ?_) (fun hc => absurd (by decide) hc)
        exact zw_vret hm_26 dX2_dropWord_22 h
      · intro hc
        rw [if_neg hc] at h
        refine zw_push hm_113 dX9_isReference_21 (v := .inl (1 : Int32)) rfl ?_
        refine zw_goto hm_113 dX9_isReference_22 (t := 26) rfl ?_
        refine zw_bret hm_113 dX9_isReference_26 (by decide) ?_
        show ma_wp X d w 26 5 [(0, .inr (.inr (some 84))), (1, .inr (.inr (some t))), (2, .inl i)] [.inl (1 : Int32)] S _
        refine zw_if0 hm_26 dX2_dropWord_5 (t := 22) rfl zc0_eq (fun hc => absurd hc (by decide)) (fun _ => ?_)
        refine zw_push hm_26 dX2_dropWord_8 (v := .inr (.inr (some 84))) rfl ?_
        refine zw_push hm_26 dX2_dropWord_9 (v := .inr (.inr (some 84))) rfl ?_
        refine zw_gf hm_26 dX2_dropWord_10 (v := .inr (.inr (some 69))) (zT_is hS s_84) (zT_t hS s_84) rfl f_2_41_2 (zT_f hS r_84_3) ?_
        refine zw_push hm_26 dX2_dropWord_13 (v := .inr (.inr (some t))) rfl ?_
        refine zw_push hm_26 dX2_dropWord_14 (v := .inl i) rfl ?_
        refine zw_push hm_26 dX2_dropWord_15 (v := .inr (.inr none)) rfl ?_
        refine zw_cv hm_26 dX2_dropWord_16 v_2_53_7 hm_94 [.inr (.inr none), .inl i, .inr (.inr (some t))] [.inr (.inr (some 84))] rfl (zT_rt hS s_69 rfl) ⟨by omega, by omega⟩ rfl (zw_mono h (zo_go ?_ ?_))
        · intro v2 S1 hv
          obtain ⟨hS1, h⟩ := hv
          refine zw_cv hm_26 dX2_dropWord_19 v_2_28_2 hm_25 [.inr (.inr v2)] [] rfl (zT_rt hS1 s_84 rfl) ⟨by omega, by omega⟩ rfl (zw_mono h (zv_go ?_ ?_))
          · intro S3 hv
            obtain ⟨hS3, h⟩ := hv
            exact zw_vret hm_26 dX2_dropWord_22 h
          · intro x S9 hx
            exact ⟨by decide, hx⟩
        · intro x S9 hx
          exact ⟨by decide, hx⟩
theorem sp_26_84_sk {X : Nat × (Nat → Int32)} {d w : Nat} {f : Nat → Nat → Int32} {r : Nat → Nat → Option Nat} {C Z N : Nat} {Q : Option ma_V ⊕ Nat → ma_S → Prop} {ab : Nat→Nat→Int32} {R : zRT} {W : Nat} {kk : Nat→Int32} {y : Int32} {l : zLS} {B : Int} {fq : Nat→Int32} {n0 : Nat→Nat→Int32} {S : ma_S} (t : Nat) (i : Int32) (hd : 3 ≤ d) (hw : 64 ≤ w) (hI : zJ84 f r C Z N S) (th_t : 126 ≤ t ∧ t < N) (hpre0 : xB S R) (hpre1 : aS W S = ab) (hpre2 : xW W) (hpre3 : zTa R y = some t) (hpre4 : kC S = kk) (hpre5 : zSt S R ((y, i + 1) :: l)) (hpre6 : cC ab ((y, i) :: l) kk B) (hpre7 : B ≤ 1000000) (hpre8 : 0 ≤ i.toInt) (hpre9 : i.toInt < (ab 128 y.toNatClampNeg).toInt - 1) (hpre10 : zfP 84 (mI S) = fq) (hpre11 : zN0 S = n0) (K : ∀ S', zJ84 f r C Z N S' → (xB S' R) → (zFo W S' R B (cSt (cPr ab ((y, i) :: l)))) → (zfP 84 (mI S') = fq) → (zN0 S' = n0) → Q (.inl none) S') : ma_wp X d w 26 0 [(0, .inr (.inr (some 84))), (1, .inr (.inr (some t))), (2, .inl i)] [] S Q := by
  refine g_26_84_sk_0 t i (by omega) (by omega) (zG_T hI) ?_
  refine ⟨zG_n hI th_t, ?_⟩
  refine ⟨zG_n hI th_t, ?_⟩
  have b1 := i_bd i
  have li2 : (0 : Int32).toInt = 0 := rfl
  refine zd (fun h3 => ?_) (fun h3 => ?_)
  · skip
    have g4 := i_lt h3
    exact K _ hI (show xB S R from by first | (exact (xC_o (W := W) hpre0).2)) (show zFo W S R B (cSt (cPr ab ((y, i) :: l))) from by first | (have ty := xB_th (W := W) hpre0 hpre3; have z2 := congrArg Int32.toInt ty.2.2.2.2.1; rw [hpre1] at z2; have il := hpre9; exact FD_0 hpre5 hpre1 hpre4 hpre6 hpre9 (irw_n hpre0 hpre3 hpre1 (by omega) (by assumption))) | (exfalso; have ty := xB_th (W := W) hpre0 hpre3; have z2 := congrArg Int32.toInt ty.2.2.2.2.1; rw [hpre1] at z2; have il := hpre9; omega)) (show zfP 84 (mI S) = fq from by first | (exact hpre10)) (show zN0 S = n0 from by first | (exact hpre11))
  · skip
    have g5 := i_nlt h3
    refine ⟨zG_n hI th_t, ?_⟩
    have f6 := zG_th hI th_t
    first | have e7 : ((mI S t 2) - (1 : Int32)).toInt = (mI S t 2).toInt - (1) := i_subk rfl (by omega) (by omega) | have b8 := i_bd ((mI S t 2) - (1 : Int32))
    refine zd (fun h9 => ?_) (fun h9 => ?_)
    · skip
      have g10 := i_le h9
      exact K _ hI (show xB S R from by first | (exact (xC_o (W := W) hpre0).2)) (show zFo W S R B (cSt (cPr ab ((y, i) :: l))) from by first | (have ty := xB_th (W := W) hpre0 hpre3; have z2 := congrArg Int32.toInt ty.2.2.2.2.1; rw [hpre1] at z2; have il := hpre9; exact FD_0 hpre5 hpre1 hpre4 hpre6 hpre9 (irw_n hpre0 hpre3 hpre1 (by omega) (by assumption))) | (exfalso; have ty := xB_th (W := W) hpre0 hpre3; have z2 := congrArg Int32.toInt ty.2.2.2.2.1; rw [hpre1] at z2; have il := hpre9; omega)) (show zfP 84 (mI S) = fq from by first | (exact hpre10)) (show zN0 S = n0 from by first | (exact hpre11))
    · skip
      have g11 := i_nle h9
      refine ⟨zG_n hI th_t, ?_⟩
      have b12 := i_bd (lg_cmp ((((mL S t 3).toUInt64 >>> (i.toInt64.toUInt64 &&& Int64.toUInt64 63)).toInt64) &&& (1 : Int64)) (0 : Int64))
      refine zd (fun h13 => ?_) (fun h13 => ?_)
      · skip
        have g14 := i_eq h13
        exact K _ hI (show xB S R from by first | (exact (xC_o (W := W) hpre0).2)) (show zFo W S R B (cSt (cPr ab ((y, i) :: l))) from by first | (have ty := xB_th (W := W) hpre0 hpre3; have z2 := congrArg Int32.toInt ty.2.2.2.2.1; rw [hpre1] at z2; have il := hpre9; exact FD_0 hpre5 hpre1 hpre4 hpre6 hpre9 (irw_n hpre0 hpre3 hpre1 (by omega) (by assumption))) | (exfalso; have ty := xB_th (W := W) hpre0 hpre3; have z2 := congrArg Int32.toInt ty.2.2.2.2.1; rw [hpre1] at z2; have il := hpre9; omega)) (show zfP 84 (mI S) = fq from by first | (exact hpre10)) (show zN0 S = n0 from by first | (exact hpre11))
      · skip
        have g15 := i_ne h13
        refine sp_94_69_sk (ab := (aS W S)) (R := R) (W := W) (y := ((-1 : Int32))) (yt := (y)) (kk := (kC S)) (n0 := n0) t (i) (none) (by omega) (by omega) (zJ84_dn hI) th_t (fun _ z => by cases z) (show xB S R from by first | (exact (xC_o (W := 75) hpre0).2)) (show aS W S = (aS W S) from by first | (exact rfl)) (show xW W from by first | (exact hpre2) | (exact xW88) | (exact xW75)) (show zTa R (y) = some t from by first | (exact hpre3)) (show none = zTa R ((-1 : Int32)) from by first | (exact ta_m1) | (exact ta_no (by omega))) (by omega) (show kC S = (kC S) from by first | (exact rfl)) (show zN0 S = n0 from by first | (exact hpre11)) (fun v2 S1 hL_S1 hq_v2 rp0_S1 rp1_S1 rp2_S1 rp3_S1 rp4_S1 => zo_n ⟨zG_T hL_S1, ?_⟩)
        have hI_S1 := zJ84_up hI hL_S1
        have rp0_S1 : xB S1 R := by
          have z := rp0_S1
          (try rw [show mI S 65 = f 65 from funext (fun k => zG_z hI rfl)] at z)
          (try rw [show mI S 64 1 = f 64 1 from zG_z hI rfl] at z)
          exact z
        have rp1_S1 : aS W S1 = aCi (aS W S) (y).toNatClampNeg i (aNm (aS W S) ((-1 : Int32))) := by
          have z := rp1_S1
          (try rw [show mI S 65 = f 65 from funext (fun k => zG_z hI rfl)] at z)
          (try rw [show mI S 64 1 = f 64 1 from zG_z hI rfl] at z)
          exact z
        have rp2_S1 : v2 = zTa R (aRef (aS W S) (y).toNatClampNeg i) := by
          have z := rp2_S1
          (try rw [show mI S 65 = f 65 from funext (fun k => zG_z hI rfl)] at z)
          (try rw [show mI S 64 1 = f 64 1 from zG_z hI rfl] at z)
          exact z
        have rp3_S1 : ∀ n, xAl (aS W S) n → kC S1 n = (kC S) n + Int32.ofNat (cIs ((-1 : Int32)) n) - Int32.ofNat (cIs (aRef (aS W S) (y).toNatClampNeg i) n) := by
          have z := rp3_S1
          (try rw [show mI S 65 = f 65 from funext (fun k => zG_z hI rfl)] at z)
          (try rw [show mI S 64 1 = f 64 1 from zG_z hI rfl] at z)
          exact z
        have rp4_S1 : zN0 S1 = n0 := by
          have z := rp4_S1
          (try rw [show mI S 65 = f 65 from funext (fun k => zG_z hI rfl)] at z)
          (try rw [show mI S 64 1 = f 64 1 from zG_z hI rfl] at z)
          exact z
        refine sp_25_84_sk (ab := (aS W S1)) (R := R) (W := W) (kk := (kC S1)) (y := ((aRef (aS W S) (y).toNatClampNeg i))) (l := ((y, i + 1) :: l)) (B := B) (fq := (zfP 84 (mI S1))) (n0 := n0) (v2) (by omega) (by omega) hI_S1 hq_v2 (show xB S1 R from by first | (exact (xC_o (W := W) rp0_S1).2)) (show aS W S1 = (aS W S1) from by first | (exact rfl)) (show xW W from by first | (exact hpre2) | (exact xW88) | (exact xW75)) (show v2 = zTa R ((aRef (aS W S) (y).toNatClampNeg i)) from by first | (exact rp2_S1)) (show kC S1 = (kC S1) from by first | (exact rfl)) (show zSt S1 R ((y, i + 1) :: l) from by first | (exact St_fr hpre5 (funext (fun k => zG_r hL_S1 (by decide))) (funext (fun k => zG_z hL_S1 rfl)) (zG_z hL_S1 rfl))) (show cC (aS W S1) ((y, i + 1) :: l) (kC S1) B from by first | (have dr := DR (b := aS W S1) (K' := kC S1) hpre6 hpre9 (irw_y hpre0 hpre3 hpre1 (by omega) (by assumption)) (fun n hn => by have q := rp3_S1 n (by rw [hpre1]; exact hn); rw [hpre4, hpre1] at q; exact q) (by have q := rp1_S1; rw [hpre1] at q; exact q); exact dr.1)) (show cOk (cRa (aS W S1) ((y, i + 1) :: l)) ((aRef (aS W S) (y).toNatClampNeg i)) from by first | (have dr := DR (b := aS W S1) (K' := kC S1) hpre6 hpre9 (irw_y hpre0 hpre3 hpre1 (by omega) (by assumption)) (fun n hn => by have q := rp3_S1 n (by rw [hpre1]; exact hn); rw [hpre4, hpre1] at q; exact q) (by have q := rp1_S1; rw [hpre1] at q; exact q); (try rw [hpre1]); exact dr.2.1)) (show B ≤ 1000000 from by first | (exact hpre7)) (show zfP 84 (mI S1) = (zfP 84 (mI S1)) from by first | (exact rfl)) (show zN0 S1 = n0 from by first | (exact rp4_S1)) (fun S3 hI_S3 rp0_S3 rp1_S3 rp2_S3 rp3_S3 => zv_n ⟨zG_T hI_S3, ?_⟩)
        have rp0_S3 : xB S3 R := rp0_S3
        have rp1_S3 : zFo W S3 R B (cF1 (cPr (aS W S1) ((y, i + 1) :: l)) ((aRef (aS W S) (y).toNatClampNeg i))) := rp1_S3
        have rp2_S3 : zfP 84 (mI S3) = (zfP 84 (mI S1)) := rp2_S3
        have rp3_S3 : zN0 S3 = n0 := rp3_S3
        exact K _ hI_S3 (show xB S3 R from by first | (exact (xC_o (W := W) rp0_S3).2)) (show zFo W S3 R B (cSt (cPr ab ((y, i) :: l))) from by first | (have dr := DR (b := aS W S1) (K' := kC S1) hpre6 hpre9 (irw_y hpre0 hpre3 hpre1 (by omega) (by assumption)) (fun n hn => by have q := rp3_S1 n (by rw [hpre1]; exact hn); rw [hpre4, hpre1] at q; exact q) (by have q := rp1_S1; rw [hpre1] at q; exact q); have q := rp1_S3; (try rw [hpre1] at q); rw [dr.2.2] at q; exact q)) (show zfP 84 (mI S3) = fq from by first | (exact (rp2_S3.trans ((zf_fr (P := 84) (S' := S1) (S := S) (fun _ => zG_z hL_S1 rfl)).trans hpre10)))) (show zN0 S3 = n0 from by first | (exact rp3_S3))
