/-! COUNTS, the class (written by wip/tools/gen20k.py) -/
theorem g_116_75_sk_0 {X : Nat × (Nat → Int32)} {d w : Nat} {S : ma_S} {Q : Option ma_V ⊕ Nat → ma_S → Prop}  (hd : 2 ≤ d) (hw : 49 ≤ w) (hS : zT S) (h : ma_wp X (d - 1) (w - 21) 117 0 [(0, .inr (.inr (some 75))), (1, .inl (0 : Int32))] [] S (zv (fun S1 => zT S1 ∧ (ma_wp X (d - 1) (w - 22) 118 0 [(0, .inr (.inr (some 75)))] [] S1 (zv (fun S3 => zT S3 ∧ (ma_wp X (d - 1) (w - 24) 120 0 [(0, .inr (.inr (some 75))), (1, .inl (512 : Int32))] [] S3 (zi (fun v6 S5 => zT S5 ∧ (Q (.inl none) S5)) (fun x S9 => Q (.inr x) S9)))) (fun x S9 => Q (.inr x) S9)))) (fun x S9 => Q (.inr x) S9))) : ma_wp X d w 116 0 [(0, .inr (.inr (some 75)))] [] S Q := by
  refine zw_push hm_116 dX10_reachAll_0 (v := .inr (.inr (some 75))) rfl ?_
  refine zw_push hm_116 dX10_reachAll_1 (v := .inl (0 : Int32)) rfl ?_
  refine zw_cv hm_116 dX10_reachAll_2 v_10_38_10 hm_117 [.inl (0 : Int32)] [] rfl (zT_rt hS s_75 rfl) ⟨by omega, by omega⟩ rfl (zw_mono h (zv_go ?_ ?_))
  · intro S1 hv
    obtain ⟨hS1, h⟩ := hv
    refine zw_push hm_116 dX10_reachAll_5 (v := .inr (.inr (some 75))) rfl ?_
    refine zw_cv hm_116 dX10_reachAll_6 v_10_42_10 hm_118 [] [] rfl (zT_rt hS1 s_75 rfl) ⟨by omega, by omega⟩ rfl (zw_mono h (zv_go ?_ ?_))
    · intro S3 hv
      obtain ⟨hS3, h⟩ := hv
      refine zw_push hm_116 dX10_reachAll_9 (v := .inr (.inr (some 75))) rfl ?_
      refine zw_push hm_116 dX10_reachAll_10 (v := .inl (512 : Int32)) rfl ?_
      refine zw_cv hm_116 dX10_reachAll_13 v_10_45_10 hm_120 [.inl (512 : Int32)] [] rfl (zT_rt hS3 s_75 rfl) ⟨by omega, by omega⟩ rfl (zw_mono h (zi_go ?_ ?_))
      · intro v6 S5 hv
        obtain ⟨hS5, h⟩ := hv
        refine zw_stk hm_116 dX10_reachAll_16 (st' := []) rfl rfl ?_
        exact zw_vret hm_116 dX10_reachAll_17 h
      · intro x S9 hx
        exact ⟨by decide, hx⟩
    · intro x S9 hx
      exact ⟨by decide, hx⟩
  · intro x S9 hx
    exact ⟨by decide, hx⟩
theorem sp_116_75_sk {X : Nat × (Nat → Int32)} {d w : Nat} {f : Nat → Nat → Int32} {r : Nat → Nat → Option Nat} {C Z N : Nat} {Q : Option ma_V ⊕ Nat → ma_S → Prop} {ab : Nat→Nat→Int32} {R : zRT} {a8 : Nat→Nat→Int32} {kk : Nat→Int32} {S : ma_S}  (hd : 2 ≤ d) (hw : 49 ≤ w) (hI : zI f r C Z N S) (hpre0 : xB S R) (hpre1 : aS 75 S = ab) (hpre2 : aS 88 S = a8) (hpre3 : kC S = kk) (K : ∀ S', zI f r C Z N S' → (xB S' R) → (aS 75 S' = aSp 512 (aRo (aWh ab 0) 0)) → (aS 88 S' = a8) → (kC S' = kk) → Q (.inl none) S') : ma_wp X d w 116 0 [(0, .inr (.inr (some 75)))] [] S Q := by
  refine g_116_75_sk_0  (by omega) (by omega) (zG_T hI) ?_
  have li1 : (0 : Int32).toInt = 0 := rfl
  refine sp_117_75_sk (ab := (aS 75 S)) (R := R) (a8 := a8) (kk := kk) ((0 : Int32)) (by omega) (by omega) hI (show xB S R from by first | (exact (xC_o (W := 75) hpre0).2)) (show aS 75 S = (aS 75 S) from by first | (exact rfl)) (show aS 88 S = a8 from by first | (exact (xC_o (W := 88) hpre0).1.trans hpre2)) (show kC S = kk from by first | (exact (xK_o (W := 75) hpre0 hpre3).2)) (fun S1 hI_S1 rp0_S1 rp1_S1 rp2_S1 rp3_S1 => zv_n ⟨zG_T hI_S1, ?_⟩)
  have rp0_S1 : xB S1 R := rp0_S1
  have rp1_S1 : aS 75 S1 = aWh (aS 75 S) (0 : Int32) := rp1_S1
  have rp2_S1 : aS 88 S1 = a8 := rp2_S1
  have rp3_S1 : kC S1 = kk := rp3_S1
  refine sp_118_75_sk (ab := (aS 75 S1)) (R := R) (a8 := a8) (kk := kk) (by omega) (by omega) hI_S1 (show xB S1 R from by first | (exact (xC_o (W := 75) rp0_S1).2)) (show aS 75 S1 = (aS 75 S1) from by first | (exact rfl)) (show aS 88 S1 = a8 from by first | (exact (xC_o (W := 88) rp0_S1).1.trans rp2_S1)) (show kC S1 = kk from by first | (exact (xK_o (W := 75) rp0_S1 rp3_S1).2)) (fun S3 hI_S3 rp0_S3 rp1_S3 rp2_S3 rp3_S3 => zv_n ⟨zG_T hI_S3, ?_⟩)
  have rp0_S3 : xB S3 R := rp0_S3
  have rp1_S3 : aS 75 S3 = aRo (aS 75 S1) 0 := rp1_S3
  have rp2_S3 : aS 88 S3 = a8 := rp2_S3
  have rp3_S3 : kC S3 = kk := rp3_S3
  have li2 : (512 : Int32).toInt = 512 := rfl
  refine sp_120_75_sk (ab := (aS 75 S3)) (R := R) (a8 := a8) (kk := kk) ((512 : Int32)) (by omega) (by omega) hI_S3 (show xB S3 R from by first | (exact (xC_o (W := 75) rp0_S3).2)) (show aS 75 S3 = (aS 75 S3) from by first | (exact rfl)) (by omega) (show aS 88 S3 = a8 from by first | (exact (xC_o (W := 88) rp0_S3).1.trans rp2_S3)) (show kC S3 = kk from by first | (exact (xK_o (W := 75) rp0_S3 rp3_S3).2)) (fun v6 S5 hI_S5 hp_v6 rp0_S5 rp1_S5 rp2_S5 rp3_S5 => zi_n ⟨zG_T hI_S5, ?_⟩)
  have rp0_S5 : xB S5 R := rp0_S5
  have rp1_S5 : aS 75 S5 = aSp (512 : Int32).toInt.toNat (aS 75 S3) ∧ v6.toInt = (aSn (512 : Int32).toInt.toNat (aS 75 S3) : Int) := rp1_S5
  have rp2_S5 : aS 88 S5 = a8 := rp2_S5
  have rp3_S5 : kC S5 = kk := rp3_S5
  exact K _ hI_S5 (show xB S5 R from by first | (exact (xC_o (W := 75) rp0_S5).2)) (show aS 75 S5 = aSp 512 (aRo (aWh ab 0) 0) from by first | (rw [rp1_S5.1, rp1_S3, rp1_S1, hpre1]; rfl)) (show aS 88 S5 = a8 from by first | (exact (xC_o (W := 88) rp0_S5).1.trans rp2_S5)) (show kC S5 = kk from by first | (exact (xK_o (W := 75) rp0_S5 rp3_S5).2))
theorem g_85_69_sk_0 {X : Nat × (Nat → Int32)} {d w : Nat} {S : ma_S} {Q : Option ma_V ⊕ Nat → ma_S → Prop} (t : Nat) (hd : 0 ≤ d) (hw : 0 ≤ w) (hS : zT S) (h : ma_wp X d w 85 2 [(0, .inr (.inr (some 69))), (1, .inr (.inr (some t))), (2, .inl (0 : Int32))] [] S Q) : ma_wp X d w 85 0 [(0, .inr (.inr (some 69))), (1, .inr (.inr (some t)))] [] S Q := by
  refine zw_push hm_85 dX7_clearWeak_0 (v := .inl (0 : Int32)) rfl ?_
  refine zw_sto hm_85 dX7_clearWeak_1 [(2, .inl (0 : Int32)), (0, .inr (.inr (some 69))), (1, .inr (.inr (some t)))] rfl rfl rfl ?_
  exact zw_sub (ma_nd_of (ks := [0, 1, 2]) rfl (by decide)) (ma_nd_of (ks := [2, 0, 1]) rfl (by decide)) (ma_le_cons rfl (ma_le_cons rfl (ma_le_cons rfl (ma_le_nil _)))) h
theorem g_85_69_sk_2 {X : Nat × (Nat → Int32)} {d w : Nat} {S : ma_S} {Q : Option ma_V ⊕ Nat → ma_S → Prop} (l1 : Nat) (l2 : Int32) (hd : 0 ≤ d) (hw : 0 ≤ w) (hS : zT S) (h : if (16 : Int32) ≤ l2 then (Q (.inl none) S) else ((0 ≤ l2 ∧ l2.toNatClampNeg < 16) ∧ ((126 ≤ l1 ∧ l1 < mN S) ∧ (if (mI S 73 l2.toNatClampNeg) = (mI S l1 0) then ((0 ≤ l2 ∧ l2.toNatClampNeg < 16) ∧ (ma_wp X d w 85 2 [(0, .inr (.inr (some 69))), (1, .inr (.inr (some l1))), (2, .inl (l2 + (1 : Int32)))] [] (ma_put S 73 l2.toNatClampNeg (.inl (-1 : Int32))) Q)) else (ma_wp X d w 85 2 [(0, .inr (.inr (some 69))), (1, .inr (.inr (some l1))), (2, .inl (l2 + (1 : Int32)))] [] S Q))))) : ma_wp X d w 85 2 [(0, .inr (.inr (some 69))), (1, .inr (.inr (some l1))), (2, .inl l2)] [] S Q := by
  refine zw_push hm_85 dX7_clearWeak_2 (v := .inl l2) rfl ?_
  refine zw_push hm_85 dX7_clearWeak_3 (v := .inl (16 : Int32)) rfl ?_
  refine zw_if2 hm_85 dX7_clearWeak_5 (t := 34) rfl zc2_ge ?_ ?_
  · intro hc
    rw [if_pos hc] at h
    exact zw_vret hm_85 dX7_clearWeak_34 h
  · intro hc
    rw [if_neg hc] at h
    refine zw_push hm_85 dX7_clearWeak_8 (v := .inr (.inr (some 69))) rfl ?_
    refine zw_gf hm_85 dX7_clearWeak_9 (v := .inr (.inr (some 73))) (zT_is hS s_69) (zT_t hS s_69) rfl f_7_24_7 (zT_f hS r_69_3) ?_
    refine zw_push hm_85 dX7_clearWeak_12 (v := .inl l2) rfl ?_
    obtain ⟨hg, h⟩ := h
    refine zw_ia hm_85 dX7_clearWeak_13 (zT_is hS s_73) (zT_h hS s_73) rfl hg ?_
    show ma_wp X d w 85 14 [(0, .inr (.inr (some 69))), (1, .inr (.inr (some l1))), (2, .inl l2)] [.inl (mI S 73 l2.toNatClampNeg)] S _
    refine zw_push hm_85 dX7_clearWeak_14 (v := .inr (.inr (some l1))) rfl ?_
    obtain ⟨hg, h⟩ := h
    refine zw_gf hm_85 dX7_clearWeak_15 (v := .inl (mI S l1 0)) (zT_tis hS hg) (zT_tt hS hg) rfl f_7_67_9 rfl ?_
    refine zw_if2 hm_85 dX7_clearWeak_18 (t := 28) rfl zc2_ne ?_ ?_
    · intro hc
      rw [if_neg hc] at h
      refine zw_sto hm_85 dX7_clearWeak_28 [(2, .inl (l2 + (1 : Int32))), (0, .inr (.inr (some 69))), (1, .inr (.inr (some l1)))] rfl rfl rfl ?_
      refine zw_goto hm_85 dX7_clearWeak_31 (t := 2) rfl ?_
      exact zw_sub (ma_nd_of (ks := [0, 1, 2]) rfl (by decide)) (ma_nd_of (ks := [2, 0, 1]) rfl (by decide)) (ma_le_cons rfl (ma_le_cons rfl (ma_le_cons rfl (ma_le_nil _)))) h
    · intro hc
      rw [if_pos (Classical.not_not.mp hc)] at h
      refine zw_push hm_85 dX7_clearWeak_21 (v := .inr (.inr (some 69))) rfl ?_
      refine zw_gf hm_85 dX7_clearWeak_22 (v := .inr (.inr (some 73))) (zT_is hS s_69) (zT_t hS s_69) rfl f_7_24_7 (zT_f hS r_69_3) ?_
      refine zw_push hm_85 dX7_clearWeak_25 (v := .inl l2) rfl ?_
      refine zw_push hm_85 dX7_clearWeak_26 (v := .inl (-1 : Int32)) rfl ?_
      obtain ⟨hg, h⟩ := h
      refine zw_ias hm_85 dX7_clearWeak_27 (zT_is hS s_73) (zT_h hS s_73) rfl hg ?_
      refine zw_sto hm_85 dX7_clearWeak_28 [(2, .inl (l2 + (1 : Int32))), (0, .inr (.inr (some 69))), (1, .inr (.inr (some l1)))] rfl rfl rfl ?_
      refine zw_goto hm_85 dX7_clearWeak_31 (t := 2) rfl ?_
      exact zw_sub (ma_nd_of (ks := [0, 1, 2]) rfl (by decide)) (ma_nd_of (ks := [2, 0, 1]) rfl (by decide)) (ma_le_cons rfl (ma_le_cons rfl (ma_le_cons rfl (ma_le_nil _)))) h
theorem lp_85_69_sk_2 {X : Nat × (Nat → Int32)} {d w : Nat} {f : Nat → Nat → Int32} {r : Nat → Nat → Option Nat} {C Z N : Nat} {Q : Option ma_V ⊕ Nat → ma_S → Prop} {ab : Nat→Nat→Int32} {R : zRT} {W : Nat} {kk : Nat→Int32} {y : Int32} {n0 : Nat→Nat→Int32} (hd : 0 ≤ d) (hw : 0 ≤ w) (K : ∀ S', zI f r C Z N S' → (xB S' R) → (aS W S' = zUw ab y 16) → (kC S' = kk) → (zN0 S' = n0) → Q (.inl none) S') : ∀ (n : Nat) (S : ma_S) (l1 : Nat) (l2 : Int32), (16 - l2.toInt).toNat = n → zI f r C Z N S → (126 ≤ l1 ∧ l1 < N) → (0 ≤ l2.toInt) → (l2.toInt ≤ 16) → (xB S R) → (xW W) → (zTa R y = some l1) → (aS W S = zUw ab y l2.toInt) → (kC S = kk) → (zN0 S = n0) → ma_wp X d w 85 2 [(0, .inr (.inr (some 69))), (1, .inr (.inr (some l1))), (2, .inl l2)] [] S Q := by
  intro n
  induction n using Nat.strongRecOn with
  | _ n IH =>
    intro S l1 l2 hmu hI th_l1 hi0 hi1 hi2 hi3 hi4 hi5 hi6 hi7
    refine g_85_69_sk_2 l1 l2 (by omega) (by omega) (zG_T hI) ?_
    have li1 : (16 : Int32).toInt = 16 := rfl
    have b2 := i_bd l2
    refine zd (fun h3 => ?_) (fun h3 => ?_)
    · skip
      have g4 := i_le h3
      exact K _ hI (show xB S R from by first | (exact (xC_o (W := 75) hi2).2)) (show aS W S = zUw ab y 16 from by first | (rw [hi5, show l2.toInt = 16 from by omega])) (show kC S = kk from by first | (exact (xK_o (W := W) hi2 hi6).2)) (show zN0 S = n0 from by first | (exact hi7))
    · skip
      have g5 := i_nle h3
      refine ⟨i_ix (by omega) (by omega), ?_⟩
      refine ⟨zG_n hI th_l1, ?_⟩
      have b6 := i_bd (mI S 73 l2.toNatClampNeg)
      have f7 := zG_th hI th_l1
      refine zd (fun h8 => ?_) (fun h8 => ?_)
      · skip
        have g9 := i_eq h8
        refine ⟨i_ix (by omega) (by omega), ?_⟩
        have hI10 : zI f r C Z N (ma_put S 73 l2.toNatClampNeg (.inl (-1 : Int32))) := zG_fa hI rfl (by decide) (by decide) (by decide) trivial
        first | have e11 : (l2 + (1 : Int32)).toInt = l2.toInt + (1) := i_addk rfl (by omega) (by omega) | have b12 := i_bd (l2 + (1 : Int32))
        exact IH _ (by omega) _ l1 ((l2 + (1 : Int32))) rfl hI10 th_l1 (by omega) (by omega) (show xB (ma_put S 73 l2.toNatClampNeg (.inl (-1 : Int32))) R from by first | (exact (xC_p (c := 73) (k := l2.toNatClampNeg) (x := (-1 : Int32)) (xC_o (W := 75) hi2) 73 xW75 rfl rfl).2)) (show xW W from by first | (exact hi3) | (exact xW88) | (exact xW75)) (show zTa R y = some l1 from by first | (exact hi4)) (show aS W (ma_put S 73 l2.toNatClampNeg (.inl (-1 : Int32))) = zUw ab y ((l2 + (1 : Int32))).toInt from by first | (have q : mI S 73 l2.toNatClampNeg = ab 73 l2.toNatClampNeg := (((aS_I (W := W) (S := S) (c := 73) (c' := 73) (k := l2.toNatClampNeg) rfl (zcw_s (by decide))).symm.trans (congrFun (congrFun hi5 73) l2.toNatClampNeg)).trans zUw_r); refine (xC_p (c := 73) (k := l2.toNatClampNeg) (x := (-1 : Int32)) (xC_o (W := W) hi2) 73 hi3 rfl (zcw_s (by decide))).1.trans ?_; (try simp only [zp_e (c' := 73) th_l1.1 (by decide)]); rw [hi5]; refine zUw_y (by omega) (by omega) ?_; rw [← q, ← (xB_th (W := W) hi2 hi4).2.2.1]; assumption)) (show kC (ma_put S 73 l2.toNatClampNeg (.inl (-1 : Int32))) = kk from by first | (exact (xK_p (c := 73) (k := l2.toNatClampNeg) (x := (-1 : Int32)) (xK_o (W := W) hi2 hi6) 73 hi3 rfl (zcw_s (by decide))).2)) (show zN0 (ma_put S 73 l2.toNatClampNeg (.inl (-1 : Int32))) = n0 from by first | (exact ((n0_p (c := 73) (by decide)).trans hi7)))
      · skip
        have g13 := i_ne h8
        first | have e14 : (l2 + (1 : Int32)).toInt = l2.toInt + (1) := i_addk rfl (by omega) (by omega) | have b15 := i_bd (l2 + (1 : Int32))
        exact IH _ (by omega) _ l1 ((l2 + (1 : Int32))) rfl hI th_l1 (by omega) (by omega) (show xB S R from by first | (exact (xC_o (W := 75) hi2).2)) (show xW W from by first | (exact hi3) | (exact xW88) | (exact xW75)) (show zTa R y = some l1 from by first | (exact hi4)) (show aS W S = zUw ab y ((l2 + (1 : Int32))).toInt from by first | (have q : mI S 73 l2.toNatClampNeg = ab 73 l2.toNatClampNeg := (((aS_I (W := W) (S := S) (c := 73) (c' := 73) (k := l2.toNatClampNeg) rfl (zcw_s (by decide))).symm.trans (congrFun (congrFun hi5 73) l2.toNatClampNeg)).trans zUw_r); refine hi5.trans (zUw_n (by omega) (by omega) (fun z => ?_)); rw [← q, ← (xB_th (W := W) hi2 hi4).2.2.1] at z; exact absurd z (by assumption))) (show kC S = kk from by first | (exact (xK_o (W := W) hi2 hi6).2)) (show zN0 S = n0 from by first | (exact hi7))
theorem sp_85_69_sk {X : Nat × (Nat → Int32)} {d w : Nat} {f : Nat → Nat → Int32} {r : Nat → Nat → Option Nat} {C Z N : Nat} {Q : Option ma_V ⊕ Nat → ma_S → Prop} {ab : Nat→Nat→Int32} {R : zRT} {W : Nat} {kk : Nat→Int32} {y : Int32} {n0 : Nat→Nat→Int32} {S : ma_S} (t : Nat) (hd : 0 ≤ d) (hw : 0 ≤ w) (hI : zI f r C Z N S) (th_t : 126 ≤ t ∧ t < N) (hpre0 : xB S R) (hpre1 : aS W S = ab) (hpre2 : xW W) (hpre3 : zTa R y = some t) (hpre4 : kC S = kk) (hpre5 : zN0 S = n0) (K : ∀ S', zI f r C Z N S' → (xB S' R) → (aS W S' = zUw ab y 16) → (kC S' = kk) → (zN0 S' = n0) → Q (.inl none) S') : ma_wp X d w 85 0 [(0, .inr (.inr (some 69))), (1, .inr (.inr (some t)))] [] S Q := by
  refine g_85_69_sk_0 t (by omega) (by omega) (zG_T hI) ?_
  have li1 : (0 : Int32).toInt = 0 := rfl
  exact lp_85_69_sk_2 (by omega) (by omega) K _ _ t ((0 : Int32)) rfl hI th_t (by omega) (by omega) (show xB S R from by first | (exact (xC_o (W := 75) hpre0).2)) (show xW W from by first | (exact hpre2) | (exact xW88) | (exact xW75)) (show zTa R y = some t from by first | (exact hpre3)) (show aS W S = zUw ab y ((0 : Int32)).toInt from by first | (rw [hpre1]; exact zUw_0.symm)) (show kC S = kk from by first | (exact (xK_o (W := W) hpre0 hpre4).2)) (show zN0 S = n0 from by first | (exact hpre5))
