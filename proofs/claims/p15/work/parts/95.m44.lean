/-! COUNTS, the class (written by wip/tools/gen20k.py) -/
theorem g_103_84_sk_0 {X : Nat × (Nat → Int32)} {d w : Nat} {S : ma_S} {Q : Option ma_V ⊕ Nat → ma_S → Prop} (n : Int32) (hd : 4 ≤ d) (hw : 93 ≤ w) (hS : zT S) (h : if (mI S 84 1) = (0 : Int32) then (ma_wp X (d - 1) (w - 26) 104 0 [(0, .inr (.inr (some 84))), (1, .inl (0 : Int32)), (2, .inl (mI S 84 0)), (3, .inl n)] [] S (zi (fun v2 S1 => zT S1 ∧ (Q (.inl (some (.inl v2))) S1)) (fun x S9 => Q (.inr x) S9))) else (if (mI S 84 1) = (1 : Int32) then (ma_wp X (d - 1) (w - 22) 107 0 [(0, .inr (.inr (some 84))), (1, .inl n)] [] S (zi (fun v4 S3 => zT S3 ∧ (Q (.inl (some (.inl v4))) S3)) (fun x S9 => Q (.inr x) S9))) else (if (mI S 84 1) = (2 : Int32) then (ma_wp X (d - 1) (w - 28) 108 0 [(0, .inr (.inr (some 84))), (1, .inl n), (2, .inl (1 : Int32))] [] S (zi (fun v6 S5 => zT S5 ∧ (Q (.inl (some (.inl v6))) S5)) (fun x S9 => Q (.inr x) S9))) else (ma_wp X (d - 1) (w - 28) 108 0 [(0, .inr (.inr (some 84))), (1, .inl n), (2, .inl (0 : Int32))] [] S (zi (fun v8 S7 => zT S7 ∧ (Q (.inl (some (.inl v8))) S7)) (fun x S9 => Q (.inr x) S9)))))) : ma_wp X d w 103 0 [(0, .inr (.inr (some 84))), (1, .inl n)] [] S Q := by
  refine zw_push hm_103 dX8_fit_0 (v := .inr (.inr (some 84))) rfl ?_
  refine zw_gf hm_103 dX8_fit_1 (v := .inl (mI S 84 1)) (zT_is hS s_84) (zT_t hS s_84) rfl f_8_15_2 rfl ?_
  by_cases hc0 : (mI S 84 1) = (0 : Int32)
  · rw [if_pos hc0] at h
    refine zw_jmp hm_103 dX8_fit_4 (t := 32) (st' := []) rfl rfl rfl (ma_jmp_tab (by rw [hc0]; decide +kernel)) ?_
    refine zw_push hm_103 dX8_fit_32 (v := .inr (.inr (some 84))) rfl ?_
    refine zw_push hm_103 dX8_fit_33 (v := .inl (0 : Int32)) rfl ?_
    refine zw_push hm_103 dX8_fit_34 (v := .inr (.inr (some 84))) rfl ?_
    refine zw_gf hm_103 dX8_fit_35 (v := .inl (mI S 84 0)) (zT_is hS s_84) (zT_t hS s_84) rfl f_8_9_2 rfl ?_
    refine zw_push hm_103 dX8_fit_38 (v := .inl n) rfl ?_
    refine zw_cv hm_103 dX8_fit_39 v_8_56_2 hm_104 [.inl n, .inl (mI S 84 0), .inl (0 : Int32)] [] rfl (zT_rt hS s_84 rfl) ⟨by omega, by omega⟩ rfl (zw_mono h (zi_go ?_ ?_))
    · intro v2 S1 hv
      obtain ⟨hS1, h⟩ := hv
      exact zw_iret hm_103 dX8_fit_42 h
    · intro x S9 hx
      exact ⟨by decide, hx⟩
  rw [if_neg hc0] at h
  by_cases hc1 : (mI S 84 1) = (1 : Int32)
  · rw [if_pos hc1] at h
    refine zw_jmp hm_103 dX8_fit_4 (t := 43) (st' := []) rfl rfl rfl (ma_jmp_tab (by rw [hc1]; decide +kernel)) ?_
    refine zw_push hm_103 dX8_fit_43 (v := .inr (.inr (some 84))) rfl ?_
    refine zw_push hm_103 dX8_fit_44 (v := .inl n) rfl ?_
    refine zw_cv hm_103 dX8_fit_45 v_8_60_2 hm_107 [.inl n] [] rfl (zT_rt hS s_84 rfl) ⟨by omega, by omega⟩ rfl (zw_mono h (zi_go ?_ ?_))
    · intro v4 S3 hv
      obtain ⟨hS3, h⟩ := hv
      exact zw_iret hm_103 dX8_fit_48 h
    · intro x S9 hx
      exact ⟨by decide, hx⟩
  rw [if_neg hc1] at h
  by_cases hc2 : (mI S 84 1) = (2 : Int32)
  · rw [if_pos hc2] at h
    refine zw_jmp hm_103 dX8_fit_4 (t := 49) (st' := []) rfl rfl rfl (ma_jmp_tab (by rw [hc2]; decide +kernel)) ?_
    refine zw_push hm_103 dX8_fit_49 (v := .inr (.inr (some 84))) rfl ?_
    refine zw_push hm_103 dX8_fit_50 (v := .inl n) rfl ?_
    refine zw_push hm_103 dX8_fit_51 (v := .inl (1 : Int32)) rfl ?_
    refine zw_cv hm_103 dX8_fit_52 v_8_63_2 hm_108 [.inl (1 : Int32), .inl n] [] rfl (zT_rt hS s_84 rfl) ⟨by omega, by omega⟩ rfl (zw_mono h (zi_go ?_ ?_))
    · intro v6 S5 hv
      obtain ⟨hS5, h⟩ := hv
      exact zw_iret hm_103 dX8_fit_55 h
    · intro x S9 hx
      exact ⟨by decide, hx⟩
  rw [if_neg hc2] at h
  refine zw_jmp hm_103 dX8_fit_4 (t := 56) (st' := []) rfl rfl rfl (ma_jmp_def (m := 3) (by decide) (fun j hj => by
      have hj2 : j = 0 ∨ j = 1 ∨ j = 2 := by omega
      rcases hj2 with rfl | rfl | rfl
      · exact hc0
      · exact hc1
      · exact hc2
      ) rfl) ?_
  refine zw_push hm_103 dX8_fit_56 (v := .inr (.inr (some 84))) rfl ?_
  refine zw_push hm_103 dX8_fit_57 (v := .inl n) rfl ?_
  refine zw_push hm_103 dX8_fit_58 (v := .inl (0 : Int32)) rfl ?_
  refine zw_cv hm_103 dX8_fit_59 v_8_63_2 hm_108 [.inl (0 : Int32), .inl n] [] rfl (zT_rt hS s_84 rfl) ⟨by omega, by omega⟩ rfl (zw_mono h (zi_go ?_ ?_))
  · intro v8 S7 hv
    obtain ⟨hS7, h⟩ := hv
    exact zw_iret hm_103 dX8_fit_62 h
  · intro x S9 hx
    exact ⟨by decide, hx⟩
theorem sp_103_84_sk {X : Nat × (Nat → Int32)} {d w : Nat} {f : Nat → Nat → Int32} {r : Nat → Nat → Option Nat} {C Z N : Nat} {Q : Option ma_V ⊕ Nat → ma_S → Prop} {ab : Nat→Nat→Int32} {kk : Nat→Int32} {S : ma_S} (n : Int32) (hd : 4 ≤ d) (hw : 93 ≤ w) (hI : zJ84 f r C Z N S) (hpre0 : xB S (mR S 70)) (hpre1 : kC S = kk) (hpre2 : aT 84 S = ab) (K : ∀ v S', zJ84 f r C Z N S' → (-1 ≤ v.toInt ∧ v.toInt ≤ 1500) → (xB S' (mR S' 70)) → (kC S' = kk) → (aT 84 S' = ab) → (v.toInt = aFt ab n.toInt) → Q (.inl (some (.inl v))) S') : ma_wp X d w 103 0 [(0, .inr (.inr (some 84))), (1, .inl n)] [] S Q := by
  refine g_103_84_sk_0 n (by omega) (by omega) (zG_T hI) ?_
  have b1 := i_bd (mI S 84 1)
  have li2 : (0 : Int32).toInt = 0 := rfl
  refine zd (fun h3 => ?_) (fun h3 => ?_)
  · skip
    have g4 := i_eq h3
    have f5 := zG_s hI (0) (1500) (c := 84) (k := 0) (by decide)
    have b6 := i_bd n
    refine sp_104_84_sk (ab := (aT 84 S)) (kk := kk) ((0 : Int32)) ((mI S 84 0)) (n) (by omega) (by omega) hI (show xB S (mR S 70) from by first | (exact xB_x (xC_o (W := 75) hpre0).2)) (show kC S = kk from by first | (exact (xK_o (W := 75) hpre0 hpre1).2)) (show aT 84 S = (aT 84 S) from by first | (exact rfl) | (exact (tC (P := 84) (xC_o (W := 75) hpre0).1 (fun _ => rfl) (fun _ => rfl)).trans hpre2)) (by omega) (fun v2 S1 hI_S1 hp_v2 rp0_S1 rp1_S1 rp2_S1 rp3_S1 => zi_n ⟨zG_T hI_S1, ?_⟩)
    have rp0_S1 : xB S1 (mR S1 70) := rp0_S1
    have rp1_S1 : kC S1 = kk := rp1_S1
    have rp2_S1 : aT 84 S1 = (aT 84 S) := rp2_S1
    have rp3_S1 : v2.toInt = aFf (aT 84 S) n.toInt (mI S 84 0).toInt 4500 (aN (aT 84 S) (0 : Int32).toInt) := rp3_S1
    have b7 := i_bd v2
    exact K (v2) _ hI_S1 (by omega) (show xB S1 (mR S1 70) from by first | (exact xB_x (xC_o (W := 75) rp0_S1).2)) (show kC S1 = kk from by first | (exact (xK_o (W := 75) rp0_S1 rp1_S1).2)) (show aT 84 S1 = ab from by first | (exact rp2_S1.trans (hpre2))) (show v2.toInt = aFt ab n.toInt from by first | (have q := rp3_S1; rw [← (show aT 84 S 87 0 = mI S 84 0 from rfl), hpre2, show (0 : Int32).toInt = 0 from rfl] at q; refine q.trans ?_; unfold aFt; refine (if_pos ?_).symm; rw [← hpre2, (show aT 84 S 87 1 = mI S 84 1 from rfl)]; assumption))
  · skip
    have g8 := i_ne h3
    have li9 : (1 : Int32).toInt = 1 := rfl
    refine zd (fun h10 => ?_) (fun h10 => ?_)
    · skip
      have g11 := i_eq h10
      have b12 := i_bd n
      refine sp_107_84_sk (ab := (aT 84 S)) (kk := kk) (n) (by omega) (by omega) hI (show xB S (mR S 70) from by first | (exact xB_x (xC_o (W := 75) hpre0).2)) (show kC S = kk from by first | (exact (xK_o (W := 75) hpre0 hpre1).2)) (show aT 84 S = (aT 84 S) from by first | (exact rfl)) (fun v4 S3 hI_S3 hp_v4 rp0_S3 rp1_S3 rp2_S3 rp3_S3 => zi_n ⟨zG_T hI_S3, ?_⟩)
      have rp0_S3 : xB S3 (mR S3 70) := rp0_S3
      have rp1_S3 : kC S3 = kk := rp1_S3
      have rp2_S3 : aT 84 S3 = (aT 84 S) := rp2_S3
      have rp3_S3 : v4.toInt = aFx (aT 84 S) n.toInt := rp3_S3
      have b13 := i_bd v4
      exact K (v4) _ hI_S3 (by omega) (show xB S3 (mR S3 70) from by first | (exact xB_x (xC_o (W := 75) rp0_S3).2)) (show kC S3 = kk from by first | (exact (xK_o (W := 75) rp0_S3 rp1_S3).2)) (show aT 84 S3 = ab from by first | (exact rp2_S3.trans (hpre2))) (show v4.toInt = aFt ab n.toInt from by first | (have q := rp3_S3; rw [hpre2] at q; refine q.trans ?_; unfold aFt; rw [← hpre2, (show aT 84 S 87 1 = mI S 84 1 from rfl)]; exact ((if_neg (by assumption)).trans (if_pos (by assumption))).symm))
    · skip
      have g14 := i_ne h10
      have li15 : (2 : Int32).toInt = 2 := rfl
      refine zd (fun h16 => ?_) (fun h16 => ?_)
      · skip
        have g17 := i_eq h16
        have b18 := i_bd n
        refine sp_108_84_sk (ab := (aT 84 S)) (kk := kk) (n) ((1 : Int32)) (by omega) (by omega) hI (show xB S (mR S 70) from by first | (exact xB_x (xC_o (W := 75) hpre0).2)) (show kC S = kk from by first | (exact (xK_o (W := 75) hpre0 hpre1).2)) (show aT 84 S = (aT 84 S) from by first | (exact rfl) | (exact (tC (P := 84) (xC_o (W := 75) hpre0).1 (fun _ => rfl) (fun _ => rfl)).trans hpre2)) (fun v6 S5 hI_S5 hp_v6 rp0_S5 rp1_S5 rp2_S5 rp3_S5 => zi_n ⟨zG_T hI_S5, ?_⟩)
        have rp0_S5 : xB S5 (mR S5 70) := rp0_S5
        have rp1_S5 : kC S5 = kk := rp1_S5
        have rp2_S5 : aT 84 S5 = (aT 84 S) := rp2_S5
        have rp3_S5 : v6.toInt = aFl (aT 84 S) n.toInt (1 : Int32) 4500 (aN (aT 84 S) 0) (-1) 0 := rp3_S5
        have b19 := i_bd v6
        exact K (v6) _ hI_S5 (by omega) (show xB S5 (mR S5 70) from by first | (exact xB_x (xC_o (W := 75) rp0_S5).2)) (show kC S5 = kk from by first | (exact (xK_o (W := 75) rp0_S5 rp1_S5).2)) (show aT 84 S5 = ab from by first | (exact rp2_S5.trans (hpre2))) (show v6.toInt = aFt ab n.toInt from by first | (have q := rp3_S5; rw [hpre2] at q; refine q.trans ?_; unfold aFt; rw [← hpre2, (show aT 84 S 87 1 = mI S 84 1 from rfl)]; exact ((if_neg (by assumption)).trans ((if_neg (by assumption)).trans (if_pos (by assumption)))).symm) | (have q := rp3_S5; rw [hpre2] at q; refine q.trans ?_; unfold aFt; rw [← hpre2, (show aT 84 S 87 1 = mI S 84 1 from rfl)]; exact ((if_neg (by assumption)).trans ((if_neg (by assumption)).trans (if_neg (by assumption)))).symm))
      · skip
        have g20 := i_ne h16
        have b21 := i_bd n
        refine sp_108_84_sk (ab := (aT 84 S)) (kk := kk) (n) ((0 : Int32)) (by omega) (by omega) hI (show xB S (mR S 70) from by first | (exact xB_x (xC_o (W := 75) hpre0).2)) (show kC S = kk from by first | (exact (xK_o (W := 75) hpre0 hpre1).2)) (show aT 84 S = (aT 84 S) from by first | (exact rfl) | (exact (tC (P := 84) (xC_o (W := 75) hpre0).1 (fun _ => rfl) (fun _ => rfl)).trans hpre2)) (fun v8 S7 hI_S7 hp_v8 rp0_S7 rp1_S7 rp2_S7 rp3_S7 => zi_n ⟨zG_T hI_S7, ?_⟩)
        have rp0_S7 : xB S7 (mR S7 70) := rp0_S7
        have rp1_S7 : kC S7 = kk := rp1_S7
        have rp2_S7 : aT 84 S7 = (aT 84 S) := rp2_S7
        have rp3_S7 : v8.toInt = aFl (aT 84 S) n.toInt (0 : Int32) 4500 (aN (aT 84 S) 0) (-1) 0 := rp3_S7
        have b22 := i_bd v8
        exact K (v8) _ hI_S7 (by omega) (show xB S7 (mR S7 70) from by first | (exact xB_x (xC_o (W := 75) rp0_S7).2)) (show kC S7 = kk from by first | (exact (xK_o (W := 75) rp0_S7 rp1_S7).2)) (show aT 84 S7 = ab from by first | (exact rp2_S7.trans (hpre2))) (show v8.toInt = aFt ab n.toInt from by first | (have q := rp3_S7; rw [hpre2] at q; refine q.trans ?_; unfold aFt; rw [← hpre2, (show aT 84 S 87 1 = mI S 84 1 from rfl)]; exact ((if_neg (by assumption)).trans ((if_neg (by assumption)).trans (if_pos (by assumption)))).symm) | (have q := rp3_S7; rw [hpre2] at q; refine q.trans ?_; unfold aFt; rw [← hpre2, (show aT 84 S 87 1 = mI S 84 1 from rfl)]; exact ((if_neg (by assumption)).trans ((if_neg (by assumption)).trans (if_neg (by assumption)))).symm))
theorem g_102_84_sk_0 {X : Nat × (Nat → Int32)} {d w : Nat} {S : ma_S} {Q : Option ma_V ⊕ Nat → ma_S → Prop} (z : Int32) (hd : 5 ≤ d) (hw : 114 ≤ w) (hS : zT S) (h : ma_wp X (d - 1) (w - 21) 103 0 [(0, .inr (.inr (some 84))), (1, .inl z)] [] S (zi (fun v2 S1 => zT S1 ∧ (if v2 = (-1 : Int32) then (ma_wp X (d - 1) (w - 20) 109 0 [(0, .inr (.inr (some 84)))] [] S1 (zi (fun v4 S3 => zT S3 ∧ (ma_wp X (d - 1) (w - 21) 103 0 [(0, .inr (.inr (some 84))), (1, .inl z)] [] S3 (zi (fun v6 S5 => zT S5 ∧ (Q (.inl (some (.inl v6))) S5)) (fun x S9 => Q (.inr x) S9)))) (fun x S9 => Q (.inr x) S9))) else (Q (.inl (some (.inl v2))) S1))) (fun x S9 => Q (.inr x) S9))) : ma_wp X d w 102 0 [(0, .inr (.inr (some 84))), (1, .inl z)] [] S Q := by
  refine zw_push hm_102 dX8_findRoom_0 (v := .inr (.inr (some 84))) rfl ?_
  refine zw_push hm_102 dX8_findRoom_1 (v := .inl z) rfl ?_
  refine zw_cv hm_102 dX8_findRoom_2 v_8_21_2 hm_103 [.inl z] [] rfl (zT_rt hS s_84 rfl) ⟨by omega, by omega⟩ rfl (zw_mono h (zi_go ?_ ?_))
  · intro v2 S1 hv
    obtain ⟨hS1, h⟩ := hv
    refine zw_sto hm_102 dX8_findRoom_5 [(2, .inl v2), (0, .inr (.inr (some 84))), (1, .inl z)] rfl rfl rfl ?_
    refine zw_push hm_102 dX8_findRoom_6 (v := .inl v2) rfl ?_
    refine zw_push hm_102 dX8_findRoom_7 (v := .inl (-1 : Int32)) rfl ?_
    refine zw_if2 hm_102 dX8_findRoom_8 (t := 22) rfl zc2_ne ?_ ?_
    · intro hc
      rw [if_neg hc] at h
      refine zw_push hm_102 dX8_findRoom_22 (v := .inl v2) rfl ?_
      exact zw_iret hm_102 dX8_findRoom_23 h
    · intro hc
      rw [if_pos (Classical.not_not.mp hc)] at h
      refine zw_push hm_102 dX8_findRoom_11 (v := .inr (.inr (some 84))) rfl ?_
      refine zw_cv hm_102 dX8_findRoom_12 v_8_25_2 hm_109 [] [] rfl (zT_rt hS1 s_84 rfl) ⟨by omega, by omega⟩ rfl (zw_mono h (zi_go ?_ ?_))
      · intro v4 S3 hv
        obtain ⟨hS3, h⟩ := hv
        refine zw_stk hm_102 dX8_findRoom_15 (st' := []) rfl rfl ?_
        refine zw_push hm_102 dX8_findRoom_16 (v := .inr (.inr (some 84))) rfl ?_
        refine zw_push hm_102 dX8_findRoom_17 (v := .inl z) rfl ?_
        refine zw_cv hm_102 dX8_findRoom_18 v_8_21_2 hm_103 [.inl z] [] rfl (zT_rt hS3 s_84 rfl) ⟨by omega, by omega⟩ rfl (zw_mono h (zi_go ?_ ?_))
        · intro v6 S5 hv
          obtain ⟨hS5, h⟩ := hv
          refine zw_sto hm_102 dX8_findRoom_21 [(2, .inl v6), (0, .inr (.inr (some 84))), (1, .inl z)] rfl rfl rfl ?_
          refine zw_push hm_102 dX8_findRoom_22 (v := .inl v6) rfl ?_
          exact zw_iret hm_102 dX8_findRoom_23 h
        · intro x S9 hx
          exact ⟨by decide, hx⟩
      · intro x S9 hx
        exact ⟨by decide, hx⟩
  · intro x S9 hx
    exact ⟨by decide, hx⟩
theorem sp_102_84_sk {X : Nat × (Nat → Int32)} {d w : Nat} {f : Nat → Nat → Int32} {r : Nat → Nat → Option Nat} {C Z N : Nat} {Q : Option ma_V ⊕ Nat → ma_S → Prop} {ab : Nat→Nat→Int32} {B : Int} {S : ma_S} (z : Int32) (hd : 5 ≤ d) (hw : 114 ≤ w) (hI : zJ84 f r C Z N S) (hpre0 : xB S (mR S 70)) (hpre1 : aT 84 S = ab) (hpre2 : cC ab [] (kC S) B) (hpre3 : qI ab) (K : ∀ v S', zJ84 f r C Z N S' → (-1 ≤ v.toInt ∧ v.toInt ≤ 1500) → (xB S' (mR S' 70)) → (aT 84 S' = zRs ab z.toInt ∧ v.toInt = zRp ab z.toInt) → (cC (aT 84 S') [] (kC S') B) → Q (.inl (some (.inl v))) S') : ma_wp X d w 102 0 [(0, .inr (.inr (some 84))), (1, .inl z)] [] S Q := by
  refine g_102_84_sk_0 z (by omega) (by omega) (zG_T hI) ?_
  have b1 := i_bd z
  refine sp_103_84_sk (ab := (aT 84 S)) (kk := (kC S)) (z) (by omega) (by omega) hI (show xB S (mR S 70) from by first | (exact xB_x (xC_o (W := 75) hpre0).2)) (show kC S = (kC S) from by first | (exact rfl)) (show aT 84 S = (aT 84 S) from by first | (exact rfl)) (fun v2 S1 hI_S1 hp_v2 rp0_S1 rp1_S1 rp2_S1 rp3_S1 => zi_n ⟨zG_T hI_S1, ?_⟩)
  have rp0_S1 : xB S1 (mR S1 70) := rp0_S1
  have rp1_S1 : kC S1 = (kC S) := rp1_S1
  have rp2_S1 : aT 84 S1 = (aT 84 S) := rp2_S1
  have rp3_S1 : v2.toInt = aFt (aT 84 S) z.toInt := rp3_S1
  have b2 := i_bd v2
  have li3 : (-1 : Int32).toInt = -1 := rfl
  refine zd (fun h4 => ?_) (fun h4 => ?_)
  · skip
    have g5 := i_eq h4
    refine sp_109_84_sk (ab := (aS 75 S1)) (fp := (mI S1 84)) (by omega) (by omega) hI_S1 (show xB S1 (mR S1 70) from by first | (exact xB_x (xC_o (W := 75) rp0_S1).2)) (show aS 75 S1 = (aS 75 S1) from by first | (exact rfl)) (show (mI S1 84) = (mI S1 84) from by first | (exact rfl)) (show kJ (aS 75 S1) (kC S1) from by first | (have k1 := rp2_S1.trans hpre1; refine J_o8 (T_o8 (P := 84)) ?_; rw [k1, rp1_S1]; exact C_J hpre2)) (fun v4 S3 hI_S3 hp_v4 rp0_S3 rp1_S3 rp2_S3 rp3_S3 => zi_n ⟨zG_T hI_S3, ?_⟩)
    have rp0_S3 : xB S3 (mR S3 70) := rp0_S3
    have rp1_S3 : aS 75 S3 = aSw (aS 75 S1) ∧ v4 = aSv (aS 75 S1) := rp1_S3
    have rp2_S3 : (mI S3 84) = (mI S1 84) := rp2_S3
    have rp3_S3 : kJ (aS 75 S3) (kC S3) := rp3_S3
    refine sp_103_84_sk (ab := (aT 84 S3)) (kk := (kC S3)) (z) (by omega) (by omega) hI_S3 (show xB S3 (mR S3 70) from by first | (exact xB_x (xC_o (W := 75) rp0_S3).2)) (show kC S3 = (kC S3) from by first | (exact rfl)) (show aT 84 S3 = (aT 84 S3) from by first | (exact rfl)) (fun v6 S5 hI_S5 hp_v6 rp0_S5 rp1_S5 rp2_S5 rp3_S5 => zi_n ⟨zG_T hI_S5, ?_⟩)
    have rp0_S5 : xB S5 (mR S5 70) := rp0_S5
    have rp1_S5 : kC S5 = (kC S3) := rp1_S5
    have rp2_S5 : aT 84 S5 = (aT 84 S3) := rp2_S5
    have rp3_S5 : v6.toInt = aFt (aT 84 S3) z.toInt := rp3_S5
    have b6 := i_bd v6
    exact K (v6) _ hI_S5 (by omega) (show xB S5 (mR S5 70) from by first | (exact xB_x (xC_o (W := 75) rp0_S5).2)) (show aT 84 S5 = zRs ab z.toInt ∧ v6.toInt = zRp ab z.toInt from by first | (have k1 := rp2_S1.trans hpre1; have v1 := rp3_S1; rw [hpre1] at v1; have k2 := (T_sw (P := 84) rp1_S3.1 (zf_84 rp2_S3)).trans (congrArg aSw k1); have k3 := rp2_S5.trans k2; have v3 := rp3_S5; rw [k2] at v3; have E := zRs_2 (a := ab) (z := z.toInt) (by rw [← v1]; omega); exact ⟨k3.trans E.symm, (by rw [zRp, E]; exact v3)⟩)) (show cC (aT 84 S5) [] (kC S5) B from by first | (have k1 := rp2_S1.trans hpre1; have k2 := (T_sw (P := 84) rp1_S3.1 (zf_84 rp2_S3)).trans (congrArg aSw k1); have k3 := rp2_S5.trans k2; have j := J_o8 (O8_sy (T_o8 (P := 84))) rp3_S3; rw [k2] at j; rw [k3, rp1_S5]; exact C_sw hpre3 hpre2 j))
  · skip
    have g7 := i_ne h4
    exact K (v2) _ hI_S1 (by omega) (show xB S1 (mR S1 70) from by first | (exact xB_x (xC_o (W := 75) rp0_S1).2)) (show aT 84 S1 = zRs ab z.toInt ∧ v2.toInt = zRp ab z.toInt from by first | (have k1 := rp2_S1.trans hpre1; have v1 := rp3_S1; rw [hpre1] at v1; have E := zRs_1 (a := ab) (z := z.toInt) (by rw [← v1]; omega); exact ⟨k1.trans E.symm, (by rw [zRp, E]; exact v1)⟩)) (show cC (aT 84 S1) [] (kC S1) B from by first | (have k1 := rp2_S1.trans hpre1; rw [k1, rp1_S1]; exact hpre2))
theorem g_159_64_sk_p84_0 {X : Nat × (Nat → Int32)} {d w : Nat} {S : ma_S} {Q : Option ma_V ⊕ Nat → ma_S → Prop}  (hd : 7 ≤ d) (hw : 179 ≤ w) (hS : zT S) (h : mR S 64 11 = some 84 ∧ (mR S 64 11 = some 84 ∧ (ma_wp X (d - 1) (w - 20) 109 0 [(0, .inr (.inr (some 84)))] [] S (zi (fun v2 S1 => zT S1 ∧ (Q (.inl (some (.inl v2))) S1)) (fun _ _ => False))))) : ma_wp X d w 159 0 [(0, .inr (.inr (some 64)))] [] S Q := by
  refine zw_push hm_159 dX11_clean_0 (v := .inr (.inr (some 64))) rfl ?_
  refine zw_cv hm_159 dX11_clean_1 v_11_119_11 hm_144 [] [] rfl (zT_rt hS s_64 rfl) ⟨by omega, by omega⟩ rfl ?_
  show ma_wp X (d - 1) (w - 20) 144 0 [(0, .inr (.inr (some 64)))] [] S _
  refine zw_push hm_144 dX11_needCollector_0 (v := .inr (.inr (some 64))) rfl ?_
  obtain ⟨hg, h⟩ := h
  refine zw_gf hm_144 dX11_needCollector_1 (v := .inr (.inr (some 84))) (zT_is hS s_64) (zT_t hS s_64) rfl f_11_98_11 (congrArg (fun z => Sum.inr (Sum.inr z)) hg) ?_
  refine zw_ifnonnull hm_144 dX11_needCollector_4 (t := 15) rfl (fun z => by cases z) (fun _ _ => ?_)
  refine zw_push hm_144 dX11_needCollector_15 (v := .inr (.inr (some 64))) rfl ?_
  obtain ⟨hg, h⟩ := h
  refine zw_gf hm_144 dX11_needCollector_16 (v := .inr (.inr (some 84))) (zT_is hS s_64) (zT_t hS s_64) rfl f_11_98_11 (congrArg (fun z => Sum.inr (Sum.inr z)) hg) ?_
  refine zw_aret hm_144 dX11_needCollector_19 ?_
  show ma_wp X d w 159 4 [(0, .inr (.inr (some 64)))] [.inr (.inr (some 84))] S _
  refine zw_cv hm_159 dX11_clean_4 v_11_207_2 hm_109 [] [] rfl (zT_rt hS s_84 rfl) ⟨by omega, by omega⟩ rfl (zw_mono h (zi_go ?_ ?_))
  · intro v2 S1 hv
    obtain ⟨hS1, h⟩ := hv
    exact zw_iret hm_159 dX11_clean_7 h
  · intro x S9 hx
    exact hx.elim
theorem sp_159_64_sk_p84 {X : Nat × (Nat → Int32)} {d w : Nat} {f : Nat → Nat → Int32} {r : Nat → Nat → Option Nat} {C Z N : Nat} {Q : Option ma_V ⊕ Nat → ma_S → Prop} {ab : Nat→Nat→Int32} {B : Int} {S : ma_S}  (hd : 7 ≤ d) (hw : 179 ≤ w) (hI : zB f r C Z N S) (hr : r 64 11 = some 84) (hpre0 : xB S (mR S 70)) (hpre1 : aT 84 S = ab) (hpre2 : cC ab [] (kC S) B) (hpre3 : qI ab) (K : ∀ v S', zB f r C Z N S' → (True) → (xB S' (mR S' 70)) → (aT 84 S' = aSw ab ∧ v = aSv ab) → (cC (aT 84 S') [] (kC S') B) → Q (.inl (some (.inl v))) S') : ma_wp X d w 159 0 [(0, .inr (.inr (some 64)))] [] S Q := by
  refine g_159_64_sk_p84_0  (by omega) (by omega) (zG_T hI) ?_
  refine ⟨((zG_r hI (by decide)).trans hr), ?_⟩
  refine ⟨((zG_r hI (by decide)).trans hr), ?_⟩
  refine sp_109_84_sk (ab := (aS 75 S)) (fp := (mI S 84)) (by omega) (by omega) (zB_dn_zJ84 hI) (show xB S (mR S 70) from by first | (exact xB_x (xC_o (W := 75) hpre0).2)) (show aS 75 S = (aS 75 S) from by first | (exact rfl)) (show (mI S 84) = (mI S 84) from by first | (exact rfl)) (show kJ (aS 75 S) (kC S) from by first | (exact J_o8 (T_o8 (P := 84)) (by rw [hpre1]; exact C_J hpre2))) (fun v2 S1 hL_S1 hp_v2 rp0_S1 rp1_S1 rp2_S1 rp3_S1 => zi_n ⟨zG_T hL_S1, ?_⟩)
  have hI_S1 := zB_up_zJ84 hI hL_S1
  have rp0_S1 : xB S1 (mR S1 70) := by
    have z := rp0_S1
    (try rw [show mI S 65 = f 65 from funext (fun k => zG_z hI rfl)] at z)
    (try rw [show mI S 64 1 = f 64 1 from zG_z hI rfl] at z)
    exact z
  have rp1_S1 : aS 75 S1 = aSw (aS 75 S) ∧ v2 = aSv (aS 75 S) := by
    have z := rp1_S1
    (try rw [show mI S 65 = f 65 from funext (fun k => zG_z hI rfl)] at z)
    (try rw [show mI S 64 1 = f 64 1 from zG_z hI rfl] at z)
    exact z
  have rp2_S1 : (mI S1 84) = (mI S 84) := by
    have z := rp2_S1
    (try rw [show mI S 65 = f 65 from funext (fun k => zG_z hI rfl)] at z)
    (try rw [show mI S 64 1 = f 64 1 from zG_z hI rfl] at z)
    exact z
  have rp3_S1 : kJ (aS 75 S1) (kC S1) := by
    have z := rp3_S1
    (try rw [show mI S 65 = f 65 from funext (fun k => zG_z hI rfl)] at z)
    (try rw [show mI S 64 1 = f 64 1 from zG_z hI rfl] at z)
    exact z
  have b1 := i_bd v2
  exact K (v2) _ hI_S1 trivial (show xB S1 (mR S1 70) from by first | (exact xB_x (xC_o (W := 75) rp0_S1).2)) (show aT 84 S1 = aSw ab ∧ v2 = aSv ab from by first | (have z := rp1_S1; refine ⟨(T_sw z.1 (zf_84 rp2_S1)).trans (congrArg aSw hpre1), z.2.trans (T_sv.trans (congrArg aSv hpre1))⟩)) (show cC (aT 84 S1) [] (kC S1) B from by first | (have k2 := (T_sw (P := 84) rp1_S1.1 (zf_84 rp2_S1)).trans (congrArg aSw hpre1); have j := J_o8 (O8_sy (T_o8 (P := 84))) rp3_S1; rw [k2] at j; rw [k2]; exact C_sw hpre3 hpre2 j))
