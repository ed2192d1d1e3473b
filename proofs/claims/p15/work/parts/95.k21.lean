/-! the collectors that sweep, the class (written by wip/tools/gen20.py) -/
theorem g_103_84_s_0 {X : Nat × (Nat → Int32)} {d w : Nat} {S : ma_S} {Q : Option ma_V ⊕ Nat → ma_S → Prop} (n : Int32) (hd : 4 ≤ d) (hw : 93 ≤ w) (hS : zT S) (h : if (mI S 84 1) = (0 : Int32) then (ma_wp X (d - 1) (w - 26) 104 0 [(0, .inr (.inr (some 84))), (1, .inl (0 : Int32)), (2, .inl (mI S 84 0)), (3, .inl n)] [] S (zi (fun v2 S1 => zT S1 ∧ (Q (.inl (some (.inl v2))) S1)) (fun x S9 => Q (.inr x) S9))) else (if (mI S 84 1) = (1 : Int32) then (ma_wp X (d - 1) (w - 22) 107 0 [(0, .inr (.inr (some 84))), (1, .inl n)] [] S (zi (fun v4 S3 => zT S3 ∧ (Q (.inl (some (.inl v4))) S3)) (fun x S9 => Q (.inr x) S9))) else (if (mI S 84 1) = (2 : Int32) then (ma_wp X (d - 1) (w - 28) 108 0 [(0, .inr (.inr (some 84))), (1, .inl n), (2, .inl (1 : Int32))] [] S (zi (fun v6 S5 => zT S5 ∧ (Q (.inl (some (.inl v6))) S5)) (fun x S9 => Q (.inr x) S9))) else (ma_wp X (d - 1) (w - 28) 108 0 [(0, .inr (.inr (some 84))), (1, .inl n), (2, .inl (0 : Int32))] [] S (zi (fun v8 S7 => zT S7 ∧ (Q (.inl (some (.inl v8))) S7)) (fun x S9 => Q (.inr x) S9)))))) : ma_wp X d w 103 0 [(0, .inr (.inr (some 84))), (1, .inl n)] [] S Q := by
  refine zw_push hm_103 dX8_fit_0 (v := .inr (.inr (some 84))) rfl ?_
  refine zw_gf hm_103 dX8_fit_1 (v := .inl (mI S 84 1)) (zT_is hS s_84) (zT_t hS s_84) rfl f_8_15_2 rfl ?_
  by_cases hc0 : (mI S 84 1) = (0 : Int32)
  · rw [if_pos hc0] at h
    refine zw_jmp hm_103 dX8_fit_4 (t := 32) (st' := []) rfl rfl rfl (ma_jmp_tab (by rw [hc0]; decide +kernel)) ?_
    refine zw_push hm_103 dX8_fit_32 (v := .inr (.inr (some 84))) rfl ?_
    refine zw_push hm_103 dX8_fit_33 (v := .inl (0 : Int32)) rfl ?_
    refine zw_push hm_103 dX8_fit_34 (v := .inr (.inr (some 84))) rfl ?_
    refine zw_gf hm_103 dX8_fit_35 (v := .inl (mI S 84 0)) (zT_is hS s_84) (zT_t hS s_84) rfl f_8_9_2 rfl ?_
    refine zw_push hm_103 dX8_fit_38 (v := .inl n) rfl ?_
    refine zw_cv hm_103 dX8_fit_39 v_8_56_2 hm_104 [.inl n, .inl (mI S 84 0), .inl (0 : Int32)] [] rfl (zT_rt hS s_84 rfl) ⟨by omega, by omega⟩ rfl (zw_mono h (zi_go ?_ ?_))
    · intro v2 S1 hv
      obtain ⟨hS1, h⟩ := hv
      exact zw_iret hm_103 dX8_fit_42 h
    · intro x S9 hx
      exact ⟨by decide, hx⟩
  rw [if_neg hc0] at h
  by_cases hc1 : (mI S 84 1) = (1 : Int32)
  · rw [if_pos hc1] at h
    refine zw_jmp hm_103 dX8_fit_4 (t := 43) (st' := []) rfl rfl rfl (ma_jmp_tab (by rw [hc1]; decide +kernel)) ?_
    refine zw_push hm_103 dX8_fit_43 (v := .inr (.inr (some 84))) rfl ?_
    refine zw_push hm_103 dX8_fit_44 (v := .inl n) rfl ?_
    refine zw_cv hm_103 dX8_fit_45 v_8_60_2 hm_107 [.inl n] [] rfl (zT_rt hS s_84 rfl) ⟨by omega, by omega⟩ rfl (zw_mono h (zi_go ?_ ?_))
    · intro v4 S3 hv
      obtain ⟨hS3, h⟩ := hv
      exact zw_iret hm_103 dX8_fit_48 h
    · intro x S9 hx
      exact ⟨by decide, hx⟩
  rw [if_neg hc1] at h
  by_cases hc2 : (mI S 84 1) = (2 : Int32)
  · rw [if_pos hc2] at h
    refine zw_jmp hm_103 dX8_fit_4 (t := 49) (st' := []) rfl rfl rfl (ma_jmp_tab (by rw [hc2]; decide +kernel)) ?_
    refine zw_push hm_103 dX8_fit_49 (v := .inr (.inr (some 84))) rfl ?_
    refine zw_push hm_103 dX8_fit_50 (v := .inl n) rfl ?_
    refine zw_push hm_103 dX8_fit_51 (v := .inl (1 : Int32)) rfl ?_
    refine zw_cv hm_103 dX8_fit_52 v_8_63_2 hm_108 [.inl (1 : Int32), .inl n] [] rfl (zT_rt hS s_84 rfl) ⟨by omega, by omega⟩ rfl (zw_mono h (zi_go ?_ ?_))
    · intro v6 S5 hv
      obtain ⟨hS5, h⟩ := hv
      exact zw_iret hm_103 dX8_fit_55 h
    · intro x S9 hx
      exact ⟨by decide, hx⟩
  rw [if_neg hc2] at h
  refine zw_jmp hm_103 dX8_fit_4 (t := 56) (st' := []) rfl rfl rfl (ma_jmp_def (m := 3) (by decide) (fun j hj => by
      have hj2 : j = 0 ∨ j = 1 ∨ j = 2 := by omega
      rcases hj2 with rfl | rfl | rfl
      · exact hc0
      · exact hc1
      · exact hc2
      ) rfl) ?_
  refine zw_push hm_103 dX8_fit_56 (v := .inr (.inr (some 84))) rfl ?_
  refine zw_push hm_103 dX8_fit_57 (v := .inl n) rfl ?_
  refine zw_push hm_103 dX8_fit_58 (v := .inl (0 : Int32)) rfl ?_
  refine zw_cv hm_103 dX8_fit_59 v_8_63_2 hm_108 [.inl (0 : Int32), .inl n] [] rfl (zT_rt hS s_84 rfl) ⟨by omega, by omega⟩ rfl (zw_mono h (zi_go ?_ ?_))
  · intro v8 S7 hv
    obtain ⟨hS7, h⟩ := hv
    exact zw_iret hm_103 dX8_fit_62 h
  · intro x S9 hx
    exact ⟨by decide, hx⟩
theorem sp_103_84_s {X : Nat × (Nat → Int32)} {d w : Nat} {f : Nat → Nat → Int32} {r : Nat → Nat → Option Nat} {C Z N : Nat} {Q : Option ma_V ⊕ Nat → ma_S → Prop} {ab : Nat→Nat→Int32} {S : ma_S} (n : Int32) (hd : 4 ≤ d) (hw : 93 ≤ w) (hI : zJ84 f r C Z N S) (hpre0 : xB S (mR S 70)) (hpre1 : aT 84 S = ab) (K : ∀ v S', zJ84 f r C Z N S' → (-1 ≤ v.toInt ∧ v.toInt ≤ 1500) → (xB S' (mR S' 70)) → (aT 84 S' = ab) → (v.toInt = aFt ab n.toInt) → Q (.inl (some (.inl v))) S') : ma_wp X d w 103 0 [(0, .inr (.inr (some 84))), (1, .inl n)] [] S Q := by
  refine g_103_84_s_0 n (by omega) (by omega) (zG_T hI) ?_
  have b1 := i_bd (mI S 84 1)
  have li2 : (0 : Int32).toInt = 0 := rfl
  refine zd (fun h3 => ?_) (fun h3 => ?_)
  · skip
    have g4 := i_eq h3
    have f5 := zG_s hI (0) (1500) (c := 84) (k := 0) (by decide)
    have b6 := i_bd n
    refine sp_104_84_s (ab := (aT 84 S)) ((0 : Int32)) ((mI S 84 0)) (n) (by omega) (by omega) hI (show xB S (mR S 70) from by first | (exact xB_x (xC_o (W := 75) hpre0).2)) (show aT 84 S = (aT 84 S) from by first | (exact rfl) | (exact (tC (P := 84) (xC_o (W := 75) hpre0).1 (fun _ => rfl) (fun _ => rfl)).trans hpre1)) (by omega) (fun v2 S1 hI_S1 hp_v2 rp0_S1 rp1_S1 rp2_S1 => zi_n ⟨zG_T hI_S1, ?_⟩)
    have rp0_S1 : xB S1 (mR S1 70) := rp0_S1
    have rp1_S1 : aT 84 S1 = (aT 84 S) := rp1_S1
    have rp2_S1 : v2.toInt = aFf (aT 84 S) n.toInt (mI S 84 0).toInt 4500 (aN (aT 84 S) (0 : Int32).toInt) := rp2_S1
    have b7 := i_bd v2
    exact K (v2) _ hI_S1 (by omega) (show xB S1 (mR S1 70) from by first | (exact xB_x (xC_o (W := 75) rp0_S1).2)) (show aT 84 S1 = ab from by first | (exact rp1_S1.trans (hpre1))) (show v2.toInt = aFt ab n.toInt from by first | (have q := rp2_S1; rw [← (show aT 84 S 87 0 = mI S 84 0 from rfl), hpre1, show (0 : Int32).toInt = 0 from rfl] at q; refine q.trans ?_; unfold aFt; refine (if_pos ?_).symm; rw [← hpre1, (show aT 84 S 87 1 = mI S 84 1 from rfl)]; assumption))
  · skip
    have g8 := i_ne h3
    have li9 : (1 : Int32).toInt = 1 := rfl
    refine zd (fun h10 => ?_) (fun h10 => ?_)
    · skip
      have g11 := i_eq h10
      have b12 := i_bd n
      refine sp_107_84_s (ab := (aT 84 S)) (n) (by omega) (by omega) hI (show xB S (mR S 70) from by first | (exact xB_x (xC_o (W := 75) hpre0).2)) (show aT 84 S = (aT 84 S) from by first | (exact rfl)) (fun v4 S3 hI_S3 hp_v4 rp0_S3 rp1_S3 rp2_S3 => zi_n ⟨zG_T hI_S3, ?_⟩)
      have rp0_S3 : xB S3 (mR S3 70) := rp0_S3
      have rp1_S3 : aT 84 S3 = (aT 84 S) := rp1_S3
      have rp2_S3 : v4.toInt = aFx (aT 84 S) n.toInt := rp2_S3
      have b13 := i_bd v4
      exact K (v4) _ hI_S3 (by omega) (show xB S3 (mR S3 70) from by first | (exact xB_x (xC_o (W := 75) rp0_S3).2)) (show aT 84 S3 = ab from by first | (exact rp1_S3.trans (hpre1))) (show v4.toInt = aFt ab n.toInt from by first | (have q := rp2_S3; rw [hpre1] at q; refine q.trans ?_; unfold aFt; rw [← hpre1, (show aT 84 S 87 1 = mI S 84 1 from rfl)]; exact ((if_neg (by assumption)).trans (if_pos (by assumption))).symm))
    · skip
      have g14 := i_ne h10
      have li15 : (2 : Int32).toInt = 2 := rfl
      refine zd (fun h16 => ?_) (fun h16 => ?_)
      · skip
        have g17 := i_eq h16
        have b18 := i_bd n
        refine sp_108_84_s (ab := (aT 84 S)) (n) ((1 : Int32)) (by omega) (by omega) hI (show xB S (mR S 70) from by first | (exact xB_x (xC_o (W := 75) hpre0).2)) (show aT 84 S = (aT 84 S) from by first | (exact rfl) | (exact (tC (P := 84) (xC_o (W := 75) hpre0).1 (fun _ => rfl) (fun _ => rfl)).trans hpre1)) (fun v6 S5 hI_S5 hp_v6 rp0_S5 rp1_S5 rp2_S5 => zi_n ⟨zG_T hI_S5, ?_⟩)
        have rp0_S5 : xB S5 (mR S5 70) := rp0_S5
        have rp1_S5 : aT 84 S5 = (aT 84 S) := rp1_S5
        have rp2_S5 : v6.toInt = aFl (aT 84 S) n.toInt (1 : Int32) 4500 (aN (aT 84 S) 0) (-1) 0 := rp2_S5
        have b19 := i_bd v6
        exact K (v6) _ hI_S5 (by omega) (show xB S5 (mR S5 70) from by first | (exact xB_x (xC_o (W := 75) rp0_S5).2)) (show aT 84 S5 = ab from by first | (exact rp1_S5.trans (hpre1))) (show v6.toInt = aFt ab n.toInt from by first | (have q := rp2_S5; rw [hpre1] at q; refine q.trans ?_; unfold aFt; rw [← hpre1, (show aT 84 S 87 1 = mI S 84 1 from rfl)]; exact ((if_neg (by assumption)).trans ((if_neg (by assumption)).trans (if_pos (by assumption)))).symm) | (have q := rp2_S5; rw [hpre1] at q; refine q.trans ?_; unfold aFt; rw [← hpre1, (show aT 84 S 87 1 = mI S 84 1 from rfl)]; exact ((if_neg (by assumption)).trans ((if_neg (by assumption)).trans (if_neg (by assumption)))).symm))
      · skip
        have g20 := i_ne h16
        have b21 := i_bd n
        refine sp_108_84_s (ab := (aT 84 S)) (n) ((0 : Int32)) (by omega) (by omega) hI (show xB S (mR S 70) from by first | (exact xB_x (xC_o (W := 75) hpre0).2)) (show aT 84 S = (aT 84 S) from by first | (exact rfl) | (exact (tC (P := 84) (xC_o (W := 75) hpre0).1 (fun _ => rfl) (fun _ => rfl)).trans hpre1)) (fun v8 S7 hI_S7 hp_v8 rp0_S7 rp1_S7 rp2_S7 => zi_n ⟨zG_T hI_S7, ?_⟩)
        have rp0_S7 : xB S7 (mR S7 70) := rp0_S7
        have rp1_S7 : aT 84 S7 = (aT 84 S) := rp1_S7
        have rp2_S7 : v8.toInt = aFl (aT 84 S) n.toInt (0 : Int32) 4500 (aN (aT 84 S) 0) (-1) 0 := rp2_S7
        have b22 := i_bd v8
        exact K (v8) _ hI_S7 (by omega) (show xB S7 (mR S7 70) from by first | (exact xB_x (xC_o (W := 75) rp0_S7).2)) (show aT 84 S7 = ab from by first | (exact rp1_S7.trans (hpre1))) (show v8.toInt = aFt ab n.toInt from by first | (have q := rp2_S7; rw [hpre1] at q; refine q.trans ?_; unfold aFt; rw [← hpre1, (show aT 84 S 87 1 = mI S 84 1 from rfl)]; exact ((if_neg (by assumption)).trans ((if_neg (by assumption)).trans (if_pos (by assumption)))).symm) | (have q := rp2_S7; rw [hpre1] at q; refine q.trans ?_; unfold aFt; rw [← hpre1, (show aT 84 S 87 1 = mI S 84 1 from rfl)]; exact ((if_neg (by assumption)).trans ((if_neg (by assumption)).trans (if_neg (by assumption)))).symm))
/-! a ROOT, a REFERENCE: nobody is told -/
def aR0 (a : Nat → Nat → Int32) (i y : Int32) : Nat → Nat → Int32 := ma_u a 72 i.toNatClampNeg (aNm a y)
def aL0 (a : Nat → Nat → Int32) (n : Nat) (i y : Int32) : Nat → Nat → Int32 := aCi a n i (aNm a y)
theorem g_145_64_79_s_0 {X : Nat × (Nat → Int32)} {d w : Nat} {S : ma_S} {Q : Option ma_V ⊕ Nat → ma_S → Prop} (i : Int32) (x : Option Nat) (hd : 5 ≤ d) (hw : 110 ≤ w) (hS : zT S) (h : ma_wp X (d - 1) (w - 23) 92 0 [(0, .inr (.inr (some 69))), (1, .inl i), (2, .inr (.inr x))] [] S (zo (fun v2 S1 => zT S1 ∧ (Q (.inl (some (.inr (.inr v2)))) S1)) (fun x S9 => Q (.inr x) S9))) : ma_wp X d w 145 0 [(0, .inr (.inr (some 64))), (1, .inr (.inr (some 79))), (2, .inl i), (3, .inr (.inr x))] [] S Q := by
  refine zw_push hm_145 dX11_changeRoot_0 (v := .inr (.inr (some 64))) rfl ?_
  refine zw_gf hm_145 dX11_changeRoot_1 (v := .inr (.inr (some 69))) (zT_is hS s_64) (zT_t hS s_64) rfl f_11_26_11 (zT_f hS r_64_8) ?_
  refine zw_push hm_145 dX11_changeRoot_4 (v := .inl i) rfl ?_
  refine zw_push hm_145 dX11_changeRoot_5 (v := .inr (.inr x)) rfl ?_
  refine zw_cv hm_145 dX11_changeRoot_6 v_11_379_7 hm_92 [.inr (.inr x), .inl i] [] rfl (zT_rt hS s_69 rfl) ⟨by omega, by omega⟩ rfl (zw_mono h (zo_go ?_ ?_))
  · intro v2 S1 hv
    obtain ⟨hS1, h⟩ := hv
    refine zw_sto hm_145 dX11_changeRoot_9 [(4, .inr (.inr v2)), (0, .inr (.inr (some 64))), (1, .inr (.inr (some 79))), (2, .inl i), (3, .inr (.inr x))] rfl rfl rfl ?_
    refine zw_push hm_145 dX11_changeRoot_11 (v := .inr (.inr (some 79))) rfl ?_
    refine zw_push hm_145 dX11_changeRoot_12 (v := .inr (.inr v2)) rfl ?_
    refine zw_push hm_145 dX11_changeRoot_14 (v := .inr (.inr x)) rfl ?_
    refine zw_cv hm_145 dX11_changeRoot_15 v_11_153_8 hm_265 [.inr (.inr x), .inr (.inr v2)] [] rfl (zT_rt hS1 s_79 rfl) ⟨by omega, by omega⟩ rfl ?_
    show ma_wp X (d - 1) (w - 22) 265 0 [(0, .inr (.inr (some 79))), (1, .inr (.inr v2)), (2, .inr (.inr x))] [] S1 _
    refine zw_vret hm_265 dX1_noteChange_0 ?_
    show ma_wp X d w 145 18 [(4, .inr (.inr v2)), (0, .inr (.inr (some 64))), (1, .inr (.inr (some 79))), (2, .inl i), (3, .inr (.inr x))] [] S1 _
    refine zw_push hm_145 dX11_changeRoot_18 (v := .inr (.inr (some 79))) rfl ?_
    refine zw_push hm_145 dX11_changeRoot_19 (v := .inr (.inr v2)) rfl ?_
    refine zw_cv hm_145 dX11_changeRoot_21 v_11_157_8 hm_266 [.inr (.inr v2)] [] rfl (zT_rt hS1 s_79 rfl) ⟨by omega, by omega⟩ rfl ?_
    show ma_wp X (d - 1) (w - 21) 266 0 [(0, .inr (.inr (some 79))), (1, .inr (.inr v2))] [] S1 _
    refine zw_vret hm_266 dX1_noteFewer_0 ?_
    show ma_wp X d w 145 24 [(4, .inr (.inr v2)), (0, .inr (.inr (some 64))), (1, .inr (.inr (some 79))), (2, .inl i), (3, .inr (.inr x))] [] S1 _
    refine zw_push hm_145 dX11_changeRoot_24 (v := .inr (.inr v2)) rfl ?_
    exact zw_aret hm_145 dX11_changeRoot_26 h
  · intro x S9 hx
    exact ⟨by decide, hx⟩
theorem sp_145_64_79_s {X : Nat × (Nat → Int32)} {d w : Nat} {f : Nat → Nat → Int32} {r : Nat → Nat → Option Nat} {C Z N : Nat} {Q : Option ma_V ⊕ Nat → ma_S → Prop} {ab : Nat→Nat→Int32} {R : zRT} {y : Int32} {fq : Nat→Int32} {S : ma_S} (i : Int32) (x : Option Nat) (hd : 5 ≤ d) (hw : 110 ≤ w) (hI : zJ79 f r C Z N S) (hq_x : ∀ c, x = some c → 126 ≤ c ∧ c < N) (hpre0 : xB S R) (hpre1 : aS 88 S = ab) (hpre2 : x = zTa R y) (hpre3 : 0 ≤ i.toInt) (hpre4 : i.toInt ≤ 15) (hpre5 : zfP 79 (mI S) = fq) (K : ∀ v S', zJ79 f r C Z N S' → (∀ c, v = some c → 126 ≤ c ∧ c < N) → (xB S' R) → (aS 88 S' = aR0 ab i y) → (v = zTa R (ab 72 i.toNatClampNeg)) → (zfP 79 (mI S') = fq) → Q (.inl (some (.inr (.inr v)))) S') : ma_wp X d w 145 0 [(0, .inr (.inr (some 64))), (1, .inr (.inr (some 79))), (2, .inl i), (3, .inr (.inr x))] [] S Q := by
  refine g_145_64_79_s_0 i x (by omega) (by omega) (zG_T hI) ?_
  have b1 := i_bd i
  refine sp_92_69_s (ab := (aS 88 S)) (R := R) (W := 88) (y := (y)) (i) (x) (by omega) (by omega) (zJ79_dn hI) hq_x (show xB S R from by first | (exact (xC_o (W := 75) hpre0).2)) (show aS 88 S = (aS 88 S) from by first | (exact rfl)) (show xW 88 from by first | (exact xW88) | (exact xW75)) (show x = zTa R (y) from by first | (exact hpre2)) (by omega) (by omega) (fun v2 S1 hL_S1 hq_v2 rp0_S1 rp1_S1 rp2_S1 => zo_n ⟨zG_T hL_S1, ?_⟩)
  have hI_S1 := zJ79_up hI hL_S1
  have rp0_S1 : xB S1 R := by
    have z := rp0_S1
    (try rw [show mI S 65 = f 65 from funext (fun k => zG_z hI rfl)] at z)
    (try rw [show mI S 64 1 = f 64 1 from zG_z hI rfl] at z)
    exact z
  have rp1_S1 : aS 88 S1 = ma_u (aS 88 S) 72 i.toNatClampNeg (aNm (aS 88 S) (y)) := by
    have z := rp1_S1
    (try rw [show mI S 65 = f 65 from funext (fun k => zG_z hI rfl)] at z)
    (try rw [show mI S 64 1 = f 64 1 from zG_z hI rfl] at z)
    exact z
  have rp2_S1 : v2 = zTa R ((aS 88 S) 72 i.toNatClampNeg) := by
    have z := rp2_S1
    (try rw [show mI S 65 = f 65 from funext (fun k => zG_z hI rfl)] at z)
    (try rw [show mI S 64 1 = f 64 1 from zG_z hI rfl] at z)
    exact z
  exact K (v2) _ hI_S1 hq_v2 (show xB S1 R from by first | (exact (xC_o (W := 75) rp0_S1).2)) (show aS 88 S1 = aR0 ab i y from by first | (rw [rp1_S1, hpre1]; rfl)) (show v2 = zTa R (ab 72 i.toNatClampNeg) from by first | (rw [← hpre1]; exact rp2_S1)) (show zfP 79 (mI S1) = fq from by first | (exact ((zf_fr (P := 79) (S' := S1) (S := S) (fun _ => zG_z hL_S1 rfl)).trans hpre5)))
