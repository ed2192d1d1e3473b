/-! from 95.g14 -/
/-! the heap by numbers, the class (written by wip/tools/gen18.py) -/
theorem g_68_87_s_0 {X : Nat × (Nat → Int32)} {d w : Nat} {S : ma_S} {Q : Option ma_V ⊕ Nat → ma_S → Prop}  (hd : 2 ≤ d) (hw : 44 ≤ w) (hS : zT S) (h : ma_wp X (d - 1) (w - 21) 117 0 [(0, .inr (.inr (some 88))), (1, .inl (0 : Int32))] [] (ma_put S 87 8 (.inl (1 : Int32))) (zv (fun S1 => zT S1 ∧ (ma_wp X (d - 1) (w - 22) 118 0 [(0, .inr (.inr (some 88)))] [] S1 (zv (fun S3 => zT S3 ∧ (Q (.inl none) S3)) (fun x S9 => Q (.inr x) S9)))) (fun x S9 => Q (.inr x) S9))) : ma_wp X d w 68 0 [(0, .inr (.inr (some 87)))] [] S Q := by
  refine zw_push hm_68 dX6_begin_0 (v := .inr (.inr (some 87))) rfl ?_
  refine zw_push hm_68 dX6_begin_1 (v := .inl (1 : Int32)) rfl ?_
  refine zw_pf hm_68 dX6_begin_2 (zT_is hS s_87) (zT_t hS s_87) p_6_31_6 (zk_bool (by decide)) ?_
  refine zw_push hm_68 dX6_begin_5 (v := .inr (.inr (some 87))) rfl ?_
  refine zw_gf hm_68 dX6_begin_6 (v := .inr (.inr (some 88))) (zT_is (zT_pi hS) s_87) (zT_t (zT_pi hS) s_87) rfl f_6_14_6 (zT_f (zT_pi hS) r_87_5) ?_
  refine zw_push hm_68 dX6_begin_9 (v := .inl (0 : Int32)) rfl ?_
  refine zw_cv hm_68 dX6_begin_10 v_6_82_10 hm_117 [.inl (0 : Int32)] [] rfl (zT_rt (zT_pi hS) s_88 rfl) ⟨by omega, by omega⟩ rfl (zw_mono h (zv_go ?_ ?_))
  · intro S1 hv
    obtain ⟨hS1, h⟩ := hv
    refine zw_push hm_68 dX6_begin_13 (v := .inr (.inr (some 87))) rfl ?_
    refine zw_gf hm_68 dX6_begin_14 (v := .inr (.inr (some 88))) (zT_is hS1 s_87) (zT_t hS1 s_87) rfl f_6_14_6 (zT_f hS1 r_87_5) ?_
    refine zw_cv hm_68 dX6_begin_17 v_6_86_10 hm_118 [] [] rfl (zT_rt hS1 s_88 rfl) ⟨by omega, by omega⟩ rfl (zw_mono h (zv_go ?_ ?_))
    · intro S3 hv
      obtain ⟨hS3, h⟩ := hv
      exact zw_vret hm_68 dX6_begin_20 h
    · intro x S9 hx
      exact ⟨by decide, hx⟩
  · intro x S9 hx
    exact ⟨by decide, hx⟩
theorem sp_68_87_s {X : Nat × (Nat → Int32)} {d w : Nat} {f : Nat → Nat → Int32} {r : Nat → Nat → Option Nat} {C Z N : Nat} {Q : Option ma_V ⊕ Nat → ma_S → Prop} {ab : Nat→Nat→Int32} {S : ma_S}  (hd : 2 ≤ d) (hw : 44 ≤ w) (hI : zJ87 f r C Z N S) (hpre0 : xB S (mR S 70)) (hpre1 : aS 88 S = ab) (K : ∀ S₉, zJ87 f r C Z N S₉ → (xB S₉ (mR S₉ 70)) → (aS 88 S₉ = aB0 ab) → Q (.inl none) S₉) : ma_wp X d w 68 0 [(0, .inr (.inr (some 87)))] [] S Q := by
  refine g_68_87_s_0  (by omega) (by omega) (zG_T hI) ?_
  have li1 : (0 : Int32).toInt = 0 := rfl
  have li3 : (1 : Int32).toInt = 1 := rfl
  have hI2 : zJ87 f r C Z N (ma_put S 87 8 (.inl (1 : Int32))) := zG_sp hI (0) (1) rfl (by decide) (by decide) (by decide) trivial (by omega) (by omega)
  refine sp_117_88_s (ab := (aS 88 (ma_put S 87 8 (.inl (1 : Int32))))) (R := (mR (ma_put S 87 8 (.inl (1 : Int32))) 70)) ((0 : Int32)) (by omega) (by omega) (zJ87_dn hI2) (show xB (ma_put S 87 8 (.inl (1 : Int32))) (mR (ma_put S 87 8 (.inl (1 : Int32))) 70) from by first | (exact xB_x (xC_p (c := 87) (k := 8) (x := (1 : Int32)) (xC_o (W := 75) hpre0) 87 xW75 rfl rfl).2)) (show aS 88 (ma_put S 87 8 (.inl (1 : Int32))) = (aS 88 (ma_put S 87 8 (.inl (1 : Int32)))) from by first | (exact rfl)) (fun S1 hL_S1 rp0_S1 rp1_S1 => zv_n ⟨zG_T hL_S1, ?_⟩)
  have hI_S1 := zJ87_up hI2 hL_S1
  have rp0_S1 : xB S1 (mR (ma_put S 87 8 (.inl (1 : Int32))) 70) := by
    have z := rp0_S1
    (try rw [show mI (ma_put S 87 8 (.inl (1 : Int32))) 65 = f 65 from funext (fun k => zG_z hI2 rfl)] at z)
    (try rw [show mI (ma_put S 87 8 (.inl (1 : Int32))) 64 1 = f 64 1 from zG_z hI2 rfl] at z)
    exact z
  have rp1_S1 : aS 88 S1 = aWh (aS 88 (ma_put S 87 8 (.inl (1 : Int32)))) (0 : Int32) := by
    have z := rp1_S1
    (try rw [show mI (ma_put S 87 8 (.inl (1 : Int32))) 65 = f 65 from funext (fun k => zG_z hI2 rfl)] at z)
    (try rw [show mI (ma_put S 87 8 (.inl (1 : Int32))) 64 1 = f 64 1 from zG_z hI2 rfl] at z)
    exact z
  refine sp_118_88_s (ab := (aS 88 S1)) (R := (mR S1 70)) (by omega) (by omega) (zJ87_dn hI_S1) (show xB S1 (mR S1 70) from by first | (exact xB_x (xC_o (W := 75) rp0_S1).2)) (show aS 88 S1 = (aS 88 S1) from by first | (exact rfl)) (fun S3 hL_S3 rp0_S3 rp1_S3 => zv_n ⟨zG_T hL_S3, ?_⟩)
  have hI_S3 := zJ87_up hI_S1 hL_S3
  have rp0_S3 : xB S3 (mR S1 70) := by
    have z := rp0_S3
    (try rw [show mI S1 65 = f 65 from funext (fun k => zG_z hI_S1 rfl)] at z)
    (try rw [show mI S1 64 1 = f 64 1 from zG_z hI_S1 rfl] at z)
    exact z
  have rp1_S3 : aS 88 S3 = aRo (aS 88 S1) 0 := by
    have z := rp1_S3
    (try rw [show mI S1 65 = f 65 from funext (fun k => zG_z hI_S1 rfl)] at z)
    (try rw [show mI S1 64 1 = f 64 1 from zG_z hI_S1 rfl] at z)
    exact z
  exact K _ hI_S3 (show xB S3 (mR S3 70) from by first | (exact xB_x (xC_o (W := 75) rp0_S3).2)) (show aS 88 S3 = aB0 ab from by first | (rw [rp1_S3, rp1_S1, (xC_p (c := 87) (k := 8) (x := (1 : Int32)) (xC_o (W := 88) hpre0) 87 xW88 rfl rfl).1, hpre1]; rfl))
theorem g_69_87_s_0 {X : Nat × (Nat → Int32)} {d w : Nat} {S : ma_S} {Q : Option ma_V ⊕ Nat → ma_S → Prop}  (hd : 2 ≤ d) (hw : 43 ≤ w) (hS : zT S) (h : if (mI S 87 7) = (1 : Int32) then (ma_wp X (d - 1) (w - 22) 118 0 [(0, .inr (.inr (some 88)))] [] S (zv (fun S1 => zT S1 ∧ (if (mI S1 88 3) < (mI S1 88 4) then (Q (.inl (some (.inl (1 : Int32)))) S1) else (Q (.inl (some (.inl (0 : Int32)))) S1))) (fun x S9 => Q (.inr x) S9))) else (if (mI S 88 3) < (mI S 88 4) then (Q (.inl (some (.inl (1 : Int32)))) S) else (Q (.inl (some (.inl (0 : Int32)))) S))) : ma_wp X d w 69 0 [(0, .inr (.inr (some 87)))] [] S Q := by
  refine zw_push hm_69 dX6_newsCame_0 (v := .inr (.inr (some 87))) rfl ?_
  refine zw_gf hm_69 dX6_newsCame_1 (v := .inl (mI S 87 7)) (zT_is hS s_87) (zT_t hS s_87) rfl f_6_28_6 rfl ?_
  refine zw_push hm_69 dX6_newsCame_4 (v := .inl (1 : Int32)) rfl ?_
  refine zw_if2 hm_69 dX6_newsCame_5 (t := 15) rfl zc2_ne ?_ ?_
  · intro hc
    rw [if_neg hc] at h
    refine zw_push hm_69 dX6_newsCame_15 (v := .inr (.inr (some 87))) rfl ?_
    refine zw_gf hm_69 dX6_newsCame_16 (v := .inr (.inr (some 88))) (zT_is hS s_87) (zT_t hS s_87) rfl f_6_14_6 (zT_f hS r_87_5) ?_
    refine zw_cv hm_69 dX6_newsCame_19 v_6_79_10 hm_125 [] [] rfl (zT_rt hS s_88 rfl) ⟨by omega, by omega⟩ rfl ?_
    show ma_wp X (d - 1) (w - 20) 125 0 [(0, .inr (.inr (some 88)))] [] S _
    refine zw_push hm_125 dX10_isEmpty_0 (v := .inr (.inr (some 88))) rfl ?_
    refine zw_gf hm_125 dX10_isEmpty_1 (v := .inl (mI S 88 3)) (zT_is hS s_88) (zT_t hS s_88) rfl f_10_28_10 rfl ?_
    refine zw_push hm_125 dX10_isEmpty_4 (v := .inr (.inr (some 88))) rfl ?_
    refine zw_gf hm_125 dX10_isEmpty_5 (v := .inl (mI S 88 4)) (zT_is hS s_88) (zT_t hS s_88) rfl f_10_32_10 rfl ?_
    refine zw_if2 hm_125 dX10_isEmpty_8 (t := 15) rfl zc2_lt ?_ ?_
    · intro hc
      rw [if_pos hc] at h
      refine zw_push hm_125 dX10_isEmpty_15 (v := .inl (0 : Int32)) rfl ?_
      refine zw_bret hm_125 dX10_isEmpty_16 (by decide) ?_
      show ma_wp X d w 69 22 [(0, .inr (.inr (some 87)))] [.inl (0 : Int32)] S _
      refine zw_if0 hm_69 dX6_newsCame_22 (t := 29) rfl zc0_ne (fun hc => absurd hc (by decide)) (fun _ => ?_)
      refine zw_push hm_69 dX6_newsCame_25 (v := .inl (1 : Int32)) rfl ?_
      refine zw_goto hm_69 dX6_newsCame_26 (t := 30) rfl ?_
      exact zw_bret hm_69 dX6_newsCame_30 (by decide) h
    · intro hc
      rw [if_neg hc] at h
      refine zw_push hm_125 dX10_isEmpty_11 (v := .inl (1 : Int32)) rfl ?_
      refine zw_goto hm_125 dX10_isEmpty_12 (t := 16) rfl ?_
      refine zw_bret hm_125 dX10_isEmpty_16 (by decide) ?_
      show ma_wp X d w 69 22 [(0, .inr (.inr (some 87)))] [.inl (1 : Int32)] S _
      refine zw_if0 hm_69 dX6_newsCame_22 (t := 29) rfl zc0_ne (fun _ => ?_) (fun hc => absurd (by decide) hc)
      refine zw_push hm_69 dX6_newsCame_29 (v := .inl (0 : Int32)) rfl ?_
      exact zw_bret hm_69 dX6_newsCame_30 (by decide) h
  · intro hc
    rw [if_pos (Classical.not_not.mp hc)] at h
    refine zw_push hm_69 dX6_newsCame_8 (v := .inr (.inr (some 87))) rfl ?_
    refine zw_gf hm_69 dX6_newsCame_9 (v := .inr (.inr (some 88))) (zT_is hS s_87) (zT_t hS s_87) rfl f_6_14_6 (zT_f hS r_87_5) ?_
    refine zw_cv hm_69 dX6_newsCame_12 v_6_86_10 hm_118 [] [] rfl (zT_rt hS s_88 rfl) ⟨by omega, by omega⟩ rfl (zw_mono h (zv_go ?_ ?_))
    · intro S1 hv
      obtain ⟨hS1, h⟩ := hv
      refine zw_push hm_69 dX6_newsCame_15 (v := .inr (.inr (some 87))) rfl ?_
      refine zw_gf hm_69 dX6_newsCame_16 (v := .inr (.inr (some 88))) (zT_is hS1 s_87) (zT_t hS1 s_87) rfl f_6_14_6 (zT_f hS1 r_87_5) ?_
      refine zw_cv hm_69 dX6_newsCame_19 v_6_79_10 hm_125 [] [] rfl (zT_rt hS1 s_88 rfl) ⟨by omega, by omega⟩ rfl ?_
      show ma_wp X (d - 1) (w - 20) 125 0 [(0, .inr (.inr (some 88)))] [] S1 _
      refine zw_push hm_125 dX10_isEmpty_0 (v := .inr (.inr (some 88))) rfl ?_
      refine zw_gf hm_125 dX10_isEmpty_1 (v := .inl (mI S1 88 3)) (zT_is hS1 s_88) (zT_t hS1 s_88) rfl f_10_28_10 rfl ?_
      refine zw_push hm_125 dX10_isEmpty_4 (v := .inr (.inr (some 88))) rfl ?_
      refine zw_gf hm_125 dX10_isEmpty_5 (v := .inl (mI S1 88 4)) (zT_is hS1 s_88) (zT_t hS1 s_88) rfl f_10_32_10 rfl ?_
      refine zw_if2 hm_125 dX10_isEmpty_8 (t := 15) rfl zc2_lt ?_ ?_
      · intro hc
        rw [if_pos hc] at h
        refine zw_push hm_125 dX10_isEmpty_15 (v := .inl (0 : Int32)) rfl ?_
        refine zw_bret hm_125 dX10_isEmpty_16 (by decide) ?_
        show ma_wp X d w 69 22 [(0, .inr (.inr (some 87)))] [.inl (0 : Int32)] S1 _
        refine zw_if0 hm_69 dX6_newsCame_22 (t := 29) rfl zc0_ne (fun hc => absurd hc (by decide)) (fun _ => ?_)
        refine zw_push hm_69 dX6_newsCame_25 (v := .inl (1 : Int32)) rfl ?_
        refine zw_goto hm_69 dX6_newsCame_26 (t := 30) rfl ?_
        exact zw_bret hm_69 dX6_newsCame_30 (by decide) h
      · intro hc
        rw [if_neg hc] at h
        refine zw_push hm_125 dX10_isEmpty_11 (v := .inl (1 : Int32)) rfl ?_
        refine zw_goto hm_125 dX10_isEmpty_12 (t := 16) rfl ?_
        refine zw_bret hm_125 dX10_isEmpty_16 (by decide) ?_
        show ma_wp X d w 69 22 [(0, .inr (.inr (some 87)))] [.inl (1 : Int32)] S1 _
        refine zw_if0 hm_69 dX6_newsCame_22 (t := 29) rfl zc0_ne (fun _ => ?_) (fun hc => absurd (by decide) hc)
        refine zw_push hm_69 dX6_newsCame_29 (v := .inl (0 : Int32)) rfl ?_
        exact zw_bret hm_69 dX6_newsCame_30 (by decide) h
    · intro x S9 hx
      exact ⟨by decide, hx⟩
theorem sp_69_87_s {X : Nat × (Nat → Int32)} {d w : Nat} {f : Nat → Nat → Int32} {r : Nat → Nat → Option Nat} {C Z N : Nat} {Q : Option ma_V ⊕ Nat → ma_S → Prop} {ab : Nat→Nat→Int32} {S : ma_S}  (hd : 2 ≤ d) (hw : 43 ≤ w) (hI : zJ87 f r C Z N S) (hpre0 : xB S (mR S 70)) (hpre1 : aS 88 S = ab) (K : ∀ v S₉, zJ87 f r C Z N S₉ → (v = 0 ∨ v = 1) → (xB S₉ (mR S₉ 70)) → (aS 88 S₉ = aNw ab) → ((v.toInt = 1 ∧ (aS 88 S₉ 75 3).toInt < (aS 88 S₉ 75 4).toInt) ∨ (v.toInt = 0 ∧ ¬ (aS 88 S₉ 75 3).toInt < (aS 88 S₉ 75 4).toInt)) → Q (.inl (some (.inl v))) S₉) : ma_wp X d w 69 0 [(0, .inr (.inr (some 87)))] [] S Q := by
  refine g_69_87_s_0  (by omega) (by omega) (zG_T hI) ?_
  have b1 := i_bd (mI S 87 7)
  have li2 : (1 : Int32).toInt = 1 := rfl
  refine zd (fun h3 => ?_) (fun h3 => ?_)
  · skip
    have g4 := i_eq h3
    refine sp_118_88_s (ab := (aS 88 S)) (R := (mR S 70)) (by omega) (by omega) (zJ87_dn hI) (show xB S (mR S 70) from by first | (exact xB_x (xC_o (W := 75) hpre0).2)) (show aS 88 S = (aS 88 S) from by first | (exact rfl)) (fun S1 hL_S1 rp0_S1 rp1_S1 => zv_n ⟨zG_T hL_S1, ?_⟩)
    have hI_S1 := zJ87_up hI hL_S1
    have rp0_S1 : xB S1 (mR S 70) := by
      have z := rp0_S1
      (try rw [show mI S 65 = f 65 from funext (fun k => zG_z hI rfl)] at z)
      (try rw [show mI S 64 1 = f 64 1 from zG_z hI rfl] at z)
      exact z
    have rp1_S1 : aS 88 S1 = aRo (aS 88 S) 0 := by
      have z := rp1_S1
      (try rw [show mI S 65 = f 65 from funext (fun k => zG_z hI rfl)] at z)
      (try rw [show mI S 64 1 = f 64 1 from zG_z hI rfl] at z)
      exact z
    have f5 := zG_s hI_S1 (0) (512) (c := 88) (k := 3) (by decide)
    have f6 := zG_s hI_S1 (0) (512) (c := 88) (k := 4) (by decide)
    refine zd (fun h7 => ?_) (fun h7 => ?_)
    · skip
      have g8 := i_lt h7
      exact K ((1 : Int32)) _ hI_S1 (by decide) (show xB S1 (mR S1 70) from by first | (exact xB_x (xC_o (W := 75) rp0_S1).2)) (show aS 88 S1 = aNw ab from by first | (rw [rp1_S1, hpre1]; refine (aNw_y ?_).symm; rw [← hpre1, (aS_I (W := 88) (S := S) (c := 87) (c₉ := 87) (k := 7) rfl rfl)]; assumption)) (show ((1 : Int32).toInt = 1 ∧ (aS 88 S1 75 3).toInt < (aS 88 S1 75 4).toInt) ∨ ((1 : Int32).toInt = 0 ∧ ¬ (aS 88 S1 75 3).toInt < (aS 88 S1 75 4).toInt) from by first | (have q3 := congrArg Int32.toInt (aS_I (W := 88) (S := S1) (c := 75) (c₉ := 88) (k := 3) rfl rfl); have q4 := congrArg Int32.toInt (aS_I (W := 88) (S := S1) (c := 75) (c₉ := 88) (k := 4) rfl rfl); omega))
    · skip
      have g9 := i_nlt h7
      have li10 : (0 : Int32).toInt = 0 := rfl
      exact K ((0 : Int32)) _ hI_S1 (by decide) (show xB S1 (mR S1 70) from by first | (exact xB_x (xC_o (W := 75) rp0_S1).2)) (show aS 88 S1 = aNw ab from by first | (rw [rp1_S1, hpre1]; refine (aNw_y ?_).symm; rw [← hpre1, (aS_I (W := 88) (S := S) (c := 87) (c₉ := 87) (k := 7) rfl rfl)]; assumption)) (show ((0 : Int32).toInt = 1 ∧ (aS 88 S1 75 3).toInt < (aS 88 S1 75 4).toInt) ∨ ((0 : Int32).toInt = 0 ∧ ¬ (aS 88 S1 75 3).toInt < (aS 88 S1 75 4).toInt) from by first | (have q3 := congrArg Int32.toInt (aS_I (W := 88) (S := S1) (c := 75) (c₉ := 88) (k := 3) rfl rfl); have q4 := congrArg Int32.toInt (aS_I (W := 88) (S := S1) (c := 75) (c₉ := 88) (k := 4) rfl rfl); omega))
  · skip
    have g11 := i_ne h3
    have f12 := zG_s hI (0) (512) (c := 88) (k := 3) (by decide)
    have f13 := zG_s hI (0) (512) (c := 88) (k := 4) (by decide)
    refine zd (fun h14 => ?_) (fun h14 => ?_)
    · skip
      have g15 := i_lt h14
      exact K ((1 : Int32)) _ hI (by decide) (show xB S (mR S 70) from by first | (exact xB_x (xC_o (W := 75) hpre0).2)) (show aS 88 S = aNw ab from by first | (rw [hpre1]; refine (aNw_n ?_).symm; rw [← hpre1, (aS_I (W := 88) (S := S) (c := 87) (c₉ := 87) (k := 7) rfl rfl)]; assumption)) (show ((1 : Int32).toInt = 1 ∧ (aS 88 S 75 3).toInt < (aS 88 S 75 4).toInt) ∨ ((1 : Int32).toInt = 0 ∧ ¬ (aS 88 S 75 3).toInt < (aS 88 S 75 4).toInt) from by first | (have q3 := congrArg Int32.toInt (aS_I (W := 88) (S := S) (c := 75) (c₉ := 88) (k := 3) rfl rfl); have q4 := congrArg Int32.toInt (aS_I (W := 88) (S := S) (c := 75) (c₉ := 88) (k := 4) rfl rfl); omega))
    · skip
      have g16 := i_nlt h14
      have li17 : (0 : Int32).toInt = 0 := rfl
      exact K ((0 : Int32)) _ hI (by decide) (show xB S (mR S 70) from by first | (exact xB_x (xC_o (W := 75) hpre0).2)) (show aS 88 S = aNw ab from by first | (rw [hpre1]; refine (aNw_n ?_).symm; rw [← hpre1, (aS_I (W := 88) (S := S) (c := 87) (c₉ := 87) (k := 7) rfl rfl)]; assumption)) (show ((0 : Int32).toInt = 1 ∧ (aS 88 S 75 3).toInt < (aS 88 S 75 4).toInt) ∨ ((0 : Int32).toInt = 0 ∧ ¬ (aS 88 S 75 3).toInt < (aS 88 S 75 4).toInt) from by first | (have q3 := congrArg Int32.toInt (aS_I (W := 88) (S := S) (c := 75) (c₉ := 88) (k := 3) rfl rfl); have q4 := congrArg Int32.toInt (aS_I (W := 88) (S := S) (c := 75) (c₉ := 88) (k := 4) rfl rfl); omega))
theorem g_70_87_s_0 {X : Nat × (Nat → Int32)} {d w : Nat} {S : ma_S} {Q : Option ma_V ⊕ Nat → ma_S → Prop}  (hd : 3 ≤ d) (hw : 72 ≤ w) (hS : zT S) (h : ma_wp X (d - 1) (w - 23) 83 0 [(0, .inr (.inr (some 69))), (1, .inr (.inr (some 88)))] [] (ma_put S 87 8 (.inl (0 : Int32))) (zv (fun S1 => zT S1 ∧ (ma_wp X (d - 1) (w - 24) 86 0 [(0, .inr (.inr (some 69))), (1, .inr (.inr (some 88)))] [] S1 (zi (fun v4 S3 => zT S3 ∧ (Q (.inl (some (.inl v4))) S3)) (fun x S9 => Q (.inr x) S9)))) (fun x S9 => Q (.inr x) S9))) : ma_wp X d w 70 0 [(0, .inr (.inr (some 87)))] [] S Q := by
  refine zw_push hm_70 dX6_finish_0 (v := .inr (.inr (some 87))) rfl ?_
  refine zw_push hm_70 dX6_finish_1 (v := .inl (0 : Int32)) rfl ?_
  refine zw_pf hm_70 dX6_finish_2 (zT_is hS s_87) (zT_t hS s_87) p_6_31_6 (zk_bool (by decide)) ?_
  refine zw_push hm_70 dX6_finish_5 (v := .inr (.inr (some 87))) rfl ?_
  refine zw_gf hm_70 dX6_finish_6 (v := .inr (.inr (some 69))) (zT_is (zT_pi hS) s_87) (zT_t (zT_pi hS) s_87) rfl f_6_38_6 (zT_f (zT_pi hS) r_87_3) ?_
  refine zw_push hm_70 dX6_finish_9 (v := .inr (.inr (some 87))) rfl ?_
  refine zw_gf hm_70 dX6_finish_10 (v := .inr (.inr (some 88))) (zT_is (zT_pi hS) s_87) (zT_t (zT_pi hS) s_87) rfl f_6_14_6 (zT_f (zT_pi hS) r_87_5) ?_
  refine zw_cv hm_70 dX6_finish_13 v_6_89_7 hm_83 [.inr (.inr (some 88))] [] rfl (zT_rt (zT_pi hS) s_69 rfl) ⟨by omega, by omega⟩ rfl (zw_mono h (zv_go ?_ ?_))
  · intro S1 hv
    obtain ⟨hS1, h⟩ := hv
    refine zw_push hm_70 dX6_finish_16 (v := .inr (.inr (some 87))) rfl ?_
    refine zw_gf hm_70 dX6_finish_17 (v := .inr (.inr (some 69))) (zT_is hS1 s_87) (zT_t hS1 s_87) rfl f_6_38_6 (zT_f hS1 r_87_3) ?_
    refine zw_push hm_70 dX6_finish_20 (v := .inr (.inr (some 87))) rfl ?_
    refine zw_gf hm_70 dX6_finish_21 (v := .inr (.inr (some 88))) (zT_is hS1 s_87) (zT_t hS1 s_87) rfl f_6_14_6 (zT_f hS1 r_87_5) ?_
    refine zw_cv hm_70 dX6_finish_24 v_6_93_7 hm_86 [.inr (.inr (some 88))] [] rfl (zT_rt hS1 s_69 rfl) ⟨by omega, by omega⟩ rfl (zw_mono h (zi_go ?_ ?_))
    · intro v4 S3 hv
      obtain ⟨hS3, h⟩ := hv
      exact zw_iret hm_70 dX6_finish_27 h
    · intro x S9 hx
      exact ⟨by decide, hx⟩
  · intro x S9 hx
    exact ⟨by decide, hx⟩
theorem sp_70_87_s {X : Nat × (Nat → Int32)} {d w : Nat} {f : Nat → Nat → Int32} {r : Nat → Nat → Option Nat} {C Z N : Nat} {Q : Option ma_V ⊕ Nat → ma_S → Prop} {ab : Nat→Nat→Int32} {S : ma_S}  (hd : 3 ≤ d) (hw : 72 ≤ w) (hI : zJ87 f r C Z N S) (hpre0 : xB S (mR S 70)) (hpre1 : aS 88 S = ab) (K : ∀ v S₉, zJ87 f r C Z N S₉ → (True) → (xB S₉ (mR S₉ 70)) → (aS 88 S₉ = aFi ab ∧ v = aFv ab) → Q (.inl (some (.inl v))) S₉) : ma_wp X d w 70 0 [(0, .inr (.inr (some 87)))] [] S Q := by
  refine g_70_87_s_0  (by omega) (by omega) (zG_T hI) ?_
  have li2 : (0 : Int32).toInt = 0 := rfl
  have hI1 : zJ87 f r C Z N (ma_put S 87 8 (.inl (0 : Int32))) := zG_sp hI (0) (1) rfl (by decide) (by decide) (by decide) trivial (by omega) (by omega)
  refine sp_83_69_88_s (ab := (aS 88 (ma_put S 87 8 (.inl (0 : Int32))))) (R := (mR (ma_put S 87 8 (.inl (0 : Int32))) 70)) (by omega) (by omega) (zJ87_dn hI1) (show xB (ma_put S 87 8 (.inl (0 : Int32))) (mR (ma_put S 87 8 (.inl (0 : Int32))) 70) from by first | (exact xB_x (xC_p (c := 87) (k := 8) (x := (0 : Int32)) (xC_o (W := 75) hpre0) 87 xW75 rfl rfl).2)) (show aS 88 (ma_put S 87 8 (.inl (0 : Int32))) = (aS 88 (ma_put S 87 8 (.inl (0 : Int32)))) from by first | (exact rfl)) (fun S1 hL_S1 rp0_S1 rp1_S1 => zv_n ⟨zG_T hL_S1, ?_⟩)
  have hI_S1 := zJ87_up hI1 hL_S1
  have rp0_S1 : xB S1 (mR (ma_put S 87 8 (.inl (0 : Int32))) 70) := by
    have z := rp0_S1
    (try rw [show mI (ma_put S 87 8 (.inl (0 : Int32))) 65 = f 65 from funext (fun k => zG_z hI1 rfl)] at z)
    (try rw [show mI (ma_put S 87 8 (.inl (0 : Int32))) 64 1 = f 64 1 from zG_z hI1 rfl] at z)
    exact z
  have rp1_S1 : aS 88 S1 = aGw (aS 88 (ma_put S 87 8 (.inl (0 : Int32)))) 0 := by
    have z := rp1_S1
    (try rw [show mI (ma_put S 87 8 (.inl (0 : Int32))) 65 = f 65 from funext (fun k => zG_z hI1 rfl)] at z)
    (try rw [show mI (ma_put S 87 8 (.inl (0 : Int32))) 64 1 = f 64 1 from zG_z hI1 rfl] at z)
    exact z
  refine sp_86_69_88_s (ab := (aS 88 S1)) (by omega) (by omega) (zJ87_dn hI_S1) (show xB S1 (mR S1 70) from by first | (exact xB_x (xC_o (W := 75) rp0_S1).2)) (show aS 88 S1 = (aS 88 S1) from by first | (exact rfl)) (fun v4 S3 hL_S3 hp_v4 rp0_S3 rp1_S3 => zi_n ⟨zG_T hL_S3, ?_⟩)
  have hI_S3 := zJ87_up hI_S1 hL_S3
  have rp0_S3 : xB S3 (mR S3 70) := by
    have z := rp0_S3
    (try rw [show mI S1 65 = f 65 from funext (fun k => zG_z hI_S1 rfl)] at z)
    (try rw [show mI S1 64 1 = f 64 1 from zG_z hI_S1 rfl] at z)
    exact z
  have rp1_S3 : aS 88 S3 = aMv (aS 88 S1) 0 ∧ v4 = aMv (aS 88 S1) 0 69 11 - (aS 88 S1) 69 11 := by
    have z := rp1_S3
    (try rw [show mI S1 65 = f 65 from funext (fun k => zG_z hI_S1 rfl)] at z)
    (try rw [show mI S1 64 1 = f 64 1 from zG_z hI_S1 rfl] at z)
    exact z
  have b3 := i_bd v4
  exact K (v4) _ hI_S3 trivial (show xB S3 (mR S3 70) from by first | (exact xB_x (xC_o (W := 75) rp0_S3).2)) (show aS 88 S3 = aFi ab ∧ v4 = aFv ab from by first | (have z := rp1_S3; rw [rp1_S1, (xC_p (c := 87) (k := 8) (x := (0 : Int32)) (xC_o (W := 88) hpre0) 87 xW88 rfl rfl).1, hpre1] at z; exact z))

/-! from 95.g15 -/
/-! the heap by numbers, the class (written by wip/tools/gen18.py) -/
theorem g_72_87_s_0 {X : Nat × (Nat → Int32)} {d w : Nat} {S : ma_S} {Q : Option ma_V ⊕ Nat → ma_S → Prop} (n : Int32) (hd : 4 ≤ d) (hw : 92 ≤ w) (hS : zT S) (h : if (mI S 87 8) = 0 then (Q (.inl (some (.inl (0 : Int32)))) S) else (ma_wp X (d - 1) (w - 24) 120 0 [(0, .inr (.inr (some 88))), (1, .inl n)] [] S (zi (fun v2 S1 => zT S1 ∧ (if (mI S1 88 3) < (mI S1 88 4) then (Q (.inl (some (.inl v2))) S1) else (ma_wp X (d - 1) (w - 20) 69 0 [(0, .inr (.inr (some 87)))] [] S1 (zi (fun v4 S3 => zT S3 ∧ (if v4 = 0 then (ma_wp X (d - 1) (w - 20) 70 0 [(0, .inr (.inr (some 87)))] [] S3 (zi (fun v6 S5 => zT S5 ∧ (Q (.inl (some (.inl v2))) S5)) (fun x S9 => Q (.inr x) S9))) else (Q (.inl (some (.inl v2))) S3))) (fun x S9 => Q (.inr x) S9))))) (fun x S9 => Q (.inr x) S9)))) : ma_wp X d w 72 0 [(0, .inr (.inr (some 87))), (1, .inl n)] [] S Q := by
  refine zw_push hm_72 dX6_goOn_0 (v := .inr (.inr (some 87))) rfl ?_
  refine zw_gf hm_72 dX6_goOn_1 (v := .inl (mI S 87 8)) (zT_is hS s_87) (zT_t hS s_87) rfl f_6_31_6 rfl ?_
  refine zw_if0 hm_72 dX6_goOn_4 (t := 9) rfl zc0_ne ?_ ?_
  · intro hc
    rw [if_neg hc] at h
    refine zw_push hm_72 dX6_goOn_9 (v := .inr (.inr (some 87))) rfl ?_
    refine zw_gf hm_72 dX6_goOn_10 (v := .inr (.inr (some 88))) (zT_is hS s_87) (zT_t hS s_87) rfl f_6_14_6 (zT_f hS r_87_5) ?_
    refine zw_push hm_72 dX6_goOn_13 (v := .inl n) rfl ?_
    refine zw_cv hm_72 dX6_goOn_14 v_6_69_10 hm_120 [.inl n] [] rfl (zT_rt hS s_88 rfl) ⟨by omega, by omega⟩ rfl (zw_mono h (zi_go ?_ ?_))
    · intro v2 S1 hv
      obtain ⟨hS1, h⟩ := hv
      refine zw_sto hm_72 dX6_goOn_17 [(2, .inl v2), (0, .inr (.inr (some 87))), (1, .inl n)] rfl rfl rfl ?_
      refine zw_push hm_72 dX6_goOn_18 (v := .inr (.inr (some 87))) rfl ?_
      refine zw_gf hm_72 dX6_goOn_19 (v := .inr (.inr (some 88))) (zT_is hS1 s_87) (zT_t hS1 s_87) rfl f_6_14_6 (zT_f hS1 r_87_5) ?_
      refine zw_cv hm_72 dX6_goOn_22 v_6_79_10 hm_125 [] [] rfl (zT_rt hS1 s_88 rfl) ⟨by omega, by omega⟩ rfl ?_
      show ma_wp X (d - 1) (w - 20) 125 0 [(0, .inr (.inr (some 88)))] [] S1 _
      refine zw_push hm_125 dX10_isEmpty_0 (v := .inr (.inr (some 88))) rfl ?_
      refine zw_gf hm_125 dX10_isEmpty_1 (v := .inl (mI S1 88 3)) (zT_is hS1 s_88) (zT_t hS1 s_88) rfl f_10_28_10 rfl ?_
      refine zw_push hm_125 dX10_isEmpty_4 (v := .inr (.inr (some 88))) rfl ?_
      refine zw_gf hm_125 dX10_isEmpty_5 (v := .inl (mI S1 88 4)) (zT_is hS1 s_88) (zT_t hS1 s_88) rfl f_10_32_10 rfl ?_
      refine zw_if2 hm_125 dX10_isEmpty_8 (t := 15) rfl zc2_lt ?_ ?_
      · intro hc
        rw [if_pos hc] at h
        refine zw_push hm_125 dX10_isEmpty_15 (v := .inl (0 : Int32)) rfl ?_
        refine zw_bret hm_125 dX10_isEmpty_16 (by decide) ?_
        show ma_wp X d w 72 25 [(2, .inl v2), (0, .inr (.inr (some 87))), (1, .inl n)] [.inl (0 : Int32)] S1 _
        refine zw_if0 hm_72 dX6_goOn_25 (t := 40) rfl zc0_eq (fun _ => ?_) (fun hc => absurd (by decide) hc)
        refine zw_push hm_72 dX6_goOn_40 (v := .inl v2) rfl ?_
        exact zw_iret hm_72 dX6_goOn_41 h
      · intro hc
        rw [if_neg hc] at h
        refine zw_push hm_125 dX10_isEmpty_11 (v := .inl (1 : Int32)) rfl ?_
        refine zw_goto hm_125 dX10_isEmpty_12 (t := 16) rfl ?_
        refine zw_bret hm_125 dX10_isEmpty_16 (by decide) ?_
        show ma_wp X d w 72 25 [(2, .inl v2), (0, .inr (.inr (some 87))), (1, .inl n)] [.inl (1 : Int32)] S1 _
        refine zw_if0 hm_72 dX6_goOn_25 (t := 40) rfl zc0_eq (fun hc => absurd hc (by decide)) (fun _ => ?_)
        refine zw_push hm_72 dX6_goOn_28 (v := .inr (.inr (some 87))) rfl ?_
        refine zw_cv hm_72 dX6_goOn_29 v_6_72_6 hm_69 [] [] rfl (zT_rt hS1 s_87 rfl) ⟨by omega, by omega⟩ rfl (zw_mono h (zi_go ?_ ?_))
        · intro v4 S3 hv
          obtain ⟨hS3, h⟩ := hv
          refine zw_if0 hm_72 dX6_goOn_32 (t := 40) rfl zc0_ne ?_ ?_
          · intro hc
            rw [if_neg hc] at h
            refine zw_push hm_72 dX6_goOn_40 (v := .inl v2) rfl ?_
            exact zw_iret hm_72 dX6_goOn_41 h
          · intro hc
            rw [if_pos (Classical.not_not.mp hc)] at h
            refine zw_push hm_72 dX6_goOn_35 (v := .inr (.inr (some 87))) rfl ?_
            refine zw_cv hm_72 dX6_goOn_36 v_6_76_6 hm_70 [] [] rfl (zT_rt hS3 s_87 rfl) ⟨by omega, by omega⟩ rfl (zw_mono h (zi_go ?_ ?_))
            · intro v6 S5 hv
              obtain ⟨hS5, h⟩ := hv
              refine zw_stk hm_72 dX6_goOn_39 (st₉ := []) rfl rfl ?_
              refine zw_push hm_72 dX6_goOn_40 (v := .inl v2) rfl ?_
              exact zw_iret hm_72 dX6_goOn_41 h
            · intro x S9 hx
              exact ⟨by decide, hx⟩
        · intro x S9 hx
          exact ⟨by decide, hx⟩
    · intro x S9 hx
      exact ⟨by decide, hx⟩
  · intro hc
    rw [if_pos (Classical.not_not.mp hc)] at h
    refine zw_push hm_72 dX6_goOn_7 (v := .inl (0 : Int32)) rfl ?_
    exact zw_iret hm_72 dX6_goOn_8 h
theorem sp_72_87_s {X : Nat × (Nat → Int32)} {d w : Nat} {f : Nat → Nat → Int32} {r : Nat → Nat → Option Nat} {C Z N : Nat} {Q : Option ma_V ⊕ Nat → ma_S → Prop} {ab : Nat→Nat→Int32} {S : ma_S} (n : Int32) (hd : 4 ≤ d) (hw : 92 ≤ w) (hI : zJ87 f r C Z N S) (hpre0 : xB S (mR S 70)) (hpre1 : aS 88 S = ab) (hpre2 : 0 ≤ n.toInt) (K : ∀ v S₉, zJ87 f r C Z N S₉ → (True) → (xB S₉ (mR S₉ 70)) → (aS 88 S₉ = aGo ab n.toInt.toNat ∧ v.toInt = aGv ab n.toInt.toNat) → Q (.inl (some (.inl v))) S₉) : ma_wp X d w 72 0 [(0, .inr (.inr (some 87))), (1, .inl n)] [] S Q := by
  refine g_72_87_s_0 n (by omega) (by omega) (zG_T hI) ?_
  have f1 := zG_s hI (0) (1) (c := 87) (k := 8) (by decide)
  have li2 : (0 : Int32).toInt = 0 := rfl
  refine zd (fun h3 => ?_) (fun h3 => ?_)
  · skip
    have g4 := i_eq h3
    exact K ((0 : Int32)) _ hI trivial (show xB S (mR S 70) from by first | (exact xB_x (xC_o (W := 75) hpre0).2)) (show aS 88 S = aGo ab n.toInt.toNat ∧ (0 : Int32).toInt = aGv ab n.toInt.toNat from by first | (exact ⟨hpre1.trans (aGo_0 (by rw [← hpre1, (aS_I (W := 88) (S := S) (c := 87) (c₉ := 87) (k := 8) rfl rfl)]; assumption)).symm, (aGv_0 (by rw [← hpre1, (aS_I (W := 88) (S := S) (c := 87) (c₉ := 87) (k := 8) rfl rfl)]; assumption)).symm⟩))
  · skip
    have g5 := i_ne h3
    have b6 := i_bd n
    refine sp_120_88_s (ab := (aS 88 S)) (R := (mR S 70)) (n) (by omega) (by omega) (zJ87_dn hI) (show xB S (mR S 70) from by first | (exact xB_x (xC_o (W := 75) hpre0).2)) (show aS 88 S = (aS 88 S) from by first | (exact rfl)) (by omega) (fun v2 S1 hL_S1 hp_v2 rp0_S1 rp1_S1 => zi_n ⟨zG_T hL_S1, ?_⟩)
    have hI_S1 := zJ87_up hI hL_S1
    have rp0_S1 : xB S1 (mR S 70) := by
      have z := rp0_S1
      (try rw [show mI S 65 = f 65 from funext (fun k => zG_z hI rfl)] at z)
      (try rw [show mI S 64 1 = f 64 1 from zG_z hI rfl] at z)
      exact z
    have rp1_S1 : aS 88 S1 = aSp n.toInt.toNat (aS 88 S) ∧ v2.toInt = (aSn n.toInt.toNat (aS 88 S) : Int) := by
      have z := rp1_S1
      (try rw [show mI S 65 = f 65 from funext (fun k => zG_z hI rfl)] at z)
      (try rw [show mI S 64 1 = f 64 1 from zG_z hI rfl] at z)
      exact z
    have f7 := zG_s hI_S1 (0) (512) (c := 88) (k := 3) (by decide)
    have f8 := zG_s hI_S1 (0) (512) (c := 88) (k := 4) (by decide)
    refine zd (fun h9 => ?_) (fun h9 => ?_)
    · skip
      have g10 := i_lt h9
      have b11 := i_bd v2
      exact K (v2) _ hI_S1 trivial (show xB S1 (mR S1 70) from by first | (exact xB_x (xC_o (W := 75) rp0_S1).2)) (show aS 88 S1 = aGo ab n.toInt.toNat ∧ v2.toInt = aGv ab n.toInt.toNat from by first | (exact ⟨(aGo_1 (by rw [← hpre1, (aS_I (W := 88) (S := S) (c := 87) (c₉ := 87) (k := 8) rfl rfl)]; assumption) (rp1_S1.1.trans (congrArg (aSp n.toInt.toNat) hpre1)) (by have q3 := congrArg Int32.toInt (aS_I (W := 88) (S := S1) (c := 75) (c₉ := 88) (k := 3) rfl rfl); have q4 := congrArg Int32.toInt (aS_I (W := 88) (S := S1) (c := 75) (c₉ := 88) (k := 4) rfl rfl); omega)).symm, (rp1_S1.2.trans ((congrArg (fun q => (aSn n.toInt.toNat q : Int)) hpre1).trans (aGv_1 (by rw [← hpre1, (aS_I (W := 88) (S := S) (c := 87) (c₉ := 87) (k := 8) rfl rfl)]; assumption)).symm))⟩))
    · skip
      have g12 := i_nlt h9
      refine sp_69_87_s (ab := (aS 88 S1)) (by omega) (by omega) hI_S1 (show xB S1 (mR S1 70) from by first | (exact xB_x (xC_o (W := 75) rp0_S1).2)) (show aS 88 S1 = (aS 88 S1) from by first | (exact rfl)) (fun v4 S3 hI_S3 hp_v4 rp0_S3 rp1_S3 rp2_S3 => zi_n ⟨zG_T hI_S3, ?_⟩)
      have rp0_S3 : xB S3 (mR S3 70) := rp0_S3
      have rp1_S3 : aS 88 S3 = aNw (aS 88 S1) := rp1_S3
      have rp2_S3 : (v4.toInt = 1 ∧ (aS 88 S3 75 3).toInt < (aS 88 S3 75 4).toInt) ∨ (v4.toInt = 0 ∧ ¬ (aS 88 S3 75 3).toInt < (aS 88 S3 75 4).toInt) := rp2_S3
      have b13 := i_bd v4
      refine zd (fun h14 => ?_) (fun h14 => ?_)
      · skip
        have g15 := i_eq h14
        refine sp_70_87_s (ab := (aS 88 S3)) (by omega) (by omega) hI_S3 (show xB S3 (mR S3 70) from by first | (exact xB_x (xC_o (W := 75) rp0_S3).2)) (show aS 88 S3 = (aS 88 S3) from by first | (exact rfl)) (fun v6 S5 hI_S5 hp_v6 rp0_S5 rp1_S5 => zi_n ⟨zG_T hI_S5, ?_⟩)
        have rp0_S5 : xB S5 (mR S5 70) := rp0_S5
        have rp1_S5 : aS 88 S5 = aFi (aS 88 S3) ∧ v6 = aFv (aS 88 S3) := rp1_S5
        have b16 := i_bd v2
        exact K (v2) _ hI_S5 trivial (show xB S5 (mR S5 70) from by first | (exact xB_x (xC_o (W := 75) rp0_S5).2)) (show aS 88 S5 = aGo ab n.toInt.toNat ∧ v2.toInt = aGv ab n.toInt.toNat from by first | (exact ⟨rp1_S5.1.trans ((congrArg aFi rp1_S3).trans (aGo_3 (by rw [← hpre1, (aS_I (W := 88) (S := S) (c := 87) (c₉ := 87) (k := 8) rfl rfl)]; assumption) (rp1_S1.1.trans (congrArg (aSp n.toInt.toNat) hpre1)) (by have q3 := congrArg Int32.toInt (aS_I (W := 88) (S := S1) (c := 75) (c₉ := 88) (k := 3) rfl rfl); have q4 := congrArg Int32.toInt (aS_I (W := 88) (S := S1) (c := 75) (c₉ := 88) (k := 4) rfl rfl); omega) (by rw [← rp1_S3]; have q := rp2_S3; omega)).symm), (rp1_S1.2.trans ((congrArg (fun q => (aSn n.toInt.toNat q : Int)) hpre1).trans (aGv_1 (by rw [← hpre1, (aS_I (W := 88) (S := S) (c := 87) (c₉ := 87) (k := 8) rfl rfl)]; assumption)).symm))⟩))
      · skip
        have g17 := i_ne h14
        have b18 := i_bd v2
        exact K (v2) _ hI_S3 trivial (show xB S3 (mR S3 70) from by first | (exact xB_x (xC_o (W := 75) rp0_S3).2)) (show aS 88 S3 = aGo ab n.toInt.toNat ∧ v2.toInt = aGv ab n.toInt.toNat from by first | (exact ⟨rp1_S3.trans (aGo_2 (by rw [← hpre1, (aS_I (W := 88) (S := S) (c := 87) (c₉ := 87) (k := 8) rfl rfl)]; assumption) (rp1_S1.1.trans (congrArg (aSp n.toInt.toNat) hpre1)) (by have q3 := congrArg Int32.toInt (aS_I (W := 88) (S := S1) (c := 75) (c₉ := 88) (k := 3) rfl rfl); have q4 := congrArg Int32.toInt (aS_I (W := 88) (S := S1) (c := 75) (c₉ := 88) (k := 4) rfl rfl); omega) (by rw [← rp1_S3]; have q := rp2_S3; omega)).symm, (rp1_S1.2.trans ((congrArg (fun q => (aSn n.toInt.toNat q : Int)) hpre1).trans (aGv_1 (by rw [← hpre1, (aS_I (W := 88) (S := S) (c := 87) (c₉ := 87) (k := 8) rfl rfl)]; assumption)).symm))⟩))
theorem g_67_87_s_0 {X : Nat × (Nat → Int32)} {d w : Nat} {S : ma_S} {Q : Option ma_V ⊕ Nat → ma_S → Prop}  (hd : 4 ≤ d) (hw : 92 ≤ w) (hS : zT S) (h : if (mI S 87 8) = 0 then (ma_wp X (d - 1) (w - 20) 68 0 [(0, .inr (.inr (some 87)))] [] S (zv (fun S3 => zT S3 ∧ (ma_wp X (d - 1) (w - 24) 120 0 [(0, .inr (.inr (some 88))), (1, .inl (512 : Int32))] [] S3 (zi (fun v6 S5 => zT S5 ∧ (ma_wp X d w 67 24 [(0, .inr (.inr (some 87))), (1, .inl (0 : Int32))] [] S5 Q)) (fun x S9 => Q (.inr x) S9)))) (fun x S9 => Q (.inr x) S9))) else (ma_wp X (d - 1) (w - 24) 120 0 [(0, .inr (.inr (some 88))), (1, .inl (512 : Int32))] [] S (zi (fun v2 S1 => zT S1 ∧ (ma_wp X d w 67 24 [(0, .inr (.inr (some 87))), (1, .inl (0 : Int32))] [] S1 Q)) (fun x S9 => Q (.inr x) S9)))) : ma_wp X d w 67 0 [(0, .inr (.inr (some 87)))] [] S Q := by
  refine zw_push hm_67 dX6_cleanAll_0 (v := .inr (.inr (some 87))) rfl ?_
  refine zw_gf hm_67 dX6_cleanAll_1 (v := .inl (mI S 87 8)) (zT_is hS s_87) (zT_t hS s_87) rfl f_6_31_6 rfl ?_
  refine zw_if0 hm_67 dX6_cleanAll_4 (t := 11) rfl zc0_ne ?_ ?_
  · intro hc
    rw [if_neg hc] at h
    refine zw_push hm_67 dX6_cleanAll_11 (v := .inr (.inr (some 87))) rfl ?_
    refine zw_gf hm_67 dX6_cleanAll_12 (v := .inr (.inr (some 88))) (zT_is hS s_87) (zT_t hS s_87) rfl f_6_14_6 (zT_f hS r_87_5) ?_
    refine zw_push hm_67 dX6_cleanAll_15 (v := .inl (512 : Int32)) rfl ?_
    refine zw_cv hm_67 dX6_cleanAll_18 v_6_69_10 hm_120 [.inl (512 : Int32)] [] rfl (zT_rt hS s_88 rfl) ⟨by omega, by omega⟩ rfl (zw_mono h (zi_go ?_ ?_))
    · intro v2 S1 hv
      obtain ⟨hS1, h⟩ := hv
      refine zw_stk hm_67 dX6_cleanAll_21 (st₉ := []) rfl rfl ?_
      refine zw_push hm_67 dX6_cleanAll_22 (v := .inl (0 : Int32)) rfl ?_
      refine zw_sto hm_67 dX6_cleanAll_23 [(1, .inl (0 : Int32)), (0, .inr (.inr (some 87)))] rfl rfl rfl ?_
      exact zw_sub (ma_nd_of (ks := [0, 1]) rfl (by decide)) (ma_nd_of (ks := [1, 0]) rfl (by decide)) (ma_le_cons rfl (ma_le_cons rfl (ma_le_nil _))) h
    · intro x S9 hx
      exact ⟨by decide, hx⟩
  · intro hc
    rw [if_pos (Classical.not_not.mp hc)] at h
    refine zw_push hm_67 dX6_cleanAll_7 (v := .inr (.inr (some 87))) rfl ?_
    refine zw_cv hm_67 dX6_cleanAll_8 v_6_47_6 hm_68 [] [] rfl (zT_rt hS s_87 rfl) ⟨by omega, by omega⟩ rfl (zw_mono h (zv_go ?_ ?_))
    · intro S3 hv
      obtain ⟨hS3, h⟩ := hv
      refine zw_push hm_67 dX6_cleanAll_11 (v := .inr (.inr (some 87))) rfl ?_
      refine zw_gf hm_67 dX6_cleanAll_12 (v := .inr (.inr (some 88))) (zT_is hS3 s_87) (zT_t hS3 s_87) rfl f_6_14_6 (zT_f hS3 r_87_5) ?_
      refine zw_push hm_67 dX6_cleanAll_15 (v := .inl (512 : Int32)) rfl ?_
      refine zw_cv hm_67 dX6_cleanAll_18 v_6_69_10 hm_120 [.inl (512 : Int32)] [] rfl (zT_rt hS3 s_88 rfl) ⟨by omega, by omega⟩ rfl (zw_mono h (zi_go ?_ ?_))
      · intro v6 S5 hv
        obtain ⟨hS5, h⟩ := hv
        refine zw_stk hm_67 dX6_cleanAll_21 (st₉ := []) rfl rfl ?_
        refine zw_push hm_67 dX6_cleanAll_22 (v := .inl (0 : Int32)) rfl ?_
        refine zw_sto hm_67 dX6_cleanAll_23 [(1, .inl (0 : Int32)), (0, .inr (.inr (some 87)))] rfl rfl rfl ?_
        exact zw_sub (ma_nd_of (ks := [0, 1]) rfl (by decide)) (ma_nd_of (ks := [1, 0]) rfl (by decide)) (ma_le_cons rfl (ma_le_cons rfl (ma_le_nil _))) h
      · intro x S9 hx
        exact ⟨by decide, hx⟩
    · intro x S9 hx
      exact ⟨by decide, hx⟩
theorem g_67_87_s_24 {X : Nat × (Nat → Int32)} {d w : Nat} {S : ma_S} {Q : Option ma_V ⊕ Nat → ma_S → Prop} (l1 : Int32) (hd : 4 ≤ d) (hw : 92 ≤ w) (hS : zT S) (h : if (512 : Int32) ≤ l1 then (ma_wp X (d - 1) (w - 20) 70 0 [(0, .inr (.inr (some 87)))] [] S (zi (fun v2 S1 => zT S1 ∧ (Q (.inl (some (.inl v2))) S1)) (fun x S9 => Q (.inr x) S9))) else (ma_wp X (d - 1) (w - 20) 69 0 [(0, .inr (.inr (some 87)))] [] S (zi (fun v4 S3 => zT S3 ∧ (if v4 = 0 then (ma_wp X (d - 1) (w - 20) 70 0 [(0, .inr (.inr (some 87)))] [] S3 (zi (fun v6 S5 => zT S5 ∧ (Q (.inl (some (.inl v6))) S5)) (fun x S9 => Q (.inr x) S9))) else (ma_wp X (d - 1) (w - 24) 120 0 [(0, .inr (.inr (some 88))), (1, .inl (512 : Int32))] [] S3 (zi (fun v8 S7 => zT S7 ∧ (ma_wp X d w 67 24 [(0, .inr (.inr (some 87))), (1, .inl (l1 + (1 : Int32)))] [] S7 Q)) (fun x S9 => Q (.inr x) S9))))) (fun x S9 => Q (.inr x) S9)))) : ma_wp X d w 67 24 [(0, .inr (.inr (some 87))), (1, .inl l1)] [] S Q := by
  refine zw_push hm_67 dX6_cleanAll_24 (v := .inl l1) rfl ?_
  refine zw_push hm_67 dX6_cleanAll_25 (v := .inl (512 : Int32)) rfl ?_
  refine zw_if2 hm_67 dX6_cleanAll_28 (t := 55) rfl zc2_ge ?_ ?_
  · intro hc
    rw [if_pos hc] at h
    refine zw_push hm_67 dX6_cleanAll_55 (v := .inr (.inr (some 87))) rfl ?_
    refine zw_cv hm_67 dX6_cleanAll_56 v_6_76_6 hm_70 [] [] rfl (zT_rt hS s_87 rfl) ⟨by omega, by omega⟩ rfl (zw_mono h (zi_go ?_ ?_))
    · intro v2 S1 hv
      obtain ⟨hS1, h⟩ := hv
      exact zw_iret hm_67 dX6_cleanAll_59 h
    · intro x S9 hx
      exact ⟨by decide, hx⟩
  · intro hc
    rw [if_neg hc] at h
    refine zw_push hm_67 dX6_cleanAll_31 (v := .inr (.inr (some 87))) rfl ?_
    refine zw_cv hm_67 dX6_cleanAll_32 v_6_72_6 hm_69 [] [] rfl (zT_rt hS s_87 rfl) ⟨by omega, by omega⟩ rfl (zw_mono h (zi_go ?_ ?_))
    · intro v4 S3 hv
      obtain ⟨hS3, h⟩ := hv
      refine zw_if0 hm_67 dX6_cleanAll_35 (t := 55) rfl zc0_eq ?_ ?_
      · intro hc
        rw [if_pos hc] at h
        refine zw_push hm_67 dX6_cleanAll_55 (v := .inr (.inr (some 87))) rfl ?_
        refine zw_cv hm_67 dX6_cleanAll_56 v_6_76_6 hm_70 [] [] rfl (zT_rt hS3 s_87 rfl) ⟨by omega, by omega⟩ rfl (zw_mono h (zi_go ?_ ?_))
        · intro v6 S5 hv
          obtain ⟨hS5, h⟩ := hv
          exact zw_iret hm_67 dX6_cleanAll_59 h
        · intro x S9 hx
          exact ⟨by decide, hx⟩
      · intro hc
        rw [if_neg hc] at h
        refine zw_push hm_67 dX6_cleanAll_38 (v := .inr (.inr (some 87))) rfl ?_
        refine zw_gf hm_67 dX6_cleanAll_39 (v := .inr (.inr (some 88))) (zT_is hS3 s_87) (zT_t hS3 s_87) rfl f_6_14_6 (zT_f hS3 r_87_5) ?_
        refine zw_push hm_67 dX6_cleanAll_42 (v := .inl (512 : Int32)) rfl ?_
        refine zw_cv hm_67 dX6_cleanAll_45 v_6_69_10 hm_120 [.inl (512 : Int32)] [] rfl (zT_rt hS3 s_88 rfl) ⟨by omega, by omega⟩ rfl (zw_mono h (zi_go ?_ ?_))
        · intro v8 S7 hv
          obtain ⟨hS7, h⟩ := hv
          refine zw_stk hm_67 dX6_cleanAll_48 (st₉ := []) rfl rfl ?_
          refine zw_sto hm_67 dX6_cleanAll_49 [(1, .inl (l1 + (1 : Int32))), (0, .inr (.inr (some 87)))] rfl rfl rfl ?_
          refine zw_goto hm_67 dX6_cleanAll_52 (t := 24) rfl ?_
          exact zw_sub (ma_nd_of (ks := [0, 1]) rfl (by decide)) (ma_nd_of (ks := [1, 0]) rfl (by decide)) (ma_le_cons rfl (ma_le_cons rfl (ma_le_nil _))) h
        · intro x S9 hx
          exact ⟨by decide, hx⟩
    · intro x S9 hx
      exact ⟨by decide, hx⟩
theorem lp_67_87_s_24 {X : Nat × (Nat → Int32)} {d w : Nat} {f : Nat → Nat → Int32} {r : Nat → Nat → Option Nat} {C Z N : Nat} {Q : Option ma_V ⊕ Nat → ma_S → Prop} {ab : Nat→Nat→Int32} (hd : 4 ≤ d) (hw : 92 ≤ w) (K : ∀ v S₉, zJ87 f r C Z N S₉ → (True) → (xB S₉ (mR S₉ 70)) → (aS 88 S₉ = aCl ab ∧ v = aFv (aC1 ab)) → Q (.inl (some (.inl v))) S₉) : ∀ (n : Nat) (S : ma_S) (l1 : Int32), (512 - l1.toInt).toNat = n → zJ87 f r C Z N S → (0 ≤ l1.toInt) → (l1.toInt ≤ 512) → (xB S (mR S 70)) → (aC2 (512 - l1.toInt).toNat (aS 88 S) = aC1 ab) → ma_wp X d w 67 24 [(0, .inr (.inr (some 87))), (1, .inl l1)] [] S Q := by
  intro n
  induction n using Nat.strongRecOn with
  | _ n IH =>
    intro S l1 hmu hI  hi0 hi1 hi2 hi3
    refine g_67_87_s_24 l1 (by omega) (by omega) (zG_T hI) ?_
    have li1 : (512 : Int32).toInt = 512 := rfl
    have b2 := i_bd l1
    refine zd (fun h3 => ?_) (fun h3 => ?_)
    · skip
      have g4 := i_le h3
      refine sp_70_87_s (ab := (aS 88 S)) (by omega) (by omega) hI (show xB S (mR S 70) from by first | (exact xB_x (xC_o (W := 75) hi2).2)) (show aS 88 S = (aS 88 S) from by first | (exact rfl)) (fun v2 S1 hI_S1 hp_v2 rp0_S1 rp1_S1 => zi_n ⟨zG_T hI_S1, ?_⟩)
      have rp0_S1 : xB S1 (mR S1 70) := rp0_S1
      have rp1_S1 : aS 88 S1 = aFi (aS 88 S) ∧ v2 = aFv (aS 88 S) := rp1_S1
      have b5 := i_bd v2
      exact K (v2) _ hI_S1 trivial (show xB S1 (mR S1 70) from by first | (exact xB_x (xC_o (W := 75) rp0_S1).2)) (show aS 88 S1 = aCl ab ∧ v2 = aFv (aC1 ab) from by first | (exact ⟨rp1_S1.1.trans (congrArg aFi (show aS 88 S = aC1 ab from (by have q := hi3; rw [show (512 - l1.toInt).toNat = 0 from by omega] at q; exact q))), rp1_S1.2.trans (congrArg aFv (show aS 88 S = aC1 ab from (by have q := hi3; rw [show (512 - l1.toInt).toNat = 0 from by omega] at q; exact q)))⟩))
    · skip
      have g6 := i_nle h3
      refine sp_69_87_s (ab := (aS 88 S)) (by omega) (by omega) hI (show xB S (mR S 70) from by first | (exact xB_x (xC_o (W := 75) hi2).2)) (show aS 88 S = (aS 88 S) from by first | (exact rfl)) (fun v4 S3 hI_S3 hp_v4 rp0_S3 rp1_S3 rp2_S3 => zi_n ⟨zG_T hI_S3, ?_⟩)
      have rp0_S3 : xB S3 (mR S3 70) := rp0_S3
      have rp1_S3 : aS 88 S3 = aNw (aS 88 S) := rp1_S3
      have rp2_S3 : (v4.toInt = 1 ∧ (aS 88 S3 75 3).toInt < (aS 88 S3 75 4).toInt) ∨ (v4.toInt = 0 ∧ ¬ (aS 88 S3 75 3).toInt < (aS 88 S3 75 4).toInt) := rp2_S3
      have b7 := i_bd v4
      have li8 : (0 : Int32).toInt = 0 := rfl
      refine zd (fun h9 => ?_) (fun h9 => ?_)
      · skip
        have g10 := i_eq h9
        refine sp_70_87_s (ab := (aS 88 S3)) (by omega) (by omega) hI_S3 (show xB S3 (mR S3 70) from by first | (exact xB_x (xC_o (W := 75) rp0_S3).2)) (show aS 88 S3 = (aS 88 S3) from by first | (exact rfl)) (fun v6 S5 hI_S5 hp_v6 rp0_S5 rp1_S5 => zi_n ⟨zG_T hI_S5, ?_⟩)
        have rp0_S5 : xB S5 (mR S5 70) := rp0_S5
        have rp1_S5 : aS 88 S5 = aFi (aS 88 S3) ∧ v6 = aFv (aS 88 S3) := rp1_S5
        have b11 := i_bd v6
        exact K (v6) _ hI_S5 trivial (show xB S5 (mR S5 70) from by first | (exact xB_x (xC_o (W := 75) rp0_S5).2)) (show aS 88 S5 = aCl ab ∧ v6 = aFv (aC1 ab) from by first | (exact ⟨rp1_S5.1.trans (congrArg aFi (rp1_S3.trans ((aC2_n (k := (512 - l1.toInt - 1).toNat) (by rw [← rp1_S3]; have q := rp2_S3; omega)).symm.trans ((congrArg (fun q => aC2 q (aS 88 S)) (show (512 - l1.toInt - 1).toNat + 1 = (512 - l1.toInt).toNat by omega)).trans hi3)))), rp1_S5.2.trans (congrArg aFv (rp1_S3.trans ((aC2_n (k := (512 - l1.toInt - 1).toNat) (by rw [← rp1_S3]; have q := rp2_S3; omega)).symm.trans ((congrArg (fun q => aC2 q (aS 88 S)) (show (512 - l1.toInt - 1).toNat + 1 = (512 - l1.toInt).toNat by omega)).trans hi3))))⟩))
      · skip
        have g12 := i_ne h9
        refine sp_120_88_s (ab := (aS 88 S3)) (R := (mR S3 70)) ((512 : Int32)) (by omega) (by omega) (zJ87_dn hI_S3) (show xB S3 (mR S3 70) from by first | (exact xB_x (xC_o (W := 75) rp0_S3).2)) (show aS 88 S3 = (aS 88 S3) from by first | (exact rfl)) (by omega) (fun v8 S7 hL_S7 hp_v8 rp0_S7 rp1_S7 => zi_n ⟨zG_T hL_S7, ?_⟩)
        have hI_S7 := zJ87_up hI_S3 hL_S7
        have rp0_S7 : xB S7 (mR S3 70) := by
          have z := rp0_S7
          (try rw [show mI S3 65 = f 65 from funext (fun k => zG_z hI_S3 rfl)] at z)
          (try rw [show mI S3 64 1 = f 64 1 from zG_z hI_S3 rfl] at z)
          exact z
        have rp1_S7 : aS 88 S7 = aSp (512 : Int32).toInt.toNat (aS 88 S3) ∧ v8.toInt = (aSn (512 : Int32).toInt.toNat (aS 88 S3) : Int) := by
          have z := rp1_S7
          (try rw [show mI S3 65 = f 65 from funext (fun k => zG_z hI_S3 rfl)] at z)
          (try rw [show mI S3 64 1 = f 64 1 from zG_z hI_S3 rfl] at z)
          exact z
        first | have e13 : (l1 + (1 : Int32)).toInt = l1.toInt + (1) := i_addk rfl (by omega) (by omega) | have b14 := i_bd (l1 + (1 : Int32))
        exact IH _ (by omega) _ ((l1 + (1 : Int32))) rfl hI_S7 (by omega) (by omega) (show xB S7 (mR S7 70) from by first | (exact xB_x (xC_o (W := 75) rp0_S7).2)) (show aC2 (512 - ((l1 + (1 : Int32))).toInt).toNat (aS 88 S7) = aC1 ab from by first | (rw [rp1_S7.1, show (512 : Int32).toInt.toNat = 512 from rfl, rp1_S3]; refine ((aC2_y (by rw [← rp1_S3]; have q := rp2_S3; omega)).symm.trans (congrArg (fun q => aC2 q (aS 88 S)) ?_)).trans hi3; omega))
theorem sp_67_87_s {X : Nat × (Nat → Int32)} {d w : Nat} {f : Nat → Nat → Int32} {r : Nat → Nat → Option Nat} {C Z N : Nat} {Q : Option ma_V ⊕ Nat → ma_S → Prop} {ab : Nat→Nat→Int32} {S : ma_S}  (hd : 4 ≤ d) (hw : 92 ≤ w) (hI : zJ87 f r C Z N S) (hpre0 : xB S (mR S 70)) (hpre1 : aS 88 S = ab) (K : ∀ v S₉, zJ87 f r C Z N S₉ → (True) → (xB S₉ (mR S₉ 70)) → (aS 88 S₉ = aCl ab ∧ v = aFv (aC1 ab)) → Q (.inl (some (.inl v))) S₉) : ma_wp X d w 67 0 [(0, .inr (.inr (some 87)))] [] S Q := by
  refine g_67_87_s_0  (by omega) (by omega) (zG_T hI) ?_
  have f1 := zG_s hI (0) (1) (c := 87) (k := 8) (by decide)
  have li2 : (0 : Int32).toInt = 0 := rfl
  refine zd (fun h3 => ?_) (fun h3 => ?_)
  · skip
    have g4 := i_eq h3
    refine sp_68_87_s (ab := (aS 88 S)) (by omega) (by omega) hI (show xB S (mR S 70) from by first | (exact xB_x (xC_o (W := 75) hpre0).2)) (show aS 88 S = (aS 88 S) from by first | (exact rfl)) (fun S3 hI_S3 rp0_S3 rp1_S3 => zv_n ⟨zG_T hI_S3, ?_⟩)
    have rp0_S3 : xB S3 (mR S3 70) := rp0_S3
    have rp1_S3 : aS 88 S3 = aB0 (aS 88 S) := rp1_S3
    have li5 : (512 : Int32).toInt = 512 := rfl
    refine sp_120_88_s (ab := (aS 88 S3)) (R := (mR S3 70)) ((512 : Int32)) (by omega) (by omega) (zJ87_dn hI_S3) (show xB S3 (mR S3 70) from by first | (exact xB_x (xC_o (W := 75) rp0_S3).2)) (show aS 88 S3 = (aS 88 S3) from by first | (exact rfl)) (by omega) (fun v6 S5 hL_S5 hp_v6 rp0_S5 rp1_S5 => zi_n ⟨zG_T hL_S5, ?_⟩)
    have hI_S5 := zJ87_up hI_S3 hL_S5
    have rp0_S5 : xB S5 (mR S3 70) := by
      have z := rp0_S5
      (try rw [show mI S3 65 = f 65 from funext (fun k => zG_z hI_S3 rfl)] at z)
      (try rw [show mI S3 64 1 = f 64 1 from zG_z hI_S3 rfl] at z)
      exact z
    have rp1_S5 : aS 88 S5 = aSp (512 : Int32).toInt.toNat (aS 88 S3) ∧ v6.toInt = (aSn (512 : Int32).toInt.toNat (aS 88 S3) : Int) := by
      have z := rp1_S5
      (try rw [show mI S3 65 = f 65 from funext (fun k => zG_z hI_S3 rfl)] at z)
      (try rw [show mI S3 64 1 = f 64 1 from zG_z hI_S3 rfl] at z)
      exact z
    exact lp_67_87_s_24 (by omega) (by omega) K _ _ ((0 : Int32)) rfl hI_S5 (by omega) (by omega) (show xB S5 (mR S5 70) from by first | (exact xB_x (xC_o (W := 75) rp0_S5).2)) (show aC2 (512 - ((0 : Int32)).toInt).toNat (aS 88 S5) = aC1 ab from by first | (rw [rp1_S5.1, show (512 : Int32).toInt.toNat = 512 from rfl, rp1_S3, hpre1, ← aBg_y (by rw [← hpre1, (aS_I (W := 88) (S := S) (c := 87) (c₉ := 87) (k := 8) rfl rfl)]; assumption)]; rfl))
  · skip
    have g6 := i_ne h3
    have li7 : (512 : Int32).toInt = 512 := rfl
    refine sp_120_88_s (ab := (aS 88 S)) (R := (mR S 70)) ((512 : Int32)) (by omega) (by omega) (zJ87_dn hI) (show xB S (mR S 70) from by first | (exact xB_x (xC_o (W := 75) hpre0).2)) (show aS 88 S = (aS 88 S) from by first | (exact rfl)) (by omega) (fun v2 S1 hL_S1 hp_v2 rp0_S1 rp1_S1 => zi_n ⟨zG_T hL_S1, ?_⟩)
    have hI_S1 := zJ87_up hI hL_S1
    have rp0_S1 : xB S1 (mR S 70) := by
      have z := rp0_S1
      (try rw [show mI S 65 = f 65 from funext (fun k => zG_z hI rfl)] at z)
      (try rw [show mI S 64 1 = f 64 1 from zG_z hI rfl] at z)
      exact z
    have rp1_S1 : aS 88 S1 = aSp (512 : Int32).toInt.toNat (aS 88 S) ∧ v2.toInt = (aSn (512 : Int32).toInt.toNat (aS 88 S) : Int) := by
      have z := rp1_S1
      (try rw [show mI S 65 = f 65 from funext (fun k => zG_z hI rfl)] at z)
      (try rw [show mI S 64 1 = f 64 1 from zG_z hI rfl] at z)
      exact z
    exact lp_67_87_s_24 (by omega) (by omega) K _ _ ((0 : Int32)) rfl hI_S1 (by omega) (by omega) (show xB S1 (mR S1 70) from by first | (exact xB_x (xC_o (W := 75) rp0_S1).2)) (show aC2 (512 - ((0 : Int32)).toInt).toNat (aS 88 S1) = aC1 ab from by first | (rw [rp1_S1.1, show (512 : Int32).toInt.toNat = 512 from rfl, hpre1]; exact (congrArg (fun q => aC2 512 (aSp 512 q)) (aBg_n (by rw [← hpre1, (aS_I (W := 88) (S := S) (c := 87) (c₉ := 87) (k := 8) rfl rfl)]; assumption)).symm)))

