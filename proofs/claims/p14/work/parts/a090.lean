/-! from 95.g20 -/
/-! the heap by numbers, the class (written by wip/tools/gen18.py) -/
theorem g_103_87_s_0 {X : Nat × (Nat → Int32)} {d w : Nat} {S : ma_S} {Q : Option ma_V ⊕ Nat → ma_S → Prop} (n : Int32) (hd : 4 ≤ d) (hw : 93 ≤ w) (hS : zT S) (h : if (mI S 87 1) = (0 : Int32) then (ma_wp X (d - 1) (w - 26) 104 0 [(0, .inr (.inr (some 87))), (1, .inl (0 : Int32)), (2, .inl (mI S 87 0)), (3, .inl n)] [] S (zi (fun v2 S1 => zT S1 ∧ (Q (.inl (some (.inl v2))) S1)) (fun x S9 => Q (.inr x) S9))) else (if (mI S 87 1) = (1 : Int32) then (ma_wp X (d - 1) (w - 22) 107 0 [(0, .inr (.inr (some 87))), (1, .inl n)] [] S (zi (fun v4 S3 => zT S3 ∧ (Q (.inl (some (.inl v4))) S3)) (fun x S9 => Q (.inr x) S9))) else (if (mI S 87 1) = (2 : Int32) then (ma_wp X (d - 1) (w - 28) 108 0 [(0, .inr (.inr (some 87))), (1, .inl n), (2, .inl (1 : Int32))] [] S (zi (fun v6 S5 => zT S5 ∧ (Q (.inl (some (.inl v6))) S5)) (fun x S9 => Q (.inr x) S9))) else (ma_wp X (d - 1) (w - 28) 108 0 [(0, .inr (.inr (some 87))), (1, .inl n), (2, .inl (0 : Int32))] [] S (zi (fun v8 S7 => zT S7 ∧ (Q (.inl (some (.inl v8))) S7)) (fun x S9 => Q (.inr x) S9)))))) : ma_wp X d w 103 0 [(0, .inr (.inr (some 87))), (1, .inl n)] [] S Q := by
  refine zw_push hm_103 dX8_fit_0 (v := .inr (.inr (some 87))) rfl ?_
  refine zw_gf hm_103 dX8_fit_1 (v := .inl (mI S 87 1)) (zT_is hS s_87) (zT_t hS s_87) rfl f_8_15_6 rfl ?_
  by_cases hc0 : (mI S 87 1) = (0 : Int32)
  · rw [if_pos hc0] at h
    refine zw_jmp hm_103 dX8_fit_4 (t := 32) (st₉ := []) rfl rfl rfl (ma_jmp_tab (by rw [hc0]; decide +kernel)) ?_
    refine zw_push hm_103 dX8_fit_32 (v := .inr (.inr (some 87))) rfl ?_
    refine zw_push hm_103 dX8_fit_33 (v := .inl (0 : Int32)) rfl ?_
    refine zw_push hm_103 dX8_fit_34 (v := .inr (.inr (some 87))) rfl ?_
    refine zw_gf hm_103 dX8_fit_35 (v := .inl (mI S 87 0)) (zT_is hS s_87) (zT_t hS s_87) rfl f_8_9_6 rfl ?_
    refine zw_push hm_103 dX8_fit_38 (v := .inl n) rfl ?_
    refine zw_cv hm_103 dX8_fit_39 v_8_56_6 hm_104 [.inl n, .inl (mI S 87 0), .inl (0 : Int32)] [] rfl (zT_rt hS s_87 rfl) ⟨by omega, by omega⟩ rfl (zw_mono h (zi_go ?_ ?_))
    · intro v2 S1 hv
      obtain ⟨hS1, h⟩ := hv
      exact zw_iret hm_103 dX8_fit_42 h
    · intro x S9 hx
      exact ⟨by decide, hx⟩
  rw [if_neg hc0] at h
  by_cases hc1 : (mI S 87 1) = (1 : Int32)
  · rw [if_pos hc1] at h
    refine zw_jmp hm_103 dX8_fit_4 (t := 43) (st₉ := []) rfl rfl rfl (ma_jmp_tab (by rw [hc1]; decide +kernel)) ?_
    refine zw_push hm_103 dX8_fit_43 (v := .inr (.inr (some 87))) rfl ?_
    refine zw_push hm_103 dX8_fit_44 (v := .inl n) rfl ?_
    refine zw_cv hm_103 dX8_fit_45 v_8_60_6 hm_107 [.inl n] [] rfl (zT_rt hS s_87 rfl) ⟨by omega, by omega⟩ rfl (zw_mono h (zi_go ?_ ?_))
    · intro v4 S3 hv
      obtain ⟨hS3, h⟩ := hv
      exact zw_iret hm_103 dX8_fit_48 h
    · intro x S9 hx
      exact ⟨by decide, hx⟩
  rw [if_neg hc1] at h
  by_cases hc2 : (mI S 87 1) = (2 : Int32)
  · rw [if_pos hc2] at h
    refine zw_jmp hm_103 dX8_fit_4 (t := 49) (st₉ := []) rfl rfl rfl (ma_jmp_tab (by rw [hc2]; decide +kernel)) ?_
    refine zw_push hm_103 dX8_fit_49 (v := .inr (.inr (some 87))) rfl ?_
    refine zw_push hm_103 dX8_fit_50 (v := .inl n) rfl ?_
    refine zw_push hm_103 dX8_fit_51 (v := .inl (1 : Int32)) rfl ?_
    refine zw_cv hm_103 dX8_fit_52 v_8_63_6 hm_108 [.inl (1 : Int32), .inl n] [] rfl (zT_rt hS s_87 rfl) ⟨by omega, by omega⟩ rfl (zw_mono h (zi_go ?_ ?_))
    · intro v6 S5 hv
      obtain ⟨hS5, h⟩ := hv
      exact zw_iret hm_103 dX8_fit_55 h
    · intro x S9 hx
      exact ⟨by decide, hx⟩
  rw [if_neg hc2] at h
  refine zw_jmp hm_103 dX8_fit_4 (t := 56) (st₉ := []) rfl rfl rfl (ma_jmp_def (m := 3) (by decide) (fun j hj => by
      have hj2 : j = 0 ∨ j = 1 ∨ j = 2 := by omega
      rcases hj2 with rfl | rfl | rfl
      · exact hc0
      · exact hc1
      · exact hc2
      ) rfl) ?_
  refine zw_push hm_103 dX8_fit_56 (v := .inr (.inr (some 87))) rfl ?_
  refine zw_push hm_103 dX8_fit_57 (v := .inl n) rfl ?_
  refine zw_push hm_103 dX8_fit_58 (v := .inl (0 : Int32)) rfl ?_
  refine zw_cv hm_103 dX8_fit_59 v_8_63_6 hm_108 [.inl (0 : Int32), .inl n] [] rfl (zT_rt hS s_87 rfl) ⟨by omega, by omega⟩ rfl (zw_mono h (zi_go ?_ ?_))
  · intro v8 S7 hv
    obtain ⟨hS7, h⟩ := hv
    exact zw_iret hm_103 dX8_fit_62 h
  · intro x S9 hx
    exact ⟨by decide, hx⟩
theorem sp_103_87_s {X : Nat × (Nat → Int32)} {d w : Nat} {f : Nat → Nat → Int32} {r : Nat → Nat → Option Nat} {C Z N : Nat} {Q : Option ma_V ⊕ Nat → ma_S → Prop} {ab : Nat→Nat→Int32} {S : ma_S} (n : Int32) (hd : 4 ≤ d) (hw : 93 ≤ w) (hI : zJ87 f r C Z N S) (hpre0 : xB S (mR S 70)) (hpre1 : aS 88 S = ab) (K : ∀ v S₉, zJ87 f r C Z N S₉ → (-1 ≤ v.toInt ∧ v.toInt ≤ 1500) → (xB S₉ (mR S₉ 70)) → (aS 88 S₉ = ab) → (v.toInt = aFt ab n.toInt) → Q (.inl (some (.inl v))) S₉) : ma_wp X d w 103 0 [(0, .inr (.inr (some 87))), (1, .inl n)] [] S Q := by
  refine g_103_87_s_0 n (by omega) (by omega) (zG_T hI) ?_
  have b1 := i_bd (mI S 87 1)
  have li2 : (0 : Int32).toInt = 0 := rfl
  refine zd (fun h3 => ?_) (fun h3 => ?_)
  · skip
    have g4 := i_eq h3
    have f5 := zG_s hI (0) (1500) (c := 87) (k := 0) (by decide)
    have b6 := i_bd n
    refine sp_104_87_s (ab := (aS 88 S)) ((0 : Int32)) ((mI S 87 0)) (n) (by omega) (by omega) hI (show xB S (mR S 70) from by first | (exact xB_x (xC_o (W := 75) hpre0).2)) (show aS 88 S = (aS 88 S) from by first | (exact rfl) | (exact (xC_o (W := 88) hpre0).1.trans hpre1)) (by omega) (fun v2 S1 hI_S1 hp_v2 rp0_S1 rp1_S1 rp2_S1 => zi_n ⟨zG_T hI_S1, ?_⟩)
    have rp0_S1 : xB S1 (mR S1 70) := rp0_S1
    have rp1_S1 : aS 88 S1 = (aS 88 S) := rp1_S1
    have rp2_S1 : v2.toInt = aFf (aS 88 S) n.toInt (mI S 87 0).toInt 4500 (aN (aS 88 S) (0 : Int32).toInt) := rp2_S1
    have b7 := i_bd v2
    exact K (v2) _ hI_S1 (by omega) (show xB S1 (mR S1 70) from by first | (exact xB_x (xC_o (W := 75) rp0_S1).2)) (show aS 88 S1 = ab from by first | (exact rp1_S1.trans (hpre1))) (show v2.toInt = aFt ab n.toInt from by first | (have q := rp2_S1; rw [← (aS_I (W := 88) (S := S) (c := 87) (c₉ := 87) (k := 0) rfl rfl), hpre1, show (0 : Int32).toInt = 0 from rfl] at q; refine q.trans ?_; unfold aFt; refine (if_pos ?_).symm; rw [← hpre1, (aS_I (W := 88) (S := S) (c := 87) (c₉ := 87) (k := 1) rfl rfl)]; assumption))
  · skip
    have g8 := i_ne h3
    have li9 : (1 : Int32).toInt = 1 := rfl
    refine zd (fun h10 => ?_) (fun h10 => ?_)
    · skip
      have g11 := i_eq h10
      have b12 := i_bd n
      refine sp_107_87_s (ab := (aS 88 S)) (n) (by omega) (by omega) hI (show xB S (mR S 70) from by first | (exact xB_x (xC_o (W := 75) hpre0).2)) (show aS 88 S = (aS 88 S) from by first | (exact rfl)) (fun v4 S3 hI_S3 hp_v4 rp0_S3 rp1_S3 rp2_S3 => zi_n ⟨zG_T hI_S3, ?_⟩)
      have rp0_S3 : xB S3 (mR S3 70) := rp0_S3
      have rp1_S3 : aS 88 S3 = (aS 88 S) := rp1_S3
      have rp2_S3 : v4.toInt = aFx (aS 88 S) n.toInt := rp2_S3
      have b13 := i_bd v4
      exact K (v4) _ hI_S3 (by omega) (show xB S3 (mR S3 70) from by first | (exact xB_x (xC_o (W := 75) rp0_S3).2)) (show aS 88 S3 = ab from by first | (exact rp1_S3.trans (hpre1))) (show v4.toInt = aFt ab n.toInt from by first | (have q := rp2_S3; rw [hpre1] at q; refine q.trans ?_; unfold aFt; rw [← hpre1, (aS_I (W := 88) (S := S) (c := 87) (c₉ := 87) (k := 1) rfl rfl)]; exact ((if_neg (by assumption)).trans (if_pos (by assumption))).symm))
    · skip
      have g14 := i_ne h10
      have li15 : (2 : Int32).toInt = 2 := rfl
      refine zd (fun h16 => ?_) (fun h16 => ?_)
      · skip
        have g17 := i_eq h16
        have b18 := i_bd n
        refine sp_108_87_s (ab := (aS 88 S)) (n) ((1 : Int32)) (by omega) (by omega) hI (show xB S (mR S 70) from by first | (exact xB_x (xC_o (W := 75) hpre0).2)) (show aS 88 S = (aS 88 S) from by first | (exact rfl) | (exact (xC_o (W := 88) hpre0).1.trans hpre1)) (fun v6 S5 hI_S5 hp_v6 rp0_S5 rp1_S5 rp2_S5 => zi_n ⟨zG_T hI_S5, ?_⟩)
        have rp0_S5 : xB S5 (mR S5 70) := rp0_S5
        have rp1_S5 : aS 88 S5 = (aS 88 S) := rp1_S5
        have rp2_S5 : v6.toInt = aFl (aS 88 S) n.toInt (1 : Int32) 4500 (aN (aS 88 S) 0) (-1) 0 := rp2_S5
        have b19 := i_bd v6
        exact K (v6) _ hI_S5 (by omega) (show xB S5 (mR S5 70) from by first | (exact xB_x (xC_o (W := 75) rp0_S5).2)) (show aS 88 S5 = ab from by first | (exact rp1_S5.trans (hpre1))) (show v6.toInt = aFt ab n.toInt from by first | (have q := rp2_S5; rw [hpre1] at q; refine q.trans ?_; unfold aFt; rw [← hpre1, (aS_I (W := 88) (S := S) (c := 87) (c₉ := 87) (k := 1) rfl rfl)]; exact ((if_neg (by assumption)).trans ((if_neg (by assumption)).trans (if_pos (by assumption)))).symm) | (have q := rp2_S5; rw [hpre1] at q; refine q.trans ?_; unfold aFt; rw [← hpre1, (aS_I (W := 88) (S := S) (c := 87) (c₉ := 87) (k := 1) rfl rfl)]; exact ((if_neg (by assumption)).trans ((if_neg (by assumption)).trans (if_neg (by assumption)))).symm))
      · skip
        have g20 := i_ne h16
        have b21 := i_bd n
        refine sp_108_87_s (ab := (aS 88 S)) (n) ((0 : Int32)) (by omega) (by omega) hI (show xB S (mR S 70) from by first | (exact xB_x (xC_o (W := 75) hpre0).2)) (show aS 88 S = (aS 88 S) from by first | (exact rfl) | (exact (xC_o (W := 88) hpre0).1.trans hpre1)) (fun v8 S7 hI_S7 hp_v8 rp0_S7 rp1_S7 rp2_S7 => zi_n ⟨zG_T hI_S7, ?_⟩)
        have rp0_S7 : xB S7 (mR S7 70) := rp0_S7
        have rp1_S7 : aS 88 S7 = (aS 88 S) := rp1_S7
        have rp2_S7 : v8.toInt = aFl (aS 88 S) n.toInt (0 : Int32) 4500 (aN (aS 88 S) 0) (-1) 0 := rp2_S7
        have b22 := i_bd v8
        exact K (v8) _ hI_S7 (by omega) (show xB S7 (mR S7 70) from by first | (exact xB_x (xC_o (W := 75) rp0_S7).2)) (show aS 88 S7 = ab from by first | (exact rp1_S7.trans (hpre1))) (show v8.toInt = aFt ab n.toInt from by first | (have q := rp2_S7; rw [hpre1] at q; refine q.trans ?_; unfold aFt; rw [← hpre1, (aS_I (W := 88) (S := S) (c := 87) (c₉ := 87) (k := 1) rfl rfl)]; exact ((if_neg (by assumption)).trans ((if_neg (by assumption)).trans (if_pos (by assumption)))).symm) | (have q := rp2_S7; rw [hpre1] at q; refine q.trans ?_; unfold aFt; rw [← hpre1, (aS_I (W := 88) (S := S) (c := 87) (c₉ := 87) (k := 1) rfl rfl)]; exact ((if_neg (by assumption)).trans ((if_neg (by assumption)).trans (if_neg (by assumption)))).symm))
/-! FINDING ROOM IN STEPS -/
def aF0 (a : Nat → Nat → Int32) : Nat → Nat → Int32 := if a 87 8 = 0 ∧ (4 : Int32) * (a 87 0 - a 69 8) < a 87 0 then aB0 a else a
def aF1 (a : Nat → Nat → Int32) : Nat → Nat → Int32 := aGo (aF0 a) (a 87 6).toInt.toNat
def aRs (a : Nat → Nat → Int32) (z : Int) : Nat → Nat → Int32 := if aFt (aF1 a) z = -1 then (if aFt (aCl (aF1 a)) z = -1 ∧ aF1 a 87 8 ≠ 0 then aCl (aCl (aF1 a)) else aCl (aF1 a)) else aF1 a
def aRp (a : Nat → Nat → Int32) (z : Int) : Int := aFt (aRs a z) z
section FR5
variable {a b c d : Nat → Nat → Int32} {z : Int} {m k : Nat} {n : Int32}
theorem aF0_y (h : a 87 8 = 0) (h1 : (4 : Int32) * (a 87 0 - a 69 8) < a 87 0) : aF0 a = aB0 a := if_pos ⟨h, h1⟩
theorem aF0_n (h : ¬ (a 87 8 = 0 ∧ (4 : Int32) * (a 87 0 - a 69 8) < a 87 0)) : aF0 a = a := if_neg h
theorem aRs_1 (e : b = aF1 a) (h : aFt b z ≠ -1) : aRs a z = b := by
  unfold aRs
  rw [← e, if_neg h]
theorem aRs_2 (e : b = aF1 a) (h : aFt b z = -1) (e2 : c = aCl b) (h2 : aFt c z ≠ -1 ∨ b 87 8 = 0) : aRs a z = c := by
  unfold aRs
  rw [← e, if_pos h, ← e2, if_neg (fun w => by
    rcases h2 with h2 | h2
    · exact h2 w.1
    · exact w.2 h2)]
theorem aRs_3 (e : b = aF1 a) (h : aFt b z = -1) (e2 : c = aCl b) (h2 : aFt c z = -1) (h3 : b 87 8 ≠ 0) (e3 : d = aCl c) : aRs a z = d := by
  unfold aRs
  rw [← e, if_pos h, ← e2, if_pos ⟨h2, h3⟩, ← e3]
/-- cells that a walk's coming leaves -/
theorem aHf_o {c : Nat} (h : c ≠ 75 ∧ c ≠ 76 ∧ c ≠ 77) : ∀ (f : Nat) (n : Int32) (a : Nat → Nat → Int32), aHf f n a c k = a c k := by
  intro f
  induction f with
  | zero => intro n a; rfl
  | succ f ih =>
    intro n a
    show aHf f (n + 1) (if _ then aCm a n else a) c k = a c k
    rw [ih]
    split
    · exact aCm_o h
    · rfl
theorem aWf_o {c : Nat} (h : c ≠ 75 ∧ c ≠ 76 ∧ c ≠ 77) : ∀ (f : Nat) (n : Int32) (a : Nat → Nat → Int32), aWf f n a c k = a c k := by
  intro f
  induction f with
  | zero => intro n a; exact aHf_o h _ _ _
  | succ f ih =>
    intro n a
    show aWf f (n + 1) (aCm a _) c k = a c k
    rw [ih]
    exact aCm_o h
theorem aRf_o {c : Nat} (h : c ≠ 75 ∧ c ≠ 76 ∧ c ≠ 77) : ∀ (f : Nat) (n : Int32) (a : Nat → Nat → Int32), aRf f n a c k = a c k := by
  intro f
  induction f with
  | zero => intro n a; exact aWf_o h _ _ _
  | succ f ih =>
    intro n a
    show aRf f (n + 1) (aCm a _) c k = a c k
    rw [ih]
    exact aCm_o h
theorem aRo_o {c : Nat} (h : c ≠ 75 ∧ c ≠ 76 ∧ c ≠ 77) : aRo a n c k = a c k := aRf_o h _ _ _
theorem aB0_o {c : Nat} (h : c ≠ 75 ∧ c ≠ 76 ∧ c ≠ 77) (h2 : ¬ (c = 87 ∧ k = 8)) : aB0 a c k = a c k := by
  unfold aB0
  rw [aRo_o h]
  show (if c = 75 ∧ k = 5 then _ else if c = 75 ∧ k = 4 then _ else if c = 75 ∧ k = 3 then _ else if c = 77 ∧ _ then _ else if c = 87 ∧ k = 8 then _ else a c k) = _
  rw [if_neg (fun w => h.1 w.1), if_neg (fun w => h.1 w.1), if_neg (fun w => h.1 w.1), if_neg (fun w => h.2.2 w.1), if_neg h2]
end FR5

