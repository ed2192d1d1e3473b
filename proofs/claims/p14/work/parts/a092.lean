/-! from 95.g22 -/
/-! the heap by numbers, the class (written by wip/tools/gen18.py) -/
/-! WHAT THE CALLS CHANGE -/
/-- its number if it is there, else -1 -/
def aNm (a : Nat → Nat → Int32) (y : Int32) : Int32 := if 0 ≤ y.toInt ∧ y.toInt < 512 ∧ a 126 y.toNatClampNeg ≠ 0 then y else -1
/-- a ROOT or a REFERENCE that had the one has the other -/
def aNc (a : Nat → Nat → Int32) (y z : Int32) : Nat → Nat → Int32 := if a 87 8 ≠ 0 ∧ aNm a y ≠ aNm a z then aCm a (if a 87 7 = 0 then y else z) else a
def aSt (a : Nat → Nat → Int32) (y : Int32) : Nat → Nat → Int32 := if a 87 8 ≠ 0 then aCm a y else a
/-- a word is written -/
def aCi (a : Nat → Nat → Int32) (n : Nat) (i x : Int32) : Nat → Nat → Int32 := if 0 ≤ (a 130 n + 1 + i).toInt ∧ (a 130 n + 1 + i).toInt < 4500 then ma_u a 71 (a 130 n + 1 + i).toNatClampNeg x else a
def aWo (a : Nat → Nat → Int32) (n : Nat) (i : Int32) : Int32 := if 0 ≤ (a 130 n + 1 + i).toInt ∧ (a 130 n + 1 + i).toInt < 4500 then a 71 (a 130 n + 1 + i).toNatClampNeg else -1
/-- a ROOT is set -/
def aRt (a : Nat → Nat → Int32) (i y : Int32) : Nat → Nat → Int32 := aNc (ma_u a 72 i.toNatClampNeg (aNm a y)) (a 72 i.toNatClampNeg) y
/-- a REFERENCE is set -/
def aLn (a : Nat → Nat → Int32) (n : Nat) (i y : Int32) : Nat → Nat → Int32 := aNc (aCi a n i (aNm a y)) (aRef a n i) y
section B6
variable {a b : Nat → Nat → Int32} {W c d : Nat} {x y z i : Int32} {S : ma_S} {R : zRT}
theorem nm_y (hC : xB S R) (rg : zTa R y = some c) : aNm (aS W S) y = y := by
  have t := xB_th (W := W) hC rg
  exact if_pos ⟨t.1, t.2.1, by rw [t.2.2.2.2.2.2.2.2]; decide⟩
theorem nm_n (hC : xB S R) (rn : zTa R y = none) : aNm (aS W S) y = -1 := if_neg (xB_nt hC rn)
theorem nm_eq (hC : xB S R) : aNm (aS W S) y = aNm (aS W S) z ↔ zTa R y = zTa R z := by
  cases e1 : zTa R y with
  | none =>
    rw [nm_n hC e1]
    cases e2 : zTa R z with
    | none => exact ⟨fun _ => rfl, fun _ => (nm_n hC e2).symm⟩
    | some c =>
      rw [nm_y hC e2]
      refine ⟨fun h => ?_, fun h => by cases h⟩
      have t := (zTa_p e2).1
      rw [← h] at t
      exact absurd t (by decide)
  | some c =>
    rw [nm_y hC e1]
    cases e2 : zTa R z with
    | none =>
      rw [nm_n hC e2]
      refine ⟨fun h => ?_, fun h => by cases h⟩
      have t := (zTa_p e1).1
      rw [h] at t
      exact absurd t (by decide)
    | some d =>
      rw [nm_y hC e2]
      refine ⟨fun h => ?_, fun h => ?_⟩
      · rw [← h, e1] at e2
        exact e2
      · have t1 := (xB_th (W := W) hC e1).2.2.1
        cases h
        exact t1.symm.trans (xB_th (W := W) hC e2).2.2.1
theorem aNc_y (h : a 87 8 ≠ 0) (h1 : aNm a y ≠ aNm a z) : aNc a y z = aCm a (if a 87 7 = 0 then y else z) := if_pos ⟨h, h1⟩
theorem aNc_n (h : ¬ (a 87 8 ≠ 0 ∧ aNm a y ≠ aNm a z)) : aNc a y z = a := if_neg h
end B6
theorem g_74_87_s_0 {X : Nat × (Nat → Int32)} {d w : Nat} {S : ma_S} {Q : Option ma_V ⊕ Nat → ma_S → Prop} (p : Option Nat) (q : Option Nat) (hd : 1 ≤ d) (hw : 21 ≤ w) (hS : zT S) (h : if (mI S 87 8) = 0 then (Q (.inl none) S) else (((∀ b, p = some b → 64 ≤ b) ∧ ∀ b, q = some b → 64 ≤ b) ∧ (if p = q then (Q (.inl none) S) else (if (mI S 87 7) = 0 then (ma_wp X (d - 1) (w - 21) 119 0 [(0, .inr (.inr (some 88))), (1, .inr (.inr p))] [] S (zv (fun S3 => zT S3 ∧ (Q (.inl none) S3)) (fun x S9 => Q (.inr x) S9))) else (ma_wp X (d - 1) (w - 21) 119 0 [(0, .inr (.inr (some 88))), (1, .inr (.inr q))] [] S (zv (fun S1 => zT S1 ∧ (Q (.inl none) S1)) (fun x S9 => Q (.inr x) S9))))))) : ma_wp X d w 74 0 [(0, .inr (.inr (some 87))), (1, .inr (.inr p)), (2, .inr (.inr q))] [] S Q := by
  refine zw_push hm_74 dX6_noteChange_0 (v := .inr (.inr (some 87))) rfl ?_
  refine zw_gf hm_74 dX6_noteChange_1 (v := .inl (mI S 87 8)) (zT_is hS s_87) (zT_t hS s_87) rfl f_6_31_6 rfl ?_
  refine zw_if0 hm_74 dX6_noteChange_4 (t := 31) rfl zc0_eq ?_ ?_
  · intro hc
    rw [if_pos hc] at h
    exact zw_vret hm_74 dX6_noteChange_31 h
  · intro hc
    rw [if_neg hc] at h
    refine zw_push hm_74 dX6_noteChange_7 (v := .inr (.inr p)) rfl ?_
    refine zw_push hm_74 dX6_noteChange_8 (v := .inr (.inr q)) rfl ?_
    obtain ⟨hg, h⟩ := h
    refine zw_acmp hm_74 dX6_noteChange_9 (t := 31) rfl hg.1 hg.2 ?_ ?_
    · intro hc
      rw [if_pos hc] at h
      exact zw_vret hm_74 dX6_noteChange_31 h
    · intro hc
      rw [if_neg hc] at h
      refine zw_push hm_74 dX6_noteChange_12 (v := .inr (.inr (some 87))) rfl ?_
      refine zw_gf hm_74 dX6_noteChange_13 (v := .inr (.inr (some 88))) (zT_is hS s_87) (zT_t hS s_87) rfl f_6_14_6 (zT_f hS r_87_5) ?_
      refine zw_push hm_74 dX6_noteChange_16 (v := .inr (.inr (some 87))) rfl ?_
      refine zw_gf hm_74 dX6_noteChange_17 (v := .inl (mI S 87 7)) (zT_is hS s_87) (zT_t hS s_87) rfl f_6_28_6 rfl ?_
      refine zw_if0 hm_74 dX6_noteChange_20 (t := 27) rfl zc0_ne ?_ ?_
      · intro hc
        rw [if_neg hc] at h
        refine zw_push hm_74 dX6_noteChange_27 (v := .inr (.inr q)) rfl ?_
        refine zw_cv hm_74 dX6_noteChange_28 v_6_97_10 hm_119 [.inr (.inr q)] [] rfl (zT_rt hS s_88 rfl) ⟨by omega, by omega⟩ rfl (zw_mono h (zv_go ?_ ?_))
        · intro S1 hv
          obtain ⟨hS1, h⟩ := hv
          exact zw_vret hm_74 dX6_noteChange_31 h
        · intro x S9 hx
          exact ⟨by decide, hx⟩
      · intro hc
        rw [if_pos (Classical.not_not.mp hc)] at h
        refine zw_push hm_74 dX6_noteChange_23 (v := .inr (.inr p)) rfl ?_
        refine zw_goto hm_74 dX6_noteChange_24 (t := 28) rfl ?_
        refine zw_cv hm_74 dX6_noteChange_28 v_6_97_10 hm_119 [.inr (.inr p)] [] rfl (zT_rt hS s_88 rfl) ⟨by omega, by omega⟩ rfl (zw_mono h (zv_go ?_ ?_))
        · intro S3 hv
          obtain ⟨hS3, h⟩ := hv
          exact zw_vret hm_74 dX6_noteChange_31 h
        · intro x S9 hx
          exact ⟨by decide, hx⟩
theorem sp_74_87_s {X : Nat × (Nat → Int32)} {d w : Nat} {f : Nat → Nat → Int32} {r : Nat → Nat → Option Nat} {C Z N : Nat} {Q : Option ma_V ⊕ Nat → ma_S → Prop} {ab : Nat→Nat→Int32} {R : zRT} {y1 : Int32} {y2 : Int32} {S : ma_S} (p : Option Nat) (q : Option Nat) (hd : 1 ≤ d) (hw : 21 ≤ w) (hI : zJ87 f r C Z N S) (hq_p : ∀ c, p = some c → 126 ≤ c ∧ c < N) (hq_q : ∀ c, q = some c → 126 ≤ c ∧ c < N) (hpre0 : xB S R) (hpre1 : aS 88 S = ab) (hpre2 : p = zTa R y1) (hpre3 : q = zTa R y2) (K : ∀ S₉, zJ87 f r C Z N S₉ → (xB S₉ R) → (aS 88 S₉ = aNc ab y1 y2) → Q (.inl none) S₉) : ma_wp X d w 74 0 [(0, .inr (.inr (some 87))), (1, .inr (.inr p)), (2, .inr (.inr q))] [] S Q := by
  refine g_74_87_s_0 p q (by omega) (by omega) (zG_T hI) ?_
  have f1 := zG_s hI (0) (1) (c := 87) (k := 8) (by decide)
  have li2 : (0 : Int32).toInt = 0 := rfl
  refine zd (fun h3 => ?_) (fun h3 => ?_)
  · skip
    have g4 := i_eq h3
    exact K _ hI (show xB S R from by first | (exact (xC_o (W := 75) hpre0).2)) (show aS 88 S = aNc ab y1 y2 from by first | (refine hpre1.trans (aNc_n (fun w => ?_)).symm; have w1 := w.1; rw [← hpre1, (aS_I (W := 88) (S := S) (c := 87) (c₉ := 87) (k := 8) rfl rfl)] at w1; first | exact absurd (by assumption) w1 | (have w2 := w.2; rw [← hpre1] at w2; exact w2 ((nm_eq (W := 88) hpre0).mpr (hpre2.symm.trans (Eq.trans (by assumption) hpre3)))) | exact absurd (by rw [← hpre1]; exact (nm_eq (W := 88) hpre0).mpr (hpre2.symm.trans hpre3)) w.2))
  · skip
    have g5 := i_ne h3
    refine ⟨⟨fun b z => Nat.le_trans (by decide) (hq_p b z).1, fun b z => Nat.le_trans (by decide) (hq_q b z).1⟩, ?_⟩
    refine zd (fun h6 => ?_) (fun h6 => ?_)
    · skip
      exact K _ hI (show xB S R from by first | (exact (xC_o (W := 75) hpre0).2)) (show aS 88 S = aNc ab y1 y2 from by first | (refine hpre1.trans (aNc_n (fun w => ?_)).symm; have w1 := w.1; rw [← hpre1, (aS_I (W := 88) (S := S) (c := 87) (c₉ := 87) (k := 8) rfl rfl)] at w1; first | exact absurd (by assumption) w1 | (have w2 := w.2; rw [← hpre1] at w2; exact w2 ((nm_eq (W := 88) hpre0).mpr (hpre2.symm.trans (Eq.trans (by assumption) hpre3)))) | exact absurd (by rw [← hpre1]; exact (nm_eq (W := 88) hpre0).mpr (hpre2.symm.trans hpre3)) w.2))
    · skip
      have b7 := i_bd (mI S 87 7)
      refine zd (fun h8 => ?_) (fun h8 => ?_)
      · skip
        have g9 := i_eq h8
        refine sp_119_88_s (ab := (aS 88 S)) (R := R) (y := (y1)) (p) (by omega) (by omega) (zJ87_dn hI) hq_p (show xB S R from by first | (exact (xC_o (W := 75) hpre0).2)) (show aS 88 S = (aS 88 S) from by first | (exact rfl)) (show p = zTa R (y1) from by first | (exact hpre2)) (fun S3 hL_S3 rp0_S3 rp1_S3 => zv_n ⟨zG_T hL_S3, ?_⟩)
        have hI_S3 := zJ87_up hI hL_S3
        have rp0_S3 : xB S3 R := by
          have z := rp0_S3
          (try rw [show mI S 65 = f 65 from funext (fun k => zG_z hI rfl)] at z)
          (try rw [show mI S 64 1 = f 64 1 from zG_z hI rfl] at z)
          exact z
        have rp1_S3 : aS 88 S3 = aCm (aS 88 S) (y1) := by
          have z := rp1_S3
          (try rw [show mI S 65 = f 65 from funext (fun k => zG_z hI rfl)] at z)
          (try rw [show mI S 64 1 = f 64 1 from zG_z hI rfl] at z)
          exact z
        exact K _ hI_S3 (show xB S3 R from by first | (exact (xC_o (W := 75) rp0_S3).2)) (show aS 88 S3 = aNc ab y1 y2 from by first | (rw [rp1_S3, hpre1, aNc_y (by rw [← hpre1, (aS_I (W := 88) (S := S) (c := 87) (c₉ := 87) (k := 8) rfl rfl)]; assumption) (fun w => by rw [← hpre1] at w; have q := (nm_eq (W := 88) hpre0).mp w; rw [← hpre2, ← hpre3] at q; exact absurd q (by assumption))]; rw [← hpre1, (aS_I (W := 88) (S := S) (c := 87) (c₉ := 87) (k := 7) rfl rfl), if_pos (by assumption)]) | (rw [rp1_S3, hpre1, aNc_y (by rw [← hpre1, (aS_I (W := 88) (S := S) (c := 87) (c₉ := 87) (k := 8) rfl rfl)]; assumption) (fun w => by rw [← hpre1] at w; have q := (nm_eq (W := 88) hpre0).mp w; rw [← hpre2, ← hpre3] at q; exact absurd q (by assumption))]; rw [← hpre1, (aS_I (W := 88) (S := S) (c := 87) (c₉ := 87) (k := 7) rfl rfl), if_neg (by assumption)]))
      · skip
        have g10 := i_ne h8
        refine sp_119_88_s (ab := (aS 88 S)) (R := R) (y := (y2)) (q) (by omega) (by omega) (zJ87_dn hI) hq_q (show xB S R from by first | (exact (xC_o (W := 75) hpre0).2)) (show aS 88 S = (aS 88 S) from by first | (exact rfl)) (show q = zTa R (y2) from by first | (exact hpre3)) (fun S1 hL_S1 rp0_S1 rp1_S1 => zv_n ⟨zG_T hL_S1, ?_⟩)
        have hI_S1 := zJ87_up hI hL_S1
        have rp0_S1 : xB S1 R := by
          have z := rp0_S1
          (try rw [show mI S 65 = f 65 from funext (fun k => zG_z hI rfl)] at z)
          (try rw [show mI S 64 1 = f 64 1 from zG_z hI rfl] at z)
          exact z
        have rp1_S1 : aS 88 S1 = aCm (aS 88 S) (y2) := by
          have z := rp1_S1
          (try rw [show mI S 65 = f 65 from funext (fun k => zG_z hI rfl)] at z)
          (try rw [show mI S 64 1 = f 64 1 from zG_z hI rfl] at z)
          exact z
        exact K _ hI_S1 (show xB S1 R from by first | (exact (xC_o (W := 75) rp0_S1).2)) (show aS 88 S1 = aNc ab y1 y2 from by first | (rw [rp1_S1, hpre1, aNc_y (by rw [← hpre1, (aS_I (W := 88) (S := S) (c := 87) (c₉ := 87) (k := 8) rfl rfl)]; assumption) (fun w => by rw [← hpre1] at w; have q := (nm_eq (W := 88) hpre0).mp w; rw [← hpre2, ← hpre3] at q; exact absurd q (by assumption))]; rw [← hpre1, (aS_I (W := 88) (S := S) (c := 87) (c₉ := 87) (k := 7) rfl rfl), if_pos (by assumption)]) | (rw [rp1_S1, hpre1, aNc_y (by rw [← hpre1, (aS_I (W := 88) (S := S) (c := 87) (c₉ := 87) (k := 8) rfl rfl)]; assumption) (fun w => by rw [← hpre1] at w; have q := (nm_eq (W := 88) hpre0).mp w; rw [← hpre2, ← hpre3] at q; exact absurd q (by assumption))]; rw [← hpre1, (aS_I (W := 88) (S := S) (c := 87) (c₉ := 87) (k := 7) rfl rfl), if_neg (by assumption)]))
theorem g_75_87_s_0 {X : Nat × (Nat → Int32)} {d w : Nat} {S : ma_S} {Q : Option ma_V ⊕ Nat → ma_S → Prop} (t : Nat) (hd : 1 ≤ d) (hw : 21 ≤ w) (hS : zT S) (h : if (mI S 87 8) = 0 then (Q (.inl none) S) else (ma_wp X (d - 1) (w - 21) 119 0 [(0, .inr (.inr (some 88))), (1, .inr (.inr (some t)))] [] S (zv (fun S1 => zT S1 ∧ (Q (.inl none) S1)) (fun x S9 => Q (.inr x) S9)))) : ma_wp X d w 75 0 [(0, .inr (.inr (some 87))), (1, .inr (.inr (some t)))] [] S Q := by
  refine zw_push hm_75 dX6_noteStrong_0 (v := .inr (.inr (some 87))) rfl ?_
  refine zw_gf hm_75 dX6_noteStrong_1 (v := .inl (mI S 87 8)) (zT_is hS s_87) (zT_t hS s_87) rfl f_6_31_6 rfl ?_
  refine zw_if0 hm_75 dX6_noteStrong_4 (t := 15) rfl zc0_eq ?_ ?_
  · intro hc
    rw [if_pos hc] at h
    exact zw_vret hm_75 dX6_noteStrong_15 h
  · intro hc
    rw [if_neg hc] at h
    refine zw_push hm_75 dX6_noteStrong_7 (v := .inr (.inr (some 87))) rfl ?_
    refine zw_gf hm_75 dX6_noteStrong_8 (v := .inr (.inr (some 88))) (zT_is hS s_87) (zT_t hS s_87) rfl f_6_14_6 (zT_f hS r_87_5) ?_
    refine zw_push hm_75 dX6_noteStrong_11 (v := .inr (.inr (some t))) rfl ?_
    refine zw_cv hm_75 dX6_noteStrong_12 v_6_97_10 hm_119 [.inr (.inr (some t))] [] rfl (zT_rt hS s_88 rfl) ⟨by omega, by omega⟩ rfl (zw_mono h (zv_go ?_ ?_))
    · intro S1 hv
      obtain ⟨hS1, h⟩ := hv
      exact zw_vret hm_75 dX6_noteStrong_15 h
    · intro x S9 hx
      exact ⟨by decide, hx⟩
theorem sp_75_87_s {X : Nat × (Nat → Int32)} {d w : Nat} {f : Nat → Nat → Int32} {r : Nat → Nat → Option Nat} {C Z N : Nat} {Q : Option ma_V ⊕ Nat → ma_S → Prop} {ab : Nat→Nat→Int32} {R : zRT} {y : Int32} {S : ma_S} (t : Nat) (hd : 1 ≤ d) (hw : 21 ≤ w) (hI : zJ87 f r C Z N S) (th_t : 126 ≤ t ∧ t < N) (hpre0 : xB S R) (hpre1 : aS 88 S = ab) (hpre2 : zTa R y = some t) (K : ∀ S₉, zJ87 f r C Z N S₉ → (xB S₉ R) → (aS 88 S₉ = aSt ab y) → Q (.inl none) S₉) : ma_wp X d w 75 0 [(0, .inr (.inr (some 87))), (1, .inr (.inr (some t)))] [] S Q := by
  refine g_75_87_s_0 t (by omega) (by omega) (zG_T hI) ?_
  have f1 := zG_s hI (0) (1) (c := 87) (k := 8) (by decide)
  have li2 : (0 : Int32).toInt = 0 := rfl
  refine zd (fun h3 => ?_) (fun h3 => ?_)
  · skip
    have g4 := i_eq h3
    exact K _ hI (show xB S R from by first | (exact (xC_o (W := 75) hpre0).2)) (show aS 88 S = aSt ab y from by first | (refine hpre1.trans (if_neg (fun w => ?_)).symm; rw [← hpre1, (aS_I (W := 88) (S := S) (c := 87) (c₉ := 87) (k := 8) rfl rfl)] at w; exact absurd (by assumption) w))
  · skip
    have g5 := i_ne h3
    refine sp_119_88_s (ab := (aS 88 S)) (R := R) (y := (y)) ((some t)) (by omega) (by omega) (zJ87_dn hI) (fun _ z => by cases z; exact th_t) (show xB S R from by first | (exact (xC_o (W := 75) hpre0).2)) (show aS 88 S = (aS 88 S) from by first | (exact rfl)) (show (some t) = zTa R (y) from by first | (exact hpre2.symm)) (fun S1 hL_S1 rp0_S1 rp1_S1 => zv_n ⟨zG_T hL_S1, ?_⟩)
    have hI_S1 := zJ87_up hI hL_S1
    have rp0_S1 : xB S1 R := by
      have z := rp0_S1
      (try rw [show mI S 65 = f 65 from funext (fun k => zG_z hI rfl)] at z)
      (try rw [show mI S 64 1 = f 64 1 from zG_z hI rfl] at z)
      exact z
    have rp1_S1 : aS 88 S1 = aCm (aS 88 S) (y) := by
      have z := rp1_S1
      (try rw [show mI S 65 = f 65 from funext (fun k => zG_z hI rfl)] at z)
      (try rw [show mI S 64 1 = f 64 1 from zG_z hI rfl] at z)
      exact z
    exact K _ hI_S1 (show xB S1 R from by first | (exact (xC_o (W := 75) rp0_S1).2)) (show aS 88 S1 = aSt ab y from by first | (refine rp1_S1.trans (Eq.trans (congrArg (fun q => aCm q y) hpre1) (if_pos (fun w => ?_)).symm); rw [← hpre1, (aS_I (W := 88) (S := S) (c := 87) (c₉ := 87) (k := 8) rfl rfl)] at w; exact absurd w (by assumption)))
theorem g_93_s_0 {X : Nat × (Nat → Int32)} {d w : Nat} {S : ma_S} {Q : Option ma_V ⊕ Nat → ma_S → Prop} (p : Option Nat) (q : Option Nat) (hd : 0 ≤ d) (hw : 0 ≤ w) (hS : zT S) (h : (q = none → (p = none → Q (.inl none) S) ∧ (∀ c2, p = some c2 → (126 ≤ c2 ∧ c2 < mN S) ∧ ((126 ≤ c2 ∧ c2 < mN S) ∧ (Q (.inl none) (ma_put S c2 6 (.inl ((mI S c2 6) - (1 : Int32)))))))) ∧ (∀ c1, q = some c1 → (126 ≤ c1 ∧ c1 < mN S) ∧ ((126 ≤ c1 ∧ c1 < mN S) ∧ ((p = none → Q (.inl none) (ma_put S c1 6 (.inl ((mI S c1 6) + (1 : Int32))))) ∧ (∀ c3, p = some c3 → (126 ≤ c3 ∧ c3 < mN (ma_put S c1 6 (.inl ((mI S c1 6) + (1 : Int32))))) ∧ ((126 ≤ c3 ∧ c3 < mN (ma_put S c1 6 (.inl ((mI S c1 6) + (1 : Int32))))) ∧ (Q (.inl none) (ma_put (ma_put S c1 6 (.inl ((mI S c1 6) + (1 : Int32)))) c3 6 (.inl ((mI (ma_put S c1 6 (.inl ((mI S c1 6) + (1 : Int32)))) c3 6) - (1 : Int32))))))))))) : ma_wp X d w 93 0 [(0, .inr (.inr p)), (1, .inr (.inr q))] [] S Q := by
  refine zw_push hm_93 dX7_changeCounts_0 (v := .inr (.inr q)) rfl ?_
  refine zw_ifnull hm_93 dX7_changeCounts_1 (t := 14) rfl ?_ ?_
  · intro hc
    have h := h.1 hc
    (try rw [hc])
    show ma_wp X d w 93 14 [(0, .inr (.inr p)), (1, .inr (.inr none))] [] S _
    refine zw_push hm_93 dX7_changeCounts_14 (v := .inr (.inr p)) rfl ?_
    refine zw_ifnull hm_93 dX7_changeCounts_15 (t := 28) rfl ?_ ?_
    · intro hc
      have h := h.1 hc
      (try rw [hc])
      show ma_wp X d w 93 28 [(0, .inr (.inr none)), (1, .inr (.inr none))] [] S _
      exact zw_vret hm_93 dX7_changeCounts_28 h
    · intro c2 hc
      have h := h.2 c2 hc
      (try rw [hc])
      show ma_wp X d w 93 18 [(0, .inr (.inr (some c2))), (1, .inr (.inr none))] [] S _
      refine zw_push hm_93 dX7_changeCounts_18 (v := .inr (.inr (some c2))) rfl ?_
      refine zw_stk hm_93 dX7_changeCounts_19 (st₉ := [.inr (.inr (some c2)), .inr (.inr (some c2))]) rfl rfl ?_
      obtain ⟨hg, h⟩ := h
      refine zw_gf hm_93 dX7_changeCounts_20 (v := .inl (mI S c2 6)) (zT_tis hS hg) (zT_tt hS hg) rfl f_7_98_9 rfl ?_
      refine zw_push hm_93 dX7_changeCounts_23 (v := .inl (1 : Int32)) rfl ?_
      refine zw_stk hm_93 dX7_changeCounts_24 (st₉ := [.inl ((mI S c2 6) - (1 : Int32)), .inr (.inr (some c2))]) rfl rfl ?_
      obtain ⟨hg, h⟩ := h
      refine zw_pf hm_93 dX7_changeCounts_25 (zT_tis hS hg) (zT_tt hS hg) p_7_98_9 zk_int ?_
      exact zw_vret hm_93 dX7_changeCounts_28 h
  · intro c1 hc
    have h := h.2 c1 hc
    (try rw [hc])
    show ma_wp X d w 93 4 [(0, .inr (.inr p)), (1, .inr (.inr (some c1)))] [] S _
    refine zw_push hm_93 dX7_changeCounts_4 (v := .inr (.inr (some c1))) rfl ?_
    refine zw_stk hm_93 dX7_changeCounts_5 (st₉ := [.inr (.inr (some c1)), .inr (.inr (some c1))]) rfl rfl ?_
    obtain ⟨hg, h⟩ := h
    refine zw_gf hm_93 dX7_changeCounts_6 (v := .inl (mI S c1 6)) (zT_tis hS hg) (zT_tt hS hg) rfl f_7_98_9 rfl ?_
    refine zw_push hm_93 dX7_changeCounts_9 (v := .inl (1 : Int32)) rfl ?_
    refine zw_stk hm_93 dX7_changeCounts_10 (st₉ := [.inl ((mI S c1 6) + (1 : Int32)), .inr (.inr (some c1))]) rfl rfl ?_
    obtain ⟨hg, h⟩ := h
    refine zw_pf hm_93 dX7_changeCounts_11 (zT_tis hS hg) (zT_tt hS hg) p_7_98_9 zk_int ?_
    refine zw_push hm_93 dX7_changeCounts_14 (v := .inr (.inr p)) rfl ?_
    refine zw_ifnull hm_93 dX7_changeCounts_15 (t := 28) rfl ?_ ?_
    · intro hc
      have h := h.1 hc
      (try rw [hc])
      show ma_wp X d w 93 28 [(0, .inr (.inr none)), (1, .inr (.inr (some c1)))] [] (ma_put S c1 6 (.inl ((mI S c1 6) + (1 : Int32)))) _
      exact zw_vret hm_93 dX7_changeCounts_28 h
    · intro c3 hc
      have h := h.2 c3 hc
      (try rw [hc])
      show ma_wp X d w 93 18 [(0, .inr (.inr (some c3))), (1, .inr (.inr (some c1)))] [] (ma_put S c1 6 (.inl ((mI S c1 6) + (1 : Int32)))) _
      refine zw_push hm_93 dX7_changeCounts_18 (v := .inr (.inr (some c3))) rfl ?_
      refine zw_stk hm_93 dX7_changeCounts_19 (st₉ := [.inr (.inr (some c3)), .inr (.inr (some c3))]) rfl rfl ?_
      obtain ⟨hg, h⟩ := h
      refine zw_gf hm_93 dX7_changeCounts_20 (v := .inl (mI (ma_put S c1 6 (.inl ((mI S c1 6) + (1 : Int32)))) c3 6)) (zT_tis (zT_pi hS) hg) (zT_tt (zT_pi hS) hg) rfl f_7_98_9 rfl ?_
      refine zw_push hm_93 dX7_changeCounts_23 (v := .inl (1 : Int32)) rfl ?_
      refine zw_stk hm_93 dX7_changeCounts_24 (st₉ := [.inl ((mI (ma_put S c1 6 (.inl ((mI S c1 6) + (1 : Int32)))) c3 6) - (1 : Int32)), .inr (.inr (some c3))]) rfl rfl ?_
      obtain ⟨hg, h⟩ := h
      refine zw_pf hm_93 dX7_changeCounts_25 (zT_tis (zT_pi hS) hg) (zT_tt (zT_pi hS) hg) p_7_98_9 zk_int ?_
      exact zw_vret hm_93 dX7_changeCounts_28 h
theorem sp_93_s {X : Nat × (Nat → Int32)} {d w : Nat} {f : Nat → Nat → Int32} {r : Nat → Nat → Option Nat} {C Z N : Nat} {Q : Option ma_V ⊕ Nat → ma_S → Prop} {ab : Nat→Nat→Int32} {R : zRT} {W : Nat} {y1 : Int32} {y2 : Int32} {S : ma_S} (p : Option Nat) (q : Option Nat) (hd : 0 ≤ d) (hw : 0 ≤ w) (hI : zI f r C Z N S) (hq_p : ∀ c, p = some c → 126 ≤ c ∧ c < N) (hq_q : ∀ c, q = some c → 126 ≤ c ∧ c < N) (hpre0 : xB S R) (hpre1 : aS W S = ab) (hpre2 : xW W) (hpre3 : p = zTa R y1) (hpre4 : q = zTa R y2) (K : ∀ S₉, zI f r C Z N S₉ → (xB S₉ R) → (aS W S₉ = ab) → Q (.inl none) S₉) : ma_wp X d w 93 0 [(0, .inr (.inr p)), (1, .inr (.inr q))] [] S Q := by
  refine g_93_s_0 p q (by omega) (by omega) (zG_T hI) ?_
  refine ⟨fun hc => ?_, fun c1 hc => ?_⟩
  · skip
    have rn_c1 : zTa R y2 = none := hpre4.symm.trans hc
    refine ⟨fun hc => ?_, fun c2 hc => ?_⟩
    · skip
      have rn_c2 : zTa R y1 = none := hpre3.symm.trans hc
      exact K _ hI (show xB S R from by first | (exact (xC_o (W := 75) hpre0).2)) (show aS W S = ab from by first | (exact (xC_o (W := W) hpre0).1.trans hpre1))
    · skip
      have th_c2 := hq_p c2 hc
      have rg_c2 : zTa R y1 = some c2 := hpre3.symm.trans hc
      subst hc
      refine ⟨zG_n hI th_c2, ?_⟩
      refine ⟨zG_n hI th_c2, ?_⟩
      have hI1 : zI f r C Z N (ma_put S c2 6 (.inl ((mI S c2 6) - (1 : Int32)))) := zG_tf hI th_c2.1 zI_t (by decide) (by decide) trivial (by decide) (by decide) (by decide)
      exact K _ hI1 (show xB (ma_put S c2 6 (.inl ((mI S c2 6) - (1 : Int32)))) R from by first | (exact (xC_6 (k := 6) (x := ((mI S c2 6) - (1 : Int32))) (xC_o (W := 75) hpre0) xW75 th_c2.1 rfl (by decide)).2)) (show aS W (ma_put S c2 6 (.inl ((mI S c2 6) - (1 : Int32)))) = ab from by first | (exact (xC_6 (k := 6) (x := ((mI S c2 6) - (1 : Int32))) (xC_o (W := W) hpre0) hpre2 th_c2.1 rfl (by decide)).1.trans hpre1))
  · skip
    have th_c1 := hq_q c1 hc
    have rg_c1 : zTa R y2 = some c1 := hpre4.symm.trans hc
    subst hc
    refine ⟨zG_n hI th_c1, ?_⟩
    refine ⟨zG_n hI th_c1, ?_⟩
    refine ⟨fun hc => ?_, fun c3 hc => ?_⟩
    · skip
      have rn_c3 : zTa R y1 = none := hpre3.symm.trans hc
      have hI2 : zI f r C Z N (ma_put S c1 6 (.inl ((mI S c1 6) + (1 : Int32)))) := zG_tf hI th_c1.1 zI_t (by decide) (by decide) trivial (by decide) (by decide) (by decide)
      exact K _ hI2 (show xB (ma_put S c1 6 (.inl ((mI S c1 6) + (1 : Int32)))) R from by first | (exact (xC_6 (k := 6) (x := ((mI S c1 6) + (1 : Int32))) (xC_o (W := 75) hpre0) xW75 th_c1.1 rfl (by decide)).2)) (show aS W (ma_put S c1 6 (.inl ((mI S c1 6) + (1 : Int32)))) = ab from by first | (exact (xC_6 (k := 6) (x := ((mI S c1 6) + (1 : Int32))) (xC_o (W := W) hpre0) hpre2 th_c1.1 rfl (by decide)).1.trans hpre1))
    · skip
      have th_c3 := hq_p c3 hc
      have rg_c3 : zTa R y1 = some c3 := hpre3.symm.trans hc
      subst hc
      have hI3 : zI f r C Z N (ma_put S c1 6 (.inl ((mI S c1 6) + (1 : Int32)))) := zG_tf hI th_c1.1 zI_t (by decide) (by decide) trivial (by decide) (by decide) (by decide)
      refine ⟨zG_n hI3 th_c3, ?_⟩
      refine ⟨zG_n hI3 th_c3, ?_⟩
      have hI4 : zI f r C Z N (ma_put (ma_put S c1 6 (.inl ((mI S c1 6) + (1 : Int32)))) c3 6 (.inl ((mI (ma_put S c1 6 (.inl ((mI S c1 6) + (1 : Int32)))) c3 6) - (1 : Int32)))) := zG_tf hI3 th_c3.1 zI_t (by decide) (by decide) trivial (by decide) (by decide) (by decide)
      exact K _ hI4 (show xB (ma_put (ma_put S c1 6 (.inl ((mI S c1 6) + (1 : Int32)))) c3 6 (.inl ((mI (ma_put S c1 6 (.inl ((mI S c1 6) + (1 : Int32)))) c3 6) - (1 : Int32)))) R from by first | (exact (xC_6 (k := 6) (x := ((mI (ma_put S c1 6 (.inl ((mI S c1 6) + (1 : Int32)))) c3 6) - (1 : Int32))) (xC_6 (k := 6) (x := ((mI S c1 6) + (1 : Int32))) (xC_o (W := 75) hpre0) xW75 th_c1.1 rfl (by decide)) xW75 th_c3.1 rfl (by decide)).2)) (show aS W (ma_put (ma_put S c1 6 (.inl ((mI S c1 6) + (1 : Int32)))) c3 6 (.inl ((mI (ma_put S c1 6 (.inl ((mI S c1 6) + (1 : Int32)))) c3 6) - (1 : Int32)))) = ab from by first | (exact (xC_6 (k := 6) (x := ((mI (ma_put S c1 6 (.inl ((mI S c1 6) + (1 : Int32)))) c3 6) - (1 : Int32))) (xC_6 (k := 6) (x := ((mI S c1 6) + (1 : Int32))) (xC_o (W := W) hpre0) hpre2 th_c1.1 rfl (by decide)) hpre2 th_c3.1 rfl (by decide)).1.trans hpre1))

/-! from 95.g23 -/
/-! the heap by numbers, the class (written by wip/tools/gen18.py) -/
theorem g_95_69_s_0 {X : Nat × (Nat → Int32)} {d w : Nat} {S : ma_S} {Q : Option ma_V ⊕ Nat → ma_S → Prop} (t : Nat) (i : Int32) (x : Int32) (hd : 0 ≤ d) (hw : 0 ≤ w) (hS : zT S) (h : (126 ≤ t ∧ t < mN S) ∧ (if (((mI S t 4) + (1 : Int32)) + i) < 0 then (Q (.inl (some (.inl (-1 : Int32)))) S) else (if (((mI S t 4) + (1 : Int32)) + i) < (4500 : Int32) then ((0 ≤ (((mI S t 4) + (1 : Int32)) + i) ∧ (((mI S t 4) + (1 : Int32)) + i).toNatClampNeg < 4500) ∧ ((0 ≤ (((mI S t 4) + (1 : Int32)) + i) ∧ (((mI S t 4) + (1 : Int32)) + i).toNatClampNeg < 4500) ∧ (Q (.inl (some (.inl (mI S 71 (((mI S t 4) + (1 : Int32)) + i).toNatClampNeg)))) (ma_put S 71 (((mI S t 4) + (1 : Int32)) + i).toNatClampNeg (.inl x))))) else (Q (.inl (some (.inl (-1 : Int32)))) S)))) : ma_wp X d w 95 0 [(0, .inr (.inr (some 69))), (1, .inr (.inr (some t))), (2, .inl i), (3, .inl x)] [] S Q := by
  refine zw_push hm_95 dX7_changeInt_0 (v := .inr (.inr (some t))) rfl ?_
  obtain ⟨hg, h⟩ := h
  refine zw_gf hm_95 dX7_changeInt_1 (v := .inl (mI S t 4)) (zT_tis hS hg) (zT_tt hS hg) rfl f_7_61_9 rfl ?_
  refine zw_push hm_95 dX7_changeInt_4 (v := .inl (1 : Int32)) rfl ?_
  refine zw_stk hm_95 dX7_changeInt_5 (st₉ := [.inl ((mI S t 4) + (1 : Int32))]) rfl rfl ?_
  refine zw_push hm_95 dX7_changeInt_6 (v := .inl i) rfl ?_
  refine zw_stk hm_95 dX7_changeInt_7 (st₉ := [.inl (((mI S t 4) + (1 : Int32)) + i)]) rfl rfl ?_
  refine zw_sto hm_95 dX7_changeInt_8 [(4, .inl (((mI S t 4) + (1 : Int32)) + i)), (0, .inr (.inr (some 69))), (1, .inr (.inr (some t))), (2, .inl i), (3, .inl x)] rfl rfl rfl ?_
  refine zw_push hm_95 dX7_changeInt_10 (v := .inl (((mI S t 4) + (1 : Int32)) + i)) rfl ?_
  refine zw_if0 hm_95 dX7_changeInt_12 (t := 23) rfl zc0_lt ?_ ?_
  · intro hc
    rw [if_pos hc] at h
    refine zw_push hm_95 dX7_changeInt_23 (v := .inl (-1 : Int32)) rfl ?_
    exact zw_iret hm_95 dX7_changeInt_24 h
  · intro hc
    rw [if_neg hc] at h
    refine zw_push hm_95 dX7_changeInt_15 (v := .inl (((mI S t 4) + (1 : Int32)) + i)) rfl ?_
    refine zw_push hm_95 dX7_changeInt_17 (v := .inl (4500 : Int32)) rfl ?_
    refine zw_if2 hm_95 dX7_changeInt_20 (t := 25) rfl zc2_lt ?_ ?_
    · intro hc
      rw [if_pos hc] at h
      refine zw_push hm_95 dX7_changeInt_25 (v := .inr (.inr (some 69))) rfl ?_
      refine zw_gf hm_95 dX7_changeInt_26 (v := .inr (.inr (some 71))) (zT_is hS s_69) (zT_t hS s_69) rfl f_7_17_7 (zT_f hS r_69_1) ?_
      refine zw_push hm_95 dX7_changeInt_29 (v := .inl (((mI S t 4) + (1 : Int32)) + i)) rfl ?_
      obtain ⟨hg, h⟩ := h
      refine zw_ia hm_95 dX7_changeInt_31 (zT_is hS s_71) (zT_h hS s_71) rfl hg ?_
      show ma_wp X d w 95 32 [(4, .inl (((mI S t 4) + (1 : Int32)) + i)), (0, .inr (.inr (some 69))), (1, .inr (.inr (some t))), (2, .inl i), (3, .inl x)] [.inl (mI S 71 (((mI S t 4) + (1 : Int32)) + i).toNatClampNeg)] S _
      refine zw_sto hm_95 dX7_changeInt_32 [(5, .inl (mI S 71 (((mI S t 4) + (1 : Int32)) + i).toNatClampNeg)), (4, .inl (((mI S t 4) + (1 : Int32)) + i)), (0, .inr (.inr (some 69))), (1, .inr (.inr (some t))), (2, .inl i), (3, .inl x)] rfl rfl rfl ?_
      refine zw_push hm_95 dX7_changeInt_34 (v := .inr (.inr (some 69))) rfl ?_
      refine zw_gf hm_95 dX7_changeInt_35 (v := .inr (.inr (some 71))) (zT_is hS s_69) (zT_t hS s_69) rfl f_7_17_7 (zT_f hS r_69_1) ?_
      refine zw_push hm_95 dX7_changeInt_38 (v := .inl (((mI S t 4) + (1 : Int32)) + i)) rfl ?_
      refine zw_push hm_95 dX7_changeInt_40 (v := .inl x) rfl ?_
      obtain ⟨hg, h⟩ := h
      refine zw_ias hm_95 dX7_changeInt_41 (zT_is hS s_71) (zT_h hS s_71) rfl hg ?_
      refine zw_push hm_95 dX7_changeInt_42 (v := .inl (mI S 71 (((mI S t 4) + (1 : Int32)) + i).toNatClampNeg)) rfl ?_
      exact zw_iret hm_95 dX7_changeInt_44 h
    · intro hc
      rw [if_neg hc] at h
      refine zw_push hm_95 dX7_changeInt_23 (v := .inl (-1 : Int32)) rfl ?_
      exact zw_iret hm_95 dX7_changeInt_24 h
theorem sp_95_69_s {X : Nat × (Nat → Int32)} {d w : Nat} {f : Nat → Nat → Int32} {r : Nat → Nat → Option Nat} {C Z N : Nat} {Q : Option ma_V ⊕ Nat → ma_S → Prop} {ab : Nat→Nat→Int32} {R : zRT} {W : Nat} {y : Int32} {S : ma_S} (t : Nat) (i : Int32) (x : Int32) (hd : 0 ≤ d) (hw : 0 ≤ w) (hI : zI f r C Z N S) (th_t : 126 ≤ t ∧ t < N) (hpre0 : xB S R) (hpre1 : aS W S = ab) (hpre2 : xW W) (hpre3 : zTa R y = some t) (K : ∀ v S₉, zI f r C Z N S₉ → (True) → (xB S₉ R) → (aS W S₉ = aCi ab y.toNatClampNeg i x ∧ v = aWo ab y.toNatClampNeg i) → Q (.inl (some (.inl v))) S₉) : ma_wp X d w 95 0 [(0, .inr (.inr (some 69))), (1, .inr (.inr (some t))), (2, .inl i), (3, .inl x)] [] S Q := by
  refine g_95_69_s_0 t i x (by omega) (by omega) (zG_T hI) ?_
  refine ⟨zG_n hI th_t, ?_⟩
  have f1 := zG_th hI th_t
  first | have e2 : ((mI S t 4) + (1 : Int32)).toInt = (mI S t 4).toInt + (1) := i_addk rfl (by omega) (by omega) | have b3 := i_bd ((mI S t 4) + (1 : Int32))
  have b4 := i_bd i
  first | have e5 : (((mI S t 4) + (1 : Int32)) + i).toInt = ((mI S t 4) + (1 : Int32)).toInt + i.toInt := i_add (by omega) (by omega) | have b6 := i_bd (((mI S t 4) + (1 : Int32)) + i)
  have li7 : (0 : Int32).toInt = 0 := rfl
  refine zd (fun h8 => ?_) (fun h8 => ?_)
  · skip
    have g9 := i_lt h8
    have li10 : (-1 : Int32).toInt = -1 := rfl
    exact K ((-1 : Int32)) _ hI trivial (show xB S R from by first | (exact (xC_o (W := 75) hpre0).2)) (show aS W S = aCi ab y.toNatClampNeg i x ∧ (-1 : Int32) = aWo ab y.toNatClampNeg i from by first | (have ty := xB_th (W := W) hpre0 hpre3; have e4 := ty.2.2.2.2.2.1; rw [hpre1] at e4; exact ⟨hpre1.trans (if_neg (by rw [← e4]; omega)).symm, (if_neg (by rw [← e4]; omega)).symm⟩))
  · skip
    have g11 := i_nlt h8
    have li12 : (4500 : Int32).toInt = 4500 := rfl
    refine zd (fun h13 => ?_) (fun h13 => ?_)
    · skip
      have g14 := i_lt h13
      refine ⟨i_ix (by omega) (by omega), ?_⟩
      refine ⟨i_ix (by omega) (by omega), ?_⟩
      have hI15 : zI f r C Z N (ma_put S 71 (((mI S t 4) + (1 : Int32)) + i).toNatClampNeg (.inl x)) := zG_fa hI rfl (by decide) (by decide) (by decide) trivial
      have b16 := i_bd (mI S 71 (((mI S t 4) + (1 : Int32)) + i).toNatClampNeg)
      exact K ((mI S 71 (((mI S t 4) + (1 : Int32)) + i).toNatClampNeg)) _ hI15 trivial (show xB (ma_put S 71 (((mI S t 4) + (1 : Int32)) + i).toNatClampNeg (.inl x)) R from by first | (exact (xC_p (c := 71) (k := (((mI S t 4) + (1 : Int32)) + i).toNatClampNeg) (x := x) (xC_o (W := 75) hpre0) 71 xW75 rfl rfl).2)) (show aS W (ma_put S 71 (((mI S t 4) + (1 : Int32)) + i).toNatClampNeg (.inl x)) = aCi ab y.toNatClampNeg i x ∧ (mI S 71 (((mI S t 4) + (1 : Int32)) + i).toNatClampNeg) = aWo ab y.toNatClampNeg i from by first | (have ty := xB_th (W := W) hpre0 hpre3; have e4 := ty.2.2.2.2.2.1; rw [hpre1] at e4; refine ⟨(xC_p (c := 71) (k := (((mI S t 4) + (1 : Int32)) + i).toNatClampNeg) (x := x) (xC_o (W := W) hpre0) 71 hpre2 rfl (zcw_s (by decide))).1.trans ?_, ?_⟩; (rw [hpre1, e4]; exact (if_pos ⟨by rw [← e4]; omega, by rw [← e4]; omega⟩).symm); (refine Eq.trans ?_ (if_pos ⟨by rw [← e4]; omega, by rw [← e4]; omega⟩).symm; rw [← hpre1, (aS_I (W := W) (S := S) (c := 71) (c₉ := 71)  rfl (zcw_s (by decide))), hpre1, ← e4])))
    · skip
      have g17 := i_nlt h13
      have li18 : (-1 : Int32).toInt = -1 := rfl
      exact K ((-1 : Int32)) _ hI trivial (show xB S R from by first | (exact (xC_o (W := 75) hpre0).2)) (show aS W S = aCi ab y.toNatClampNeg i x ∧ (-1 : Int32) = aWo ab y.toNatClampNeg i from by first | (have ty := xB_th (W := W) hpre0 hpre3; have e4 := ty.2.2.2.2.2.1; rw [hpre1] at e4; exact ⟨hpre1.trans (if_neg (by rw [← e4]; omega)).symm, (if_neg (by rw [← e4]; omega)).symm⟩))
theorem g_96_69_s_0 {X : Nat × (Nat → Int32)} {d w : Nat} {S : ma_S} {Q : Option ma_V ⊕ Nat → ma_S → Prop} (t : Nat) (i : Int32) (hd : 0 ≤ d) (hw : 0 ≤ w) (hS : zT S) (h : (126 ≤ t ∧ t < mN S) ∧ (if (((mI S t 4) + (1 : Int32)) + i) < 0 then (Q (.inl (some (.inl (-1 : Int32)))) S) else (if (4500 : Int32) ≤ (((mI S t 4) + (1 : Int32)) + i) then (Q (.inl (some (.inl (-1 : Int32)))) S) else ((0 ≤ (((mI S t 4) + (1 : Int32)) + i) ∧ (((mI S t 4) + (1 : Int32)) + i).toNatClampNeg < 4500) ∧ (Q (.inl (some (.inl (mI S 71 (((mI S t 4) + (1 : Int32)) + i).toNatClampNeg)))) S))))) : ma_wp X d w 96 0 [(0, .inr (.inr (some 69))), (1, .inr (.inr (some t))), (2, .inl i)] [] S Q := by
  refine zw_push hm_96 dX7_wordOf_0 (v := .inr (.inr (some t))) rfl ?_
  obtain ⟨hg, h⟩ := h
  refine zw_gf hm_96 dX7_wordOf_1 (v := .inl (mI S t 4)) (zT_tis hS hg) (zT_tt hS hg) rfl f_7_61_9 rfl ?_
  refine zw_push hm_96 dX7_wordOf_4 (v := .inl (1 : Int32)) rfl ?_
  refine zw_stk hm_96 dX7_wordOf_5 (st₉ := [.inl ((mI S t 4) + (1 : Int32))]) rfl rfl ?_
  refine zw_push hm_96 dX7_wordOf_6 (v := .inl i) rfl ?_
  refine zw_stk hm_96 dX7_wordOf_7 (st₉ := [.inl (((mI S t 4) + (1 : Int32)) + i)]) rfl rfl ?_
  refine zw_sto hm_96 dX7_wordOf_8 [(3, .inl (((mI S t 4) + (1 : Int32)) + i)), (0, .inr (.inr (some 69))), (1, .inr (.inr (some t))), (2, .inl i)] rfl rfl rfl ?_
  refine zw_push hm_96 dX7_wordOf_9 (v := .inl (((mI S t 4) + (1 : Int32)) + i)) rfl ?_
  refine zw_if0 hm_96 dX7_wordOf_10 (t := 29) rfl zc0_lt ?_ ?_
  · intro hc
    rw [if_pos hc] at h
    refine zw_push hm_96 dX7_wordOf_29 (v := .inl (-1 : Int32)) rfl ?_
    exact zw_iret hm_96 dX7_wordOf_30 h
  · intro hc
    rw [if_neg hc] at h
    refine zw_push hm_96 dX7_wordOf_13 (v := .inl (((mI S t 4) + (1 : Int32)) + i)) rfl ?_
    refine zw_push hm_96 dX7_wordOf_14 (v := .inl (4500 : Int32)) rfl ?_
    refine zw_if2 hm_96 dX7_wordOf_17 (t := 29) rfl zc2_ge ?_ ?_
    · intro hc
      rw [if_pos hc] at h
      refine zw_push hm_96 dX7_wordOf_29 (v := .inl (-1 : Int32)) rfl ?_
      exact zw_iret hm_96 dX7_wordOf_30 h
    · intro hc
      rw [if_neg hc] at h
      refine zw_push hm_96 dX7_wordOf_20 (v := .inr (.inr (some 69))) rfl ?_
      refine zw_gf hm_96 dX7_wordOf_21 (v := .inr (.inr (some 71))) (zT_is hS s_69) (zT_t hS s_69) rfl f_7_17_7 (zT_f hS r_69_1) ?_
      refine zw_push hm_96 dX7_wordOf_24 (v := .inl (((mI S t 4) + (1 : Int32)) + i)) rfl ?_
      obtain ⟨hg, h⟩ := h
      refine zw_ia hm_96 dX7_wordOf_25 (zT_is hS s_71) (zT_h hS s_71) rfl hg ?_
      show ma_wp X d w 96 26 [(3, .inl (((mI S t 4) + (1 : Int32)) + i)), (0, .inr (.inr (some 69))), (1, .inr (.inr (some t))), (2, .inl i)] [.inl (mI S 71 (((mI S t 4) + (1 : Int32)) + i).toNatClampNeg)] S _
      refine zw_goto hm_96 dX7_wordOf_26 (t := 30) rfl ?_
      exact zw_iret hm_96 dX7_wordOf_30 h
theorem sp_96_69_s {X : Nat × (Nat → Int32)} {d w : Nat} {f : Nat → Nat → Int32} {r : Nat → Nat → Option Nat} {C Z N : Nat} {Q : Option ma_V ⊕ Nat → ma_S → Prop} {ab : Nat→Nat→Int32} {R : zRT} {W : Nat} {y : Int32} {S : ma_S} (t : Nat) (i : Int32) (hd : 0 ≤ d) (hw : 0 ≤ w) (hI : zI f r C Z N S) (th_t : 126 ≤ t ∧ t < N) (hpre0 : xB S R) (hpre1 : aS W S = ab) (hpre2 : xW W) (hpre3 : zTa R y = some t) (K : ∀ v S₉, zI f r C Z N S₉ → (True) → (xB S₉ R) → (aS W S₉ = ab) → (v = aWo ab y.toNatClampNeg i) → Q (.inl (some (.inl v))) S₉) : ma_wp X d w 96 0 [(0, .inr (.inr (some 69))), (1, .inr (.inr (some t))), (2, .inl i)] [] S Q := by
  refine g_96_69_s_0 t i (by omega) (by omega) (zG_T hI) ?_
  refine ⟨zG_n hI th_t, ?_⟩
  have f1 := zG_th hI th_t
  first | have e2 : ((mI S t 4) + (1 : Int32)).toInt = (mI S t 4).toInt + (1) := i_addk rfl (by omega) (by omega) | have b3 := i_bd ((mI S t 4) + (1 : Int32))
  have b4 := i_bd i
  first | have e5 : (((mI S t 4) + (1 : Int32)) + i).toInt = ((mI S t 4) + (1 : Int32)).toInt + i.toInt := i_add (by omega) (by omega) | have b6 := i_bd (((mI S t 4) + (1 : Int32)) + i)
  have li7 : (0 : Int32).toInt = 0 := rfl
  refine zd (fun h8 => ?_) (fun h8 => ?_)
  · skip
    have g9 := i_lt h8
    have li10 : (-1 : Int32).toInt = -1 := rfl
    exact K ((-1 : Int32)) _ hI trivial (show xB S R from by first | (exact (xC_o (W := 75) hpre0).2)) (show aS W S = ab from by first | (exact (xC_o (W := W) hpre0).1.trans hpre1)) (show (-1 : Int32) = aWo ab y.toNatClampNeg i from by first | (have ty := xB_th (W := W) hpre0 hpre3; have e4 := ty.2.2.2.2.2.1; rw [hpre1] at e4; exact (if_neg (by rw [← e4]; omega)).symm))
  · skip
    have g11 := i_nlt h8
    have li12 : (4500 : Int32).toInt = 4500 := rfl
    refine zd (fun h13 => ?_) (fun h13 => ?_)
    · skip
      have g14 := i_le h13
      have li15 : (-1 : Int32).toInt = -1 := rfl
      exact K ((-1 : Int32)) _ hI trivial (show xB S R from by first | (exact (xC_o (W := 75) hpre0).2)) (show aS W S = ab from by first | (exact (xC_o (W := W) hpre0).1.trans hpre1)) (show (-1 : Int32) = aWo ab y.toNatClampNeg i from by first | (have ty := xB_th (W := W) hpre0 hpre3; have e4 := ty.2.2.2.2.2.1; rw [hpre1] at e4; exact (if_neg (by rw [← e4]; omega)).symm))
    · skip
      have g16 := i_nle h13
      refine ⟨i_ix (by omega) (by omega), ?_⟩
      have b17 := i_bd (mI S 71 (((mI S t 4) + (1 : Int32)) + i).toNatClampNeg)
      exact K ((mI S 71 (((mI S t 4) + (1 : Int32)) + i).toNatClampNeg)) _ hI trivial (show xB S R from by first | (exact (xC_o (W := 75) hpre0).2)) (show aS W S = ab from by first | (exact (xC_o (W := W) hpre0).1.trans hpre1)) (show (mI S 71 (((mI S t 4) + (1 : Int32)) + i).toNatClampNeg) = aWo ab y.toNatClampNeg i from by first | (have ty := xB_th (W := W) hpre0 hpre3; have e4 := ty.2.2.2.2.2.1; rw [hpre1] at e4; refine Eq.trans ?_ (if_pos ⟨by rw [← e4]; omega, by rw [← e4]; omega⟩).symm; rw [← hpre1, (aS_I (W := W) (S := S) (c := 71) (c₉ := 71)  rfl (zcw_s (by decide))), hpre1, ← e4]))
theorem g_97_69_s_0 {X : Nat × (Nat → Int32)} {d w : Nat} {S : ma_S} {Q : Option ma_V ⊕ Nat → ma_S → Prop} (t : Nat) (x : Int32) (hd : 0 ≤ d) (hw : 0 ≤ w) (hS : zT S) (h : (126 ≤ t ∧ t < mN S) ∧ ((126 ≤ t ∧ t < mN S) ∧ ((126 ≤ t ∧ t < mN (ma_put S t 7 (.inl ((mI S t 7) + x)))) ∧ ((126 ≤ t ∧ t < mN (ma_put S t 7 (.inl ((mI S t 7) + x)))) ∧ (Q (.inl none) (ma_put (ma_put S t 7 (.inl ((mI S t 7) + x))) t 6 (.inl ((mI (ma_put S t 7 (.inl ((mI S t 7) + x))) t 6) + x)))))))) : ma_wp X d w 97 0 [(0, .inr (.inr (some 69))), (1, .inr (.inr (some t))), (2, .inl x)] [] S Q := by
  refine zw_push hm_97 dX7_changeHolds_0 (v := .inr (.inr (some t))) rfl ?_
  refine zw_stk hm_97 dX7_changeHolds_1 (st₉ := [.inr (.inr (some t)), .inr (.inr (some t))]) rfl rfl ?_
  obtain ⟨hg, h⟩ := h
  refine zw_gf hm_97 dX7_changeHolds_2 (v := .inl (mI S t 7)) (zT_tis hS hg) (zT_tt hS hg) rfl f_7_101_9 rfl ?_
  refine zw_push hm_97 dX7_changeHolds_5 (v := .inl x) rfl ?_
  refine zw_stk hm_97 dX7_changeHolds_6 (st₉ := [.inl ((mI S t 7) + x), .inr (.inr (some t))]) rfl rfl ?_
  obtain ⟨hg, h⟩ := h
  refine zw_pf hm_97 dX7_changeHolds_7 (zT_tis hS hg) (zT_tt hS hg) p_7_101_9 zk_int ?_
  refine zw_push hm_97 dX7_changeHolds_10 (v := .inr (.inr (some t))) rfl ?_
  refine zw_stk hm_97 dX7_changeHolds_11 (st₉ := [.inr (.inr (some t)), .inr (.inr (some t))]) rfl rfl ?_
  obtain ⟨hg, h⟩ := h
  refine zw_gf hm_97 dX7_changeHolds_12 (v := .inl (mI (ma_put S t 7 (.inl ((mI S t 7) + x))) t 6)) (zT_tis (zT_pi hS) hg) (zT_tt (zT_pi hS) hg) rfl f_7_98_9 rfl ?_
  refine zw_push hm_97 dX7_changeHolds_15 (v := .inl x) rfl ?_
  refine zw_stk hm_97 dX7_changeHolds_16 (st₉ := [.inl ((mI (ma_put S t 7 (.inl ((mI S t 7) + x))) t 6) + x), .inr (.inr (some t))]) rfl rfl ?_
  obtain ⟨hg, h⟩ := h
  refine zw_pf hm_97 dX7_changeHolds_17 (zT_tis (zT_pi hS) hg) (zT_tt (zT_pi hS) hg) p_7_98_9 zk_int ?_
  exact zw_vret hm_97 dX7_changeHolds_20 h
theorem sp_97_69_s {X : Nat × (Nat → Int32)} {d w : Nat} {f : Nat → Nat → Int32} {r : Nat → Nat → Option Nat} {C Z N : Nat} {Q : Option ma_V ⊕ Nat → ma_S → Prop} {ab : Nat→Nat→Int32} {R : zRT} {W : Nat} {y : Int32} {S : ma_S} (t : Nat) (x : Int32) (hd : 0 ≤ d) (hw : 0 ≤ w) (hI : zI f r C Z N S) (th_t : 126 ≤ t ∧ t < N) (hpre0 : xB S R) (hpre1 : aS W S = ab) (hpre2 : xW W) (hpre3 : zTa R y = some t) (K : ∀ S₉, zI f r C Z N S₉ → (xB S₉ R) → (aS W S₉ = ma_u ab 133 y.toNatClampNeg (ab 133 y.toNatClampNeg + x)) → Q (.inl none) S₉) : ma_wp X d w 97 0 [(0, .inr (.inr (some 69))), (1, .inr (.inr (some t))), (2, .inl x)] [] S Q := by
  refine g_97_69_s_0 t x (by omega) (by omega) (zG_T hI) ?_
  refine ⟨zG_n hI th_t, ?_⟩
  refine ⟨zG_n hI th_t, ?_⟩
  have hI1 : zI f r C Z N (ma_put S t 7 (.inl ((mI S t 7) + x))) := zG_tf hI th_t.1 zI_t (by decide) (by decide) trivial (by decide) (by decide) (by decide)
  refine ⟨zG_n hI1 th_t, ?_⟩
  refine ⟨zG_n hI1 th_t, ?_⟩
  have hI2 : zI f r C Z N (ma_put (ma_put S t 7 (.inl ((mI S t 7) + x))) t 6 (.inl ((mI (ma_put S t 7 (.inl ((mI S t 7) + x))) t 6) + x))) := zG_tf hI1 th_t.1 zI_t (by decide) (by decide) trivial (by decide) (by decide) (by decide)
  exact K _ hI2 (show xB (ma_put (ma_put S t 7 (.inl ((mI S t 7) + x))) t 6 (.inl ((mI (ma_put S t 7 (.inl ((mI S t 7) + x))) t 6) + x))) R from by first | (exact (xC_6 (k := 6) (x := ((mI (ma_put S t 7 (.inl ((mI S t 7) + x))) t 6) + x)) (xC_t (k := 7) (x := ((mI S t 7) + x)) (xC_o (W := 75) hpre0) xW75 hpre3 rfl) xW75 th_t.1 rfl (by decide)).2)) (show aS W (ma_put (ma_put S t 7 (.inl ((mI S t 7) + x))) t 6 (.inl ((mI (ma_put S t 7 (.inl ((mI S t 7) + x))) t 6) + x))) = ma_u ab 133 y.toNatClampNeg (ab 133 y.toNatClampNeg + x) from by first | (have ty := xB_th (W := W) hpre0 hpre3; have e7 := ty.2.2.2.2.2.2.1; rw [hpre1] at e7; refine (xC_6 (k := 6) (x := ((mI (ma_put S t 7 (.inl ((mI S t 7) + x))) t 6) + x)) (xC_t (k := 7) (x := ((mI S t 7) + x)) (xC_o (W := W) hpre0) hpre2 hpre3 rfl) hpre2 th_t.1 rfl (by decide)).1.trans ?_; (try simp only [zp_i (c := 69) (c₉ := t) (k₉ := 6) th_t.1 (by decide), zp_i (c := 71) (c₉ := t) (k₉ := 6) th_t.1 (by decide), zp_i (c := 72) (c₉ := t) (k₉ := 6) th_t.1 (by decide), zp_i (c := 73) (c₉ := t) (k₉ := 6) th_t.1 (by decide), zp_i (c := 74) (c₉ := t) (k₉ := 6) th_t.1 (by decide), zp_i (c := 75) (c₉ := t) (k₉ := 6) th_t.1 (by decide), zp_i (c := 76) (c₉ := t) (k₉ := 6) th_t.1 (by decide), zp_i (c := 77) (c₉ := t) (k₉ := 6) th_t.1 (by decide), zp_i (c := 87) (c₉ := t) (k₉ := 6) th_t.1 (by decide), zp_i (c := 88) (c₉ := t) (k₉ := 6) th_t.1 (by decide), zp_i (c := 89) (c₉ := t) (k₉ := 6) th_t.1 (by decide), zp_i (c := 90) (c₉ := t) (k₉ := 6) th_t.1 (by decide), zp_f (k := 0) (c₉ := t) (k₉ := 6) (by decide), zp_f (k := 1) (c₉ := t) (k₉ := 6) (by decide), zp_f (k := 2) (c₉ := t) (k₉ := 6) (by decide), zp_f (k := 4) (c₉ := t) (k₉ := 6) (by decide), zp_f (k := 7) (c₉ := t) (k₉ := 6) (by decide), zp_f (k := 8) (c₉ := t) (k₉ := 6) (by decide), zp_i (c := 69) (c₉ := t) (k₉ := 7) th_t.1 (by decide), zp_i (c := 71) (c₉ := t) (k₉ := 7) th_t.1 (by decide), zp_i (c := 72) (c₉ := t) (k₉ := 7) th_t.1 (by decide), zp_i (c := 73) (c₉ := t) (k₉ := 7) th_t.1 (by decide), zp_i (c := 74) (c₉ := t) (k₉ := 7) th_t.1 (by decide), zp_i (c := 75) (c₉ := t) (k₉ := 7) th_t.1 (by decide), zp_i (c := 76) (c₉ := t) (k₉ := 7) th_t.1 (by decide), zp_i (c := 77) (c₉ := t) (k₉ := 7) th_t.1 (by decide), zp_i (c := 87) (c₉ := t) (k₉ := 7) th_t.1 (by decide), zp_i (c := 88) (c₉ := t) (k₉ := 7) th_t.1 (by decide), zp_i (c := 89) (c₉ := t) (k₉ := 7) th_t.1 (by decide), zp_i (c := 90) (c₉ := t) (k₉ := 7) th_t.1 (by decide), zp_f (k := 0) (c₉ := t) (k₉ := 7) (by decide), zp_f (k := 1) (c₉ := t) (k₉ := 7) (by decide), zp_f (k := 2) (c₉ := t) (k₉ := 7) (by decide), zp_f (k := 4) (c₉ := t) (k₉ := 7) (by decide), zp_f (k := 8) (c₉ := t) (k₉ := 7) (by decide)]); rw [hpre1, e7]))

