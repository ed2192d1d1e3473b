/-! the levels of the class -/
def zI_f (c k : Nat) : Bool := zfz c k
def zI_s : List (Nat × Nat × Int × Int) := [(69, 5, 0, 512), (69, 6, 0, 512), (75, 3, 0, 512), (75, 4, 0, 512), (88, 3, 0, 512), (88, 4, 0, 512)]
def zI_a : List (Nat × Nat × Int × Int) := []
def zI_r : List Nat := [70]
def zI_x (_ : Nat → Nat → Int32) : Prop := True
abbrev zI (f : Nat → Nat → Int32) (r : Nat → Nat → Option Nat) (C Z N : Nat) (S : ma_S) : Prop := zG zI_f zI_s zI_a zI_r zI_x f r C Z N S
theorem zI_t (c k : Nat) (h : 126 ≤ c) : zI_f c k = false := by
  unfold zI_f zfz
  simp only [Bool.and_eq_false_iff, Bool.or_eq_false_iff, decide_eq_false_iff_not]
  omega
def zJ79_f (c k : Nat) : Bool := zfz c k && decide (c ≠ 79)
def zJ79_s : List (Nat × Nat × Int × Int) := [(69, 5, 0, 512), (69, 6, 0, 512), (75, 3, 0, 512), (75, 4, 0, 512), (88, 3, 0, 512), (88, 4, 0, 512), (79, 2, 0, 1500), (79, 4, 0, 400000)]
def zJ79_a : List (Nat × Nat × Int × Int) := []
def zJ79_r : List Nat := [70]
def zJ79_x (_ : Nat → Nat → Int32) : Prop := True
abbrev zJ79 (f : Nat → Nat → Int32) (r : Nat → Nat → Option Nat) (C Z N : Nat) (S : ma_S) : Prop := zG zJ79_f zJ79_s zJ79_a zJ79_r zJ79_x f r C Z N S
theorem zJ79_t (c k : Nat) (h : 126 ≤ c) : zJ79_f c k = false := by
  unfold zJ79_f zfz
  simp only [Bool.and_eq_false_iff, Bool.or_eq_false_iff, decide_eq_false_iff_not]
  omega
theorem zJ79_dn {f : Nat → Nat → Int32} {r : Nat → Nat → Option Nat} {C Z N : Nat} {S : ma_S} (h : zJ79 f r C Z N S) : zI (mI S) (mR S) C Z N S := zG_dn h (by decide) (by decide) (by decide) (fun _ => trivial)
theorem zJ79_up {f : Nat → Nat → Int32} {r : Nat → Nat → Option Nat} {C Z N : Nat} {S S1 : ma_S} (h : zJ79 f r C Z N S) (h1 : zI (mI S) (mR S) C Z N S1) : zJ79 f r C Z N S1 := by
  refine zG_up h h1 (fun c k z => ?_) (by decide) ?_ (by decide) (fun _ _ h => h)
  · unfold zJ79_f at z
    unfold zI_f
    simp only [Bool.and_eq_true] at z
    exact z.1
  · intro q hq
    cases hq
def zJ84_f (c k : Nat) : Bool := zfz c k && decide (c ≠ 84) && decide (c ≠ 85) && decide (c ≠ 86)
def zJ84_s : List (Nat × Nat × Int × Int) := [(69, 5, 0, 512), (69, 6, 0, 512), (75, 3, 0, 512), (75, 4, 0, 512), (88, 3, 0, 512), (88, 4, 0, 512), (84, 0, 0, 1500), (84, 2, 0, 400000), (84, 7, 0, 512)]
def zJ84_a : List (Nat × Nat × Int × Int) := []
def zJ84_r : List Nat := [70, 85]
def zJ84_x (_ : Nat → Nat → Int32) : Prop := True
abbrev zJ84 (f : Nat → Nat → Int32) (r : Nat → Nat → Option Nat) (C Z N : Nat) (S : ma_S) : Prop := zG zJ84_f zJ84_s zJ84_a zJ84_r zJ84_x f r C Z N S
theorem zJ84_t (c k : Nat) (h : 126 ≤ c) : zJ84_f c k = false := by
  unfold zJ84_f zfz
  simp only [Bool.and_eq_false_iff, Bool.or_eq_false_iff, decide_eq_false_iff_not]
  omega
theorem zJ84_dn {f : Nat → Nat → Int32} {r : Nat → Nat → Option Nat} {C Z N : Nat} {S : ma_S} (h : zJ84 f r C Z N S) : zI (mI S) (mR S) C Z N S := zG_dn h (by decide) (by decide) (by decide) (fun _ => trivial)
theorem zJ84_up {f : Nat → Nat → Int32} {r : Nat → Nat → Option Nat} {C Z N : Nat} {S S1 : ma_S} (h : zJ84 f r C Z N S) (h1 : zI (mI S) (mR S) C Z N S1) : zJ84 f r C Z N S1 := by
  refine zG_up h h1 (fun c k z => ?_) (by decide) ?_ (by decide) (fun _ _ h => h)
  · unfold zJ84_f at z
    unfold zI_f
    simp only [Bool.and_eq_true] at z
    exact z.1.1.1
  · intro q hq
    cases hq
def zJ87_f (c k : Nat) : Bool := zfz c k && decide (c ≠ 87)
def zJ87_s : List (Nat × Nat × Int × Int) := [(69, 5, 0, 512), (69, 6, 0, 512), (75, 3, 0, 512), (75, 4, 0, 512), (88, 3, 0, 512), (88, 4, 0, 512), (87, 0, 0, 1500), (87, 2, 0, 400000), (87, 6, -1, 1500), (87, 8, 0, 1)]
def zJ87_a : List (Nat × Nat × Int × Int) := []
def zJ87_r : List Nat := [70]
def zJ87_x (_ : Nat → Nat → Int32) : Prop := True
abbrev zJ87 (f : Nat → Nat → Int32) (r : Nat → Nat → Option Nat) (C Z N : Nat) (S : ma_S) : Prop := zG zJ87_f zJ87_s zJ87_a zJ87_r zJ87_x f r C Z N S
theorem zJ87_t (c k : Nat) (h : 126 ≤ c) : zJ87_f c k = false := by
  unfold zJ87_f zfz
  simp only [Bool.and_eq_false_iff, Bool.or_eq_false_iff, decide_eq_false_iff_not]
  omega
theorem zJ87_dn {f : Nat → Nat → Int32} {r : Nat → Nat → Option Nat} {C Z N : Nat} {S : ma_S} (h : zJ87 f r C Z N S) : zI (mI S) (mR S) C Z N S := zG_dn h (by decide) (by decide) (by decide) (fun _ => trivial)
theorem zJ87_up {f : Nat → Nat → Int32} {r : Nat → Nat → Option Nat} {C Z N : Nat} {S S1 : ma_S} (h : zJ87 f r C Z N S) (h1 : zI (mI S) (mR S) C Z N S1) : zJ87 f r C Z N S1 := by
  refine zG_up h h1 (fun c k z => ?_) (by decide) ?_ (by decide) (fun _ _ h => h)
  · unfold zJ87_f at z
    unfold zI_f
    simp only [Bool.and_eq_true] at z
    exact z.1
  · intro q hq
    cases hq
def zJ80_f (c k : Nat) : Bool := zfz c k && decide (c ≠ 80)
def zJ80_s : List (Nat × Nat × Int × Int) := [(69, 5, 0, 512), (69, 6, 0, 512), (75, 3, 0, 512), (75, 4, 0, 512), (88, 3, 0, 512), (88, 4, 0, 512), (80, 2, 0, 1500), (80, 3, 0, 400000)]
def zJ80_a : List (Nat × Nat × Int × Int) := []
def zJ80_r : List Nat := [70]
def zJ80_x (_ : Nat → Nat → Int32) : Prop := True
abbrev zJ80 (f : Nat → Nat → Int32) (r : Nat → Nat → Option Nat) (C Z N : Nat) (S : ma_S) : Prop := zG zJ80_f zJ80_s zJ80_a zJ80_r zJ80_x f r C Z N S
theorem zJ80_t (c k : Nat) (h : 126 ≤ c) : zJ80_f c k = false := by
  unfold zJ80_f zfz
  simp only [Bool.and_eq_false_iff, Bool.or_eq_false_iff, decide_eq_false_iff_not]
  omega
theorem zJ80_dn {f : Nat → Nat → Int32} {r : Nat → Nat → Option Nat} {C Z N : Nat} {S : ma_S} (h : zJ80 f r C Z N S) : zI (mI S) (mR S) C Z N S := zG_dn h (by decide) (by decide) (by decide) (fun _ => trivial)
theorem zJ80_up {f : Nat → Nat → Int32} {r : Nat → Nat → Option Nat} {C Z N : Nat} {S S1 : ma_S} (h : zJ80 f r C Z N S) (h1 : zI (mI S) (mR S) C Z N S1) : zJ80 f r C Z N S1 := by
  refine zG_up h h1 (fun c k z => ?_) (by decide) ?_ (by decide) (fun _ _ h => h)
  · unfold zJ80_f at z
    unfold zI_f
    simp only [Bool.and_eq_true] at z
    exact z.1
  · intro q hq
    cases hq
def zJ81_f (c k : Nat) : Bool := zfz c k && decide (c ≠ 81)
def zJ81_s : List (Nat × Nat × Int × Int) := [(69, 5, 0, 512), (69, 6, 0, 512), (75, 3, 0, 512), (75, 4, 0, 512), (88, 3, 0, 512), (88, 4, 0, 512), (81, 2, 0, 1500), (81, 3, 0, 1500), (81, 4, 0, 400000)]
def zJ81_a : List (Nat × Nat × Int × Int) := []
def zJ81_r : List Nat := [70]
def zJ81_x (m : Nat → Nat → Int32) : Prop := 0 ≤ (m 81 3).toInt ∧ (m 81 3).toInt ≤ (m 81 2).toInt
abbrev zJ81 (f : Nat → Nat → Int32) (r : Nat → Nat → Option Nat) (C Z N : Nat) (S : ma_S) : Prop := zG zJ81_f zJ81_s zJ81_a zJ81_r zJ81_x f r C Z N S
theorem zJ81_t (c k : Nat) (h : 126 ≤ c) : zJ81_f c k = false := by
  unfold zJ81_f zfz
  simp only [Bool.and_eq_false_iff, Bool.or_eq_false_iff, decide_eq_false_iff_not]
  omega
theorem zJ81_xt {S : ma_S} {c k : Nat} {x : Int32} (hc : 126 ≤ c) (h : zJ81_x (mI S)) : zJ81_x (mI (ma_put S c k (.inl x))) := by
  have rd : ∀ c' k', c' < 126 → mI (ma_put S c k (.inl x)) c' k' = mI S c' k' := fun c' k' z => if_neg (fun w => by omega)
  unfold zJ81_x at h ⊢
  simp only [rd _ _ (by decide : 81 < 126), rd _ _ (by decide : 82 < 126)]
  exact h
theorem zJ81_dn {f : Nat → Nat → Int32} {r : Nat → Nat → Option Nat} {C Z N : Nat} {S : ma_S} (h : zJ81 f r C Z N S) : zI (mI S) (mR S) C Z N S := zG_dn h (by decide) (by decide) (by decide) (fun _ => trivial)
theorem zJ81_up {f : Nat → Nat → Int32} {r : Nat → Nat → Option Nat} {C Z N : Nat} {S S1 : ma_S} (h : zJ81 f r C Z N S) (h1 : zI (mI S) (mR S) C Z N S1) : zJ81 f r C Z N S1 := by
  refine zG_up h h1 (fun c k z => ?_) (by decide) ?_ (by decide) (fun g _ h => by
    unfold zJ81_x at h ⊢
    rw [g 81 2 rfl, g 81 3 rfl]
    exact h)
  · unfold zJ81_f at z
    unfold zI_f
    simp only [Bool.and_eq_true] at z
    exact z.1
  · intro q hq
    cases hq
def zJ82_f (c k : Nat) : Bool := zfz c k && decide (c ≠ 82) && decide (c ≠ 83)
def zJ82_s : List (Nat × Nat × Int × Int) := [(69, 5, 0, 512), (69, 6, 0, 512), (75, 3, 0, 512), (75, 4, 0, 512), (88, 3, 0, 512), (88, 4, 0, 512), (82, 2, 0, 1500), (82, 3, 0, 1500), (82, 6, 0, 400000), (82, 7, 0, 3000), (82, 8, 0, 400000)]
def zJ82_a : List (Nat × Nat × Int × Int) := []
def zJ82_r : List Nat := [70]
def zJ82_x (m : Nat → Nat → Int32) : Prop := (m 82 3).toInt ≤ (m 82 7).toInt ∧ (m 82 7).toInt ≤ (m 82 3).toInt + (m 82 2).toInt
abbrev zJ82 (f : Nat → Nat → Int32) (r : Nat → Nat → Option Nat) (C Z N : Nat) (S : ma_S) : Prop := zG zJ82_f zJ82_s zJ82_a zJ82_r zJ82_x f r C Z N S
theorem zJ82_t (c k : Nat) (h : 126 ≤ c) : zJ82_f c k = false := by
  unfold zJ82_f zfz
  simp only [Bool.and_eq_false_iff, Bool.or_eq_false_iff, decide_eq_false_iff_not]
  omega
theorem zJ82_xt {S : ma_S} {c k : Nat} {x : Int32} (hc : 126 ≤ c) (h : zJ82_x (mI S)) : zJ82_x (mI (ma_put S c k (.inl x))) := by
  have rd : ∀ c' k', c' < 126 → mI (ma_put S c k (.inl x)) c' k' = mI S c' k' := fun c' k' z => if_neg (fun w => by omega)
  unfold zJ82_x at h ⊢
  simp only [rd _ _ (by decide : 81 < 126), rd _ _ (by decide : 82 < 126)]
  exact h
theorem zJ82_dn {f : Nat → Nat → Int32} {r : Nat → Nat → Option Nat} {C Z N : Nat} {S : ma_S} (h : zJ82 f r C Z N S) : zI (mI S) (mR S) C Z N S := zG_dn h (by decide) (by decide) (by decide) (fun _ => trivial)
theorem zJ82_up {f : Nat → Nat → Int32} {r : Nat → Nat → Option Nat} {C Z N : Nat} {S S1 : ma_S} (h : zJ82 f r C Z N S) (h1 : zI (mI S) (mR S) C Z N S1) : zJ82 f r C Z N S1 := by
  refine zG_up h h1 (fun c k z => ?_) (by decide) ?_ (by decide) (fun g _ h => by
    unfold zJ82_x at h ⊢
    rw [g 82 2 rfl, g 82 3 rfl, g 82 7 rfl]
    exact h)
  · unfold zJ82_f at z
    unfold zI_f
    simp only [Bool.and_eq_true] at z
    exact z.1.1
  · intro q hq
    cases hq
def zJ91_f (c k : Nat) : Bool := zfz c k && decide (c ≠ 91) && decide (c ≠ 92) && decide (c ≠ 93)
def zJ91_s : List (Nat × Nat × Int × Int) := [(69, 5, 0, 512), (69, 6, 0, 512), (75, 3, 0, 512), (75, 4, 0, 512), (88, 3, 0, 512), (88, 4, 0, 512), (91, 2, 0, 1500), (91, 3, 0, 93), (91, 5, 0, 92)]
def zJ91_a : List (Nat × Nat × Int × Int) := [(92, 93, 0, 3000)]
def zJ91_r : List Nat := [70]
def zJ91_x (_ : Nat → Nat → Int32) : Prop := True
abbrev zJ91 (f : Nat → Nat → Int32) (r : Nat → Nat → Option Nat) (C Z N : Nat) (S : ma_S) : Prop := zG zJ91_f zJ91_s zJ91_a zJ91_r zJ91_x f r C Z N S
theorem zJ91_t (c k : Nat) (h : 126 ≤ c) : zJ91_f c k = false := by
  unfold zJ91_f zfz
  simp only [Bool.and_eq_false_iff, Bool.or_eq_false_iff, decide_eq_false_iff_not]
  omega
theorem zJ91_dn {f : Nat → Nat → Int32} {r : Nat → Nat → Option Nat} {C Z N : Nat} {S : ma_S} (h : zJ91 f r C Z N S) : zI (mI S) (mR S) C Z N S := zG_dn h (by decide) (by decide) (by decide) (fun _ => trivial)
theorem zJ91_up {f : Nat → Nat → Int32} {r : Nat → Nat → Option Nat} {C Z N : Nat} {S S1 : ma_S} (h : zJ91 f r C Z N S) (h1 : zI (mI S) (mR S) C Z N S1) : zJ91 f r C Z N S1 := by
  refine zG_up h h1 (fun c k z => ?_) (by decide) ?_ (by decide) (fun _ _ h => h)
  · unfold zJ91_f at z
    unfold zI_f
    simp only [Bool.and_eq_true] at z
    exact z.1.1.1
  · intro q hq
    right
    intro k
    have e : q = (92, 93, 0, 3000) := by
      cases hq with
      | head => rfl
      | tail _ z => cases z
    rw [e]
    rfl
def zK81_f (c k : Nat) : Bool := zfz c k && decide (c ≠ 81)
def zK81_s : List (Nat × Nat × Int × Int) := [(69, 5, 0, 512), (69, 6, 0, 512), (75, 3, 0, 512), (75, 4, 0, 512), (88, 3, 0, 512), (88, 4, 0, 512), (81, 2, 0, 1500), (81, 3, 0, 1500), (81, 4, 0, 400000)]
def zK81_a : List (Nat × Nat × Int × Int) := []
def zK81_r : List Nat := [70]
def zK81_x (_ : Nat → Nat → Int32) : Prop := True
abbrev zK81 (f : Nat → Nat → Int32) (r : Nat → Nat → Option Nat) (C Z N : Nat) (S : ma_S) : Prop := zG zK81_f zK81_s zK81_a zK81_r zK81_x f r C Z N S
theorem zK81_t (c k : Nat) (h : 126 ≤ c) : zK81_f c k = false := by
  unfold zK81_f zfz
  simp only [Bool.and_eq_false_iff, Bool.or_eq_false_iff, decide_eq_false_iff_not]
  omega
theorem zK81_dn {f : Nat → Nat → Int32} {r : Nat → Nat → Option Nat} {C Z N : Nat} {S : ma_S} (h : zK81 f r C Z N S) : zI (mI S) (mR S) C Z N S := zG_dn h (by decide) (by decide) (by decide) (fun _ => trivial)
theorem zK81_up {f : Nat → Nat → Int32} {r : Nat → Nat → Option Nat} {C Z N : Nat} {S S1 : ma_S} (h : zK81 f r C Z N S) (h1 : zI (mI S) (mR S) C Z N S1) : zK81 f r C Z N S1 := by
  refine zG_up h h1 (fun c k z => ?_) (by decide) ?_ (by decide) (fun _ _ h => h)
  · unfold zK81_f at z
    unfold zI_f
    simp only [Bool.and_eq_true] at z
    exact z.1
  · intro q hq
    cases hq
def zK82_f (c k : Nat) : Bool := zfz c k && decide (c ≠ 82) && decide (c ≠ 83)
def zK82_s : List (Nat × Nat × Int × Int) := [(69, 5, 0, 512), (69, 6, 0, 512), (75, 3, 0, 512), (75, 4, 0, 512), (88, 3, 0, 512), (88, 4, 0, 512), (82, 2, 0, 1500), (82, 3, 0, 1500), (82, 6, 0, 400000), (82, 7, 0, 3000), (82, 8, 0, 400000)]
def zK82_a : List (Nat × Nat × Int × Int) := []
def zK82_r : List Nat := [70]
def zK82_x (_ : Nat → Nat → Int32) : Prop := True
abbrev zK82 (f : Nat → Nat → Int32) (r : Nat → Nat → Option Nat) (C Z N : Nat) (S : ma_S) : Prop := zG zK82_f zK82_s zK82_a zK82_r zK82_x f r C Z N S
theorem zK82_t (c k : Nat) (h : 126 ≤ c) : zK82_f c k = false := by
  unfold zK82_f zfz
  simp only [Bool.and_eq_false_iff, Bool.or_eq_false_iff, decide_eq_false_iff_not]
  omega
theorem zK82_dn {f : Nat → Nat → Int32} {r : Nat → Nat → Option Nat} {C Z N : Nat} {S : ma_S} (h : zK82 f r C Z N S) : zI (mI S) (mR S) C Z N S := zG_dn h (by decide) (by decide) (by decide) (fun _ => trivial)
theorem zK82_up {f : Nat → Nat → Int32} {r : Nat → Nat → Option Nat} {C Z N : Nat} {S S1 : ma_S} (h : zK82 f r C Z N S) (h1 : zI (mI S) (mR S) C Z N S1) : zK82 f r C Z N S1 := by
  refine zG_up h h1 (fun c k z => ?_) (by decide) ?_ (by decide) (fun _ _ h => h)
  · unfold zK82_f at z
    unfold zI_f
    simp only [Bool.and_eq_true] at z
    exact z.1.1
  · intro q hq
    cases hq
