/-! the level of the regions -/
def zL91_f (c k : Nat) : Bool := zfz c k && decide (c ≠ 91) && decide (c ≠ 92) && decide (c ≠ 93)
def zL91_s : List (Nat × Nat × Int × Int) := [(69, 5, 0, 512), (69, 6, 0, 512), (75, 3, 0, 512), (75, 4, 0, 512), (88, 3, 0, 512), (88, 4, 0, 512), (91, 2, 0, 1500), (91, 3, 0, 93), (91, 5, 0, 92), (91, 6, -1, 92)]
def zL91_a : List (Nat × Nat × Int × Int) := [(92, 93, 0, 3000)]
def zL91_r : List Nat := [70]
def zL91_x (_ : Nat → Nat → Int32) : Prop := True
abbrev zL91 (f : Nat → Nat → Int32) (r : Nat → Nat → Option Nat) (C Z N : Nat) (S : ma_S) : Prop := zG zL91_f zL91_s zL91_a zL91_r zL91_x f r C Z N S
theorem zL91_t (c k : Nat) (h : 126 ≤ c) : zL91_f c k = false := by
  unfold zL91_f zfz
  simp only [Bool.and_eq_false_iff, Bool.or_eq_false_iff, decide_eq_false_iff_not]
  omega
theorem zL91_dn {f : Nat → Nat → Int32} {r : Nat → Nat → Option Nat} {C Z N : Nat} {S : ma_S} (h : zL91 f r C Z N S) : zI (mI S) (mR S) C Z N S := zG_dn h (by decide) (by decide) (by decide) (fun _ => trivial)
theorem zL91_up {f : Nat → Nat → Int32} {r : Nat → Nat → Option Nat} {C Z N : Nat} {S S1 : ma_S} (h : zL91 f r C Z N S) (h1 : zI (mI S) (mR S) C Z N S1) : zL91 f r C Z N S1 := by
  refine zG_up h h1 (fun c k z => ?_) (by decide) ?_ (by decide) (fun _ _ h => h)
  · unfold zL91_f at z
    unfold zI_f
    simp only [Bool.and_eq_true] at z
    exact z.1.1.1
  · intro q hq
    right
    intro k
    have e : q = (92, 93, 0, 3000) := by
      cases hq with
      | head => rfl
      | tail _ z => cases z
    rw [e]
    rfl
