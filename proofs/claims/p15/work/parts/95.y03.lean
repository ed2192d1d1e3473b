/-! the reference opens a heap (written by wip/tools/gen15w.py) -/
theorem jm_e {t : Nat → Int32} {n K ro yo ol ag cd si sh K' ro' yo' ol' ag' cd' si' sh' : Int} (h : qT1 K ro t n ∧ qT3 K yo ol ag cd t n ∧ qT6 K ro si sh t n) (e : K' = K) (e1 : ro' = ro) (e2 : yo' = yo) (e3 : ol' = ol) (e4 : ag' = ag) (e5 : cd' = cd) (e6 : si' = si) (e7 : sh' = sh) : qT1 K' ro' t n ∧ qT3 K' yo' ol' ag' cd' t n ∧ qT6 K' ro' si' sh' t n := by
  rw [e, e1, e2, e3, e4, e5, e6, e7]
  exact h
