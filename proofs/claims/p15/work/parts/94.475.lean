/-! those that would grow old -/
def zbG (us at' : Nat → Int32) (ol : Int32) (ag : Nat → Int32) (a : Int32) : Nat → Bool := fun s => decide (us s ≠ 0 ∧ ol.toInt ≤ (at' s).toInt ∧ ag s + (1 : Int32) = a)
theorem sm_skip {b : Nat → Bool} {ws : Nat → Int32} {x : Int} {l l2 : Nat} (h : x = sm b ws l) (hb : b l = false) (e : l2 = l + 1) : x = sm b ws l2 := by
  subst e
  unfold sm
  rw [hb, h]
  simp
theorem sm_add {b : Nat → Bool} {ws : Nat → Int32} {x y : Int} {l l2 : Nat} (h : x = sm b ws l) (hb : b l = true) (e : l2 = l + 1) (hy : y = x + ((ws l).toInt + 1)) : y = sm b ws l2 := by
  subst e
  unfold sm
  rw [hb, hy, h]
  simp
theorem sm_full {b : Nat → Bool} {ws : Nat → Int32} {x : Int} {l : Int32} (h : x = sm b ws l.toNatClampNeg) (e : l.toInt = 3100) : x = sm b ws 3100 := by
  have e2 : l.toNatClampNeg = 3100 := by rw [tn_eq]; omega
  rw [e2] at h
  exact h
