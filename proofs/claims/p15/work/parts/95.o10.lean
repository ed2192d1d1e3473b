/-! the reference under COUNTS (written by wip/tools/gen20s.py) -/
theorem Ct_l2 {a : Nat → Nat → Int32} {us nr ct : Nat → Int32} {s z i : Int32} {n : Nat} (hI : qI a) (q : qCt ct us nr a [] (-1) (qNo nr s)) (W : qWp a n i) (hb : a (1000 + n) i.toNatClampNeg ≠ 0) (ew : aRef a n i = z) : qCt ct us nr (aCi a n i (qNo nr s)) [] (-1) z := fun t ht hv => by
  have r := Rf_w (x := qNo nr s) (n := (nr t).toNatClampNeg) (cQ_I hI) W W.1.1 hb
  rw [Ci_eq hI W, q t ht hv, ← ew]
  exact congrArg Int32.ofInt (by omega)
