/-! by regions: room is found -/
section RG3
variable {m : Nat → Nat → Int32} {c k : Nat} {si rg pr x v : Int32} {us at' ws rt : Nat → Int32}
/-- some words of the present region are taken -/
theorem RG_take (h : zRG1 si rg pr us at' ws rt) (hs : si.toInt ≤ 256) (hr : rg.toInt ≤ 93) : 0 ≤ (pr * si).toInt ∧ (pr * si).toInt + si.toInt ≤ 1500 ∧ (pr * si).toInt + si.toInt ≤ rg.toInt * si.toInt ∧ (rt pr.toNatClampNeg).toInt ≤ si.toInt := by
  have b := RG_mul h h.2.2.2.1.1 h.2.2.2.1.2 hs hr
  exact ⟨b.1, b.2.1, b.2.2, RG_top h h.2.2.2.1.1 h.2.2.2.1.2⟩
end RG3
theorem LE_some {rt : Nat → Int32} {rg v : Int32} (h : zLE rt rg v) : 0 ≤ v.toInt → ∃ r : Nat, (r : Int) < rg.toInt ∧ rt r = 0 := fun z => ⟨v.toNatClampNeg, by rw [tn_cast z]; exact (LE_ge h z).1, (LE_ge h z).2⟩
