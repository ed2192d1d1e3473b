/-! what the reference's readers answered, closed (the arithmetic is not to take them apart) -/
def zNU (v : Int32) (x z b s : Int) : Prop := (v.toInt = 1 ∧ x = z) ∨ (v.toInt = 0 ∧ z = -1 ∧ b = s)
def zFO (v : Int32) (x z b s : Int) : Prop := (v.toInt = 1 ∧ x = z ∧ 0 ≤ x) ∨ (v.toInt = 0 ∧ z = -1 ∧ b = s)
def zRPr (v : Int32) (b Z : Int) (J : Prop) : Prop := (v.toInt = 0 ∧ -1 - b = Z) ∨ (v.toInt = 1 ∧ J)
def zZW (v : Int32) (P : Prop) : Prop := (v = 1 ∧ P) ∨ (v = 0 ∧ ¬ P)
section NU
variable {v : Int32} {x z b s Z : Int} {J : Prop}
theorem NU_ok (h : zNU v x z b s) (hv : v.toInt ≠ 0) : x = z := h.elim (fun q => q.2) (fun q => absurd q.1 hv)
theorem NU_no (h : zNU v x z b s) (hv : v.toInt = 0) : z = -1 := by
  rcases h with h | h
  · omega
  · exact h.2.1
theorem NU_br (h : zNU v x z b s) (hv : v.toInt = 0) : b = s := by
  rcases h with h | h
  · omega
  · exact h.2.2
theorem FO_ok (h : zFO v x z b s) (hv : v.toInt ≠ 0) : x = z ∧ 0 ≤ x := h.elim (fun q => q.2) (fun q => absurd q.1 hv)
theorem FO_no (h : zFO v x z b s) (hv : v.toInt = 0) : z = -1 := by
  rcases h with h | h
  · omega
  · exact h.2.1
theorem FO_br (h : zFO v x z b s) (hv : v.toInt = 0) : b = s := by
  rcases h with h | h
  · omega
  · exact h.2.2
theorem RP_no (h : zRPr v b Z J) (hv : v.toInt = 0) : -1 - b = Z := by
  rcases h with h | h
  · exact h.2
  · omega
theorem RP_ok (h : zRPr v b Z J) (hv : v.toInt ≠ 0) : J := h.elim (fun q => absurd q.1 hv) (fun q => q.2)
end NU
theorem hp_sub {s : Int32} {Z : Int} (r : -1 - s.toInt = Z) (h0 : 0 ≤ s.toInt) (h1 : s.toInt ≤ 100) : ((-1 : Int32) - s).toInt = Z := by
  have l : (-1 : Int32).toInt = -1 := rfl
  have e : ((-1 : Int32) - s).toInt = (-1 : Int32).toInt - s.toInt := i_sub (by omega) (by omega)
  rw [e, l]
  exact r
