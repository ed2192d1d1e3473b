/-! marking in steps -/
def zG1 (gm ga : Int32) (co : Nat → Int32) : Prop := ga.toInt ≤ gm.toInt ∧ gm.toInt ≤ (cnt co 3100 : Int)
def zGG (im gm ga : Int32) (co : Nat → Int32) : Prop := im.toInt ≠ 0 → zG1 gm ga co
def zfm (im ga gm : Int32) : Nat := if im.toInt = 0 then 0 else 1 + 2 * (3100 - ga.toInt).toNat + (if ga.toInt < gm.toInt then 0 else 1)
section GG1
variable {m : Nat → Nat → Int32} {c k : Nat} {gm gm' ga ga' x im im' : Int32} {r : Nat → Int32}
theorem G1_push (h : zG1 gm ga (m c)) (h0 : m c k = 0) (hk : k < 3100) (hx : x ≠ 0) (hy : gm'.toInt = gm.toInt + 1) : zG1 gm' ga (ma_u m c k x c) := by
  have := cnt_up (x := x) hk h0 hx
  exact ⟨by have := h.1; omega, by have := h.2; omega⟩
theorem G1_room (h : zG1 gm ga r) (h0 : r k = 0) (hk : k < 3100) : gm.toInt < 3100 := by
  have := cnt_lt hk h0
  have := h.2
  omega
theorem G1_dark (h : zG1 gm ga (m c)) (hx : x ≠ 0) (hy : ga'.toInt ≤ gm.toInt) : zG1 gm ga' (ma_u m c k x c) := by
  have := cnt_u1 (m := m) (c := c) (k := k) (n := 3100) hx
  exact ⟨hy, by have := h.2; omega⟩
theorem G1_dark0 (h : zG1 gm ga (m c)) (hx : x ≠ 0) : zG1 gm ga (ma_u m c k x c) := G1_dark h hx h.1
theorem G1_0 (h : gm.toInt = 0) (h' : ga.toInt = 0) : zG1 gm ga r := ⟨by omega, by omega⟩
theorem zfm_lt (him : im.toInt ≠ 0) (hle : ga.toInt ≤ gm.toInt) (h0 : 0 ≤ ga.toInt) (h : im'.toInt = 0 ∨ (ga'.toInt < gm'.toInt ∧ gm'.toInt ≤ 3100 ∧ (ga.toInt < gm.toInt → ga.toInt < ga'.toInt) ∧ ga.toInt ≤ ga'.toInt)) : zfm im' ga' gm' < zfm im ga gm := by
  unfold zfm
  rw [if_neg him]
  rcases h with e | ⟨e1, e2, e3, e4⟩
  · rw [if_pos e]; omega
  · split
    · omega
    · (try rw [if_pos e1])
      split <;> omega
end GG1
