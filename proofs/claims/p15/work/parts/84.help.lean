/-! small helps -/
theorem ma_thr_no {o : Nat} {cc : ByteArray} {pc : Nat} {x : Instr} {m : Nat} (hd : decode cc pc = .ok (x, m)) (hx : ∀ ik, x ≠ .new ik) : ma_thr o cc pc = none := by
  unfold ma_thr
  rw [hd]
  split
  · next ik ic h0 h3 h4 h7 => exact absurd (congrArg Prod.fst (Except.ok.inj h0)) (hx ik)
  · rfl
theorem ma_get_self (L : ma_L) (i : Nat) (v : ma_V) : ma_get (ma_st L i v) i = some v := by
  unfold ma_get ma_st
  rw [List.find?_cons_of_pos (by simp)]
  rfl
theorem ma_is30 {S : ma_S} {c : Nat} (h : c < 64) : ma_is S c = false := by
  unfold ma_is
  rw [decide_eq_false (by omega)]
  rfl
