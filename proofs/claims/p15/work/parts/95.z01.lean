/-! the reference's calls under the moving collectors, put together -/
section F43
variable {a b d X Y : Nat → Nat → Int32} {us nr kr kd ws at' ho wd wi ow rt wk wl : Nat → Int32} {wm nu ro fo le ra pi x y z i o t r : Int32} {n k c : Nat}
theorem RB_87o (h : qRB us nr kr kd ws at' ho wd wi ow rt wk wl wm nu ro fo le ra pi a) : qRB us nr kr kd ws at' ho wd wi ow rt wk wl wm nu (a 87 0) fo le ra pi a := by
  have e : a 87 0 = ro := h.2.2.2.2.2.2.2.2.1
  rw [e]
  exact h
theorem If_r {Q : Prop} {a' : Nat → Nat → Int32} (h : a' c = a c) : qIf Q a' a c = a c := by
  by_cases w : Q
  · rw [qIf_y w]
    exact h
  · rw [qIf_n w]
theorem we_71 : xWe a i o 71 = a 71 := If_r (un (by decide))
theorem wi_71 : xWi a o 71 = a 71 := If_r (un (by decide))
theorem ro_71 : oRo a i o 71 = a 71 := If_r (un (by decide))
theorem sg_71 : oSg a i r 71 = a 71 := If_r (un (by decide))
theorem gr_71 : oGr a r 71 = a 71 := funext (fun _ => gr_c (by decide) (by decide) (by decide))
theorem Ho_r (h : c ≠ 133) : xHo a o x c = a c := If_r (un h)
theorem yHo_r (h : c ≠ 133) : yHo a o x c = a c := If_r (Ho_r h)
theorem li_r (h : c ≠ 71) : oLi a o i t c = a c := If_r (funext (fun _ => ci_9 h))
theorem yli_r (h : c ≠ 71) (h2 : c ≠ 83) : yLi a o i t c = a c := (Ll_o h2).trans (li_r h)
end F43
