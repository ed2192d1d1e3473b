/-! the reference by numbers (written by wip/tools/gen18r.py) -/
section QV
variable {aa a b : Nat → Nat → Int32} {us nr kr kd ws at' ho wd wi ow rt wk wl co gr : Nat → Int32} {wm nu ro fo le ra pi y x z i j ga gm r s v mk o t q w : Int32} {n k u : Nat}
def qTh (a : Nat → Nat → Int32) (o t q : Int32) : Prop := (q.toInt = 1 ∧ zRq a o ∧ (t = -1 ∨ zRq a t)) ∨ (q.toInt = 0 ∧ ¬ (zRq a o ∧ (t = -1 ∨ zRq a t)))
theorem Th_y (h : qTh a o t q) (hq : q.toInt ≠ 0) : t = -1 ∨ zRq a t := h.elim (fun w => w.2.2) (fun w => absurd w.1 hq)
theorem Th_n (h : qTh a o t q) (hq : q.toInt = 0) : xLi a o i t = a := qIf_n (fun w => h.elim (fun z => by have := z.1; omega) (fun z => z.2 ⟨w.1, w.2.1⟩))
theorem Li_h (hR : qRB us nr kr kd ws at' ho wd wi ow rt wk wl wm nu ro fo le ra pi a) (h : qRe us nr a o v) (hv : 0 ≤ v.toInt) (hi : i.toInt < 0 ∨ (ws v.toNatClampNeg).toInt ≤ i.toInt) : xLi a o i t = a := qIf_n (fun w => by
  have w2 := (Hw_y hR h hv).mp w.2.2.1
  omega)
theorem Li_i (hR : qRB us nr kr kd ws at' ho wd wi ow rt wk wl wm nu ro fo le ra pi a) (h : qRe us nr a o v) (hv : 0 ≤ v.toInt) (h0 : 0 ≤ i.toInt) (h1 : i.toInt < (ws v.toNatClampNeg).toInt) (hk : ¬ kd v.toNatClampNeg = 16) (hk2 : ¬ (kd v.toNatClampNeg < 16 ∧ ((kr (kd v.toNatClampNeg).toNatClampNeg >>> (i &&& 31)) &&& 1) = 1)) : xLi a o i t = a := qIf_n (fun w => ((Ir_y hR h hv h0 h1).mp w.2.2.2).elim hk hk2)
theorem As_p (hR : qRB us nr kr kd ws at' ho wd wi ow rt wk wl wm nu ro fo le ra pi a) (h : qPl us nr x v) (e : x = o) (hq : o = -1 ∨ zRq a o) (hn : x.toInt ≠ -1) : qAs us nr a o v := by
  subst e
  have rq := hq.elim (fun w => absurd (by rw [w]; rfl) hn) id
  rcases h with w | w
  · have c := tn_cast rq.1
    obtain ⟨t, ht, hu, e⟩ := hR.1.2.2 x.toNatClampNeg (by have := rq.2.1; omega) rq.2.2.1
    exact absurd (by rw [e]; exact ofN_tn rq.1) (w.2 t ht hu)
  · exact Or.inr ⟨w.1, w.2.1, w.2.2.1, w.2.2.2, rq⟩
theorem No_al (h1 : qR1 us nr ws at' ho a) (u : qU us x) : qNo nr x = -1 ∨ (0 ≤ (qNo nr x).toInt ∧ (qNo nr x).toInt < 512 ∧ xAl a (qNo nr x).toNatClampNeg) := by
  by_cases z : x.toInt < 0
  · exact Or.inl (No_n z)
  · have w := U_y u (by omega)
    have hs := tn_lt (by omega) w.1
    rw [No_y (by omega)]
    exact Or.inr ⟨(h1.1 _ hs w.2).1.1, (h1.1 _ hs w.2).1.2, R1_al h1 hs w.2⟩
def qMF (mk : Int32) (a : Nat → Nat → Int32) : Prop := mk.toInt ≠ 0 → qMI a
theorem LI_mi (hR : qRB us nr kr kd ws at' ho wd wi ow rt wk wl wm nu ro fo le ra pi a) (hI : qI a) (hG : qMG mk co gr ga gm us nr a) (hK : a 87 8 = mk) (W : qWp a n i) (hr : a (1000 + n) i.toNatClampNeg ≠ 0) (hA : qAs us nr a t s) (ar : aRef a n i = qNo nr v) (uv : qU us v) : qMF mk (aNc (aCi a n i (qNo nr s)) (qNo nr v) (qNo nr s)) := fun z => by
  have h8 : a 87 8 ≠ 0 := by
    rw [hK]
    exact fun w => z (by rw [w]; rfl)
  have e7 : a 87 7 = (if pi = 0 then 1 else 0) := hR.2.2.2.2.2.2.2.2.2.2.2.2
  rw [← ar]
  refine MI_li hI (hG z).1.2.2.2.2 (hG z).2 W hr h8 (As_s hA hG hI z) ?_ ?_ ?_
  · rcases No_al hR.1 (As_u hA) with w | w
    · exact Or.inl (by rw [w]; decide)
    · exact Or.inr w.2
  · rw [e7]
    split
    · exact Or.inr rfl
    · exact Or.inl rfl
  · rw [ar]
    exact No_al hR.1 uv
end QV
