/-! AGES, the reference (written by wip/tools/gen15v.py) -/
/-! AGES, the reference: a link's card; holds -/
noncomputable def yNl (a : Nat → Nat → Int32) (o i t : Int32) : Nat → Nat → Int32 := qIf (zRq a o ∧ (t = -1 ∨ zRq a t) ∧ zHw a o i ∧ zIr a o i) (gNr a o.toNatClampNeg i.toInt t) a
/-- a hold under AGES: of OLD ones alone -/
noncomputable def yHo (a : Nat → Nat → Int32) (o b : Int32) : Nat → Nat → Int32 := qIf ((a 130 o.toNatClampNeg).toInt < (a 87 9).toInt) (xHo a o b) a
section F39
variable {a b c : Nat → Nat → Int32} {us nr kr kd ws at' ho wd wi ow rt wk wl dt dt' : Nat → Int32} {wm nu ro fo le ra pi x y v s t o q i l yo ol ag cd : Int32} {n k : Nat}
theorem Th_nl (h : qTh a o t q) (hq : q.toInt = 0) : yNl a o i t = a := qIf_n (fun w => h.elim (fun z => by have := z.1; omega) (fun z => z.2 ⟨w.1, w.2.1⟩))
theorem Li_hl (hR : qRB us nr kr kd ws at' ho wd wi ow rt wk wl wm nu ro fo le ra pi a) (h : qRe us nr a o v) (hv : 0 ≤ v.toInt) (hi : i.toInt < 0 ∨ (ws v.toNatClampNeg).toInt ≤ i.toInt) : yNl a o i t = a := qIf_n (fun w => by
  have w2 := (Hw_y hR h hv).mp w.2.2.1
  omega)
theorem Li_il (hR : qRB us nr kr kd ws at' ho wd wi ow rt wk wl wm nu ro fo le ra pi a) (h : qRe us nr a o v) (hv : 0 ≤ v.toInt) (h0 : 0 ≤ i.toInt) (h1 : i.toInt < (ws v.toNatClampNeg).toInt) (hk : ¬ kd v.toNatClampNeg = 16) (hk2 : ¬ (kd v.toNatClampNeg < 16 ∧ ((kr (kd v.toNatClampNeg).toNatClampNeg >>> (i &&& 31)) &&& 1) = 1)) : yNl a o i t = a := qIf_n (fun w => ((Ir_y hR h hv h0 h1).mp w.2.2.2).elim hk hk2)
theorem Li_yl (hR : qRB us nr kr kd ws at' ho wd wi ow rt wk wl wm nu ro fo le ra pi a) (h : qRe us nr a o v) (hv : 0 ≤ v.toInt) (h0 : 0 ≤ i.toInt) (h1 : i.toInt < (ws v.toNatClampNeg).toInt) (hk : kd v.toNatClampNeg = 16 ∨ (kd v.toNatClampNeg < 16 ∧ ((kr (kd v.toNatClampNeg).toNatClampNeg >>> (i &&& 31)) &&& 1) = 1)) (ht : qAs us nr a t s) : yNl a o i t = gNr a o.toNatClampNeg i.toInt t := by
  have q := Re_y h hv
  exact qIf_y ⟨q.2.2.2, As_c ht, (Hw_y hR h hv).mpr ⟨h0, h1⟩, (Ir_y hR h hv h0 h1).mpr hk⟩
theorem Dt_ly (h : qDt dt a) (hR : qR1 us nr ws at' ho a) (hv : qAv a) (hx : qAX a yo ol ag cd) (hre : qRe us nr a o s) (hs : 0 ≤ s.toInt) (hot : (at' s.toNatClampNeg).toInt < ol.toInt) (has : qAs us nr a t v) (h0 : 0 ≤ v.toInt) (hy : ol.toInt ≤ (at' v.toNatClampNeg).toInt) (hi : 0 ≤ i.toInt) (h6 : i.toInt < (ws s.toNatClampNeg).toInt) (e : ∀ j, dt' j = if j = ((at' s.toNatClampNeg + (1 : Int32) + i) / cd).toNatClampNeg then 1 else dt j) : qDt dt' (gNr a o.toNatClampNeg i.toInt t) := by
  have r := Re_y hre hs
  have sl := tn_lt hs (by omega : s.toInt < 3100)
  have q := hR.1 _ sl r.2.1
  have al := R1_al hR sl r.2.1
  rw [r.2.2.1] at q al
  rcases has with w | w
  · rw [w.2] at h0
    exact absurd h0 (by decide)
  · have vl := tn_lt w.1 (by omega : v.toInt < 3100)
    have p := hR.1 _ vl w.2.2.1
    rw [w.2.2.2.1] at p
    have b := AL_b (a := a) (yo := yo) (ol := ol) (ag := ag) (cd := cd) (tp := a 87 4) (ot := a 87 10) (hf := if (a 87 3).toInt = ol.toInt then 0 else 1) ⟨hx, rfl, rfl, by split <;> first | exact Or.inl rfl | exact Or.inr rfl, fun z => by
      by_cases g : (a 87 3).toInt = ol.toInt
      · exact g
      · rw [if_neg g] at z
        exact absurd z (by decide), fun z => by
      by_cases g : (a 87 3).toInt = ol.toInt
      · rw [if_pos g] at z
        exact absurd z (by decide)
      · have hs4 := hv.2.2.2.1
        rw [hx.1, hx.2.1] at hs4
        omega⟩ hv
    have t1 := tn_cast hi
    have w6 := q.2.2.2.2.2.1
    have sz : (a 128 o.toNatClampNeg).toInt = (ws s.toNatClampNeg).toInt + 1 := by
      rw [q.2.2.1]
      exact i_addk rfl (by omega) (by omega)
    have cx := cx_lt (i := i.toNatClampNeg) (Av_0 hv) al (by rw [q.2.2.2.1, hx.2.1]; exact hot) (by omega)
    rw [t1] at cx
    have ex : gCx a o.toNatClampNeg i.toInt = ((((at' s.toNatClampNeg + (1 : Int32) + i) / cd).toNatClampNeg : Nat) : Int) := by
      rw [← card_i2 (by omega) (by omega) hi (by omega) (by omega)]
      unfold gCx
      rw [q.2.2.2.1, hx.2.2.2, t1]
    have eg : gNr a o.toNatClampNeg i.toInt t = ma_u a 83 (gCx a o.toNatClampNeg i.toInt).toNat 1 := by
      unfold gNr
      rw [if_pos ⟨⟨p.1.1, p.1.2, p.2.1, by rw [p.2.2.2.1, hx.2.1]; exact hy⟩, by rw [q.2.2.2.1, hx.2.1]; exact hot, by rw [hx.2.2.2]; omega, cx.2⟩]
    rw [eg]
    intro j hj
    rw [e j]
    have ek : (gCx a o.toNatClampNeg i.toInt).toNat = ((at' s.toNatClampNeg + (1 : Int32) + i) / cd).toNatClampNeg := by omega
    rw [ek]
    by_cases z : j = ((at' s.toNatClampNeg + (1 : Int32) + i) / cd).toNatClampNeg
    · rw [if_pos z, z, xu_s]
    · rw [if_neg z, xu_o (fun w => z w.2)]
      exact h j hj
theorem Dt_ln (h : qDt dt a) (hR : qR1 us nr ws at' ho a) (hx : qAX a yo ol ag cd) (hre : qRe us nr a o s) (hs : 0 ≤ s.toInt) (has : qAs us nr a t v) (hn : ol.toInt ≤ (at' s.toNatClampNeg).toInt ∨ v.toInt < 0 ∨ (at' v.toNatClampNeg).toInt < ol.toInt) : qDt dt (gNr a o.toNatClampNeg i.toInt t) := by
  have r := Re_y hre hs
  have q := hR.1 _ (tn_lt hs (by omega : s.toInt < 3100)) r.2.1
  rw [r.2.2.1] at q
  have e : gNr a o.toNatClampNeg i.toInt t = a := by
    unfold gNr
    refine if_neg (fun z => ?_)
    have z1 := z.2.1
    rw [q.2.2.2.1, hx.2.1] at z1
    rcases has with w | w
    · have z2 := z.1.1
      rw [w.1] at z2
      exact absurd z2 (by decide)
    · have p := hR.1 _ (tn_lt w.1 (by omega : v.toInt < 3100)) w.2.2.1
      rw [w.2.2.2.1] at p
      have z3 := z.1.2.2.2
      rw [p.2.2.2.1, hx.2.1] at z3
      have := w.1
      omega
  rw [e]
  exact h
theorem yHo_y (h : (a 130 o.toNatClampNeg).toInt < (a 87 9).toInt) : yHo a o x = xHo a o x := qIf_y h
theorem yHo_n (h : ¬ (a 130 o.toNatClampNeg).toInt < (a 87 9).toInt) : yHo a o x = a := qIf_n h
theorem yHo_x (h : xHo a o x = a) : yHo a o x = a := by
  by_cases w : (a 130 o.toNatClampNeg).toInt < (a 87 9).toInt
  · rw [yHo_y w, h]
  · exact yHo_n w
theorem Ho_pl (hR : qR1 us nr ws at' ho a) (hre : qRe us nr a o s) (hs : 0 ≤ s.toInt) (hx : qAX a yo ol ag cd) : (a 130 o.toNatClampNeg).toInt < (a 87 9).toInt ↔ (at' s.toNatClampNeg).toInt < ol.toInt := by
  have r := Re_y hre hs
  have q := hR.1 _ (tn_lt hs (by omega : s.toInt < 3100)) r.2.1
  rw [r.2.2.1] at q
  rw [q.2.2.2.1, hx.2.1]
end F39
