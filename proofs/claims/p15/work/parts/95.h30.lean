/-! the reference by numbers (written by wip/tools/gen18r.py) -/
section QY
variable {aa a b : Nat → Nat → Int32} {us nr kr kd ws at' ho wd wi ow rt wk wl wl' kp co gr : Nat → Int32} {wm wm' nu ro fo le ra pi y x z i j ga gm r s v mk o t ks : Int32} {n k u : Nat} {m m2 : Nat → Nat → Int32} {l : Int}
/-! strong -/
theorem St_of : zOf a (aSt a y) := by
  unfold aSt
  split
  · exact cm_of
  · exact Of_rf
theorem St_y (h : a 87 8 ≠ 0) : aSt a y = aCm a y := if_pos h
theorem St_push (hR : qRB us nr kr kd ws at' ho wd wi ow rt wk wl wm nu ro fo le ra pi a) (hG : qMQ (m 106) (m2 115) ga gm us nr a ∧ qMI a) (h8 : a 87 8 ≠ 0) (u : qU us s) (h0 : 0 ≤ s.toInt) (hw : m 106 s.toNatClampNeg = 0) : qMQ (ma_u m 106 s.toNatClampNeg 1 106) (ma_u m2 115 gm.toNatClampNeg s 115) ga (gm + 1) us nr (aSt a (qNo nr s)) ∧ qMI (aSt a (qNo nr s)) := by
  rw [St_y h8]
  have q := U_y u h0
  exact ⟨MQ_push hG.1 hR.1 h0 q.1 q.2 hw rfl, MI_cm hG.2 hG.1.2.2.2.2⟩
theorem St_skip (hG : qMQ co gr ga gm us nr a ∧ qMI a) (h8 : a 87 8 ≠ 0) (u : qU us s) (hw : co s.toNatClampNeg ≠ 0) : qMQ co gr ga gm us nr (aSt a (qNo nr s)) ∧ qMI (aSt a (qNo nr s)) := by
  rw [St_y h8, MQ_sk hG.1 u (Or.inr hw)]
  exact hG
theorem MS_st (hR : qRB us nr kr kd ws at' ho wd wi ow rt wk wl wm nu ro fo le ra pi a) (hG : qMG mk co gr ga gm us nr a) (hK : a 87 8 = mk) (u : qU us s) (h0 : 0 ≤ s.toInt) : qMS mk (aSt a (qNo nr s)) (qNo nr s) := fun z _ => Or.inr (by
  have q := U_y u h0
  have hs := tn_lt h0 q.1
  have t := hR.1.1 _ hs q.2
  rw [St_y (by rw [hK]; exact fun w => z (by rw [w]; rfl)), No_y h0]
  exact zM_in ((Nn_cm (hG z).1.2.2.2.2).mpr (Or.inr ⟨t.1.1, t.1.2, rfl, R1_al hR.1 hs q.2⟩)))
theorem Sg_y (hR : qRB us nr kr kd ws at' ho wd wi ow rt wk wl wm nu ro fo le ra pi a) (hi : 0 ≤ i.toInt) (hi2 : i.toInt ≤ 15) (hr : 0 ≤ r.toInt) (hr2 : r.toInt ≤ 15) (h0 : 0 ≤ (wk i.toNatClampNeg).toInt) : ySg a i r = aRt (aSt a (qNo nr (wk i.toNatClampNeg))) r (qNo nr (wk i.toNatClampNeg)) := by
  have c := tn_cast hi
  have q := hR.2.2.2.1 i.toNatClampNeg (by omega)
  have u := U_y q.1 h0
  have t := hR.1.1 _ (tn_lt h0 u.1) u.2
  rw [← q.2]
  refine qIf_y ⟨⟨hi, hi2⟩, ⟨hr, hr2⟩, ?_⟩
  rw [q.2, Nm_no hR.1 q.1, No_y h0]
  intro w
  have := t.1.1
  rw [w] at this
  exact absurd this (by decide)
theorem Sg_n (hR : qRB us nr kr kd ws at' ho wd wi ow rt wk wl wm nu ro fo le ra pi a) (hi : 0 ≤ i.toInt) (hi2 : i.toInt ≤ 15) (h0 : (wk i.toNatClampNeg).toInt < 0) : ySg a i r = a := by
  have c := tn_cast hi
  have q := hR.2.2.2.1 i.toNatClampNeg (by omega)
  refine qIf_n (fun w => w.2.2 ?_)
  rw [q.2, Nm_no hR.1 q.1, No_n h0]
theorem Sg_x (h : (i.toInt < 0 ∨ 16 ≤ i.toInt) ∨ (r.toInt < 0 ∨ 16 ≤ r.toInt)) : ySg a i r = a := qIf_n (fun w => by
  have w1 := w.1.1
  have w2 := w.1.2
  have w3 := w.2.1.1
  have w4 := w.2.1.2
  omega)
/-! granted -/
def qSh (wl0 wl : Nat → Int32) (l : Int) : Prop := ∀ k : Nat, wl k = (if (k : Int) < l then wl0 (k + 1) else wl0 k)
theorem Sh_0 (h : l ≤ 0) : qSh wl wl l := fun k => by rw [if_neg (by omega)]
theorem Sh_s {l' : Int} (h : qSh wl (m 114) i.toInt) (h0 : 0 ≤ i.toInt) (e : l' = i.toInt + 1) (hj : j.toInt = i.toInt + 1) : qSh wl (ma_u m 114 i.toNatClampNeg (m 114 j.toNatClampNeg) 114) l' := by
  intro k
  have c := tn_cast h0
  have cj := tn_cast (x := j) (by omega)
  by_cases w : k = i.toNatClampNeg
  · rw [w, mu_self, h j.toNatClampNeg, if_neg (by omega), if_pos (by omega), show j.toNatClampNeg = i.toNatClampNeg + 1 by omega]
  · rw [mu_ne w, h k]
    by_cases w2 : (k : Int) < i.toInt
    · rw [if_pos w2, if_pos (by omega)]
    · rw [if_neg w2, if_neg (by omega)]
theorem Tw_r (h : 0 < (a 69 5).toInt) : aTw a 69 5 = a 69 5 - 1 ∧ (∀ k : Nat, (k : Int) < (a 69 5).toInt - 1 → aTw a 74 k = a 74 (k + 1)) ∧ (∀ c, c ≠ 69 → c ≠ 74 → aTw a c = a c) ∧ aTw a 69 6 = a 69 6 ∧ aTw a 69 8 = a 69 8 ∧ aTy a = a 74 0 := by
  unfold aTw aTy
  rw [if_pos h, if_pos h]
  refine ⟨?_, fun k hk => ?_, fun c h1 h2 => ?_, ?_, ?_, rfl⟩
  · unfold zSh
    rw [if_neg (by omega), xu_s]
  · unfold zSh
    rw [if_pos ⟨rfl, hk⟩, xu_o (by omega)]
  · funext k
    unfold zSh
    rw [if_neg (fun w => h2 w.1), xu_o (fun w => h1 w.1)]
  · unfold zSh
    rw [if_neg (by omega), xu_o (by omega)]
  · unfold zSh
    rw [if_neg (by omega), xu_o (by omega)]
theorem RB_tw (hR : qRB us nr kr kd ws at' ho wd wi ow rt wk wl wm nu ro fo le ra pi a) (h : 0 < wm.toInt) (hs : qSh wl wl' l) (hl : l = wm.toInt - 1) (e : wm' = wm - 1) : qRB us nr kr kd ws at' ho wd wi ow rt wk wl' wm' nu ro fo le ra pi (aTw a) := by
  have w5 := hR.2.2.2.2.1.1
  have t := Tw_r (a := a) (by rw [w5]; exact h)
  have bd := i_bd wm
  have e1 : (wm - 1).toInt = wm.toInt - 1 := i_subk rfl (by omega) (by omega)
  rw [w5] at t
  have cc := t.2.2.1
  refine ⟨R1_cg hR.1 (cc 126 (by decide) (by decide)) (cc 128 (by decide) (by decide)) (cc 130 (by decide) (by decide)) (cc 133 (by decide) (by decide)), R2_cg hR.2.1 (fun n => cc (1000 + n) (by omega) (by omega)) (cc 130 (by decide) (by decide)) (cc 71 (by decide) (by decide)), R3_cg hR.2.2.1 (cc 72 (by decide) (by decide)), R3_cg hR.2.2.2.1 (cc 73 (by decide) (by decide)), ⟨by rw [t.1, e], fun k hk => ?_⟩, R6_cg hR.2.2.2.2.2.1 (cc 134 (by decide) (by decide)), hR.2.2.2.2.2.2.1, R8_cg hR.2.2.2.2.2.2.2 t.2.2.2.1 (cc 87 (by decide) (by decide))⟩
  rw [e, e1] at hk
  rw [hs k, if_pos (by omega), t.2.1 k hk]
  exact hR.2.2.2.2.1.2 (k + 1) (by omega)
theorem I_tw (h : qI a) (h5 : 0 < (a 69 5).toInt) : qI (aTw a) := by
  have t := Tw_r h5
  have cc := t.2.2.1
  have al : xAl (aTw a) = xAl a := by
    funext n
    unfold xAl
    rw [cc 126 (by decide) (by decide)]
  have su := Su_cg (a := aTw a) (b := a) (cc 126 (by decide) (by decide)) (cc 128 (by decide) (by decide)) 512
  have bd := i_bd (a 69 5)
  have e1 : (a 69 5 - 1).toInt = (a 69 5).toInt - 1 := i_subk rfl (by omega) (by omega)
  obtain ⟨h1, h2, h3, h4, h6, h7⟩ := h
  have i5 := h4.2.1
  have e8 : qI6 (aTw a) := fun n hn k => by
    rw [cc (1000 + n) (by omega) (by omega)]
    exact h7 n (by rw [← al]; exact hn) k
  unfold qI qI1 qI2 qI3 qI4 qGd at *
  rw [al, su, cc 128 (by decide) (by decide), cc 130 (by decide) (by decide), cc 71 (by decide) (by decide), cc 87 (by decide) (by decide), t.2.2.2.1, t.2.2.2.2.1, t.1, e1]
  exact ⟨h1, h2, h3, ⟨h4.1, ⟨by omega, by omega⟩, h4.2.2⟩, h6, e8⟩
theorem Ed_tw (h5 : 0 < (a 69 5).toInt) : zEd (aTw a) = zEd a := by
  have cc := (Tw_r h5).2.2.1
  exact Ed_cg (cc 126 (by decide) (by decide)) (cc 128 (by decide) (by decide)) (fun n i => rf_cg (cc (1000 + n) (by omega) (by omega)) (cc 130 (by decide) (by decide)) (cc 71 (by decide) (by decide)))
theorem MG_tw (h : qMG mk co gr ga gm us nr a) (h5 : 0 < (a 69 5).toInt) : qMG mk co gr ga gm us nr (aTw a) := fun z => by
  have t := Tw_r h5
  have cc := t.2.2.1
  have bd := i_bd (a 69 5)
  have e1 : (a 69 5 - 1).toInt = (a 69 5).toInt - 1 := i_subk rfl (by omega) (by omega)
  refine ⟨?_, MI_cg (h z).2 (cc 77 (by decide) (by decide)) (Ed_tw h5) (cc 126 (by decide) (by decide)) (by rw [cc 87 (by decide) (by decide)]) (fun _ u hu => Or.inl ?_)⟩
  · obtain ⟨q1, q2, q3, q4, q5⟩ := (h z).1
    have w := WQ_cg q5 (cc 75 (by decide) (by decide)).symm (cc 76 (by decide) (by decide)).symm (cc 77 (by decide) (by decide)).symm (cc 126 (by decide) (by decide)).symm (cc 130 (by decide) (by decide)).symm
    unfold qMQ
    rw [cc 75 (by decide) (by decide), cc 76 (by decide) (by decide), cc 77 (by decide) (by decide)]
    exact ⟨q1, q2, q3, q4, w⟩
  · unfold zRt zRl zWl zHl xAl at hu ⊢
    rw [cc 126 (by decide) (by decide), cc 72 (by decide) (by decide), cc 133 (by decide) (by decide), t.1, e1, t.2.2.2.1] at hu
    refine ⟨hu.1, hu.2.imp id (fun w => w.imp (fun ⟨j, j1, j2⟩ => ⟨j + 1, by omega, ?_⟩) id)⟩
    rw [← t.2.1 j j1]
    exact j2
theorem MS_tw (hR : qRB us nr kr kd ws at' ho wd wi ow rt wk wl wm nu ro fo le ra pi a) (h : qMG mk co gr ga gm us nr a) (h5 : 0 < wm.toInt) (e : y = qNo nr (wl 0)) : qMS mk (aTw a) y := fun z h7 => Or.inr (by
  have w5 := hR.2.2.2.2.1
  have h50 : 0 < (a 69 5).toInt := by rw [w5.1]; exact h5
  have t := Tw_r h50
  have cc := t.2.2.1
  rw [cc 87 (by decide) (by decide)] at h7
  have q := ((h z).2.2 h7).1
  have p := w5.2 0 (by omega)
  have hs := tn_lt p.1.1 p.1.2.1
  have k := Mk_cg (a := a) (b := aTw a) (cc 77 (by decide) (by decide)) (Ed_tw h50)
  rw [k.1, e, No_y p.1.1]
  refine q _ ⟨R1_al hR.1 hs p.1.2.2, Or.inr (Or.inl ⟨0, by omega, ?_⟩)⟩
  rw [p.2, R1_of_nr hR.1 hs p.1.2.2])
theorem Gr_0 (hR : qRB us nr kr kd ws at' ho wd wi ow rt wk wl wm nu ro fo le ra pi a) (h : wm = 0) : xGr a r = a := by
  have w5 := hR.2.2.2.2.1.1
  have e : ¬ 0 < (a 69 5).toInt := by
    rw [w5, h]
    decide
  have t : aTy a = -1 := if_neg e
  have w : aTw a = a := if_neg e
  unfold xGr
  by_cases z : zSl r
  · rw [qIf_y z, qIf_y (by rw [t]; exact if_neg (fun w => absurd w.1 (by decide))), w]
  · rw [qIf_n z]
theorem Gr_y (hR : qRB us nr kr kd ws at' ho wd wi ow rt wk wl wm nu ro fo le ra pi a) (h : 0 < wm.toInt) (hr : 0 ≤ r.toInt) (hr2 : r.toInt ≤ 15) : xGr a r = aRt (aTw a) r (qNo nr (wl 0)) := by
  have w5 := hR.2.2.2.2.1
  have t := Tw_r (a := a) (by rw [w5.1]; exact h)
  have p := w5.2 0 (by omega)
  have hs := tn_lt p.1.1 p.1.2.1
  have q := hR.1.1 _ hs p.1.2.2
  have ty : aTy a = qNo nr (wl 0) := by
    rw [t.2.2.2.2.2, p.2, No_y p.1.1]
  unfold xGr
  rw [qIf_y ⟨hr, hr2⟩, ty, qIf_n]
  rw [Nm_no hR.1 (Or.inr ⟨p.1.2.1, p.1.2.2⟩), No_y p.1.1]
  intro w
  have := q.1.1
  rw [w] at this
  exact absurd this (by decide)
/-! a kind -/
theorem RB_kd (hR : qRB us nr (m 98) kd ws at' ho wd wi ow rt wk wl wm nu ro fo le ra pi a) (hW : zW ks (m 98) kd ws wd) (hk : (k : Int) = ks.toInt) (hd : ∀ s, s < 3100 → 0 ≤ (kd s).toInt) : qRB us nr (ma_u m 98 k x 98) kd ws at' ho wd wi ow rt wk wl wm nu ro fo le ra pi a := by
  refine ⟨hR.1, fun s hs hu i hi => ?_, hR.2.2⟩
  have q := hR.2.1 s hs hu i hi
  rw [zrf_kind hW hk hd s i hs hi]
  refine ⟨q.1, q.2.1, q.2.2.trans ?_⟩
  unfold qIr
  by_cases h16 : kd s = 16
  · exact ⟨fun _ => Or.inl h16, fun _ => Or.inl h16⟩
  · by_cases hl : (kd s).toInt < ks.toInt
    · have hn : (kd s).toNatClampNeg ≠ k := by
        rw [tn_eq]
        have := hd s hs
        omega
      rw [mu_ne hn]
    · have h3 : ¬ kd s < 16 := fun z => by
        have z2 := Int32.lt_iff_toInt_lt.mp z
        have z3 : (16 : Int32).toInt = 16 := rfl
        rcases (hW s hs).2 with q | q | q <;> omega
      exact ⟨fun w => w.elim Or.inl (fun w2 => absurd w2.1 h3), fun w => w.elim Or.inl (fun w2 => absurd w2.1 h3)⟩
end QY
