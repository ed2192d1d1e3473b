/-! from 95.o04 -/
/-! the reference under COUNTS (written by wip/tools/gen20s.py) -/
/-! COUNTS, the reference: the calls -/
noncomputable def kRt (a : Nat → Nat → Int32) (i y : Int32) : Nat → Nat → Int32 := cLe (aR0 a i y) (a 72 i.toNatClampNeg)
noncomputable def kRo (a : Nat → Nat → Int32) (i o : Int32) : Nat → Nat → Int32 := qIf (zSl i ∧ (o = -1 ∨ zRq a o)) (kRt a i o) a
noncomputable def kLi (a : Nat → Nat → Int32) (o i t : Int32) : Nat → Nat → Int32 := qIf (zRq a o ∧ (t = -1 ∨ zRq a t) ∧ zHw a o i ∧ zIr a o i) (cLe (aL0 a o.toNatClampNeg i t) (aRef a o.toNatClampNeg i)) a
noncomputable def kHo (a : Nat → Nat → Int32) (o b : Int32) : Nat → Nat → Int32 := qIf (zRq a o ∧ (¬ b = 0 ∨ ¬ a 133 o.toNatClampNeg = 0)) (cLe (ma_u a 133 o.toNatClampNeg (a 133 o.toNatClampNeg + (if b = 0 then -1 else 1))) o) a
noncomputable def kGr (a : Nat → Nat → Int32) (r : Int32) : Nat → Nat → Int32 := qIf (zSl r) (qIf (aNm a (aTy a) = -1) (aTw a) (kRt (aTw a) r (aTy a))) a
noncomputable def kSg (a : Nat → Nat → Int32) (i r : Int32) : Nat → Nat → Int32 := qIf (zSl i ∧ zSl r ∧ aNm a (a 73 i.toNatClampNeg) ≠ -1) (kRt a r (a 73 i.toNatClampNeg)) a
section D3
variable {a b : Nat → Nat → Int32} {us nr kr kd ws ws₉ at₉ at2 ho ho₉ wd wi ow rt wk wl ct ct₉ : Nat → Int32} {wm nu ro fo le ra pi x y z i r s v o t d : Int32} {n k : Nat} {st : List (List Int32)} {B : Int}
theorem C_ofV (hV : cV a [] B) : cC a [] (fun n => Int32.ofInt (cRf a n)) B := C0_mk hV.1 hV.2.1 hV.2.2.2.1 hV.2.2.2.2.1 (fun _ _ => rfl)
theorem Ct_K (h1 : qR1 us nr ws₉ at2 ho₉ b) (hC : cC b [] (fun n => Int32.ofInt (cRf a n)) B) (h : qCt ct us nr a [] (-1) (-1)) : qCt ct us nr b [] (-1) (-1) := fun s hs hu => by
  have k := (C0_un hC).2.2.2.2 _ (R1_al h1 hs hu)
  have l5 := (R1_al h1 hs hu).1
  have z : ∀ q : Int, q + ((cOc [] (nr s).toNatClampNeg : Nat) : Int) + ((0 : Nat) : Int) + ((0 : Nat) : Int) = q := fun q => by
    have e : cOc [] (nr s).toNatClampNeg = 0 := rfl
    rw [e]
    omega
  rw [h s hs hu, is_m1 l5, z, z]
  exact k
theorem Ct_sw (h : qCt ct us nr a st x z) : qCt ct us nr a st z x := fun s hs hu => by
  rw [h s hs hu]
  exact congrArg Int32.ofInt (by omega)
theorem V_rt4 (hV : cV a [] B) (h1 : qR1 us nr ws at₉ ho a) (u : qU us s) (hk : k < 16) : cV (ma_u a 72 k (qNo nr s)) [] B := by
  have c := C_rt (y := qNo nr s) (K₉ := fun n => Int32.ofInt (cRf a n) + Int32.ofNat (cIs (qNo nr s) n) - Int32.ofNat (cIs (a 72 k) n)) (C_ofV hV) hk (fun _ _ => rfl)
  rw [Nm_no h1 u] at c
  exact V_0 c
theorem Ct_mo (h1 : qR1 us nr ws at₉ ho a) (h : qCt ct us nr a [] x (-1)) (u : qU us s) (e : (0 ≤ s.toInt → ct₉ = zUp ct s.toNatClampNeg (ct s.toNatClampNeg + 1)) ∧ (s.toInt < 0 → ct₉ = ct)) : qCt ct₉ us nr a [] x (qNo nr s) := by
  by_cases w : s.toInt < 0
  · rw [No_n w, e.2 w]
    exact h
  · have v := U_y u (by omega)
    rw [No_y (by omega)]
    exact Ct_up h1 h (tn_lt (by omega) v.1) v.2 (e.1 (by omega))
theorem Ct_rt (h1 : qR1 us nr ws at₉ ho a) (h : qCt ct us nr a [] x (-1)) (u : qU us s) (hk : k < 16) (ew : a 72 k = z) (e : (0 ≤ s.toInt → ct₉ = zUp ct s.toNatClampNeg (ct s.toNatClampNeg + 1)) ∧ (s.toInt < 0 → ct₉ = ct)) : qCt ct₉ us nr (ma_u a 72 k (qNo nr s)) [] x z := by
  have q := Ct_mo h1 h u e
  intro t ht hv
  have r := Rf_rt (a := a) (k := k) (x := qNo nr s) (n := (nr t).toNatClampNeg) hk
  rw [q t ht hv, ← ew]
  exact congrArg Int32.ofInt (by omega)
theorem Xr_rt (h : x.toInt < 0 ∨ x = y) (hk : k < 16) : qXr (ma_u a 72 k y) x := h.imp id (fun e => ⟨k, hk, xu_s.trans e.symm⟩)
theorem Xr_m1 : qXr a (-1) := Or.inl (by decide)
theorem Rt_k (hR : qRB us nr kr kd ws at₉ ho wd wi ow rt wk wl wm nu ro fo le ra pi a) (u : qU us s) (hi : 0 ≤ i.toInt) (hi2 : i.toInt ≤ 15) : kRt a i (qNo nr s) = cLe (ma_u a 72 i.toNatClampNeg (qNo nr s)) (qNo nr (rt i.toNatClampNeg)) := by
  have c := tn_cast hi
  unfold kRt aR0
  rw [Nm_no hR.1 u, (hR.2.2.1 i.toNatClampNeg (by omega)).2]
/-- one that counts still is left -/
theorem Le_pos (h0 : 0 ≤ y.toInt) (al : xAl a y.toNatClampNeg) (h : 0 < cRf a y.toNatClampNeg) : cLe a y = a := by
  refine cLe_y h0 al ?_
  have e : cOc ([] : List (List Int32)) y.toNatClampNeg = 0 := rfl
  rw [Fa_p (by rw [e]; omega)]
  exact cE_o
theorem Rf_ge (hV : cV a [] B) (al : xAl a n) : (cRo a n : Int) + (cWi a n : Int) + (a 133 n).toInt ≤ cRf a n ∧ 0 ≤ (a 133 n).toInt := by
  have hd := (hV.2.2.2.1 n al).1
  unfold cRf
  omega
theorem Le_rt (hV : cV a [] B) (h0 : 0 ≤ y.toInt) (al : xAl a y.toNatClampNeg) (hX : qXr a y) : cLe a y = a := by
  refine Le_pos h0 al ?_
  rcases hX with w | ⟨k, hk, e⟩
  · exact absurd h0 (by omega)
  · have r := Ro_ge hk (e.trans (ofN_tn h0).symm)
    have g := Rf_ge hV al
    omega
theorem kRo_y (hi : 0 ≤ i.toInt) (h2 : i.toInt ≤ 15) (h : qAs us nr a o s) : kRo a i o = kRt a i (qNo nr s) := by
  rw [As_o h]
  exact qIf_y ⟨⟨hi, h2⟩, As_c h⟩
theorem kSg_y (hR : qRB us nr kr kd ws at₉ ho wd wi ow rt wk wl wm nu ro fo le ra pi a) (hi : 0 ≤ i.toInt) (hi2 : i.toInt ≤ 15) (hr : 0 ≤ r.toInt) (hr2 : r.toInt ≤ 15) (h0 : 0 ≤ (wk i.toNatClampNeg).toInt) : kSg a i r = kRt a r (qNo nr (wk i.toNatClampNeg)) := by
  have c := tn_cast hi
  have q := hR.2.2.2.1 i.toNatClampNeg (by omega)
  have u := U_y q.1 h0
  have t := hR.1.1 _ (tn_lt h0 u.1) u.2
  rw [← q.2]
  refine qIf_y ⟨⟨hi, hi2⟩, ⟨hr, hr2⟩, ?_⟩
  rw [q.2, Nm_no hR.1 q.1, No_y h0]
  intro w
  have := t.1.1
  rw [w] at this
  exact absurd this (by decide)
theorem kSg_n (hR : qRB us nr kr kd ws at₉ ho wd wi ow rt wk wl wm nu ro fo le ra pi a) (hi : 0 ≤ i.toInt) (hi2 : i.toInt ≤ 15) (h0 : (wk i.toNatClampNeg).toInt < 0) : kSg a i r = a := by
  have c := tn_cast hi
  have q := hR.2.2.2.1 i.toNatClampNeg (by omega)
  refine qIf_n (fun w => w.2.2 ?_)
  rw [q.2, Nm_no hR.1 q.1, No_n h0]
theorem kSg_x (h : (i.toInt < 0 ∨ 16 ≤ i.toInt) ∨ (r.toInt < 0 ∨ 16 ≤ r.toInt)) : kSg a i r = a := qIf_n (fun w => by
  have w1 := w.1.1
  have w2 := w.1.2
  have w3 := w.2.1.1
  have w4 := w.2.1.2
  omega)
theorem kGr_0 (hR : qRB us nr kr kd ws at₉ ho wd wi ow rt wk wl wm nu ro fo le ra pi a) (h : wm = 0) : kGr a r = a := by
  have w5 := hR.2.2.2.2.1.1
  have e : ¬ 0 < (a 69 5).toInt := by
    rw [w5, h]
    decide
  have t : aTy a = -1 := if_neg e
  have w : aTw a = a := if_neg e
  unfold kGr
  by_cases z : zSl r
  · rw [qIf_y z, qIf_y (by rw [t]; exact if_neg (fun w => absurd w.1 (by decide))), w]
  · rw [qIf_n z]
theorem kGr_y (hR : qRB us nr kr kd ws at₉ ho wd wi ow rt wk wl wm nu ro fo le ra pi a) (h : 0 < wm.toInt) (hr : 0 ≤ r.toInt) (hr2 : r.toInt ≤ 15) : kGr a r = kRt (aTw a) r (qNo nr (wl 0)) := by
  have w5 := hR.2.2.2.2.1
  have t := Tw_r (a := a) (by rw [w5.1]; exact h)
  have p := w5.2 0 (by omega)
  have hs := tn_lt p.1.1 p.1.2.1
  have q := hR.1.1 _ hs p.1.2.2
  have ty : aTy a = qNo nr (wl 0) := by
    rw [t.2.2.2.2.2, p.2, No_y p.1.1]
  unfold kGr
  rw [qIf_y ⟨hr, hr2⟩, ty, qIf_n]
  rw [Nm_no hR.1 (Or.inr ⟨p.1.2.1, p.1.2.2⟩), No_y p.1.1]
  intro w
  have := q.1.1
  rw [w] at this
  exact absurd this (by decide)
/-- a wish is taken: it counts still -/
theorem V_tw4 (hV : cV a [] B) : cV (aTw a) [] B := V_0 (C_tw (K₉ := fun n => Int32.ofInt (cRf a n) - (if 0 < (a 69 5).toInt then Int32.ofNat (cIs (a 74 0) n) else 0)) (C_ofV hV) (fun _ _ => rfl)).1
theorem Ct_tw (hR : qRB us nr kr kd ws at₉ ho wd wi ow rt wk wl wm nu ro fo le ra pi a) (h : qCt ct us nr a [] (-1) (-1)) (hw : 0 < wm.toInt) (h5 : wm.toInt ≤ 512) (e : s = wl 0) : qCt ct us nr (aTw a) [] (qNo nr s) (-1) := by
  have w5 := hR.2.2.2.2.1
  have p := w5.2 0 (by omega)
  intro t ht hv
  have r := Rf_tw (a := a) (n := (nr t).toNatClampNeg) (by rw [w5.1]; exact hw) (by rw [w5.1]; exact h5)
  rw [p.2, ← e, ← No_y (nr := nr) (x := s) (by rw [e]; exact p.1.1)] at r
  rw [h t ht hv, is_m1 (nr_lt hR.1 ht hv)]
  exact congrArg Int32.ofInt (by omega)
/-- holds -/
theorem kHo_y (hR : qRB us nr kr kd ws at₉ ho wd wi ow rt wk wl wm nu ro fo le ra pi a) (h : qRe us nr a o v) (hv : 0 ≤ v.toInt) (hb : ¬ y = 0 ∨ ¬ ho v.toNatClampNeg = 0) (e : x = ho v.toNatClampNeg + (if y = 0 then -1 else 1)) : kHo a o y = cLe (ma_u a 133 (nr v.toNatClampNeg).toNatClampNeg x) (nr v.toNatClampNeg) := by
  have q := Re_y h hv
  have t := (hR.1.1 _ (tn_lt hv (by omega)) q.2.1).2.2.2.2.1
  rw [q.2.2.1] at t
  rw [q.2.2.1, e, ← t]
  rw [← t] at hb
  exact qIf_y ⟨q.2.2.2, hb⟩
theorem kHo_x (hR : qRB us nr kr kd ws at₉ ho wd wi ow rt wk wl wm nu ro fo le ra pi a) (h : qRe us nr a o v) (hv : 0 ≤ v.toInt) (h0 : y = 0) (h1 : ho v.toNatClampNeg = 0) : kHo a o y = a := by
  have q := Re_y h hv
  have t := (hR.1.1 _ (tn_lt hv (by omega)) q.2.1).2.2.2.2.1
  rw [q.2.2.1] at t
  exact qIf_n (fun w => w.2.elim (fun w2 => w2 h0) (fun w2 => w2 (by rw [t]; exact h1)))
theorem V_ho4 (hV : cV a [] B) (al : xAl a n) (hB : B + 1 ≤ 1000000) (hd : d = 1 ∨ (d = -1 ∧ a 133 n ≠ 0)) : cV (ma_u a 133 n (a 133 n + d)) [] (B + 1) := V_0 (C_hx (K₉ := fun m => Int32.ofInt (cRf a m) + (if m = n then d else 0)) (C_ofV hV) al hB hd (fun _ => rfl))
theorem ho_d (hV : cV a [] B) (al : xAl a n) (hB : B + 1 ≤ 1000000) (hd : d = 1 ∨ (d = -1 ∧ a 133 n ≠ 0)) : (a 133 n + d).toInt = (a 133 n).toInt + d.toInt ∧ 0 ≤ (a 133 n + d).toInt := by
  have h := hV.2.2.2.1 n al
  have h2 := (V_ho4 hV al hB hd).2.2.2.1 n (by
    unfold xAl
    rw [un (n := 126) (by decide)]
    exact al)
  rw [mu_self] at h2
  refine ⟨?_, h2.1⟩
  rcases hd with e | e
  · rw [e, show (1 : Int32).toInt = 1 from rfl]
    exact i_p1 (by omega)
  · rw [e.1, show (-1 : Int32).toInt = -1 from rfl]
    have nz : (a 133 n).toInt ≠ 0 := fun w => e.2 (Int32.toInt_inj.mp w)
    exact i_add (x := a 133 n) (y := -1) (by rw [show (-1 : Int32).toInt = -1 from rfl]; omega) (by rw [show (-1 : Int32).toInt = -1 from rfl]; omega)
theorem Ct_h1 (h1 : qR1 us nr ws at₉ ho a) (hV : cV a [] B) (hB : B + 1 ≤ 1000000) (h : qCt ct us nr a [] (-1) (-1)) (h0 : 0 ≤ s.toInt) (h3 : s.toInt ≤ 3099) (hu : us s.toNatClampNeg ≠ 0) (e : ct₉ = zUp ct s.toNatClampNeg (ct s.toNatClampNeg + 1)) : qCt ct₉ us nr (ma_u a 133 (nr s.toNatClampNeg).toNatClampNeg (a 133 (nr s.toNatClampNeg).toNatClampNeg + 1)) [] (-1) (-1) := by
  have hs := tn_lt h0 (by omega)
  have q := Ct_up h1 h hs hu e
  have hd := ho_d hV (R1_al h1 hs hu) hB (Or.inl rfl)
  have d1 : (1 : Int32).toInt = 1 := rfl
  intro t ht hv
  have r := Rf_ho (a := a) (k := (nr s.toNatClampNeg).toNatClampNeg) (x := a 133 (nr s.toNatClampNeg).toNatClampNeg + 1) (n := (nr t).toNatClampNeg)
  have w := nr_eq h1 hs hu ht hv
  rw [q t ht hv, r, is_m1 (nr_lt h1 ht hv), w]
  by_cases z : t = s.toNatClampNeg
  · rw [if_pos z, if_pos (by rw [z])]
    exact congrArg Int32.ofInt (by omega)
  · rw [if_neg z, if_neg (fun e => z (h1.2.1 t _ ht hs hv hu (by rw [← R1_of_nr h1 ht hv, ← R1_of_nr h1 hs hu, e])))]
    exact congrArg Int32.ofInt (by omega)
theorem Ct_h0 (h1 : qR1 us nr ws at₉ ho a) (hV : cV a [] B) (hB : B + 1 ≤ 1000000) (h : qCt ct us nr a [] (-1) (-1)) (h0 : 0 ≤ s.toInt) (h3 : s.toInt ≤ 3099) (hu : us s.toNatClampNeg ≠ 0) (hh : a 133 (nr s.toNatClampNeg).toNatClampNeg ≠ 0) : qCt ct us nr (ma_u a 133 (nr s.toNatClampNeg).toNatClampNeg (a 133 (nr s.toNatClampNeg).toNatClampNeg + -1)) [] (-1) (qNo nr s) := by
  have hs := tn_lt h0 (by omega)
  have hd := ho_d hV (R1_al h1 hs hu) hB (Or.inr ⟨rfl, hh⟩)
  have d1 : (-1 : Int32).toInt = -1 := rfl
  intro t ht hv
  have r := Rf_ho (a := a) (k := (nr s.toNatClampNeg).toNatClampNeg) (x := a 133 (nr s.toNatClampNeg).toNatClampNeg + -1) (n := (nr t).toNatClampNeg)
  have w := nr_eq h1 hs hu ht hv
  rw [h t ht hv, r, is_m1 (nr_lt h1 ht hv), No_y h0, w]
  by_cases z : t = s.toNatClampNeg
  · rw [if_pos z, if_pos (by rw [z])]
    exact congrArg Int32.ofInt (by omega)
  · rw [if_neg z, if_neg (fun e => z (h1.2.1 t _ ht hs hv hu (by rw [← R1_of_nr h1 ht hv, ← R1_of_nr h1 hs hu, e])))]
    exact congrArg Int32.ofInt (by omega)
theorem Le_ho (hV : cV a [] B) (h0 : 0 ≤ y.toInt) (al : xAl a y.toNatClampNeg) (h : 0 < (a 133 y.toNatClampNeg).toInt) : cLe a y = a := by
  refine Le_pos h0 al ?_
  have g := Rf_ge hV al
  omega
/-- link -/
theorem kLi_y (hR : qRB us nr kr kd ws at₉ ho wd wi ow rt wk wl wm nu ro fo le ra pi a) (h : qRe us nr a o v) (hv : 0 ≤ v.toInt) (h0 : 0 ≤ i.toInt) (h1 : i.toInt < (ws v.toNatClampNeg).toInt) (hk : kd v.toNatClampNeg = 16 ∨ (kd v.toNatClampNeg < 16 ∧ ((kr (kd v.toNatClampNeg).toNatClampNeg >>> (i &&& 31)) &&& 1) = 1)) (ht : qAs us nr a t s) : kLi a o i t = cLe (aCi a o.toNatClampNeg i (qNo nr s)) (aRef a o.toNatClampNeg i) := by
  have q := Re_y h hv
  rw [← As_m hR.1 ht]
  exact qIf_y ⟨q.2.2.2, As_c ht, (Hw_y hR h hv).mpr ⟨h0, h1⟩, (Ir_y hR h hv h0 h1).mpr hk⟩
theorem kTh_n {q : Int32} (h : qTh a o t q) (hq : q.toInt = 0) : kLi a o i t = a := qIf_n (fun w => h.elim (fun z => by have := z.1; omega) (fun z => z.2 ⟨w.1, w.2.1⟩))
theorem kLi_h (hR : qRB us nr kr kd ws at₉ ho wd wi ow rt wk wl wm nu ro fo le ra pi a) (h : qRe us nr a o v) (hv : 0 ≤ v.toInt) (hi : i.toInt < 0 ∨ (ws v.toNatClampNeg).toInt ≤ i.toInt) : kLi a o i t = a := qIf_n (fun w => by
  have w2 := (Hw_y hR h hv).mp w.2.2.1
  omega)
theorem kLi_i (hR : qRB us nr kr kd ws at₉ ho wd wi ow rt wk wl wm nu ro fo le ra pi a) (h : qRe us nr a o v) (hv : 0 ≤ v.toInt) (h0 : 0 ≤ i.toInt) (h1 : i.toInt < (ws v.toNatClampNeg).toInt) (hk : ¬ kd v.toNatClampNeg = 16) (hk2 : ¬ (kd v.toNatClampNeg < 16 ∧ ((kr (kd v.toNatClampNeg).toNatClampNeg >>> (i &&& 31)) &&& 1) = 1)) : kLi a o i t = a := qIf_n (fun w => ((Ir_y hR h hv h0 h1).mp w.2.2.2).elim hk hk2)
theorem V_li4 (hV : cV a [] B) (h1 : qR1 us nr ws at₉ ho a) (W : qWp a n i) (hb : a (1000 + n) i.toNatClampNeg ≠ 0) (u : qU us s) : cV (aCi a n i (qNo nr s)) [] B := by
  have c := C_li (y := qNo nr s) (K₉ := fun m => Int32.ofInt (cRf a m) + Int32.ofNat (cIs (qNo nr s) m) - Int32.ofNat (cIs (aRef a n i) m)) (C_ofV hV) W hb (fun _ _ => rfl)
  rw [Nm_no h1 u] at c
  exact V_0 c
/-- put, weak, wish -/
theorem Cu_4 (hV : cV a [] B) (hn : n = 73 ∨ n = 134) : cC (ma_u a n k x) [] (fun n => Int32.ofInt (cRf a n)) B := C_u (by omega) (by omega) (C_ofV hV)
theorem Cp_4 (hV : cV a [] B) (W : qWp a n i) (hb : a (1000 + n) i.toNatClampNeg = 0) : cC (aCi a n i x) [] (fun n => Int32.ofInt (cRf a n)) B := C_pu (C_ofV hV) W hb
theorem Le_rt2 (hV : cV b [] B) (h1 : qR1 us nr ws at₉ ho b) (u : qU us s) (h0 : 0 ≤ s.toInt) (hX : qXr b (qNo nr s)) : cLe b (qNo nr s) = b := by
  have w := U_y u h0
  have hs := tn_lt h0 w.1
  rw [No_y h0] at hX ⊢
  exact Le_rt hV (h1.1 _ hs w.2).1.1 (R1_al h1 hs w.2) hX
theorem V_up (h : cV a st B) : cV a st (B + 1) := by
  obtain ⟨v1, v2, v3, v4, v5, v6⟩ := h
  refine ⟨v1, v2, v3, fun n hn => ?_, v5, v6⟩
  have q := v4 n hn
  exact ⟨q.1, by omega⟩
theorem Ho_on (hR : qRB us nr kr kd ws at₉ ho wd wi ow rt wk wl wm nu ro fo le ra pi a) (hV : cV a [] B) (hB : B + 1 ≤ 1000000) (hC : qCt ct us nr a [] (-1) (-1)) (h0 : 0 ≤ s.toInt) (h3 : s.toInt ≤ 3099) (hu : us s.toNatClampNeg ≠ 0) (e : ct₉ = zUp ct s.toNatClampNeg (ct s.toNatClampNeg + 1)) : cLe (ma_u a 133 (nr s.toNatClampNeg).toNatClampNeg (ho s.toNatClampNeg + 1)) (nr s.toNatClampNeg) = ma_u a 133 (nr s.toNatClampNeg).toNatClampNeg (ho s.toNatClampNeg + 1) ∧ cV (ma_u a 133 (nr s.toNatClampNeg).toNatClampNeg (ho s.toNatClampNeg + 1)) [] (B + 1) ∧ qCt ct₉ us nr (ma_u a 133 (nr s.toNatClampNeg).toNatClampNeg (ho s.toNatClampNeg + 1)) [] (-1) (-1) := by
  have hs := tn_lt h0 (by omega)
  have al := R1_al hR.1 hs hu
  have ea := (hR.1.1 _ hs hu).2.2.2.2.1
  have v := V_ho4 hV al hB (Or.inl rfl)
  have c := Ct_h1 hR.1 hV hB hC h0 h3 hu e
  have hd := ho_d hV al hB (Or.inl rfl)
  have d1 : (1 : Int32).toInt = 1 := rfl
  have h9 := (hV.2.2.2.1 _ al).1
  have al2 : xAl (ma_u a 133 (nr s.toNatClampNeg).toNatClampNeg (a 133 (nr s.toNatClampNeg).toNatClampNeg + 1)) (nr s.toNatClampNeg).toNatClampNeg := by
    unfold xAl
    rw [un (n := 126) (by decide)]
    exact al
  have l := Le_ho v (hR.1.1 _ hs hu).1.1 al2 (by rw [mu_self]; omega)
  rw [ea] at v c l
  exact ⟨l, v, c⟩
theorem Ho_of (hR : qRB us nr kr kd ws at₉ ho wd wi ow rt wk wl wm nu ro fo le ra pi a) (hV : cV a [] B) (hB : B + 1 ≤ 1000000) (hC : qCt ct us nr a [] (-1) (-1)) (h0 : 0 ≤ s.toInt) (h3 : s.toInt ≤ 3099) (hu : us s.toNatClampNeg ≠ 0) (hh : ho s.toNatClampNeg ≠ 0) : cV (ma_u a 133 (nr s.toNatClampNeg).toNatClampNeg (ho s.toNatClampNeg + -1)) [] (B + 1) ∧ qCt ct us nr (ma_u a 133 (nr s.toNatClampNeg).toNatClampNeg (ho s.toNatClampNeg + -1)) [] (-1) (qNo nr s) := by
  have hs := tn_lt h0 (by omega)
  have al := R1_al hR.1 hs hu
  have ea := (hR.1.1 _ hs hu).2.2.2.2.1
  rw [← ea] at hh ⊢
  exact ⟨V_ho4 hV al hB (Or.inr ⟨rfl, hh⟩), Ct_h0 hR.1 hV hB hC h0 h3 hu hh⟩
end D3
set_option maxHeartbeats 8000000 in
theorem sp_238r4 {X : Nat × (Nat → Int32)} {P : Option ma_V → (Nat → Nat → Int32) → Prop} {T : Nat} {aa : Nat→Nat→Int32} {x : Int32} {B : Int} {m : Nat → Nat → Int32} (r1 : Int32) (s : Int32) (hV : zV m) (hpre0 : 0 ≤ r1.toInt) (hpre1 : r1.toInt ≤ 15) (hpre2 : -1 ≤ s.toInt) (hpre3 : s.toInt ≤ 3099) (hpre4 : B ≤ 1000000) (hpre5 : T ≤ 512) (hpre6 : (m 94 10).toInt = 4 ∧ (m 94 58).toInt = 0) (r_W : zW (m 94 7) (m 98) (m 101) (m 102) (m 108)) (r_GW : zGW T (m 94 55) (m 109)) (r_GU : zGU T (m 94 46) (m 99)) (r_OW : zOw (m 99) (m 103) (m 111)) (r_RB : qRB (m 99) (m 100) (m 98) (m 101) (m 102) (m 103) (m 107) (m 108) (m 109) (m 111) (m 112) (m 113) (m 114) (m 94 55) (m 94 46) (m 94 11) (m 94 12) (m 94 62) (m 94 17) (m 94 9) aa) (r_QI : qI aa) (r_MK : aa 87 8 = (m 94 58)) (r_WTS : (m 94 45).toInt = sm (zbU (m 99)) (m 102) 3100) (r_VV : cV aa [] B) (r_CT : qCt (m 105) (m 99) (m 100) aa [] x (-1)) (r_US : qU (m 99) s) (r_XS : x.toInt < 0 ∨ x = qNo (m 100) s) (KZ : ∀ m₉, zV (zov wr_238 m m₉) → (zGW T (m₉ 94 55) (m₉ 109)) → (zGU T (m 94 46) (m₉ 99)) → (zOw (m₉ 99) (m 103) (m₉ 111)) → ((m₉ 94 45).toInt = sm (zbU (m₉ 99)) (m 102) 3100) → (qRB (m₉ 99) (m 100) (m 98) (m 101) (m 102) (m 103) (m 107) (m 108) (m₉ 109) (m₉ 111) (m₉ 112) (m₉ 113) (m₉ 114) (m₉ 94 55) (m 94 46) (m 94 11) (m 94 12) (m 94 62) (m 94 17) (m 94 9) (kRt aa r1 (qNo (m 100) s))) → (qI (kRt aa r1 (qNo (m 100) s))) → ((kRt aa r1 (qNo (m 100) s)) 87 8 = (m 94 58)) → (cV (kRt aa r1 (qNo (m 100) s)) [] B) → (qCt (m₉ 105) (m₉ 99) (m 100) (kRt aa r1 (qNo (m 100) s)) [] x (-1)) → (qXr (kRt aa r1 (qNo (m 100) s)) x) → ((m₉ 112) r1.toNatClampNeg = s) → P none (zov wr_238 m m₉)) : zm X 4 88 238 0 [(0, .inr (.inr (some 94))), (1, .inl r1), (2, .inl s)] m P := by
  have K : ∀ m₉, zF wr_238 m m₉ → zV m₉ → (zGW T (m₉ 94 55) (m₉ 109)) → (zGU T (m₉ 94 46) (m₉ 99)) → (zOw (m₉ 99) (m₉ 103) (m₉ 111)) → ((m₉ 94 45).toInt = sm (zbU (m₉ 99)) (m₉ 102) 3100) → (qRB (m₉ 99) (m₉ 100) (m₉ 98) (m₉ 101) (m₉ 102) (m₉ 103) (m₉ 107) (m₉ 108) (m₉ 109) (m₉ 111) (m₉ 112) (m₉ 113) (m₉ 114) (m₉ 94 55) (m₉ 94 46) (m₉ 94 11) (m₉ 94 12) (m₉ 94 62) (m₉ 94 17) (m₉ 94 9) (kRt aa r1 (qNo (m 100) s))) → (qI (kRt aa r1 (qNo (m 100) s))) → ((kRt aa r1 (qNo (m 100) s)) 87 8 = (m₉ 94 58)) → (cV (kRt aa r1 (qNo (m 100) s)) [] B) → (qCt (m₉ 105) (m₉ 99) (m₉ 100) (kRt aa r1 (qNo (m 100) s)) [] x (-1)) → (qXr (kRt aa r1 (qNo (m 100) s)) x) → ((m₉ 112) r1.toNatClampNeg = s) → P none m₉ := by
    intro m₉ hf z q0 q1 q2 q3 q4 q5 q6 q7 q8 q9 q10
    have e := zov_eq hf
    rw [e] at z ⊢
    try rw [e] at q0
    try rw [e] at q1
    try rw [e] at q2
    try rw [e] at q3
    try rw [e] at q4
    try rw [e] at q5
    try rw [e] at q6
    try rw [e] at q7
    try rw [e] at q8
    try rw [e] at q9
    try rw [e] at q10
    exact KZ m₉ z q0 q1 q2 q3 q4 q5 q6 q7 q8 q9 q10
  refine g_238_0 r1 s ?_
  have f1 : 0 ≤ (m 94 10).toInt ∧ (m 94 10).toInt ≤ 6 := rs_94_10 (m := m) hV
  have f2 : 0 ≤ (m 94 58).toInt ∧ (m 94 58).toInt ≤ 1 := rs_94_58 (m := m) hV
  have b3 := i_bd r1
  have hg4 : (0 ≤ r1 ∧ r1.toNatClampNeg < 16) := i_ix (by omega) (by omega)
  refine ⟨hg4, ?_⟩
  have b5 := i_bd s
  have li6 : (0 : Int32).toInt = 0 := rfl
  refine zd (fun (h7 : s < (0 : Int32)) => ?_) (fun (h7 : ¬ s < (0 : Int32)) => ?_)
  · skip
    have g8 := i_lt h7
    have hg9 : (0 ≤ r1 ∧ r1.toNatClampNeg < 16) := i_ix (by omega) (by omega)
    refine ⟨hg9, ?_⟩
    first | have f10 : -1 ≤ (m 112 r1.toNatClampNeg).toInt ∧ (m 112 r1.toNatClampNeg).toInt ≤ 3099 := ra_112 (m := m) hV (k := r1.toNatClampNeg) (i_ix (n := 16) (by omega) (by omega)).2 | have b11 := i_bd (m 112 r1.toNatClampNeg)
    have hV12 : zV (ma_u m 112 r1.toNatClampNeg s) := ua_112 hV (by omega) (by omega)
    refine sp_240r4 ((m 112 r1.toNatClampNeg)) (s) hV12 (show (m 94 10).toInt = 4 ∧ (m 94 58).toInt = 0 from by omega) (fun m1 hV_m1  => zmv_n ?_)
    refine sp_241r4 (aa := (ma_u aa 72 r1.toNatClampNeg (qNo (m 100) s))) ((m 112 r1.toNatClampNeg)) hV_m1 (by omega) (by omega) (by omega) (by omega) (show (m 94 10).toInt = 4 ∧ (m 94 58).toInt = 0 from by omega) r_W r_GW r_GU r_OW (show qRB (m 99) (m 100) (m 98) (m 101) (m 102) (m 103) (m 107) (m 108) (m 109) (m 111) ((ma_u m 112 r1.toNatClampNeg s) 112) (m 113) (m 114) (m 94 55) (m 94 46) (m 94 11) (m 94 12) (m 94 62) (m 94 17) (m 94 9) (ma_u aa 72 r1.toNatClampNeg (qNo (m 100) s)) from by first | (exact RB_rt r_RB r_US) | (exfalso; omega; done) | (exfalso; contradiction; done)) (show qI (ma_u aa 72 r1.toNatClampNeg (qNo (m 100) s)) from by first | (exact I_u r_QI (Or.inl rfl)) | (exfalso; omega; done) | (exfalso; contradiction; done)) (show (ma_u aa 72 r1.toNatClampNeg (qNo (m 100) s)) 87 8 = (m 94 58) from by first | (rw [un (by decide)]; exact r_MK; done) | (exfalso; omega; done) | (exfalso; contradiction; done)) r_WTS (show cV (ma_u aa 72 r1.toNatClampNeg (qNo (m 100) s)) [] B from by first | (exact V_rt4 r_VV r_RB.1 r_US (by omega)) | (exfalso; omega; done) | (exfalso; contradiction; done)) (show qCt (m 105) (m 99) (m 100) (ma_u aa 72 r1.toNatClampNeg (qNo (m 100) s)) [] x (qNo (m 100) (m 112 r1.toNatClampNeg)) from by first | (exact Ct_rt r_RB.1 r_CT r_US (by omega) (r_RB.2.2.1 r1.toNatClampNeg (by omega)).2 ⟨fun _ => mu_up, fun w => absurd w (by omega)⟩) | (exact Ct_rt r_RB.1 r_CT r_US (by omega) (r_RB.2.2.1 r1.toNatClampNeg (by omega)).2 ⟨fun w => absurd w (by omega), fun _ => rfl⟩) | (exfalso; omega; done) | (exfalso; contradiction; done)) (show qU (m 99) (m 112 r1.toNatClampNeg) from by first | (exact (r_RB.2.2.1 r1.toNatClampNeg (by omega)).1) | (assumption; done) | (exact ow5.1) | (exact ow3.1) | (exfalso; omega; done) | (exfalso; contradiction; done)) (show qXr (ma_u aa 72 r1.toNatClampNeg (qNo (m 100) s)) x from by first | (exact Xr_rt r_XS (by omega)) | (exfalso; omega; done) | (exfalso; contradiction; done)) (fun m3 hV_m3 p0_m3 p1_m3 p2_m3 p3_m3 p4_m3 p5_m3 p6_m3 p7_m3 p8_m3 p9_m3 => zmv_n ?_)
    have p0_m3 : zGW T (m3 94 55) (m3 109) := p0_m3
    have p1_m3 : zGU T (m 94 46) (m3 99) := p1_m3
    have p2_m3 : zOw (m3 99) (m 103) (m3 111) := p2_m3
    have p3_m3 : (m3 94 45).toInt = sm (zbU (m3 99)) (m 102) 3100 := p3_m3
    have p4_m3 : qRB (m3 99) (m 100) (m 98) (m 101) (m 102) (m 103) (m 107) (m 108) (m3 109) (m3 111) ((ma_u m 112 r1.toNatClampNeg s) 112) (m3 113) (m3 114) (m3 94 55) (m 94 46) (m 94 11) (m 94 12) (m 94 62) (m 94 17) (m 94 9) (cLe (ma_u aa 72 r1.toNatClampNeg (qNo (m 100) s)) (qNo (m 100) (m 112 r1.toNatClampNeg))) := p4_m3
    have p5_m3 : qI (cLe (ma_u aa 72 r1.toNatClampNeg (qNo (m 100) s)) (qNo (m 100) (m 112 r1.toNatClampNeg))) := p5_m3
    have p6_m3 : (cLe (ma_u aa 72 r1.toNatClampNeg (qNo (m 100) s)) (qNo (m 100) (m 112 r1.toNatClampNeg))) 87 8 = (m 94 58) := p6_m3
    have p7_m3 : cV (cLe (ma_u aa 72 r1.toNatClampNeg (qNo (m 100) s)) (qNo (m 100) (m 112 r1.toNatClampNeg))) [] B := p7_m3
    have p8_m3 : qCt (m3 105) (m3 99) (m 100) (cLe (ma_u aa 72 r1.toNatClampNeg (qNo (m 100) s)) (qNo (m 100) (m 112 r1.toNatClampNeg))) [] x (-1) := p8_m3
    have p9_m3 : qXr (cLe (ma_u aa 72 r1.toNatClampNeg (qNo (m 100) s)) (qNo (m 100) (m 112 r1.toNatClampNeg))) x := p9_m3
    exact K _ (zF_zov (zF_zov (zF_u zF_rfl rfl) ws_240_238) ws_241_238) hV_m3 p0_m3 p1_m3 p2_m3 p3_m3 (show qRB (m3 99) (m 100) (m 98) (m 101) (m 102) (m 103) (m 107) (m 108) (m3 109) (m3 111) ((ma_u m 112 r1.toNatClampNeg s) 112) (m3 113) (m3 114) (m3 94 55) (m 94 46) (m 94 11) (m 94 12) (m 94 62) (m 94 17) (m 94 9) (kRt aa r1 (qNo (m 100) s)) from by first | (rw [(Rt_k r_RB r_US (by omega) (by omega))]; exact p4_m3; done) | (exfalso; omega; done) | (exfalso; contradiction; done)) (show qI (kRt aa r1 (qNo (m 100) s)) from by first | (rw [(Rt_k r_RB r_US (by omega) (by omega))]; exact p5_m3; done) | (exfalso; omega; done) | (exfalso; contradiction; done)) (show (kRt aa r1 (qNo (m 100) s)) 87 8 = (m 94 58) from by first | (rw [(Rt_k r_RB r_US (by omega) (by omega))]; exact p6_m3; done) | (exfalso; omega; done) | (exfalso; contradiction; done)) (show cV (kRt aa r1 (qNo (m 100) s)) [] B from by first | (rw [(Rt_k r_RB r_US (by omega) (by omega))]; exact p7_m3; done) | (exfalso; omega; done) | (exfalso; contradiction; done)) (show qCt (m3 105) (m3 99) (m 100) (kRt aa r1 (qNo (m 100) s)) [] x (-1) from by first | (rw [(Rt_k r_RB r_US (by omega) (by omega))]; exact p8_m3; done) | (exfalso; omega; done) | (exfalso; contradiction; done)) (show qXr (kRt aa r1 (qNo (m 100) s)) x from by first | (rw [(Rt_k r_RB r_US (by omega) (by omega))]; exact p9_m3; done) | (exfalso; omega; done) | (exfalso; contradiction; done)) (show ((ma_u m 112 r1.toNatClampNeg s) 112) r1.toNatClampNeg = s from by first | (exact mu_self) | (exfalso; omega; done) | (exfalso; contradiction; done))
  · skip
    have g13 := i_nlt h7
    have li14 : (4 : Int32).toInt = 4 := rfl
    refine zd (fun (h15 : (m 94 10) = (4 : Int32)) => ?_) (fun (h15 : ¬ (m 94 10) = (4 : Int32)) => ?_)
    · skip
      have g16 := i_eq h15
      have hg17 : (0 ≤ s ∧ s.toNatClampNeg < 3100) := i_ix (by omega) (by omega)
      refine ⟨hg17, ?_⟩
      have hg18 : (0 ≤ s ∧ s.toNatClampNeg < 3100) := i_ix (by omega) (by omega)
      refine ⟨hg18, ?_⟩
      have hg19 : (0 ≤ r1 ∧ r1.toNatClampNeg < 16) := i_ix (by omega) (by omega)
      refine ⟨hg19, ?_⟩
      first | have f20 : -1 ≤ (m 112 r1.toNatClampNeg).toInt ∧ (m 112 r1.toNatClampNeg).toInt ≤ 3099 := ra_112 (m := m) hV (k := r1.toNatClampNeg) (i_ix (n := 16) (by omega) (by omega)).2 | have b21 := i_bd (m 112 r1.toNatClampNeg)
      have hV22 : zV (ma_u m 105 s.toNatClampNeg ((m 105 s.toNatClampNeg) + (1 : Int32))) := ua_105 hV
      have hV23 : zV (ma_u (ma_u m 105 s.toNatClampNeg ((m 105 s.toNatClampNeg) + (1 : Int32))) 112 r1.toNatClampNeg s) := ua_112 hV22 (by omega) (by omega)
      refine sp_240r4 ((m 112 r1.toNatClampNeg)) (s) hV23 (show (m 94 10).toInt = 4 ∧ (m 94 58).toInt = 0 from by omega) (fun m9 hV_m9  => zmv_n ?_)
      refine sp_241r4 (aa := (ma_u aa 72 r1.toNatClampNeg (qNo (m 100) s))) ((m 112 r1.toNatClampNeg)) hV_m9 (by omega) (by omega) (by omega) (by omega) (show (m 94 10).toInt = 4 ∧ (m 94 58).toInt = 0 from by omega) r_W r_GW r_GU r_OW (show qRB (m 99) (m 100) (m 98) (m 101) (m 102) (m 103) (m 107) (m 108) (m 109) (m 111) ((ma_u m 112 r1.toNatClampNeg s) 112) (m 113) (m 114) (m 94 55) (m 94 46) (m 94 11) (m 94 12) (m 94 62) (m 94 17) (m 94 9) (ma_u aa 72 r1.toNatClampNeg (qNo (m 100) s)) from by first | (exact RB_rt r_RB r_US) | (exfalso; omega; done) | (exfalso; contradiction; done)) (show qI (ma_u aa 72 r1.toNatClampNeg (qNo (m 100) s)) from by first | (exact I_u r_QI (Or.inl rfl)) | (exfalso; omega; done) | (exfalso; contradiction; done)) (show (ma_u aa 72 r1.toNatClampNeg (qNo (m 100) s)) 87 8 = (m 94 58) from by first | (rw [un (by decide)]; exact r_MK; done) | (exfalso; omega; done) | (exfalso; contradiction; done)) r_WTS (show cV (ma_u aa 72 r1.toNatClampNeg (qNo (m 100) s)) [] B from by first | (exact V_rt4 r_VV r_RB.1 r_US (by omega)) | (exfalso; omega; done) | (exfalso; contradiction; done)) (show qCt ((ma_u m 105 s.toNatClampNeg ((m 105 s.toNatClampNeg) + (1 : Int32))) 105) (m 99) (m 100) (ma_u aa 72 r1.toNatClampNeg (qNo (m 100) s)) [] x (qNo (m 100) (m 112 r1.toNatClampNeg)) from by first | (exact Ct_rt r_RB.1 r_CT r_US (by omega) (r_RB.2.2.1 r1.toNatClampNeg (by omega)).2 ⟨fun _ => mu_up, fun w => absurd w (by omega)⟩) | (exact Ct_rt r_RB.1 r_CT r_US (by omega) (r_RB.2.2.1 r1.toNatClampNeg (by omega)).2 ⟨fun w => absurd w (by omega), fun _ => rfl⟩) | (exfalso; omega; done) | (exfalso; contradiction; done)) (show qU (m 99) (m 112 r1.toNatClampNeg) from by first | (exact (r_RB.2.2.1 r1.toNatClampNeg (by omega)).1) | (assumption; done) | (exact ow5.1) | (exact ow3.1) | (exfalso; omega; done) | (exfalso; contradiction; done)) (show qXr (ma_u aa 72 r1.toNatClampNeg (qNo (m 100) s)) x from by first | (exact Xr_rt r_XS (by omega)) | (exfalso; omega; done) | (exfalso; contradiction; done)) (fun m11 hV_m11 p0_m11 p1_m11 p2_m11 p3_m11 p4_m11 p5_m11 p6_m11 p7_m11 p8_m11 p9_m11 => zmv_n ?_)
      have p0_m11 : zGW T (m11 94 55) (m11 109) := p0_m11
      have p1_m11 : zGU T (m 94 46) (m11 99) := p1_m11
      have p2_m11 : zOw (m11 99) (m 103) (m11 111) := p2_m11
      have p3_m11 : (m11 94 45).toInt = sm (zbU (m11 99)) (m 102) 3100 := p3_m11
      have p4_m11 : qRB (m11 99) (m 100) (m 98) (m 101) (m 102) (m 103) (m 107) (m 108) (m11 109) (m11 111) ((ma_u m 112 r1.toNatClampNeg s) 112) (m11 113) (m11 114) (m11 94 55) (m 94 46) (m 94 11) (m 94 12) (m 94 62) (m 94 17) (m 94 9) (cLe (ma_u aa 72 r1.toNatClampNeg (qNo (m 100) s)) (qNo (m 100) (m 112 r1.toNatClampNeg))) := p4_m11
      have p5_m11 : qI (cLe (ma_u aa 72 r1.toNatClampNeg (qNo (m 100) s)) (qNo (m 100) (m 112 r1.toNatClampNeg))) := p5_m11
      have p6_m11 : (cLe (ma_u aa 72 r1.toNatClampNeg (qNo (m 100) s)) (qNo (m 100) (m 112 r1.toNatClampNeg))) 87 8 = (m 94 58) := p6_m11
      have p7_m11 : cV (cLe (ma_u aa 72 r1.toNatClampNeg (qNo (m 100) s)) (qNo (m 100) (m 112 r1.toNatClampNeg))) [] B := p7_m11
      have p8_m11 : qCt (m11 105) (m11 99) (m 100) (cLe (ma_u aa 72 r1.toNatClampNeg (qNo (m 100) s)) (qNo (m 100) (m 112 r1.toNatClampNeg))) [] x (-1) := p8_m11
      have p9_m11 : qXr (cLe (ma_u aa 72 r1.toNatClampNeg (qNo (m 100) s)) (qNo (m 100) (m 112 r1.toNatClampNeg))) x := p9_m11
      exact K _ (zF_zov (zF_zov (zF_u (zF_u zF_rfl rfl) rfl) ws_240_238) ws_241_238) hV_m11 p0_m11 p1_m11 p2_m11 p3_m11 (show qRB (m11 99) (m 100) (m 98) (m 101) (m 102) (m 103) (m 107) (m 108) (m11 109) (m11 111) ((ma_u m 112 r1.toNatClampNeg s) 112) (m11 113) (m11 114) (m11 94 55) (m 94 46) (m 94 11) (m 94 12) (m 94 62) (m 94 17) (m 94 9) (kRt aa r1 (qNo (m 100) s)) from by first | (rw [(Rt_k r_RB r_US (by omega) (by omega))]; exact p4_m11; done) | (exfalso; omega; done) | (exfalso; contradiction; done)) (show qI (kRt aa r1 (qNo (m 100) s)) from by first | (rw [(Rt_k r_RB r_US (by omega) (by omega))]; exact p5_m11; done) | (exfalso; omega; done) | (exfalso; contradiction; done)) (show (kRt aa r1 (qNo (m 100) s)) 87 8 = (m 94 58) from by first | (rw [(Rt_k r_RB r_US (by omega) (by omega))]; exact p6_m11; done) | (exfalso; omega; done) | (exfalso; contradiction; done)) (show cV (kRt aa r1 (qNo (m 100) s)) [] B from by first | (rw [(Rt_k r_RB r_US (by omega) (by omega))]; exact p7_m11; done) | (exfalso; omega; done) | (exfalso; contradiction; done)) (show qCt (m11 105) (m11 99) (m 100) (kRt aa r1 (qNo (m 100) s)) [] x (-1) from by first | (rw [(Rt_k r_RB r_US (by omega) (by omega))]; exact p8_m11; done) | (exfalso; omega; done) | (exfalso; contradiction; done)) (show qXr (kRt aa r1 (qNo (m 100) s)) x from by first | (rw [(Rt_k r_RB r_US (by omega) (by omega))]; exact p9_m11; done) | (exfalso; omega; done) | (exfalso; contradiction; done)) (show ((ma_u m 112 r1.toNatClampNeg s) 112) r1.toNatClampNeg = s from by first | (exact mu_self) | (exfalso; omega; done) | (exfalso; contradiction; done))
    · skip
      have g24 := i_ne h15
      exfalso; omega

