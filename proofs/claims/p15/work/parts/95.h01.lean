/-! the reference by numbers (written by wip/tools/gen18r.py) -/
/-! THE REFERENCE'S HEAP HELD AGAINST A HEAP BY NUMBERS: us in use, nr numbers, kr kinds' references, kd kinds, ws words, at' places, ho holds, wd words' contents, wi wishes, ow owners, rt wk ROOT and WEAK, wl WISHES (wm of them) -/
def qU (us : Nat → Int32) (x : Int32) : Prop := x.toInt < 0 ∨ (x.toInt < 3100 ∧ us x.toNatClampNeg ≠ 0)
def qNo (nr : Nat → Int32) (x : Int32) : Int32 := if x.toInt < 0 then -1 else nr x.toNatClampNeg
def qIr (kr kd : Nat → Int32) (s i : Nat) : Prop := kd s = 16 ∨ (kd s < 16 ∧ ((kr (kd s).toNatClampNeg >>> (Int32.ofNat i &&& 31)) &&& 1) = 1)
def qR1 (us nr ws at' ho : Nat → Int32) (a : Nat → Nat → Int32) : Prop :=
  (∀ s, s < 3100 → us s ≠ 0 → (0 ≤ (nr s).toInt ∧ (nr s).toInt < 512) ∧ a 126 (nr s).toNatClampNeg ≠ 0 ∧ a 128 (nr s).toNatClampNeg = ws s + 1 ∧ a 130 (nr s).toNatClampNeg = at' s ∧ a 133 (nr s).toNatClampNeg = ho s ∧ (0 ≤ (ws s).toInt ∧ (ws s).toInt ≤ 60) ∧ 0 ≤ (at' s).toInt) ∧
  (∀ s t, s < 3100 → t < 3100 → us s ≠ 0 → us t ≠ 0 → nr s = nr t → s = t) ∧
  ∀ n, n < 512 → a 126 n ≠ 0 → ∃ s, s < 3100 ∧ us s ≠ 0 ∧ nr s = Int32.ofNat n
def qR2 (us nr kr kd ws wd : Nat → Int32) (a : Nat → Nat → Int32) : Prop := ∀ s, s < 3100 → us s ≠ 0 → ∀ i : Nat, (i : Int) < (ws s).toInt → qU us (zrf kr kd wd s i) ∧ aRef a (nr s).toNatClampNeg (Int32.ofNat i) = qNo nr (zrf kr kd wd s i) ∧ (a (1000 + (nr s).toNatClampNeg) i ≠ 0 ↔ qIr kr kd s i)
def qR3 (us nr rt : Nat → Int32) (a : Nat → Nat → Int32) (c : Nat) : Prop := ∀ k, k < 16 → qU us (rt k) ∧ a c k = qNo nr (rt k)
def qR5 (us nr wl : Nat → Int32) (wm : Int32) (a : Nat → Nat → Int32) : Prop := a 69 5 = wm ∧ ∀ k : Nat, (k : Int) < wm.toInt → (0 ≤ (wl k).toInt ∧ (wl k).toInt < 3100 ∧ us (wl k).toNatClampNeg ≠ 0) ∧ a 74 k = nr (wl k).toNatClampNeg
def qR6 (us nr wi : Nat → Int32) (a : Nat → Nat → Int32) : Prop := ∀ s, s < 3100 → us s ≠ 0 → a 134 (nr s).toNatClampNeg = wi s
def qR7 (us at' ow : Nat → Int32) : Prop := ∀ s, s < 3100 → us s ≠ 0 → ow (at' s).toNatClampNeg = Int32.ofNat s
def qR8 (nu ro fo le ra pi : Int32) (a : Nat → Nat → Int32) : Prop := a 69 6 = nu ∧ a 87 0 = ro ∧ a 87 1 = fo ∧ a 87 2 = le ∧ a 87 6 = ra ∧ a 87 7 = (if pi = 0 then 1 else 0)
def qRB (us nr kr kd ws at' ho wd wi ow rt wk wl : Nat → Int32) (wm nu ro fo le ra pi : Int32) (a : Nat → Nat → Int32) : Prop :=
  qR1 us nr ws at' ho a ∧ qR2 us nr kr kd ws wd a ∧ qR3 us nr rt a 72 ∧ qR3 us nr wk a 73 ∧ qR5 us nr wl wm a ∧ qR6 us nr wi a ∧ qR7 us at' ow ∧ qR8 nu ro fo le ra pi a
/-- no inner word -/
def qGd (a : Nat → Nat → Int32) (p : Int) : Prop := ∀ n, xAl a n → ¬ ((a 130 n).toInt < p ∧ p < (a 130 n).toInt + (a 128 n).toInt)
def qSu (a : Nat → Nat → Int32) : Nat → Int
  | 0 => 0
  | n + 1 => qSu a n + (if a 126 n ≠ 0 then (a 128 n).toInt else 0)
/-- what holds of a heap by numbers -/
def qI1 (a : Nat → Nat → Int32) : Prop := ∀ n, xAl a n → ((n : Int) < (a 69 6).toInt ∧ 0 ≤ (a 130 n).toInt) ∧ (1 ≤ (a 128 n).toInt ∧ (a 128 n).toInt ≤ 61) ∧ (a 130 n).toInt + (a 128 n).toInt ≤ (a 87 0).toInt ∧ a 71 (a 130 n).toNatClampNeg = Int32.ofNat n
def qI2 (a : Nat → Nat → Int32) : Prop := ∀ n n', xAl a n → xAl a n' → n ≠ n' → (a 130 n).toInt + (a 128 n).toInt ≤ (a 130 n').toInt ∨ (a 130 n').toInt + (a 128 n').toInt ≤ (a 130 n).toInt
def qI3 (a : Nat → Nat → Int32) : Prop := ∀ p : Nat, p < 4500 → (∀ n, xAl a n → ¬ ((a 130 n).toInt ≤ (p : Int) ∧ (p : Int) < (a 130 n).toInt + (a 128 n).toInt)) → a 71 p = -1
def qI4 (a : Nat → Nat → Int32) : Prop := (0 ≤ (a 69 6).toInt ∧ (a 69 6).toInt ≤ 512) ∧ (0 ≤ (a 69 5).toInt ∧ (a 69 5).toInt ≤ 512) ∧ (0 ≤ (a 87 0).toInt ∧ (a 87 0).toInt ≤ 4500) ∧ (0 ≤ (a 87 2).toInt ∧ (a 87 2).toInt ≤ (a 87 0).toInt) ∧ qGd a (a 87 2).toInt ∧ 0 ≤ (a 87 6).toInt
def qI6 (a : Nat → Nat → Int32) : Prop := ∀ n, ¬ xAl a n → ∀ k, a (1000 + n) k = 0
def qI (a : Nat → Nat → Int32) : Prop := qI1 a ∧ qI2 a ∧ qI3 a ∧ qI4 a ∧ a 69 8 = Int32.ofInt (qSu a 512) ∧ qI6 a
/-- the colours and the row of GREY ones -/
def qMQ (co gr : Nat → Int32) (ga gm : Int32) (us nr : Nat → Int32) (a : Nat → Nat → Int32) : Prop :=
  a 75 3 = ga ∧ a 75 4 = gm ∧ (∀ s, s < 3100 → us s ≠ 0 → co s = a 77 (nr s).toNatClampNeg) ∧
  (∀ j : Nat, ga.toInt ≤ (j : Int) → (j : Int) < gm.toInt → (0 ≤ (gr j).toInt ∧ (gr j).toInt < 3100 ∧ us (gr j).toNatClampNeg ≠ 0) ∧ a 76 j = nr (gr j).toNatClampNeg) ∧ zWQ a
section QA
variable {a b : Nat → Nat → Int32} {us nr kr kd ws at' ho wd wi ow rt wk wl co gr : Nat → Int32} {wm nu ro fo le ra pi ga gm x y : Int32} {c k n s t i : Nat} {m m2 : Nat → Nat → Int32} {p : Int}
theorem Of_r (h : zOf a b) (h1 : c ≠ 75) (h2 : c ≠ 76) (h3 : c ≠ 77) : a c = b c := funext (fun k => h c k h1 h2 h3)
theorem R1_of (h : qR1 us nr ws at' ho a) (o : zOf a b) : qR1 us nr ws at' ho b := by
  unfold qR1 at h ⊢
  rw [← Of_r (c := 126) o (by decide) (by decide) (by decide), ← Of_r (c := 128) o (by decide) (by decide) (by decide), ← Of_r (c := 130) o (by decide) (by decide) (by decide), ← Of_r (c := 133) o (by decide) (by decide) (by decide)]
  exact h
theorem R2_of (h : qR2 us nr kr kd ws wd a) (o : zOf a b) : qR2 us nr kr kd ws wd b := by
  intro s hs hu i hi
  have q := h s hs hu i hi
  rw [← Of_ref o, ← o (1000 + (nr s).toNatClampNeg) i (by omega) (by omega) (by omega)]
  exact q
theorem R3_of (h : qR3 us nr rt a c) (o : zOf a b) (h1 : c ≠ 75) (h2 : c ≠ 76) (h3 : c ≠ 77) : qR3 us nr rt b c := by
  unfold qR3 at h ⊢
  rw [← Of_r o h1 h2 h3]
  exact h
theorem R5_of (h : qR5 us nr wl wm a) (o : zOf a b) : qR5 us nr wl wm b := by
  unfold qR5 at h ⊢
  rw [← Of_r (c := 69) o (by decide) (by decide) (by decide), ← Of_r (c := 74) o (by decide) (by decide) (by decide)]
  exact h
theorem R6_of (h : qR6 us nr wi a) (o : zOf a b) : qR6 us nr wi b := by
  unfold qR6 at h ⊢
  rw [← Of_r (c := 134) o (by decide) (by decide) (by decide)]
  exact h
theorem R8_of (h : qR8 nu ro fo le ra pi a) (o : zOf a b) : qR8 nu ro fo le ra pi b := by
  unfold qR8 at h ⊢
  rw [← Of_r (c := 69) o (by decide) (by decide) (by decide), ← Of_r (c := 87) o (by decide) (by decide) (by decide)]
  exact h
theorem RB_of (h : qRB us nr kr kd ws at' ho wd wi ow rt wk wl wm nu ro fo le ra pi a) (o : zOf a b) : qRB us nr kr kd ws at' ho wd wi ow rt wk wl wm nu ro fo le ra pi b :=
  ⟨R1_of h.1 o, R2_of h.2.1 o, R3_of h.2.2.1 o (by decide) (by decide) (by decide), R3_of h.2.2.2.1 o (by decide) (by decide) (by decide), R5_of h.2.2.2.2.1 o, R6_of h.2.2.2.2.2.1 o, h.2.2.2.2.2.2.1, R8_of h.2.2.2.2.2.2.2 o⟩
theorem Al_of (o : zOf a b) : xAl a = xAl b := by
  funext n
  unfold xAl
  rw [Of_r (c := 126) o (by decide) (by decide) (by decide)]
theorem Su_of (o : zOf a b) : ∀ n, qSu a n = qSu b n := by
  intro n
  induction n with
  | zero => rfl
  | succ n ih =>
    unfold qSu
    rw [ih, Of_r (c := 126) o (by decide) (by decide) (by decide), Of_r (c := 128) o (by decide) (by decide) (by decide)]
theorem qI_of (h : qI a) (o : zOf a b) : qI b := by
  have e1 := Al_of o
  have e2 := Of_r (c := 69) o (by decide) (by decide) (by decide)
  have e3 := Of_r (c := 128) o (by decide) (by decide) (by decide)
  have e4 := Of_r (c := 130) o (by decide) (by decide) (by decide)
  have e5 := Of_r (c := 87) o (by decide) (by decide) (by decide)
  have e6 := Of_r (c := 71) o (by decide) (by decide) (by decide)
  have e7 := Su_of o 512
  have e8 : qI6 b := fun n hn k => by
    rw [← o (1000 + n) k (by omega) (by omega) (by omega)]
    exact h.2.2.2.2.2 n (by rw [e1]; exact hn) k
  unfold qI qI1 qI2 qI3 qI4 qGd at h ⊢
  rw [← e1, ← e2, ← e3, ← e4, ← e5, ← e6, ← e7]
  exact ⟨h.1, h.2.1, h.2.2.1, h.2.2.2.1, h.2.2.2.2.1, e8⟩
theorem ofN_s (h : s < 3100) : (Int32.ofNat s).toInt = (s : Int) := Int32.toInt_ofNat_of_lt (by omega)
/-- one of that slot is there -/
theorem R1_al (h : qR1 us nr ws at' ho a) (hs : s < 3100) (hu : us s ≠ 0) : xAl a (nr s).toNatClampNeg := by
  have q := h.1 s hs hu
  have e := tn_cast q.1.1
  exact ⟨by omega, q.2.1⟩
theorem R1_in (h : qR1 us nr ws at' ho a) (hs : s < 3100) (ht : t < 3100) (hu : us s ≠ 0) (hv : us t ≠ 0) (e : (nr s).toNatClampNeg = (nr t).toNatClampNeg) : s = t := by
  refine h.2.1 s t hs ht hu hv ?_
  have e1 := tn_cast (h.1 s hs hu).1.1
  have e2 := tn_cast (h.1 t ht hv).1.1
  exact Int32.toInt_inj.mp (by omega)
theorem R1_ex (h : qR1 us nr ws at' ho a) (hn : xAl a n) : ∃ s, s < 3100 ∧ us s ≠ 0 ∧ (nr s).toNatClampNeg = n := by
  obtain ⟨s, h1, h2, h3⟩ := h.2.2 n hn.1 hn.2
  exact ⟨s, h1, h2, by rw [h3]; exact tn_of hn.1⟩
theorem R1_of_nr (h : qR1 us nr ws at' ho a) (hs : s < 3100) (hu : us s ≠ 0) : Int32.ofNat (nr s).toNatClampNeg = nr s := ofN_tn (h.1 s hs hu).1.1
theorem No_y (h : 0 ≤ x.toInt) : qNo nr x = nr x.toNatClampNeg := if_neg (by omega)
theorem No_n (h : x.toInt < 0) : qNo nr x = -1 := if_pos h
theorem tn_lt (h : 0 ≤ x.toInt) (h2 : x.toInt < 3100) : x.toNatClampNeg < 3100 := by
  have := tn_cast h
  omega
theorem U_y (h : qU us x) (h0 : 0 ≤ x.toInt) : x.toInt < 3100 ∧ us x.toNatClampNeg ≠ 0 := h.elim (fun z => absurd z (by omega)) id
/-- one WHITE one comes -/
theorem MQ_push (h : qMQ (m 106) (m2 115) ga gm us nr a) (h1 : qR1 us nr ws at' ho a) (h0 : 0 ≤ x.toInt) (hx : x.toInt < 3100) (hu : us x.toNatClampNeg ≠ 0) (hw : m 106 x.toNatClampNeg = 0) (e : y = gm + 1) : qMQ (ma_u m 106 x.toNatClampNeg 1 106) (ma_u m2 115 gm.toNatClampNeg x 115) ga y us nr (aCm a (qNo nr x)) := by
  obtain ⟨q1, q2, q3, q4, q5⟩ := h
  have hs := tn_lt h0 hx
  have b := h1.1 _ hs hu
  have e2 : a 77 (nr x.toNatClampNeg).toNatClampNeg = 0 := (q3 _ hs hu).symm.trans hw
  have cc := cc_of q5 b.1.1 b.1.2 b.2.1 e2
  have w := WQ_cm (y := nr x.toNatClampNeg) q5
  rw [No_y h0]
  rw [aCm_y cc] at w ⊢
  have tb := cc.2.2.2.2.1
  have g0 : 0 ≤ (a 75 4).toInt := by
    have := q5.1.1
    have := q5.1.2.1
    omega
  have g1 := i_p1 (i := a 75 4) (by omega)
  have g2 := tn_cast g0
  rw [q2] at tb g0 g1 g2
  refine ⟨?_, ?_, fun s hs2 hu2 => ?_, fun j j1 j2 => ?_, w⟩
  · rw [xu_o (by omega), xu_o (by omega), xu_o (by omega)]
    exact q1
  · rw [xu_s, q2, e]
  · rw [xu_o (c := 77) (c' := 75) (by omega), xu_o (c := 77) (c' := 76) (by omega)]
    by_cases z : s = x.toNatClampNeg
    · rw [z, mu_self, xu_s]
    · rw [mu_ne z, xu_o (c := 77) (c' := 77) (fun y => z (R1_in h1 hs2 hs hu2 hu y.2))]
      exact q3 s hs2 hu2
  · rw [e, g1] at j2
    rw [xu_o (c := 76) (c' := 75) (by omega)]
    by_cases z : j = gm.toNatClampNeg
    · rw [z, mu_self, q2, xu_s]
      exact ⟨⟨h0, hx, hu⟩, rfl⟩
    · rw [mu_ne z, xu_o (c := 76) (c' := 76) (fun y => z (by rw [← q2]; exact y.2)), xu_o (c := 76) (c' := 77) (by omega)]
      exact q4 j j1 (by omega)
/-- one that is none, or not WHITE, comes: nothing changes -/
theorem MQ_skip (h : qMQ co gr ga gm us nr a) (hn : x.toInt < 0 ∨ (x.toInt < 3100 ∧ us x.toNatClampNeg ≠ 0 ∧ co x.toNatClampNeg ≠ 0)) : aCm a (qNo nr x) = a := by
  refine aCm_n (fun cc => ?_)
  by_cases z : x.toInt < 0
  · have := cc.1
    rw [No_n z] at this
    exact absurd this (by decide)
  · have w := hn.elim (fun y => absurd y z) id
    rw [No_y (by omega)] at cc
    have q := h.2.2.1 _ (tn_lt (by omega) w.1) w.2.1
    exact w.2.2 (q.trans cc.2.2.2.2.2)
theorem MQ_k (h : qMQ co gr ga gm us nr a) (e : aCm a (qNo nr x) = a) : qMQ co gr ga gm us nr (aCm a (qNo nr x)) := by
  rw [e]
  exact h
/-- a place that is no inner word: who begins there -/
theorem OB_n (hI : qI a) (h1 : qR1 us nr ws at' ho a) (h7 : qR7 us at' ow) (g : qGd a p) (h0 : 0 ≤ p) (h5 : p < 4500) (hn : (ow p.toNat).toInt < 0) : (zOb a p).toInt < 0 := by
  have e : a 71 p.toNat = -1 := by
    refine hI.2.2.1 p.toNat (by omega) (fun n hn2 hc => ?_)
    obtain ⟨s, hs, hu, hsn⟩ := R1_ex h1 hn2
    have q := h1.1 s hs hu
    rw [hsn] at q
    have gg := g n hn2
    have : (at' s).toInt = p := by
      rw [← q.2.2.2.1]
      omega
    have z := h7 s hs hu
    rw [show (at' s).toNatClampNeg = p.toNat from by show (at' s).toInt.toNat = p.toNat; rw [this]] at z
    rw [z] at hn
    have := ofN_s hs
    omega
  unfold zOb
  rw [e, if_neg (fun z => absurd z.2.2.1 (by decide))]
  decide
theorem OB_y (hI : qI a) (h1 : qR1 us nr ws at' ho a) (hO : zOw us at' ow) (h0 : 0 ≤ p) (h5 : p < 4500) (hn : 0 ≤ (ow p.toNat).toInt) (hx : (ow p.toNat).toInt < 3100) : zOb a p = nr (ow p.toNat).toNatClampNeg ∧ a 128 (zOb a p).toNatClampNeg = ws (ow p.toNat).toNatClampNeg + 1 ∧ 0 ≤ (zOb a p).toInt := by
  have o := hO p.toNat (by omega) hn
  have hs := tn_lt hn hx
  have q := h1.1 _ hs o.1
  have al := R1_al h1 hs o.1
  have i := hI.1 _ al
  have e : a 71 p.toNat = nr (ow p.toNat).toNatClampNeg := by
    have z := i.2.2.2
    rw [q.2.2.2.1, R1_of_nr h1 hs o.1] at z
    rw [show (at' (ow p.toNat).toNatClampNeg).toNatClampNeg = p.toNat from by show (at' (ow p.toNat).toNatClampNeg).toInt.toNat = p.toNat; rw [o.2]; omega] at z
    exact z
  have z : zOb a p = nr (ow p.toNat).toNatClampNeg := by
    unfold zOb
    rw [e, if_pos ⟨h0, h5, q.1.1, q.1.2, q.2.1⟩]
  refine ⟨z, ?_, ?_⟩
  · rw [z]
    exact q.2.2.1
  · rw [z]
    exact q.1.1
theorem tn_i (h : 0 ≤ (a 130 n).toInt) (e : (a 130 n).toInt = p) : (a 130 n).toNatClampNeg = p.toNat := by
  show (a 130 n).toInt.toNat = p.toNat
  rw [e]
/-- who begins at a place that is no inner word -/
theorem OB_al (hI : qI a) (g : qGd a p) (h : 0 ≤ (zOb a p).toInt) : ∃ n, xAl a n ∧ zOb a p = Int32.ofNat n ∧ (a 130 n).toInt = p ∧ (zOb a p).toNatClampNeg = n := by
  have hc : 0 ≤ p ∧ p < 4500 ∧ 0 ≤ (a 71 p.toNat).toInt ∧ (a 71 p.toNat).toInt < 512 ∧ a 126 (a 71 p.toNat).toNatClampNeg ≠ 0 := by
    unfold zOb at h
    split at h
    · next z => exact z
    · exact absurd h (by decide)
  have e : zOb a p = a 71 p.toNat := if_pos hc
  by_cases c : ∃ n, xAl a n ∧ (a 130 n).toInt ≤ p ∧ p < (a 130 n).toInt + (a 128 n).toInt
  · obtain ⟨n, h1, h2, h3⟩ := c
    have gg := g n h1
    have i := hI.1 n h1
    have ep : (a 130 n).toInt = p := by omega
    have z := i.2.2.2
    rw [tn_i i.1.2 ep] at z
    exact ⟨n, h1, e.trans z, ep, by rw [e, z]; exact tn_of h1.1⟩
  · have z := hI.2.2.1 p.toNat (by omega) (fun n hn w => c ⟨n, hn, by omega, by omega⟩)
    rw [z] at hc
    exact absurd hc.2.2.1 (by decide)
/-- behind one that begins at a place: no inner word -/
theorem Gd_nx (hI : qI a) (g : qGd a p) (h : 0 ≤ (zOb a p).toInt) : qGd a (p + (a 128 (zOb a p).toNatClampNeg).toInt) ∧ 1 ≤ (a 128 (zOb a p).toNatClampNeg).toInt ∧ p + (a 128 (zOb a p).toNatClampNeg).toInt ≤ (a 87 0).toInt := by
  obtain ⟨n, h1, h2, h3, h4⟩ := OB_al hI g h
  rw [h4]
  have i := hI.1 n h1
  refine ⟨fun n2 hn2 w => ?_, i.2.1.1, by rw [← h3]; exact i.2.2.1⟩
  by_cases z : n = n2
  · rw [← z] at w
    omega
  · have d := hI.2.1 n n2 h1 hn2 z
    omega
theorem Gd_s (hI : qI a) (g : qGd a p) (h : (zOb a p).toInt < 0) (h0 : 0 ≤ p) (h5 : p < 4500) : qGd a (p + 1) := by
  intro n hn w
  have gg := g n hn
  have i := hI.1 n hn
  have ep : (a 130 n).toInt = p := by omega
  have z := i.2.2.2
  rw [tn_i i.1.2 ep] at z
  have e := ofN_i hn.1
  have : zOb a p = Int32.ofNat n := by
    unfold zOb
    rw [z, if_pos ⟨h0, h5, by omega, by have := hn.1; omega, by rw [tn_of hn.1]; exact hn.2⟩]
  rw [this] at h
  omega
theorem Gd_0 (hI : qI a) : qGd a 0 := by
  intro n hn w
  have i := hI.1 n hn
  omega
end QA
