/-! from 95.h01 -/
/-! the reference by numbers (written by wip/tools/gen18r.py) -/
/-! THE REFERENCE'S HEAP HELD AGAINST A HEAP BY NUMBERS: us in use, nr numbers, kr kinds₉ references, kd kinds, ws words, at₉ places, ho holds, wd words₉ contents, wi wishes, ow owners, rt wk ROOT and WEAK, wl WISHES (wm of them) -/
def qU (us : Nat → Int32) (x : Int32) : Prop := x.toInt < 0 ∨ (x.toInt < 3100 ∧ us x.toNatClampNeg ≠ 0)
def qNo (nr : Nat → Int32) (x : Int32) : Int32 := if x.toInt < 0 then -1 else nr x.toNatClampNeg
def qIr (kr kd : Nat → Int32) (s i : Nat) : Prop := kd s = 16 ∨ (kd s < 16 ∧ ((kr (kd s).toNatClampNeg >>> (Int32.ofNat i &&& 31)) &&& 1) = 1)
def qR1 (us nr ws at₉ ho : Nat → Int32) (a : Nat → Nat → Int32) : Prop :=
  (∀ s, s < 3100 → us s ≠ 0 → (0 ≤ (nr s).toInt ∧ (nr s).toInt < 512) ∧ a 126 (nr s).toNatClampNeg ≠ 0 ∧ a 128 (nr s).toNatClampNeg = ws s + 1 ∧ a 130 (nr s).toNatClampNeg = at₉ s ∧ a 133 (nr s).toNatClampNeg = ho s ∧ (0 ≤ (ws s).toInt ∧ (ws s).toInt ≤ 60) ∧ 0 ≤ (at₉ s).toInt) ∧
  (∀ s t, s < 3100 → t < 3100 → us s ≠ 0 → us t ≠ 0 → nr s = nr t → s = t) ∧
  ∀ n, n < 512 → a 126 n ≠ 0 → ∃ s, s < 3100 ∧ us s ≠ 0 ∧ nr s = Int32.ofNat n
def qR2 (us nr kr kd ws wd : Nat → Int32) (a : Nat → Nat → Int32) : Prop := ∀ s, s < 3100 → us s ≠ 0 → ∀ i : Nat, (i : Int) < (ws s).toInt → qU us (zrf kr kd wd s i) ∧ aRef a (nr s).toNatClampNeg (Int32.ofNat i) = qNo nr (zrf kr kd wd s i) ∧ (a (1000 + (nr s).toNatClampNeg) i ≠ 0 ↔ qIr kr kd s i)
def qR3 (us nr rt : Nat → Int32) (a : Nat → Nat → Int32) (c : Nat) : Prop := ∀ k, k < 16 → qU us (rt k) ∧ a c k = qNo nr (rt k)
def qR5 (us nr wl : Nat → Int32) (wm : Int32) (a : Nat → Nat → Int32) : Prop := a 69 5 = wm ∧ ∀ k : Nat, (k : Int) < wm.toInt → (0 ≤ (wl k).toInt ∧ (wl k).toInt < 3100 ∧ us (wl k).toNatClampNeg ≠ 0) ∧ a 74 k = nr (wl k).toNatClampNeg
def qR6 (us nr wi : Nat → Int32) (a : Nat → Nat → Int32) : Prop := ∀ s, s < 3100 → us s ≠ 0 → a 134 (nr s).toNatClampNeg = wi s
def qR7 (us at₉ ow : Nat → Int32) : Prop := ∀ s, s < 3100 → us s ≠ 0 → ow (at₉ s).toNatClampNeg = Int32.ofNat s
def qR8 (nu ro fo le ra pi : Int32) (a : Nat → Nat → Int32) : Prop := a 69 6 = nu ∧ a 87 0 = ro ∧ a 87 1 = fo ∧ a 87 2 = le ∧ a 87 6 = ra ∧ a 87 7 = (if pi = 0 then 1 else 0)
def qRB (us nr kr kd ws at₉ ho wd wi ow rt wk wl : Nat → Int32) (wm nu ro fo le ra pi : Int32) (a : Nat → Nat → Int32) : Prop :=
  qR1 us nr ws at₉ ho a ∧ qR2 us nr kr kd ws wd a ∧ qR3 us nr rt a 72 ∧ qR3 us nr wk a 73 ∧ qR5 us nr wl wm a ∧ qR6 us nr wi a ∧ qR7 us at₉ ow ∧ qR8 nu ro fo le ra pi a
/-- no inner word -/
def qGd (a : Nat → Nat → Int32) (p : Int) : Prop := ∀ n, xAl a n → ¬ ((a 130 n).toInt < p ∧ p < (a 130 n).toInt + (a 128 n).toInt)
def qSu (a : Nat → Nat → Int32) : Nat → Int
  | 0 => 0
  | n + 1 => qSu a n + (if a 126 n ≠ 0 then (a 128 n).toInt else 0)
/-- what holds of a heap by numbers -/
def qI1 (a : Nat → Nat → Int32) : Prop := ∀ n, xAl a n → ((n : Int) < (a 69 6).toInt ∧ 0 ≤ (a 130 n).toInt) ∧ (1 ≤ (a 128 n).toInt ∧ (a 128 n).toInt ≤ 61) ∧ (a 130 n).toInt + (a 128 n).toInt ≤ (a 87 0).toInt ∧ a 71 (a 130 n).toNatClampNeg = Int32.ofNat n
def qI2 (a : Nat → Nat → Int32) : Prop := ∀ n n₉, xAl a n → xAl a n₉ → n ≠ n₉ → (a 130 n).toInt + (a 128 n).toInt ≤ (a 130 n₉).toInt ∨ (a 130 n₉).toInt + (a 128 n₉).toInt ≤ (a 130 n).toInt
def qI3 (a : Nat → Nat → Int32) : Prop := ∀ p : Nat, p < 4500 → (∀ n, xAl a n → ¬ ((a 130 n).toInt ≤ (p : Int) ∧ (p : Int) < (a 130 n).toInt + (a 128 n).toInt)) → a 71 p = -1
def qI4 (a : Nat → Nat → Int32) : Prop := (0 ≤ (a 69 6).toInt ∧ (a 69 6).toInt ≤ 512) ∧ (0 ≤ (a 69 5).toInt ∧ (a 69 5).toInt ≤ 512) ∧ (0 ≤ (a 87 0).toInt ∧ (a 87 0).toInt ≤ 4500) ∧ (0 ≤ (a 87 2).toInt ∧ (a 87 2).toInt ≤ (a 87 0).toInt) ∧ qGd a (a 87 2).toInt ∧ 0 ≤ (a 87 6).toInt
def qI6 (a : Nat → Nat → Int32) : Prop := ∀ n, ¬ xAl a n → ∀ k, a (1000 + n) k = 0
def qI (a : Nat → Nat → Int32) : Prop := qI1 a ∧ qI2 a ∧ qI3 a ∧ qI4 a ∧ a 69 8 = Int32.ofInt (qSu a 512) ∧ qI6 a
/-- the colours and the row of GREY ones -/
def qMQ (co gr : Nat → Int32) (ga gm : Int32) (us nr : Nat → Int32) (a : Nat → Nat → Int32) : Prop :=
  a 75 3 = ga ∧ a 75 4 = gm ∧ (∀ s, s < 3100 → us s ≠ 0 → co s = a 77 (nr s).toNatClampNeg) ∧
  (∀ j : Nat, ga.toInt ≤ (j : Int) → (j : Int) < gm.toInt → (0 ≤ (gr j).toInt ∧ (gr j).toInt < 3100 ∧ us (gr j).toNatClampNeg ≠ 0) ∧ a 76 j = nr (gr j).toNatClampNeg) ∧ zWQ a
section QA
variable {a b : Nat → Nat → Int32} {us nr kr kd ws at₉ ho wd wi ow rt wk wl co gr : Nat → Int32} {wm nu ro fo le ra pi ga gm x y : Int32} {c k n s t i : Nat} {m m2 : Nat → Nat → Int32} {p : Int}
theorem Of_r (h : zOf a b) (h1 : c ≠ 75) (h2 : c ≠ 76) (h3 : c ≠ 77) : a c = b c := funext (fun k => h c k h1 h2 h3)
theorem R1_of (h : qR1 us nr ws at₉ ho a) (o : zOf a b) : qR1 us nr ws at₉ ho b := by
  unfold qR1 at h ⊢
  rw [← Of_r (c := 126) o (by decide) (by decide) (by decide), ← Of_r (c := 128) o (by decide) (by decide) (by decide), ← Of_r (c := 130) o (by decide) (by decide) (by decide), ← Of_r (c := 133) o (by decide) (by decide) (by decide)]
  exact h
theorem R2_of (h : qR2 us nr kr kd ws wd a) (o : zOf a b) : qR2 us nr kr kd ws wd b := by
  intro s hs hu i hi
  have q := h s hs hu i hi
  rw [← Of_ref o, ← o (1000 + (nr s).toNatClampNeg) i (by omega) (by omega) (by omega)]
  exact q
theorem R3_of (h : qR3 us nr rt a c) (o : zOf a b) (h1 : c ≠ 75) (h2 : c ≠ 76) (h3 : c ≠ 77) : qR3 us nr rt b c := by
  unfold qR3 at h ⊢
  rw [← Of_r o h1 h2 h3]
  exact h
theorem R5_of (h : qR5 us nr wl wm a) (o : zOf a b) : qR5 us nr wl wm b := by
  unfold qR5 at h ⊢
  rw [← Of_r (c := 69) o (by decide) (by decide) (by decide), ← Of_r (c := 74) o (by decide) (by decide) (by decide)]
  exact h
theorem R6_of (h : qR6 us nr wi a) (o : zOf a b) : qR6 us nr wi b := by
  unfold qR6 at h ⊢
  rw [← Of_r (c := 134) o (by decide) (by decide) (by decide)]
  exact h
theorem R8_of (h : qR8 nu ro fo le ra pi a) (o : zOf a b) : qR8 nu ro fo le ra pi b := by
  unfold qR8 at h ⊢
  rw [← Of_r (c := 69) o (by decide) (by decide) (by decide), ← Of_r (c := 87) o (by decide) (by decide) (by decide)]
  exact h
theorem RB_of (h : qRB us nr kr kd ws at₉ ho wd wi ow rt wk wl wm nu ro fo le ra pi a) (o : zOf a b) : qRB us nr kr kd ws at₉ ho wd wi ow rt wk wl wm nu ro fo le ra pi b :=
  ⟨R1_of h.1 o, R2_of h.2.1 o, R3_of h.2.2.1 o (by decide) (by decide) (by decide), R3_of h.2.2.2.1 o (by decide) (by decide) (by decide), R5_of h.2.2.2.2.1 o, R6_of h.2.2.2.2.2.1 o, h.2.2.2.2.2.2.1, R8_of h.2.2.2.2.2.2.2 o⟩
theorem Al_of (o : zOf a b) : xAl a = xAl b := by
  funext n
  unfold xAl
  rw [Of_r (c := 126) o (by decide) (by decide) (by decide)]
theorem Su_of (o : zOf a b) : ∀ n, qSu a n = qSu b n := by
  intro n
  induction n with
  | zero => rfl
  | succ n ih =>
    unfold qSu
    rw [ih, Of_r (c := 126) o (by decide) (by decide) (by decide), Of_r (c := 128) o (by decide) (by decide) (by decide)]
theorem qI_of (h : qI a) (o : zOf a b) : qI b := by
  have e1 := Al_of o
  have e2 := Of_r (c := 69) o (by decide) (by decide) (by decide)
  have e3 := Of_r (c := 128) o (by decide) (by decide) (by decide)
  have e4 := Of_r (c := 130) o (by decide) (by decide) (by decide)
  have e5 := Of_r (c := 87) o (by decide) (by decide) (by decide)
  have e6 := Of_r (c := 71) o (by decide) (by decide) (by decide)
  have e7 := Su_of o 512
  have e8 : qI6 b := fun n hn k => by
    rw [← o (1000 + n) k (by omega) (by omega) (by omega)]
    exact h.2.2.2.2.2 n (by rw [e1]; exact hn) k
  unfold qI qI1 qI2 qI3 qI4 qGd at h ⊢
  rw [← e1, ← e2, ← e3, ← e4, ← e5, ← e6, ← e7]
  exact ⟨h.1, h.2.1, h.2.2.1, h.2.2.2.1, h.2.2.2.2.1, e8⟩
theorem ofN_s (h : s < 3100) : (Int32.ofNat s).toInt = (s : Int) := Int32.toInt_ofNat_of_lt (by omega)
/-- one of that slot is there -/
theorem R1_al (h : qR1 us nr ws at₉ ho a) (hs : s < 3100) (hu : us s ≠ 0) : xAl a (nr s).toNatClampNeg := by
  have q := h.1 s hs hu
  have e := tn_cast q.1.1
  exact ⟨by omega, q.2.1⟩
theorem R1_in (h : qR1 us nr ws at₉ ho a) (hs : s < 3100) (ht : t < 3100) (hu : us s ≠ 0) (hv : us t ≠ 0) (e : (nr s).toNatClampNeg = (nr t).toNatClampNeg) : s = t := by
  refine h.2.1 s t hs ht hu hv ?_
  have e1 := tn_cast (h.1 s hs hu).1.1
  have e2 := tn_cast (h.1 t ht hv).1.1
  exact Int32.toInt_inj.mp (by omega)
theorem R1_ex (h : qR1 us nr ws at₉ ho a) (hn : xAl a n) : ∃ s, s < 3100 ∧ us s ≠ 0 ∧ (nr s).toNatClampNeg = n := by
  obtain ⟨s, h1, h2, h3⟩ := h.2.2 n hn.1 hn.2
  exact ⟨s, h1, h2, by rw [h3]; exact tn_of hn.1⟩
theorem R1_of_nr (h : qR1 us nr ws at₉ ho a) (hs : s < 3100) (hu : us s ≠ 0) : Int32.ofNat (nr s).toNatClampNeg = nr s := ofN_tn (h.1 s hs hu).1.1
theorem No_y (h : 0 ≤ x.toInt) : qNo nr x = nr x.toNatClampNeg := if_neg (by omega)
theorem No_n (h : x.toInt < 0) : qNo nr x = -1 := if_pos h
theorem tn_lt (h : 0 ≤ x.toInt) (h2 : x.toInt < 3100) : x.toNatClampNeg < 3100 := by
  have := tn_cast h
  omega
theorem U_y (h : qU us x) (h0 : 0 ≤ x.toInt) : x.toInt < 3100 ∧ us x.toNatClampNeg ≠ 0 := h.elim (fun z => absurd z (by omega)) id
/-- one WHITE one comes -/
theorem MQ_push (h : qMQ (m 106) (m2 115) ga gm us nr a) (h1 : qR1 us nr ws at₉ ho a) (h0 : 0 ≤ x.toInt) (hx : x.toInt < 3100) (hu : us x.toNatClampNeg ≠ 0) (hw : m 106 x.toNatClampNeg = 0) (e : y = gm + 1) : qMQ (ma_u m 106 x.toNatClampNeg 1 106) (ma_u m2 115 gm.toNatClampNeg x 115) ga y us nr (aCm a (qNo nr x)) := by
  obtain ⟨q1, q2, q3, q4, q5⟩ := h
  have hs := tn_lt h0 hx
  have b := h1.1 _ hs hu
  have e2 : a 77 (nr x.toNatClampNeg).toNatClampNeg = 0 := (q3 _ hs hu).symm.trans hw
  have cc := cc_of q5 b.1.1 b.1.2 b.2.1 e2
  have w := WQ_cm (y := nr x.toNatClampNeg) q5
  rw [No_y h0]
  rw [aCm_y cc] at w ⊢
  have tb := cc.2.2.2.2.1
  have g0 : 0 ≤ (a 75 4).toInt := by
    have := q5.1.1
    have := q5.1.2.1
    omega
  have g1 := i_p1 (i := a 75 4) (by omega)
  have g2 := tn_cast g0
  rw [q2] at tb g0 g1 g2
  refine ⟨?_, ?_, fun s hs2 hu2 => ?_, fun j j1 j2 => ?_, w⟩
  · rw [xu_o (by omega), xu_o (by omega), xu_o (by omega)]
    exact q1
  · rw [xu_s, q2, e]
  · rw [xu_o (c := 77) (c₉ := 75) (by omega), xu_o (c := 77) (c₉ := 76) (by omega)]
    by_cases z : s = x.toNatClampNeg
    · rw [z, mu_self, xu_s]
    · rw [mu_ne z, xu_o (c := 77) (c₉ := 77) (fun y => z (R1_in h1 hs2 hs hu2 hu y.2))]
      exact q3 s hs2 hu2
  · rw [e, g1] at j2
    rw [xu_o (c := 76) (c₉ := 75) (by omega)]
    by_cases z : j = gm.toNatClampNeg
    · rw [z, mu_self, q2, xu_s]
      exact ⟨⟨h0, hx, hu⟩, rfl⟩
    · rw [mu_ne z, xu_o (c := 76) (c₉ := 76) (fun y => z (by rw [← q2]; exact y.2)), xu_o (c := 76) (c₉ := 77) (by omega)]
      exact q4 j j1 (by omega)
/-- one that is none, or not WHITE, comes: nothing changes -/
theorem MQ_skip (h : qMQ co gr ga gm us nr a) (hn : x.toInt < 0 ∨ (x.toInt < 3100 ∧ us x.toNatClampNeg ≠ 0 ∧ co x.toNatClampNeg ≠ 0)) : aCm a (qNo nr x) = a := by
  refine aCm_n (fun cc => ?_)
  by_cases z : x.toInt < 0
  · have := cc.1
    rw [No_n z] at this
    exact absurd this (by decide)
  · have w := hn.elim (fun y => absurd y z) id
    rw [No_y (by omega)] at cc
    have q := h.2.2.1 _ (tn_lt (by omega) w.1) w.2.1
    exact w.2.2 (q.trans cc.2.2.2.2.2)
/-- a place that is no inner word: who begins there -/
theorem OB_n (hI : qI a) (h1 : qR1 us nr ws at₉ ho a) (h7 : qR7 us at₉ ow) (g : qGd a p) (h0 : 0 ≤ p) (h5 : p < 4500) (hn : (ow p.toNat).toInt < 0) : (zOb a p).toInt < 0 := by
  have e : a 71 p.toNat = -1 := by
    refine hI.2.2.1 p.toNat (by omega) (fun n hn2 hc => ?_)
    obtain ⟨s, hs, hu, hsn⟩ := R1_ex h1 hn2
    have q := h1.1 s hs hu
    rw [hsn] at q
    have gg := g n hn2
    have : (at₉ s).toInt = p := by
      rw [← q.2.2.2.1]
      omega
    have z := h7 s hs hu
    rw [show (at₉ s).toNatClampNeg = p.toNat from by show (at₉ s).toInt.toNat = p.toNat; rw [this]] at z
    rw [z] at hn
    have := ofN_s hs
    omega
  unfold zOb
  rw [e, if_neg (fun z => absurd z.2.2.1 (by decide))]
  decide
theorem OB_y (hI : qI a) (h1 : qR1 us nr ws at₉ ho a) (hO : zOw us at₉ ow) (h0 : 0 ≤ p) (h5 : p < 4500) (hn : 0 ≤ (ow p.toNat).toInt) (hx : (ow p.toNat).toInt < 3100) : zOb a p = nr (ow p.toNat).toNatClampNeg ∧ a 128 (zOb a p).toNatClampNeg = ws (ow p.toNat).toNatClampNeg + 1 ∧ 0 ≤ (zOb a p).toInt := by
  have o := hO p.toNat (by omega) hn
  have hs := tn_lt hn hx
  have q := h1.1 _ hs o.1
  have al := R1_al h1 hs o.1
  have i := hI.1 _ al
  have e : a 71 p.toNat = nr (ow p.toNat).toNatClampNeg := by
    have z := i.2.2.2
    rw [q.2.2.2.1, R1_of_nr h1 hs o.1] at z
    rw [show (at₉ (ow p.toNat).toNatClampNeg).toNatClampNeg = p.toNat from by show (at₉ (ow p.toNat).toNatClampNeg).toInt.toNat = p.toNat; rw [o.2]; omega] at z
    exact z
  have z : zOb a p = nr (ow p.toNat).toNatClampNeg := by
    unfold zOb
    rw [e, if_pos ⟨h0, h5, q.1.1, q.1.2, q.2.1⟩]
  refine ⟨z, ?_, ?_⟩
  · rw [z]
    exact q.2.2.1
  · rw [z]
    exact q.1.1
theorem tn_i (h : 0 ≤ (a 130 n).toInt) (e : (a 130 n).toInt = p) : (a 130 n).toNatClampNeg = p.toNat := by
  show (a 130 n).toInt.toNat = p.toNat
  rw [e]
/-- who begins at a place that is no inner word -/
theorem OB_al (hI : qI a) (g : qGd a p) (h : 0 ≤ (zOb a p).toInt) : ∃ n, xAl a n ∧ zOb a p = Int32.ofNat n ∧ (a 130 n).toInt = p ∧ (zOb a p).toNatClampNeg = n := by
  have hc : 0 ≤ p ∧ p < 4500 ∧ 0 ≤ (a 71 p.toNat).toInt ∧ (a 71 p.toNat).toInt < 512 ∧ a 126 (a 71 p.toNat).toNatClampNeg ≠ 0 := by
    unfold zOb at h
    split at h
    · next z => exact z
    · exact absurd h (by decide)
  have e : zOb a p = a 71 p.toNat := if_pos hc
  by_cases c : ∃ n, xAl a n ∧ (a 130 n).toInt ≤ p ∧ p < (a 130 n).toInt + (a 128 n).toInt
  · obtain ⟨n, h1, h2, h3⟩ := c
    have gg := g n h1
    have i := hI.1 n h1
    have ep : (a 130 n).toInt = p := by omega
    have z := i.2.2.2
    rw [tn_i i.1.2 ep] at z
    exact ⟨n, h1, e.trans z, ep, by rw [e, z]; exact tn_of h1.1⟩
  · have z := hI.2.2.1 p.toNat (by omega) (fun n hn w => c ⟨n, hn, by omega, by omega⟩)
    rw [z] at hc
    exact absurd hc.2.2.1 (by decide)
/-- behind one that begins at a place: no inner word -/
theorem Gd_nx (hI : qI a) (g : qGd a p) (h : 0 ≤ (zOb a p).toInt) : qGd a (p + (a 128 (zOb a p).toNatClampNeg).toInt) ∧ 1 ≤ (a 128 (zOb a p).toNatClampNeg).toInt ∧ p + (a 128 (zOb a p).toNatClampNeg).toInt ≤ (a 87 0).toInt := by
  obtain ⟨n, h1, h2, h3, h4⟩ := OB_al hI g h
  rw [h4]
  have i := hI.1 n h1
  refine ⟨fun n2 hn2 w => ?_, i.2.1.1, by rw [← h3]; exact i.2.2.1⟩
  by_cases z : n = n2
  · rw [← z] at w
    omega
  · have d := hI.2.1 n n2 h1 hn2 z
    omega
theorem Gd_s (hI : qI a) (g : qGd a p) (h : (zOb a p).toInt < 0) (h0 : 0 ≤ p) (h5 : p < 4500) : qGd a (p + 1) := by
  intro n hn w
  have gg := g n hn
  have i := hI.1 n hn
  have ep : (a 130 n).toInt = p := by omega
  have z := i.2.2.2
  rw [tn_i i.1.2 ep] at z
  have e := ofN_i hn.1
  have : zOb a p = Int32.ofNat n := by
    unfold zOb
    rw [z, if_pos ⟨h0, h5, by omega, by have := hn.1; omega, by rw [tn_of hn.1]; exact hn.2⟩]
  rw [this] at h
  omega
theorem Gd_0 (hI : qI a) : qGd a 0 := by
  intro n hn w
  have i := hI.1 n hn
  omega
end QA

/-! from 95.h02 -/
/-! the reference by numbers (written by wip/tools/gen18r.py) -/
def qPl (us nr : Nat → Int32) (x v : Int32) : Prop := (v = -1 ∧ ∀ t, t < 3100 → us t ≠ 0 → nr t ≠ x) ∨ (0 ≤ v.toInt ∧ v.toInt ≤ 3099 ∧ us v.toNatClampNeg ≠ 0 ∧ nr v.toNatClampNeg = x)
theorem pl_s {us nr : Nat → Int32} {x i j : Int32} (h : ∀ t : Nat, (t : Int) < i.toInt → us t ≠ 0 → nr t ≠ x) (e : j.toInt = i.toInt + 1) (h0 : 0 ≤ i.toInt) (hc : us i.toNatClampNeg = 0 ∨ nr i.toNatClampNeg ≠ x) : ∀ t : Nat, (t : Int) < j.toInt → us t ≠ 0 → nr t ≠ x := by
  intro t ht hu
  have c := tn_cast h0
  by_cases z : t = i.toNatClampNeg
  · rw [z] at hu ⊢
    exact hc.elim (fun w => absurd w hu) id
  · exact h t (by omega) hu
theorem lp_246r_2 {X : Nat × (Nat → Int32)} {P : Option ma_V → (Nat → Nat → Int32) → Prop} {nu : Int32} {m0 : Nat → Nat → Int32} (h0 : zV m0) (K : ∀ v m₉, zF wr_246 m0 m₉ → zV m₉ → (-1 ≤ v.toInt ∧ v.toInt ≤ 3099) → (qPl (m₉ 99) (m₉ 100) nu v) → P (some (.inl v)) m₉) : ∀ (n : Nat) (m : Nat → Nat → Int32) (l1 : Int32) (l2 : Int32), (3100 - l2.toInt).toNat = n → zF wr_246 m0 m → zV m → (0 ≤ l2.toInt) → (l1 = nu) → (∀ t : Nat, (t : Int) < l2.toInt → (m 99) t ≠ 0 → (m 100) t ≠ nu) → zm X 0 0 246 2 [(0, .inr (.inr (some 94))), (1, .inl l1), (2, .inl l2)] m P := by
  intro n
  induction n using Nat.strongRecOn with
  | _ n IH =>
    intro m l1 l2 hmu hF hV hi0 r_LN r_PLl
    refine g_246_2 l1 l2 ?_
    have li1 : (3100 : Int32).toInt = 3100 := rfl
    have b2 := i_bd l2
    refine zd (fun (h3 : (3100 : Int32) ≤ l2) => ?_) (fun (h3 : ¬ (3100 : Int32) ≤ l2) => ?_)
    · skip
      have g4 := i_le h3
      have li5 : (-1 : Int32).toInt = -1 := rfl
      exact K ((-1 : Int32)) _ hF hV (show -1 ≤ (-1 : Int32).toInt ∧ (-1 : Int32).toInt ≤ 3099 from by omega) (show qPl (m 99) (m 100) nu (-1 : Int32) from by first | (exact Or.inr ⟨by omega, by omega, by assumption, by rw [← r_LN]; assumption⟩) | (exact Or.inl ⟨rfl, fun t ht => r_PLl t (by omega)⟩) | (exfalso; omega; done) | (exfalso; contradiction; done))
    · skip
      have g6 := i_nle h3
      have hg7 : (0 ≤ l2 ∧ l2.toNatClampNeg < 3100) := i_ix (by omega) (by omega)
      refine ⟨hg7, ?_⟩
      first | have f8 : 0 ≤ (m 99 l2.toNatClampNeg).toInt ∧ (m 99 l2.toNatClampNeg).toInt ≤ 1 := ra_99 (m := m) hV (k := l2.toNatClampNeg) (i_ix (n := 3100) (by omega) (by omega)).2 | have b9 := i_bd (m 99 l2.toNatClampNeg)
      have li10 : (0 : Int32).toInt = 0 := rfl
      refine zd (fun (h11 : (m 99 l2.toNatClampNeg) = (0 : Int32)) => ?_) (fun (h11 : ¬ (m 99 l2.toNatClampNeg) = (0 : Int32)) => ?_)
      · skip
        have g12 := i_eq h11
        have b13 := i_bd l1
        first | have e14 : (l2 + (1 : Int32)).toInt = l2.toInt + (1) := i_addk rfl (by omega) (by omega) | have b15 := i_bd (l2 + (1 : Int32))
        exact IH (3100 - (l2 + (1 : Int32)).toInt).toNat (by omega) _ (l1) ((l2 + (1 : Int32))) rfl hF hV (by omega) r_LN (show ∀ t : Nat, (t : Int) < (l2 + (1 : Int32)).toInt → (m 99) t ≠ 0 → (m 100) t ≠ nu from by first | (intro t ht; omega; done) | (exact pl_s r_PLl (by omega) (by omega) (Or.inl (by assumption))) | (exact pl_s r_PLl (by omega) (by omega) (Or.inr (by rw [← r_LN]; assumption))) | (exfalso; omega; done) | (exfalso; contradiction; done))
      · skip
        have g16 := i_ne h11
        have hg17 : (0 ≤ l2 ∧ l2.toNatClampNeg < 3100) := i_ix (by omega) (by omega)
        refine ⟨hg17, ?_⟩
        first | have f18 : 0 ≤ (m 100 l2.toNatClampNeg).toInt ∧ (m 100 l2.toNatClampNeg).toInt ≤ 100000 := ra_100 (m := m) hV (k := l2.toNatClampNeg) (i_ix (n := 3100) (by omega) (by omega)).2 | have b19 := i_bd (m 100 l2.toNatClampNeg)
        have b20 := i_bd l1
        refine zd (fun (h21 : (m 100 l2.toNatClampNeg) = l1) => ?_) (fun (h21 : ¬ (m 100 l2.toNatClampNeg) = l1) => ?_)
        · skip
          have g22 := i_eq h21
          exact K (l2) _ hF hV (show -1 ≤ l2.toInt ∧ l2.toInt ≤ 3099 from by omega) (show qPl (m 99) (m 100) nu l2 from by first | (exact Or.inr ⟨by omega, by omega, by assumption, by rw [← r_LN]; assumption⟩) | (exact Or.inl ⟨rfl, fun t ht => r_PLl t (by omega)⟩) | (exfalso; omega; done) | (exfalso; contradiction; done))
        · skip
          have g23 := i_ne h21
          first | have e24 : (l2 + (1 : Int32)).toInt = l2.toInt + (1) := i_addk rfl (by omega) (by omega) | have b25 := i_bd (l2 + (1 : Int32))
          exact IH (3100 - (l2 + (1 : Int32)).toInt).toNat (by omega) _ (l1) ((l2 + (1 : Int32))) rfl hF hV (by omega) r_LN (show ∀ t : Nat, (t : Int) < (l2 + (1 : Int32)).toInt → (m 99) t ≠ 0 → (m 100) t ≠ nu from by first | (intro t ht; omega; done) | (exact pl_s r_PLl (by omega) (by omega) (Or.inl (by assumption))) | (exact pl_s r_PLl (by omega) (by omega) (Or.inr (by rw [← r_LN]; assumption))) | (exfalso; omega; done) | (exfalso; contradiction; done))
theorem sp_246r {X : Nat × (Nat → Int32)} {P : Option ma_V → (Nat → Nat → Int32) → Prop} {m : Nat → Nat → Int32} (nu : Int32) (hV : zV m)  (KZ : ∀ v m₉, zV (zov wr_246 m m₉) → (-1 ≤ v.toInt ∧ v.toInt ≤ 3099) → (qPl (m 99) (m 100) nu v) → P (some (.inl v)) (zov wr_246 m m₉)) : zm X 0 0 246 0 [(0, .inr (.inr (some 94))), (1, .inl nu)] m P := by
  have K : ∀ v m₉, zF wr_246 m m₉ → zV m₉ → (-1 ≤ v.toInt ∧ v.toInt ≤ 3099) → (qPl (m₉ 99) (m₉ 100) nu v) → P (some (.inl v)) m₉ := by
    intro v m₉ hf z q0 q1
    have e := zov_eq hf
    rw [e] at z ⊢
    try rw [e] at q0
    try rw [e] at q1
    exact KZ v m₉ z q0 q1
  refine g_246_0 nu ?_
  have b1 := i_bd nu
  have li2 : (0 : Int32).toInt = 0 := rfl
  exact lp_246r_2 (nu := nu) hV K _ _ (nu) ((0 : Int32)) rfl zF_rfl hV (by omega) (show nu = nu from by first | (exact rfl) | (exfalso; omega; done) | (exfalso; contradiction; done)) (show ∀ t : Nat, (t : Int) < (0 : Int32).toInt → (m 99) t ≠ 0 → (m 100) t ≠ nu from by first | (intro t ht; omega; done) | (exfalso; omega; done) | (exfalso; contradiction; done))

/-! from 95.h03 -/
/-! the reference by numbers (written by wip/tools/gen18r.py) -/
/-! FREE BLOCKS, the reference -/
/-- an equation that omega shall not look into -/
def qEq (x y : Int) : Prop := x = y
theorem qE {x y : Int} (h : qEq x y) : x = y := h
section QB
variable {a : Nat → Nat → Int32} {us nr kr kd ws at₉ ho wd wi ow rt wk wl : Nat → Int32} {wm nu ro fo le ra pi x y bs l q2 : Int32} {p q z b T e : Int} {k : Nat} {s : Int32}
theorem RB_ro (h : qRB us nr kr kd ws at₉ ho wd wi ow rt wk wl wm nu ro fo le ra pi a) : a 87 0 = ro := h.2.2.2.2.2.2.2.2.1
theorem RB_fo (h : qRB us nr kr kd ws at₉ ho wd wi ow rt wk wl wm nu ro fo le ra pi a) : a 87 1 = fo := h.2.2.2.2.2.2.2.2.2.1
theorem RB_le (h : qRB us nr kr kd ws at₉ ho wd wi ow rt wk wl wm nu ro fo le ra pi a) : a 87 2 = le := h.2.2.2.2.2.2.2.2.2.2.1
theorem Sz_I (h : qI a) : zSz a := by
  intro p hp
  have hc : 0 ≤ p ∧ p < 4500 ∧ 0 ≤ (a 71 p.toNat).toInt ∧ (a 71 p.toNat).toInt < 512 ∧ a 126 (a 71 p.toNat).toNatClampNeg ≠ 0 := by
    unfold zOb at hp
    split at hp
    · next z => exact z
    · exact absurd hp (by decide)
  have e : zOb a p = a 71 p.toNat := if_pos hc
  have e1 := tn_cast hc.2.2.1
  rw [e]
  exact (h.1 _ ⟨by omega, hc.2.2.2.2⟩).2.1.1
theorem Gd_c (h : qGd a p) (e : p = q) : qGd a q := e ▸ h
/-- over one that is there -/
theorem BF_ob (hI : qI a) (h : qRB us nr kr kd ws at₉ ho wd wi ow rt wk wl wm nu ro fo le ra pi a) (hO : zOw us at₉ ow) (g : qGd a x.toInt) (h0 : 0 ≤ x.toInt) (h1 : x.toInt < ro.toInt) (h5 : ro.toInt ≤ 1500) (hn : 0 ≤ (ow x.toNatClampNeg).toInt) (hx : (ow x.toNatClampNeg).toInt ≤ 3099) (e : y.toInt = x.toInt + ((ws (ow x.toNatClampNeg).toNatClampNeg).toInt + 1)) : aN a y.toInt = aN a x.toInt ∧ qGd a y.toInt ∧ y.toInt ≤ ro.toInt := by
  have ob := OB_y (p := x.toInt) hI h.1 hO h0 (by omega) hn (by show (ow x.toNatClampNeg).toInt < 3100; omega)
  have nx := Gd_nx hI g ob.2.2
  have r := RB_ro h
  have hs := tn_lt hn (by omega)
  have o := hO x.toNatClampNeg (by have := tn_cast h0; omega) hn
  have w := (h.1.1 _ hs o.1).2.2.2.2.2.1
  have e1 : (a 128 (zOb a x.toInt).toNatClampNeg).toInt = (ws (ow x.toNatClampNeg).toNatClampNeg).toInt + 1 := by
    rw [ob.2.1]
    exact i_p1 (by have := w.2; exact Int.lt_of_le_of_lt this (by decide))
  rw [e1, r] at nx
  have st := aN_ob (p := x.toInt) (Sz_I hI) (by rw [r]; exact h1) ob.2.2
  rw [e1] at st
  rw [e]
  refine ⟨st.symm, ?_, ?_⟩
  · exact Gd_c nx.1 (by omega)
  · omega
theorem sz_add (h : qRB us nr kr kd ws at₉ ho wd wi ow rt wk wl wm nu ro fo le ra pi a) (hO : zOw us at₉ ow) (h0 : 0 ≤ x.toInt) (h1 : x.toInt < 4600) (hn : 0 ≤ (ow x.toNatClampNeg).toInt) (hx : (ow x.toNatClampNeg).toInt ≤ 3099) : (x + (ws (ow x.toNatClampNeg).toNatClampNeg + 1)).toInt = x.toInt + ((ws (ow x.toNatClampNeg).toNatClampNeg).toInt + 1) := by
  have hs := tn_lt hn (by omega)
  have o := hO x.toNatClampNeg (by have := tn_cast h0; omega) hn
  have w := (h.1.1 _ hs o.1).2.2.2.2.2.1
  have e1 := i_p1 (i := ws (ow x.toNatClampNeg).toNatClampNeg) (by omega)
  rw [i_add (by omega) (by omega), e1]
theorem BF_o2 (hI : qI a) (h : qRB us nr kr kd ws at₉ ho wd wi ow rt wk wl wm nu ro fo le ra pi a) (hO : zOw us at₉ ow) (g : qGd a x.toInt) (h0 : 0 ≤ x.toInt) (h1 : x.toInt < ro.toInt) (h5 : ro.toInt ≤ 1500) (hn : 0 ≤ (ow x.toNatClampNeg).toInt) (hx : (ow x.toNatClampNeg).toInt ≤ 3099) : (x + (ws (ow x.toNatClampNeg).toNatClampNeg + 1)).toInt ≤ ro.toInt := (BF_ob hI h hO g h0 h1 h5 hn hx (sz_add h hO h0 (by omega) hn hx)).2.2
theorem BF_fr (hI : qI a) (h : qRB us nr kr kd ws at₉ ho wd wi ow rt wk wl wm nu ro fo le ra pi a) (g : qGd a x.toInt) (h0 : 0 ≤ x.toInt) (h5 : x.toInt < 1500) (hn : (ow x.toNatClampNeg).toInt < 0) : (zOb a x.toInt).toInt < 0 := OB_n hI h.1 h.2.2.2.2.2.2.1 g h0 (by omega) hn
theorem BF_st (h : qRB us nr kr kd ws at₉ ho wd wi ow rt wk wl wm nu ro fo le ra pi a) (e : ro.toInt ≤ p) : aN a p = ro.toInt := by
  rw [← RB_ro h] at e ⊢
  exact aN_ro e
theorem BF_n (hI : qI a) (h : qRB us nr kr kd ws at₉ ho wd wi ow rt wk wl wm nu ro fo le ra pi a) (g : qGd a x.toInt) (h0 : 0 ≤ x.toInt) (h1 : x.toInt < ro.toInt) (h5 : ro.toInt ≤ 1500) (hn : (ow x.toNatClampNeg).toInt < 0) : aN a x.toInt = x.toInt := aN_fr (by rw [RB_ro h]; exact h1) (BF_fr hI h g h0 (by omega) hn)
theorem BF_e (hI : qI a) (h : qRB us nr kr kd ws at₉ ho wd wi ow rt wk wl wm nu ro fo le ra pi a) (g : qGd a x.toInt) (h0 : 0 ≤ x.toInt) (h1 : x.toInt < ro.toInt) (h5 : ro.toInt ≤ 1500) (hn : (ow x.toNatClampNeg).toInt < 0) (e : y.toInt = x.toInt + 1) : aE a y.toInt = aE a x.toInt ∧ qGd a y.toInt := by
  have f := BF_fr hI h g h0 (by omega) hn
  rw [e]
  exact ⟨(aE_go (by rw [RB_ro h]; exact h1) f).symm, Gd_s hI g f h0 (by omega)⟩
theorem BF_e1 (h : qRB us nr kr kd ws at₉ ho wd wi ow rt wk wl wm nu ro fo le ra pi a) (h1 : ro.toInt ≤ x.toInt) : aE a x.toInt = x.toInt := aE_st (by rw [RB_ro h]; omega)
theorem BF_e2 (hI : qI a) (h : qRB us nr kr kd ws at₉ ho wd wi ow rt wk wl wm nu ro fo le ra pi a) (hO : zOw us at₉ ow) (h0 : 0 ≤ x.toInt) (h5 : x.toInt < 4500) (hn : 0 ≤ (ow x.toNatClampNeg).toInt) (hx : (ow x.toNatClampNeg).toInt ≤ 3099) : aE a x.toInt = x.toInt := by
  have ob := OB_y (p := x.toInt) hI h.1 hO h0 h5 hn (by show (ow x.toNatClampNeg).toInt < 3100; omega)
  exact aE_st (fun z => by have := z.2; have := ob.2.2; omega)
/-- what a search for a free block answers -/
def qBF (a : Nat → Nat → Int32) (f ro : Int) (v bs : Int) : Prop := (v = -1 ∧ aN a f = ro) ∨ (v = aN a f ∧ v + bs = aE a v ∧ qGd a (v + bs) ∧ v < ro ∧ 0 ≤ v ∧ v + bs ≤ ro)
theorem aN_ge (h : zSz a) : ∀ (n : Nat) (p : Int), ((a 87 0).toInt - p).toNat = n → p ≤ (a 87 0).toInt → p ≤ aN a p ∧ aN a p ≤ (a 87 0).toInt ∧ (aN a p < (a 87 0).toInt → (zOb a (aN a p)).toInt < 0) := by
  intro n
  induction n using Nat.strongRecOn with
  | _ n IH =>
    intro p hn hp
    by_cases c : p < (a 87 0).toInt
    · by_cases d : (zOb a p).toInt < 0
      · rw [aN_fr c d]
        exact ⟨by omega, by omega, fun _ => d⟩
      · have s0 := h p (by omega)
        rw [aN_ob h c (by omega)]
        by_cases e : p + (a 128 (zOb a p).toNatClampNeg).toInt ≤ (a 87 0).toInt
        · have q := IH _ (by omega) (p + (a 128 (zOb a p).toNatClampNeg).toInt) rfl e
          exact ⟨by omega, q.2.1, q.2.2⟩
        · rw [aN_ro (by omega)]
          exact ⟨by omega, by omega, fun w => by omega⟩
    · rw [aN_ro (by omega)]
      exact ⟨by omega, by omega, fun w => by omega⟩
theorem aE_ge : ∀ (n : Nat) (p : Int), ((a 87 0).toInt - p).toNat = n → p ≤ aE a p ∧ (p < (a 87 0).toInt → (zOb a p).toInt < 0 → p + 1 ≤ aE a p) ∧ (p ≤ (a 87 0).toInt → aE a p ≤ (a 87 0).toInt) := by
  intro n
  induction n using Nat.strongRecOn with
  | _ n IH =>
    intro p hn
    by_cases c : p < (a 87 0).toInt ∧ (zOb a p).toInt < 0
    · rw [aE_go c.1 c.2]
      have q := IH _ (by omega) (p + 1) rfl
      exact ⟨by omega, fun _ _ => q.1, fun _ => q.2.2 (by omega)⟩
    · rw [aE_st c]
      exact ⟨by omega, fun w1 w2 => absurd ⟨w1, w2⟩ c, fun w => w⟩
theorem aNE (h : zSz a) (h1 : p < (a 87 0).toInt) (h2 : (zOb a p).toInt < 0) : p + 1 ≤ aN a (aE a p) ∧ aN a (aE a p) ≤ (a 87 0).toInt ∧ (aN a (aE a p) < (a 87 0).toInt → (zOb a (aN a (aE a p))).toInt < 0) := by
  have q := aE_ge (a := a) _ p rfl
  have q1 := q.2.1 h1 h2
  have r := aN_ge h _ (aE a p) rfl (q.2.2 (by omega))
  exact ⟨by omega, r.2.1, r.2.2⟩
/-- enough fuel is enough -/
theorem aFf_fu (h : zSz a) (hb : b ≤ (a 87 0).toInt) : ∀ (k k₉ : Nat) (p : Int), (p < (a 87 0).toInt → (zOb a p).toInt < 0) → ((a 87 0).toInt - p).toNat ≤ k → ((a 87 0).toInt - p).toNat ≤ k₉ → aFf a z b k p = aFf a z b k₉ p := by
  intro k
  induction k with
  | zero =>
    intro k₉ p hf h1 h2
    rw [aFf_st (Or.inl rfl), aFf_st (Or.inr (by omega))]
  | succ k ih =>
    intro k₉ p hf h1 h2
    by_cases c : p < b
    · have f := hf (by omega)
      cases k₉ with
      | zero => omega
      | succ k₉ =>
        by_cases d : z ≤ aE a p - p
        · rw [aFf_y c d, aFf_y c d]
        · rw [aFf_n c d, aFf_n c d]
          have q := aNE h (by omega) f
          exact ih k₉ _ q.2.2 (by omega) (by omega)
    · rw [aFf_st (Or.inr c), aFf_st (Or.inr c)]
theorem aFl_fu (h : zSz a) : ∀ (k k₉ : Nat) (p q l : Int), (p < (a 87 0).toInt → (zOb a p).toInt < 0) → ((a 87 0).toInt - p).toNat ≤ k → ((a 87 0).toInt - p).toNat ≤ k₉ → aFl a z s k p q l = aFl a z s k₉ p q l := by
  intro k
  induction k with
  | zero =>
    intro k₉ p q l hf h1 h2
    rw [aFl_st (Or.inl rfl), aFl_st (Or.inr (by omega))]
  | succ k ih =>
    intro k₉ p q l hf h1 h2
    by_cases c : p < (a 87 0).toInt
    · have f := hf c
      cases k₉ with
      | zero => omega
      | succ k₉ =>
        have w := aNE h c f
        show (if p < (a 87 0).toInt then (if z ≤ aE a p - p ∧ (q = -1 ∨ (if s = 0 then l < aE a p - p else aE a p - p < l)) then aFl a z s k (aN a (aE a p)) p (aE a p - p) else aFl a z s k (aN a (aE a p)) q l) else q) = (if p < (a 87 0).toInt then (if z ≤ aE a p - p ∧ (q = -1 ∨ (if s = 0 then l < aE a p - p else aE a p - p < l)) then aFl a z s k₉ (aN a (aE a p)) p (aE a p - p) else aFl a z s k₉ (aN a (aE a p)) q l) else q)
        rw [ih k₉ _ p (aE a p - p) w.2.2 (by omega) (by omega), ih k₉ _ q l w.2.2 (by omega) (by omega)]
    · rw [aFl_st (Or.inr c), aFl_st (Or.inr c)]
/-- the rest of a search, from the block at p on -/
def qFF (a : Nat → Nat → Int32) (z b ro p bs T : Int) : Prop := (p = -1 ∧ T = -1) ∨ (0 ≤ p ∧ p < ro ∧ p + bs = aE a p ∧ p + bs ≤ ro ∧ qGd a (p + bs) ∧ (zOb a p).toInt < 0 ∧ aFf a z b 4500 p = T)
theorem FF_of (hI : qI a) (h : qRB us nr kr kd ws at₉ ho wd wi ow rt wk wl wm nu ro fo le ra pi a) (hf : 0 ≤ q ∧ q ≤ ro.toInt) (hb : b ≤ ro.toInt) (h1 : qBF a q ro.toInt p e) (hT : aFf a z b 4500 (aN a q) = T) : qFF a z b ro.toInt p e T := by
  have r := RB_ro h
  have g := aN_ge (Sz_I hI) _ q rfl (by rw [r]; exact hf.2)
  rw [r] at g
  rcases h1 with w | w
  · rw [w.2, aFf_st (Or.inr (by omega))] at hT
    exact Or.inl ⟨w.1, hT.symm⟩
  · refine Or.inr ⟨w.2.2.2.2.1, w.2.2.2.1, w.2.1, w.2.2.2.2.2, w.2.2.1, ?_, ?_⟩
    · rw [w.1]
      exact g.2.2 (by rw [← w.1]; exact w.2.2.2.1)
    · rw [w.1]
      exact hT
theorem FF_go (hI : qI a) (h : qRB us nr kr kd ws at₉ ho wd wi ow rt wk wl wm nu ro fo le ra pi a) (h5 : ro.toInt ≤ 1500) (hb : b ≤ ro.toInt) (h0 : 0 ≤ p) (h1 : qFF a z b ro.toInt p e T) (hp : p < b) (hl : e < z) {p₉ e₉ : Int} (q2 : q = p + e) (h2 : qBF a q ro.toInt p₉ e₉) : qFF a z b ro.toInt p₉ e₉ T := by
  rcases h1 with w | w
  · omega
  · have r := RB_ro h
    have ge := (aE_ge (a := a) _ p rfl).1
    refine FF_of hI h (q := q) (by omega) hb h2 ?_
    rw [← w.2.2.2.2.2.2, q2, w.2.2.1]
    have s := Sz_I hI
    have ne := aNE s (by rw [r]; exact w.2.1) w.2.2.2.2.2.1
    rw [aFf_fu (k := 4500) (k₉ := 4499 + 1) (p := p) s (by rw [r]; exact hb) (fun _ => w.2.2.2.2.2.1) (by rw [r]; omega) (by rw [r]; omega), aFf_n hp (by omega)]
    exact aFf_fu s (by rw [r]; exact hb) _ _ _ ne.2.2 (by rw [r]; omega) (by rw [r]; omega)
theorem FF_gd (h1 : qFF a z b e p q T) (h0 : 0 ≤ p) : qGd a (p + q) ∧ p + q ≤ e ∧ p < e := by
  rcases h1 with w | w
  · omega
  · exact ⟨w.2.2.2.2.1, w.2.2.2.1, w.2.1⟩
theorem FF_y (h1 : qFF a z b e p q T) (h0 : 0 ≤ p) (hp : p < b) (hl : z ≤ q) : p = T := by
  rcases h1 with w | w
  · omega
  · rw [← w.2.2.2.2.2.2]
    exact (aFf_y hp (by omega)).symm
theorem FF_n (h1 : qFF a z b e p q T) (hp : p < 0 ∨ b ≤ p) : (-1 : Int) = T := by
  rcases h1 with w | w
  · exact w.2.symm
  · rw [← w.2.2.2.2.2.2]
    exact (aFf_st (Or.inr (by omega))).symm
/-- where a place that is no inner word begins -/
theorem SO_st (hI : qI a) (h : qRB us nr kr kd ws at₉ ho wd wi ow rt wk wl wm nu ro fo le ra pi a) (hO : zOw us at₉ ow) (g : qGd a x.toInt) (h0 : 0 ≤ x.toInt) (h1 : x.toInt < z) (hz : z ≤ ro.toInt) (gz : qGd a z) (h5 : ro.toInt ≤ 1500) (hn : 0 ≤ (ow x.toNatClampNeg).toInt) (hx : (ow x.toNatClampNeg).toInt ≤ 3099) (e : y.toInt = x.toInt + ((ws (ow x.toNatClampNeg).toNatClampNeg).toInt + 1)) : y.toInt ≤ z ∧ qGd a y.toInt := by
  have bf := BF_ob hI h hO g h0 (by omega) h5 hn hx e
  refine ⟨?_, bf.2.1⟩
  have ob := OB_y (p := x.toInt) hI h.1 hO h0 (by omega) hn (by show (ow x.toNatClampNeg).toInt < 3100; omega)
  obtain ⟨n, n1, n2, n3, n4⟩ := OB_al hI g ob.2.2
  have gn := gz n n1
  have hs := tn_lt hn (by omega)
  have o := hO x.toNatClampNeg (by have := tn_cast h0; omega) hn
  have w := (h.1.1 _ hs o.1).2.2.2.2.2.1
  have e1 : (a 128 (zOb a x.toInt).toNatClampNeg).toInt = (ws (ow x.toNatClampNeg).toNatClampNeg).toInt + 1 := by
    rw [ob.2.1]
    exact i_p1 (by have := w.2; exact Int.lt_of_le_of_lt this (by decide))
  rw [n4] at e1
  omega
theorem SO_s2 (hI : qI a) (h : qRB us nr kr kd ws at₉ ho wd wi ow rt wk wl wm nu ro fo le ra pi a) (hO : zOw us at₉ ow) (g : qGd a x.toInt) (h0 : 0 ≤ x.toInt) (h1 : x.toInt < z) (hz : z ≤ ro.toInt) (gz : qGd a z) (h5 : ro.toInt ≤ 1500) (hn : 0 ≤ (ow x.toNatClampNeg).toInt) (hx : (ow x.toNatClampNeg).toInt ≤ 3099) : (x + (ws (ow x.toNatClampNeg).toNatClampNeg + 1)).toInt ≤ z := (SO_st hI h hO g h0 h1 hz gz h5 hn hx (sz_add h hO h0 (by omega) hn hx)).1
/-- the best so far -/
def qS (fo : Int32) : Int32 := if fo = 2 then 1 else 0
def qFL (a : Nat → Nat → Int32) (z : Int) (fo : Int32) (ro p bs q l T : Int) : Prop := (p = -1 ∧ T = q) ∨ (0 ≤ p ∧ p < ro ∧ p + bs = aE a p ∧ p + bs ≤ ro ∧ qGd a (p + bs) ∧ (zOb a p).toInt < 0 ∧ aFl a z (qS fo) 4500 p q l = T)
theorem FL_of (hI : qI a) (h : qRB us nr kr kd ws at₉ ho wd wi ow rt wk wl wm nu ro fo le ra pi a) {f l : Int} (hf : 0 ≤ f ∧ f ≤ ro.toInt) (h1 : qBF a f ro.toInt p e) (hT : aFl a z (qS fo) 4500 (aN a f) q l = T) : qFL a z fo ro.toInt p e q l T := by
  have r := RB_ro h
  have g := aN_ge (Sz_I hI) _ f rfl (by rw [r]; exact hf.2)
  rw [r] at g
  rcases h1 with w | w
  · rw [w.2, aFl_st (Or.inr (by rw [r]; omega))] at hT
    exact Or.inl ⟨w.1, hT.symm⟩
  · refine Or.inr ⟨w.2.2.2.2.1, w.2.2.2.1, w.2.1, w.2.2.2.2.2, w.2.2.1, ?_, ?_⟩
    · rw [w.1]
      exact g.2.2 (by rw [← w.1]; exact w.2.2.2.1)
    · rw [w.1]
      exact hT
theorem FL_nx (hI : qI a) (h : qRB us nr kr kd ws at₉ ho wd wi ow rt wk wl wm nu ro fo le ra pi a) (h5 : ro.toInt ≤ 1500) {l q₉ l₉ : Int} (h0 : 0 ≤ p) (hp : p < ro.toInt) (hf : (zOb a p).toInt < 0) (he : p + e = aE a p) (hr : p + e ≤ ro.toInt) (ht : aFl a z (qS fo) 4500 p q l = aFl a z (qS fo) 4499 (aN a (aE a p)) q₉ l₉) (hT : aFl a z (qS fo) 4500 p q l = T) {f p₉ e₉ : Int} (q2 : f = p + e) (h2 : qBF a f ro.toInt p₉ e₉) : qFL a z fo ro.toInt p₉ e₉ q₉ l₉ T := by
  have r := RB_ro h
  have s := Sz_I hI
  have ge := (aE_ge (a := a) _ p rfl).1
  refine FL_of hI h (f := f) (by omega) h2 ?_
  rw [← hT, ht, q2, he]
  have ne := aNE s (by rw [r]; exact hp) hf
  exact aFl_fu s _ _ _ _ _ ne.2.2 (by rw [r]; omega) (by rw [r]; omega)
theorem FL_y (hI : qI a) (h : qRB us nr kr kd ws at₉ ho wd wi ow rt wk wl wm nu ro fo le ra pi a) (h5 : ro.toInt ≤ 1500) {l : Int} (h0 : 0 ≤ p) (h1 : qFL a z fo ro.toInt p e q l T) (hl : z ≤ e) (hc : q < 0 ∨ (fo = 2 ∧ e < l) ∨ (¬ fo = 2 ∧ l < e)) (hq : -1 ≤ q) {f p₉ e₉ : Int} (q2 : f = p + e) (h2 : qBF a f ro.toInt p₉ e₉) : qFL a z fo ro.toInt p₉ e₉ p e T := by
  rcases h1 with w | w
  · omega
  · refine FL_nx hI h h5 h0 w.2.1 w.2.2.2.2.2.1 w.2.2.1 w.2.2.2.1 ?_ w.2.2.2.2.2.2 q2 h2
    have r := RB_ro h
    have q1 := aFl_y (a := a) (p := p) (z := z) (q := q) (l := l) (s := qS fo) (k := 4499) (by rw [r]; exact w.2.1) (by omega) (by
      rcases hc with c | c | c
      · exact Or.inl (by omega)
      · exact Or.inr (Or.inr ⟨by unfold qS; rw [if_pos c.1]; decide, by omega⟩)
      · exact Or.inr (Or.inl ⟨by unfold qS; rw [if_neg c.1], by omega⟩))
    rw [show aE a p - p = e by omega] at q1
    exact q1
theorem FL_n (hI : qI a) (h : qRB us nr kr kd ws at₉ ho wd wi ow rt wk wl wm nu ro fo le ra pi a) (h5 : ro.toInt ≤ 1500) {l : Int} (h0 : 0 ≤ p) (h1 : qFL a z fo ro.toInt p e q l T) (hc : e < z ∨ (0 ≤ q ∧ ((fo = 2 ∧ l ≤ e) ∨ (¬ fo = 2 ∧ e ≤ l)))) {f p₉ e₉ : Int} (q2 : f = p + e) (h2 : qBF a f ro.toInt p₉ e₉) : qFL a z fo ro.toInt p₉ e₉ q l T := by
  rcases h1 with w | w
  · omega
  · refine FL_nx hI h h5 h0 w.2.1 w.2.2.2.2.2.1 w.2.2.1 w.2.2.2.1 ?_ w.2.2.2.2.2.2 q2 h2
    have r := RB_ro h
    exact aFl_n (k := 4499) (by rw [r]; exact w.2.1) (by
      rcases hc with c | ⟨c0, c | c⟩
      · exact Or.inl (by omega)
      · exact Or.inr ⟨by omega, Or.inr ⟨by unfold qS; rw [if_pos c.1]; decide, by omega⟩⟩
      · exact Or.inr ⟨by omega, Or.inl ⟨by unfold qS; rw [if_neg c.1], by omega⟩⟩)
theorem FL_gd {l ro : Int} (h1 : qFL a z fo ro p e q l T) (h0 : 0 ≤ p) : qGd a (p + e) ∧ p + e ≤ ro ∧ p < ro := by
  rcases h1 with w | w
  · omega
  · exact ⟨w.2.2.2.2.1, w.2.2.2.1, w.2.1⟩
theorem FL_e {l ro : Int} (h1 : qFL a z fo ro p e q l T) (h0 : p < 0) : q = T := by
  rcases h1 with w | w
  · exact w.2.symm
  · omega
theorem Ft_0 (h : a 87 1 = 0) (hz : b = (a 87 0).toInt) : aFt a z = aFf a z b 4500 (aN a 0) := by
  unfold aFt
  rw [if_pos h, hz]
theorem Ft_1 (h : a 87 1 = 1) : aFt a z = aFx a z := by
  unfold aFt
  rw [if_neg (by rw [h]; decide), if_pos h]
theorem Ft_2 (h0 : ¬ a 87 1 = 0) (h1 : ¬ a 87 1 = 1) : aFt a z = aFl a z (qS (a 87 1)) 4500 (aN a 0) (-1) 0 := by
  unfold aFt qS
  rw [if_neg h0, if_neg h1]
  by_cases c : a 87 1 = 2
  · rw [if_pos c, if_pos c]
  · rw [if_neg c, if_neg c]
theorem Fx_y (h : qRB us nr kr kd ws at₉ ho wd wi ow rt wk wl wm nu ro fo le ra pi a) {f v : Int} (el : f = le.toInt) (h1 : v = aFf a z ro.toInt 4500 (aN a f)) (hv : 0 ≤ v) : v = aFx a z := by
  rw [el, ← RB_ro h, ← RB_le h] at h1
  unfold aFx
  rw [← h1, if_neg (by omega)]
theorem Fx_n (h : qRB us nr kr kd ws at₉ ho wd wi ow rt wk wl wm nu ro fo le ra pi a) {f v v2 : Int} (el : f = le.toInt) (h1 : v = aFf a z ro.toInt 4500 (aN a f)) (h2 : v2 = aFf a z e 4500 (aN a 0)) (ee : e = le.toInt) (hv : v = -1) : v2 = aFx a z := by
  rw [el, ← RB_ro h, ← RB_le h] at h1
  rw [ee, ← RB_le h] at h2
  unfold aFx
  rw [← h1, if_pos hv]
  exact h2
end QB
theorem lp_226r_42 {X : Nat × (Nat → Int32)} {P : Option ma_V → (Nat → Nat → Int32) → Prop} {aa : Nat→Nat→Int32} {f : Int32} {e : Int32} {m0 : Nat → Nat → Int32} (h0 : zV m0) (K : ∀ v m₉, zF wr_226 m0 m₉ → zV m₉ → (v.toInt = -1 ∨ (f.toInt ≤ v.toInt ∧ v.toInt < e.toInt ∧ 1 ≤ (m₉ 94 84).toInt ∧ v.toInt + (m₉ 94 84).toInt ≤ e.toInt)) → (qBF aa f.toInt (m₉ 94 11).toInt v.toInt (m₉ 94 84).toInt) → P (some (.inl v)) m₉) : ∀ (n : Nat) (m : Nat → Nat → Int32) (l2 : Int32) (l3 : Int32) (l4 : Int32), (l2.toInt - l4.toInt).toNat = n → zF wr_226 m0 m → zV m → (0 ≤ l3.toInt) → (l3.toInt < l2.toInt) → (l3.toInt ≤ l4.toInt) → (l4.toInt ≤ l2.toInt) → (l2.toInt = e.toInt) → (l2.toInt = (m 94 11).toInt) → (f.toInt ≤ l3.toInt) → (l3.toInt < l4.toInt ∨ (l4 = l3 ∧ ((m 111) l3.toNatClampNeg).toInt < 0)) → (qGd aa l4.toInt) → (aN aa f.toInt = l3.toInt) → (aE aa l4.toInt = aE aa l3.toInt) → (qRB (m 99) (m 100) (m 98) (m 101) (m 102) (m 103) (m 107) (m 108) (m 109) (m 111) (m 112) (m 113) (m 114) (m 94 55) (m 94 46) (m 94 11) (m 94 12) (m 94 62) (m 94 17) (m 94 9) aa) → (qI aa) → (zOw (m 99) (m 103) (m 111)) → zm X 1 21 226 42 [(0, .inr (.inr (some 94))), (2, .inl l2), (3, .inl l3), (4, .inl l4)] m P := by
  intro n
  induction n using Nat.strongRecOn with
  | _ n IH =>
    intro m l2 l3 l4 hmu hF hV hi0 hi1 hi2 hi3 hi4 hi5 hi6 r_BQ r_GD r_NV r_EE r_RB r_QI r_OW
    refine g_226_42 l2 l3 l4 ?_
    have f1 : 0 ≤ (m 94 11).toInt ∧ (m 94 11).toInt ≤ 1500 := rs_94_11 (m := m) hV
    have b2 := i_bd l2
    have b3 := i_bd l4
    refine zd (fun (h4 : l2 ≤ l4) => ?_) (fun (h4 : ¬ l2 ≤ l4) => ?_)
    · skip
      have g5 := i_le h4
      try have gq : l3.toInt < l4.toInt := r_BQ.elim id (fun z => absurd z.2 (by rw [← z.1]; omega))
      try have bo := BF_o2 r_QI r_RB r_OW r_GD (by omega) (by omega) (by omega) (by omega) (by omega)
      have b7 := i_bd l3
      first | have e8 : (l4 - l3).toInt = l4.toInt - l3.toInt := i_sub (by omega) (by omega) | have b9 := i_bd (l4 - l3)
      have hV6 : zV (ma_u m 94 84 (l4 - l3)) := us_94_84 hV (by omega) (by omega)
      exact K (l3) _ (zF_u hF rfl) hV6 (show l3.toInt = -1 ∨ (f.toInt ≤ l3.toInt ∧ l3.toInt < e.toInt ∧ 1 ≤ (l4 - l3).toInt ∧ l3.toInt + (l4 - l3).toInt ≤ e.toInt) from by omega) (show qBF aa f.toInt (m 94 11).toInt l3.toInt (l4 - l3).toInt from by first | (have ee : l4.toInt = aE aa l3.toInt := ((BF_e1 r_RB (by omega)).symm.trans r_EE); exact Or.inr ⟨r_NV.symm, by omega, Gd_c r_GD (by omega), by omega, by omega, by omega⟩; done) | (have ee : l4.toInt = aE aa l3.toInt := ((BF_e2 r_QI r_RB r_OW (by omega) (by omega) (by omega) (by omega)).symm.trans r_EE); exact Or.inr ⟨r_NV.symm, by omega, Gd_c r_GD (by omega), by omega, by omega, by omega⟩; done) | (exfalso; omega; done) | (exfalso; contradiction; done))
    · skip
      have g10 := i_nle h4
      have hg11 : (0 ≤ l4 ∧ l4.toNatClampNeg < 4600) := i_ix (by omega) (by omega)
      refine ⟨hg11, ?_⟩
      have li12 : (0 : Int32).toInt = 0 := rfl
      first | have f13 : -1 ≤ (m 111 l4.toNatClampNeg).toInt ∧ (m 111 l4.toNatClampNeg).toInt ≤ 3099 := ra_111 (m := m) hV (k := l4.toNatClampNeg) (i_ix (n := 4600) (by omega) (by omega)).2 | have b14 := i_bd (m 111 l4.toNatClampNeg)
      refine zd (fun (h15 : (0 : Int32) ≤ (m 111 l4.toNatClampNeg)) => ?_) (fun (h15 : ¬ (0 : Int32) ≤ (m 111 l4.toNatClampNeg)) => ?_)
      · skip
        have g16 := i_le h15
        try have gq : l3.toInt < l4.toInt := r_BQ.elim id (fun z => absurd z.2 (by rw [← z.1]; omega))
        try have bo := BF_o2 r_QI r_RB r_OW r_GD (by omega) (by omega) (by omega) (by omega) (by omega)
        have b18 := i_bd l3
        first | have e19 : (l4 - l3).toInt = l4.toInt - l3.toInt := i_sub (by omega) (by omega) | have b20 := i_bd (l4 - l3)
        have hV17 : zV (ma_u m 94 84 (l4 - l3)) := us_94_84 hV (by omega) (by omega)
        exact K (l3) _ (zF_u hF rfl) hV17 (show l3.toInt = -1 ∨ (f.toInt ≤ l3.toInt ∧ l3.toInt < e.toInt ∧ 1 ≤ (l4 - l3).toInt ∧ l3.toInt + (l4 - l3).toInt ≤ e.toInt) from by omega) (show qBF aa f.toInt (m 94 11).toInt l3.toInt (l4 - l3).toInt from by first | (have ee : l4.toInt = aE aa l3.toInt := ((BF_e1 r_RB (by omega)).symm.trans r_EE); exact Or.inr ⟨r_NV.symm, by omega, Gd_c r_GD (by omega), by omega, by omega, by omega⟩; done) | (have ee : l4.toInt = aE aa l3.toInt := ((BF_e2 r_QI r_RB r_OW (by omega) (by omega) (by omega) (by omega)).symm.trans r_EE); exact Or.inr ⟨r_NV.symm, by omega, Gd_c r_GD (by omega), by omega, by omega, by omega⟩; done) | (exfalso; omega; done) | (exfalso; contradiction; done))
      · skip
        have g21 := i_nle h15
        try have gq : l3.toInt < l4.toInt := r_BQ.elim id (fun z => absurd z.2 (by rw [← z.1]; omega))
        try have bo := BF_o2 r_QI r_RB r_OW r_GD (by omega) (by omega) (by omega) (by omega) (by omega)
        have b22 := i_bd l3
        first | have e23 : (l4 + (1 : Int32)).toInt = l4.toInt + (1) := i_addk rfl (by omega) (by omega) | have b24 := i_bd (l4 + (1 : Int32))
        exact IH (l2.toInt - (l4 + (1 : Int32)).toInt).toNat (by omega) _ (l2) (l3) ((l4 + (1 : Int32))) rfl hF hV (by omega) (by omega) (by omega) (by omega) (by omega) (show l2.toInt = (m 94 11).toInt from by omega) (by omega) (show l3.toInt < (l4 + (1 : Int32)).toInt ∨ ((l4 + (1 : Int32)) = l3 ∧ ((m 111) l3.toNatClampNeg).toInt < 0) from by first | (exact Or.inl (by omega)) | (exact Or.inr ⟨rfl, by omega⟩) | (exfalso; omega; done) | (exfalso; contradiction; done)) (show qGd aa (l4 + (1 : Int32)).toInt from by first | (exact r_GD) | (exact (BF_ob r_QI r_RB r_OW r_GD (by omega) (by omega) (by omega) (by omega) (by omega) (by omega)).2.1) | (exact (BF_e r_QI r_RB r_GD (by omega) (by omega) (by omega) (by omega) (by omega)).2) | (exfalso; omega; done) | (exfalso; contradiction; done)) r_NV (show aE aa (l4 + (1 : Int32)).toInt = aE aa l3.toInt from by first | (exact rfl) | (exact (BF_e r_QI r_RB r_GD (by omega) (by omega) (by omega) (by omega) (by omega)).1.trans r_EE) | (exfalso; omega; done) | (exfalso; contradiction; done)) r_RB r_QI r_OW
theorem lp_226r_2 {X : Nat × (Nat → Int32)} {P : Option ma_V → (Nat → Nat → Int32) → Prop} {aa : Nat→Nat→Int32} {f : Int32} {e : Int32} {m0 : Nat → Nat → Int32} (h0 : zV m0) (K : ∀ v m₉, zF wr_226 m0 m₉ → zV m₉ → (v.toInt = -1 ∨ (f.toInt ≤ v.toInt ∧ v.toInt < e.toInt ∧ 1 ≤ (m₉ 94 84).toInt ∧ v.toInt + (m₉ 94 84).toInt ≤ e.toInt)) → (qBF aa f.toInt (m₉ 94 11).toInt v.toInt (m₉ 94 84).toInt) → P (some (.inl v)) m₉) : ∀ (n : Nat) (m : Nat → Nat → Int32) (l2 : Int32) (l3 : Int32), (l2.toInt - l3.toInt).toNat = n → zF wr_226 m0 m → zV m → (0 ≤ l3.toInt) → (l2.toInt = e.toInt) → (l2.toInt = (m 94 11).toInt) → (l3.toInt ≤ l2.toInt) → (f.toInt ≤ l3.toInt) → (qGd aa l3.toInt) → (aN aa l3.toInt = aN aa f.toInt) → (qRB (m 99) (m 100) (m 98) (m 101) (m 102) (m 103) (m 107) (m 108) (m 109) (m 111) (m 112) (m 113) (m 114) (m 94 55) (m 94 46) (m 94 11) (m 94 12) (m 94 62) (m 94 17) (m 94 9) aa) → (qI aa) → (zOw (m 99) (m 103) (m 111)) → zm X 1 21 226 2 [(0, .inr (.inr (some 94))), (2, .inl l2), (3, .inl l3)] m P := by
  intro n
  induction n using Nat.strongRecOn with
  | _ n IH =>
    intro m l2 l3 hmu hF hV hi0 hi1 hi2 hi3 hi4 r_GD r_NN r_RB r_QI r_OW
    refine g_226_2 l2 l3 ?_
    have f1 : 0 ≤ (m 94 11).toInt ∧ (m 94 11).toInt ≤ 1500 := rs_94_11 (m := m) hV
    have b2 := i_bd l2
    have b3 := i_bd l3
    refine zd (fun (h4 : l2 ≤ l3) => ?_) (fun (h4 : ¬ l2 ≤ l3) => ?_)
    · skip
      have g5 := i_le h4
      refine zd (fun (h6 : l3 < l2) => ?_) (fun (h6 : ¬ l3 < l2) => ?_)
      · skip
        have g7 := i_lt h6
        try have bo := BF_o2 r_QI r_RB r_OW r_GD (by omega) (by omega) (by omega) (by omega) (by omega)
        exact lp_226r_42 (f := f) (e := e) h0 K _ _ (l2) (l3) (l3) rfl hF hV (by omega) (by omega) (by omega) (by omega) (by omega) (show l2.toInt = (m 94 11).toInt from by omega) (by omega) (show l3.toInt < l3.toInt ∨ (l3 = l3 ∧ ((m 111) l3.toNatClampNeg).toInt < 0) from by first | (exact Or.inl (by omega)) | (exact Or.inr ⟨rfl, by omega⟩) | (exfalso; omega; done) | (exfalso; contradiction; done)) r_GD (show aN aa f.toInt = l3.toInt from by first | (exact r_NN.symm.trans (BF_n r_QI r_RB r_GD (by omega) (by omega) (by omega) (by omega))) | (exfalso; omega; done) | (exfalso; contradiction; done)) (show aE aa l3.toInt = aE aa l3.toInt from by first | (exact rfl) | (exfalso; omega; done) | (exfalso; contradiction; done)) r_RB r_QI r_OW
      · skip
        have g8 := i_nlt h6
        try have bo := BF_o2 r_QI r_RB r_OW r_GD (by omega) (by omega) (by omega) (by omega) (by omega)
        have li9 : (-1 : Int32).toInt = -1 := rfl
        have f10 : 0 ≤ (m 94 84).toInt ∧ (m 94 84).toInt ≤ 4600 := rs_94_84 (m := m) hV
        exact K ((-1 : Int32)) _ hF hV (show (-1 : Int32).toInt = -1 ∨ (f.toInt ≤ (-1 : Int32).toInt ∧ (-1 : Int32).toInt < e.toInt ∧ 1 ≤ (m 94 84).toInt ∧ (-1 : Int32).toInt + (m 94 84).toInt ≤ e.toInt) from by omega) (show qBF aa f.toInt (m 94 11).toInt (-1 : Int32).toInt (m 94 84).toInt from by first | (exact Or.inl ⟨by decide, r_NN.symm.trans (BF_st r_RB (by omega))⟩) | (exfalso; omega; done) | (exfalso; contradiction; done))
    · skip
      have g11 := i_nle h4
      have hg12 : (0 ≤ l3 ∧ l3.toNatClampNeg < 4600) := i_ix (by omega) (by omega)
      refine ⟨hg12, ?_⟩
      first | have f13 : -1 ≤ (m 111 l3.toNatClampNeg).toInt ∧ (m 111 l3.toNatClampNeg).toInt ≤ 3099 := ra_111 (m := m) hV (k := l3.toNatClampNeg) (i_ix (n := 4600) (by omega) (by omega)).2 | have b14 := i_bd (m 111 l3.toNatClampNeg)
      have li15 : (0 : Int32).toInt = 0 := rfl
      refine zd (fun (h16 : (m 111 l3.toNatClampNeg) < (0 : Int32)) => ?_) (fun (h16 : ¬ (m 111 l3.toNatClampNeg) < (0 : Int32)) => ?_)
      · skip
        have g17 := i_lt h16
        refine zd (fun (h18 : l3 < l2) => ?_) (fun (h18 : ¬ l3 < l2) => ?_)
        · skip
          have g19 := i_lt h18
          try have bo := BF_o2 r_QI r_RB r_OW r_GD (by omega) (by omega) (by omega) (by omega) (by omega)
          exact lp_226r_42 (f := f) (e := e) h0 K _ _ (l2) (l3) (l3) rfl hF hV (by omega) (by omega) (by omega) (by omega) (by omega) (show l2.toInt = (m 94 11).toInt from by omega) (by omega) (show l3.toInt < l3.toInt ∨ (l3 = l3 ∧ ((m 111) l3.toNatClampNeg).toInt < 0) from by first | (exact Or.inl (by omega)) | (exact Or.inr ⟨rfl, by omega⟩) | (exfalso; omega; done) | (exfalso; contradiction; done)) r_GD (show aN aa f.toInt = l3.toInt from by first | (exact r_NN.symm.trans (BF_n r_QI r_RB r_GD (by omega) (by omega) (by omega) (by omega))) | (exfalso; omega; done) | (exfalso; contradiction; done)) (show aE aa l3.toInt = aE aa l3.toInt from by first | (exact rfl) | (exfalso; omega; done) | (exfalso; contradiction; done)) r_RB r_QI r_OW
        · skip
          have g20 := i_nlt h18
          try have bo := BF_o2 r_QI r_RB r_OW r_GD (by omega) (by omega) (by omega) (by omega) (by omega)
          have li21 : (-1 : Int32).toInt = -1 := rfl
          have f22 : 0 ≤ (m 94 84).toInt ∧ (m 94 84).toInt ≤ 4600 := rs_94_84 (m := m) hV
          exact K ((-1 : Int32)) _ hF hV (show (-1 : Int32).toInt = -1 ∨ (f.toInt ≤ (-1 : Int32).toInt ∧ (-1 : Int32).toInt < e.toInt ∧ 1 ≤ (m 94 84).toInt ∧ (-1 : Int32).toInt + (m 94 84).toInt ≤ e.toInt) from by omega) (show qBF aa f.toInt (m 94 11).toInt (-1 : Int32).toInt (m 94 84).toInt from by first | (exact Or.inl ⟨by decide, r_NN.symm.trans (BF_st r_RB (by omega))⟩) | (exfalso; omega; done) | (exfalso; contradiction; done))
      · skip
        have g23 := i_nlt h16
        have hg24 : (0 ≤ l3 ∧ l3.toNatClampNeg < 4600) := i_ix (by omega) (by omega)
        refine ⟨hg24, ?_⟩
        have hg25 : (0 ≤ (m 111 l3.toNatClampNeg) ∧ (m 111 l3.toNatClampNeg).toNatClampNeg < 3100) := i_ix (by omega) (by omega)
        refine ⟨hg25, ?_⟩
        try have bo := BF_o2 r_QI r_RB r_OW r_GD (by omega) (by omega) (by omega) (by omega) (by omega)
        first | have f26 : 0 ≤ (m 102 (m 111 l3.toNatClampNeg).toNatClampNeg).toInt ∧ (m 102 (m 111 l3.toNatClampNeg).toNatClampNeg).toInt ≤ 60 := ra_102 (m := m) hV (k := (m 111 l3.toNatClampNeg).toNatClampNeg) (i_ix (n := 3100) (by omega) (by omega)).2 | have b27 := i_bd (m 102 (m 111 l3.toNatClampNeg).toNatClampNeg)
        first | have e28 : ((m 102 (m 111 l3.toNatClampNeg).toNatClampNeg) + (1 : Int32)).toInt = (m 102 (m 111 l3.toNatClampNeg).toNatClampNeg).toInt + (1) := i_addk rfl (by omega) (by omega) | have b29 := i_bd ((m 102 (m 111 l3.toNatClampNeg).toNatClampNeg) + (1 : Int32))
        first | have e30 : (l3 + ((m 102 (m 111 l3.toNatClampNeg).toNatClampNeg) + (1 : Int32))).toInt = l3.toInt + ((m 102 (m 111 l3.toNatClampNeg).toNatClampNeg) + (1 : Int32)).toInt := i_add (by omega) (by omega) | have b31 := i_bd (l3 + ((m 102 (m 111 l3.toNatClampNeg).toNatClampNeg) + (1 : Int32)))
        exact IH (l2.toInt - (l3 + ((m 102 (m 111 l3.toNatClampNeg).toNatClampNeg) + (1 : Int32))).toInt).toNat (by omega) _ (l2) ((l3 + ((m 102 (m 111 l3.toNatClampNeg).toNatClampNeg) + (1 : Int32)))) rfl hF hV (by omega) (by omega) (show l2.toInt = (m 94 11).toInt from by omega) (by omega) (by omega) (show qGd aa (l3 + ((m 102 (m 111 l3.toNatClampNeg).toNatClampNeg) + (1 : Int32))).toInt from by first | (exact r_GD) | (exact (BF_ob r_QI r_RB r_OW r_GD (by omega) (by omega) (by omega) (by omega) (by omega) (by omega)).2.1) | (exact (BF_e r_QI r_RB r_GD (by omega) (by omega) (by omega) (by omega) (by omega)).2) | (exfalso; omega; done) | (exfalso; contradiction; done)) (show aN aa (l3 + ((m 102 (m 111 l3.toNatClampNeg).toNatClampNeg) + (1 : Int32))).toInt = aN aa f.toInt from by first | (exact rfl) | (exact (BF_ob r_QI r_RB r_OW r_GD (by omega) (by omega) (by omega) (by omega) (by omega) (by omega)).1.trans r_NN) | (exfalso; omega; done) | (exfalso; contradiction; done)) r_RB r_QI r_OW
theorem sp_226r {X : Nat × (Nat → Int32)} {P : Option ma_V → (Nat → Nat → Int32) → Prop} {aa : Nat→Nat→Int32} {m : Nat → Nat → Int32} (f : Int32) (e : Int32) (hV : zV m) (hpre0 : 0 ≤ f.toInt ∧ f.toInt ≤ (m 94 11).toInt) (hpre1 : e.toInt = (m 94 11).toInt) (r_GD : qGd aa f.toInt) (r_RB : qRB (m 99) (m 100) (m 98) (m 101) (m 102) (m 103) (m 107) (m 108) (m 109) (m 111) (m 112) (m 113) (m 114) (m 94 55) (m 94 46) (m 94 11) (m 94 12) (m 94 62) (m 94 17) (m 94 9) aa) (r_QI : qI aa) (r_OW : zOw (m 99) (m 103) (m 111)) (KZ : ∀ v m₉, zV (zov wr_226 m m₉) → (v.toInt = -1 ∨ (f.toInt ≤ v.toInt ∧ v.toInt < e.toInt ∧ 1 ≤ (m₉ 94 84).toInt ∧ v.toInt + (m₉ 94 84).toInt ≤ e.toInt)) → (qBF aa f.toInt (m 94 11).toInt v.toInt (m₉ 94 84).toInt) → P (some (.inl v)) (zov wr_226 m m₉)) : zm X 1 21 226 0 [(0, .inr (.inr (some 94))), (1, .inl f), (2, .inl e)] m P := by
  have K : ∀ v m₉, zF wr_226 m m₉ → zV m₉ → (v.toInt = -1 ∨ (f.toInt ≤ v.toInt ∧ v.toInt < e.toInt ∧ 1 ≤ (m₉ 94 84).toInt ∧ v.toInt + (m₉ 94 84).toInt ≤ e.toInt)) → (qBF aa f.toInt (m₉ 94 11).toInt v.toInt (m₉ 94 84).toInt) → P (some (.inl v)) m₉ := by
    intro v m₉ hf z q0 q1
    have e := zov_eq hf
    rw [e] at z ⊢
    try rw [e] at q0
    try rw [e] at q1
    exact KZ v m₉ z q0 q1
  refine g_226_0 f e ?_
  have f1 : 0 ≤ (m 94 11).toInt ∧ (m 94 11).toInt ≤ 1500 := rs_94_11 (m := m) hV
  try have bo := BF_o2 r_QI r_RB r_OW r_GD (by omega) (by omega) (by omega) (by omega) (by omega)
  have b2 := i_bd e
  have b3 := i_bd f
  exact lp_226r_2 (f := f) (e := e) hV K _ _ (e) (f) rfl zF_rfl hV (by omega) (by omega) (show e.toInt = (m 94 11).toInt from by omega) (by omega) (by omega) r_GD (show aN aa f.toInt = aN aa f.toInt from by first | (exact rfl) | (exfalso; omega; done) | (exfalso; contradiction; done)) r_RB r_QI r_OW

