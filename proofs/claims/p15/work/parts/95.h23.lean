/-! the reference by numbers (written by wip/tools/gen18r.py) -/
/-! WORDS ARE WRITTEN -/
section QW
variable {aa a b : Nat → Nat → Int32} {us nr kr kd ws at' ho wd wd' wi ow rt wk wl kp co gr : Nat → Int32} {wm nu ro fo le ra pi y x z i j ga gm r s v : Int32} {n k u t : Nat} {m m2 : Nat → Nat → Int32}
/-- an inner word of one that is there -/
def qWp (a : Nat → Nat → Int32) (n : Nat) (i : Int32) : Prop := xAl a n ∧ 0 ≤ i.toInt ∧ i.toInt < (a 128 n).toInt - 1
theorem wp_i (hI : qI a) (h : qWp a n i) : (a 130 n + 1 + i).toInt = (a 130 n).toInt + 1 + i.toInt ∧ 0 ≤ (a 130 n + 1 + i).toInt ∧ (a 130 n + 1 + i).toInt < 4500 := by
  have q := hI.1 n h.1
  have b4 := hI.2.2.2.1.2.2.1
  have h1 := h.2.1
  have h2 := h.2.2
  have e1 := i_p1 (i := a 130 n) (by omega)
  have e : (a 130 n + 1 + i).toInt = (a 130 n + 1).toInt + i.toInt := i_add (by omega) (by omega)
  omega
theorem Ci_eq (hI : qI a) (h : qWp a n i) : aCi a n i x = ma_u a 71 (a 130 n + 1 + i).toNatClampNeg x := by
  have q := wp_i hI h
  exact if_pos ⟨q.2.1, by omega⟩
theorem wp_ne (hI : qI a) (h : qWp a n i) (h2 : qWp a u j) (hne : ¬ (u = n ∧ j = i)) : (a 130 u + 1 + j).toNatClampNeg ≠ (a 130 n + 1 + i).toNatClampNeg := by
  have q := wp_i hI h
  have q2 := wp_i hI h2
  have c1 := tn_cast q.2.1
  have c2 := tn_cast q2.2.1
  intro e
  by_cases z : u = n
  · rw [z] at q2 c2 e
    exact hne ⟨z, Int32.toInt_inj.mp (by omega)⟩
  · have d := hI.2.1 u n h2.1 h.1 z
    have a1 := h.2
    have a2 := h2.2
    omega
theorem wp_rf (hI : qI a) (h : qWp a u j) : aRef a u j = if a (1000 + u) j.toNatClampNeg ≠ 0 then a 71 (a 130 u + 1 + j).toNatClampNeg else -1 := by
  have q := wp_i hI h
  unfold aRef
  by_cases z : a (1000 + u) j.toNatClampNeg ≠ 0
  · rw [if_pos z, if_pos ⟨z, q.2.1, by omega⟩]
  · rw [if_neg z, if_neg (fun w => z w.1)]
theorem Al_71 : xAl (ma_u a 71 k x) = xAl a := by
  funext n
  unfold xAl
  rw [un (by decide)]
theorem Wp_71 : qWp (ma_u a 71 k x) u j ↔ qWp a u j := by
  unfold qWp
  rw [Al_71, un (n := 128) (by decide)]
/-- one that is not there refers to nothing -/
theorem rf_dead (h : qI6 a) (hn : ¬ xAl a u) : aRef a u j = -1 := aRef_no (fun w => w.1 (h u hn _))
theorem I_w (hI : qI a) (h : qWp a n i) : qI (ma_u a 71 (a 130 n + 1 + i).toNatClampNeg x) := by
  have q := wp_i hI h
  have c := tn_cast q.2.1
  obtain ⟨h1, h2, h3, h4, h5, h6⟩ := hI
  have al := Al_71 (a := a) (k := (a 130 n + 1 + i).toNatClampNeg) (x := x)
  have iN := h1 n h.1
  have hi := h.2
  have su := Su_cg (a := ma_u a 71 (a 130 n + 1 + i).toNatClampNeg x) (b := a) (un (by decide)) (un (by decide)) 512
  refine ⟨fun u hu => ?_, fun u u' hu hu' hne => ?_, fun p hp hc => ?_, ?_, ?_, fun u hu k => ?_⟩
  · rw [al] at hu
    have w := h1 u hu
    have cu := tn_cast w.1.2
    rw [un (n := 69) (by decide), un (n := 130) (by decide), un (n := 128) (by decide), un (n := 87) (by decide), xu_o (fun z => ?_)]
    · exact w
    · by_cases z2 : u = n
      · rw [z2] at z cu
        omega
      · have d := h2 u n hu h.1 z2
        have e := z.2
        have iu := w.2.1
        omega
  · rw [al] at hu hu'
    rw [un (n := 130) (by decide), un (n := 128) (by decide)]
    exact h2 u u' hu hu' hne
  · rw [al, un (n := 130) (by decide), un (n := 128) (by decide)] at hc
    rw [xu_o (fun z => hc n h.1 (by omega))]
    exact h3 p hp hc
  · unfold qI4 qGd at h4 ⊢
    rw [al, un (n := 69) (by decide), un (n := 130) (by decide), un (n := 128) (by decide), un (n := 87) (by decide)]
    exact h4
  · rw [su, un (by decide)]
    exact h5
  · rw [al] at hu
    rw [un (by omega)]
    exact h6 u hu k
theorem rf_w (hI : qI a) (h : qWp a n i) (h2 : qWp a u j) : aRef (ma_u a 71 (a 130 n + 1 + i).toNatClampNeg x) u j = if u = n ∧ j = i then (if a (1000 + n) i.toNatClampNeg ≠ 0 then x else -1) else aRef a u j := by
  have I2 := I_w (x := x) hI h
  rw [wp_rf I2 (Wp_71.mpr h2), un (n := 1000 + u) (by omega), un (n := 130) (by decide)]
  by_cases z : u = n ∧ j = i
  · rw [if_pos z, z.1, z.2, xu_s]
  · rw [if_neg z, xu_o (fun w => wp_ne hI h h2 z w.2), wp_rf hI h2]
theorem Ed_wp (h6 : qI6 a) : zEd a u t ↔ xAl a t ∧ ∃ j : Int32, qWp a u j ∧ aRef a u j = Int32.ofNat t := by
  unfold zEd
  constructor
  · rintro ⟨w1, j, w2, w3, w4⟩
    refine ⟨w1, j, ⟨?_, w2, w3⟩, w4⟩
    refine Classical.byContradiction (fun w5 => ?_)
    rw [rf_dead h6 w5] at w4
    have e := ofN_i w1.1
    rw [← w4] at e
    have m1 : (-1 : Int32).toInt = -1 := rfl
    omega
  · rintro ⟨w1, j, ⟨_, w2, w3⟩, w4⟩
    exact ⟨w1, j, w2, w3, w4⟩
theorem Ed_w (hI : qI a) (h : qWp a n i) : zEd (ma_u a 71 (a 130 n + 1 + i).toNatClampNeg x) u t ↔ xAl a t ∧ ∃ j : Int32, qWp a u j ∧ (if u = n ∧ j = i then (if a (1000 + n) i.toNatClampNeg ≠ 0 then x else -1) else aRef a u j) = Int32.ofNat t := by
  rw [Ed_wp (I_w hI h).2.2.2.2.2, Al_71]
  constructor
  · rintro ⟨w1, j, w2, w3⟩
    have w4 := Wp_71.mp w2
    rw [rf_w hI h w4] at w3
    exact ⟨w1, j, w4, w3⟩
  · rintro ⟨w1, j, w2, w3⟩
    refine ⟨w1, j, Wp_71.mpr w2, ?_⟩
    rw [rf_w hI h w2]
    exact w3
/-- an int: nothing refers otherwise -/
theorem Ed_pu (hI : qI a) (h : qWp a n i) (hr : a (1000 + n) i.toNatClampNeg = 0) : zEd (ma_u a 71 (a 130 n + 1 + i).toNatClampNeg x) = zEd a := by
  funext u t
  refine propext ?_
  rw [Ed_w hI h, Ed_wp hI.2.2.2.2.2]
  have e : ∀ j, (if u = n ∧ j = i then (if a (1000 + n) i.toNatClampNeg ≠ 0 then x else -1) else aRef a u j) = aRef a u j := fun j => by
    by_cases z : u = n ∧ j = i
    · rw [if_pos z, if_neg (fun w => w hr), z.1, z.2]
      exact (aRef_no (fun w => w.1 hr)).symm
    · rw [if_neg z]
  simp only [e]
theorem Wp_s (hR : qRB us nr kr kd ws at' ho wd wi ow rt wk wl wm nu ro fo le ra pi a) (h0 : t < 3100) (hu : us t ≠ 0) (hi : 0 ≤ i.toInt) (hi2 : i.toInt < (ws t).toInt) : qWp a (nr t).toNatClampNeg i := by
  have q := hR.1.1 t h0 hu
  refine ⟨R1_al hR.1 h0 hu, hi, ?_⟩
  rw [q.2.2.1, i_p1 (by have := q.2.2.2.2.2.1; omega)]
  omega
theorem RB_w (hR : qRB us nr kr kd ws at' ho wd wi ow rt wk wl wm nu ro fo le ra pi a) (hI : qI a) (hs : t < 3100) (hu : us t ≠ 0) (hi : 0 ≤ i.toInt) (hi2 : i.toInt < (ws t).toInt) (hz : ∀ t' : Nat, t' < 3100 → ∀ i' : Nat, (i' : Int) < (ws t').toInt → us t' ≠ 0 → ¬ (t' = t ∧ i' = i.toNatClampNeg) → zrf kr kd wd' t' i' = zrf kr kd wd t' i') (hx : qU us (zrf kr kd wd' t i.toNatClampNeg) ∧ (if a (1000 + (nr t).toNatClampNeg) i.toNatClampNeg ≠ 0 then x else -1) = qNo nr (zrf kr kd wd' t i.toNatClampNeg)) : qRB us nr kr kd ws at' ho wd' wi ow rt wk wl wm nu ro fo le ra pi (ma_u a 71 (a 130 (nr t).toNatClampNeg + 1 + i).toNatClampNeg x) := by
  have W := Wp_s hR hs hu hi hi2
  have ci := tn_cast hi
  refine ⟨R1_cg hR.1 (un (by decide)) (un (by decide)) (un (by decide)) (un (by decide)), fun t' ht hv i' hi' => ?_, R3_cg hR.2.2.1 (un (by decide)), R3_cg hR.2.2.2.1 (un (by decide)), R5_cg hR.2.2.2.2.1 (un (by decide)) (un (by decide)), R6_cg hR.2.2.2.2.2.1 (un (by decide)), hR.2.2.2.2.2.2.1, R8_cg hR.2.2.2.2.2.2.2 (by rw [un (by decide)]) (un (by decide))⟩
  have q := hR.2.1 t' ht hv i' hi'
  have b := hR.1.1 t' ht hv
  have ei : (Int32.ofNat i').toInt = (i' : Int) := Int32.toInt_ofNat_of_lt (by have := b.2.2.2.2.2.1; omega)
  have W2 := Wp_s hR ht hv (i := Int32.ofNat i') (by omega) (by omega)
  rw [rf_w hI W W2, un (n := 1000 + (nr t').toNatClampNeg) (by omega)]
  by_cases z : t' = t ∧ i' = i.toNatClampNeg
  · rw [z.1, z.2, ofN_tn hi, if_pos ⟨rfl, rfl⟩]
    rw [z.1, z.2] at q
    exact ⟨hx.1, hx.2, q.2.2⟩
  · rw [hz t' ht i' hi' hv z, if_neg (fun w => z ?_)]
    · exact q
    · have e1 := R1_in hR.1 ht hs hv hu w.1
      refine ⟨e1, ?_⟩
      have e2 := congrArg Int32.toInt w.2
      omega
/-! the calls: what they make of a heap, also where they throw -/
noncomputable def qIf (P : Prop) (x y : Nat → Nat → Int32) : Nat → Nat → Int32 := @ite _ P (Classical.propDecidable P) x y
theorem qIf_y {P : Prop} {x y : Nat → Nat → Int32} (h : P) : qIf P x y = x := if_pos h
theorem qIf_n {P : Prop} {x y : Nat → Nat → Int32} (h : ¬ P) : qIf P x y = y := if_neg h
noncomputable def xPu (a : Nat → Nat → Int32) (o i v : Int32) : Nat → Nat → Int32 := qIf (zRq a o ∧ zHw a o i ∧ ¬ zIr a o i) (aCi a o.toNatClampNeg i v) a
noncomputable def xLi (a : Nat → Nat → Int32) (o i t : Int32) : Nat → Nat → Int32 := qIf (zRq a o ∧ (t = -1 ∨ zRq a t) ∧ zHw a o i ∧ zIr a o i) (aLn a o.toNatClampNeg i t) a
def zSl (i : Int32) : Prop := 0 ≤ i.toInt ∧ i.toInt ≤ 15
noncomputable def xRo (a : Nat → Nat → Int32) (i o : Int32) : Nat → Nat → Int32 := qIf (zSl i ∧ (o = -1 ∨ zRq a o)) (aRt a i o) a
noncomputable def xWe (a : Nat → Nat → Int32) (i o : Int32) : Nat → Nat → Int32 := qIf (zSl i ∧ (o = -1 ∨ zRq a o)) (ma_u a 73 i.toNatClampNeg (aNm a o)) a
noncomputable def xHo (a : Nat → Nat → Int32) (o b : Int32) : Nat → Nat → Int32 := qIf (zRq a o ∧ (¬ b = 0 ∨ ¬ a 133 o.toNatClampNeg = 0)) (ma_u a 133 o.toNatClampNeg (a 133 o.toNatClampNeg + (if b = 0 then -1 else 1))) a
noncomputable def xWi (a : Nat → Nat → Int32) (o : Int32) : Nat → Nat → Int32 := qIf (zRq a o) (ma_u a 134 o.toNatClampNeg 1) a
noncomputable def xGr (a : Nat → Nat → Int32) (r : Int32) : Nat → Nat → Int32 := qIf (zSl r) (qIf (aNm a (aTy a) = -1) (aTw a) (aRt (aTw a) r (aTy a))) a
/-- strong: the class's order, and the reference's -/
noncomputable def xSg (a : Nat → Nat → Int32) (i r : Int32) : Nat → Nat → Int32 := qIf (zSl i ∧ zSl r ∧ aNm a (a 73 i.toNatClampNeg) ≠ -1) (aSt (aRt a r (a 73 i.toNatClampNeg)) (a 73 i.toNatClampNeg)) a
noncomputable def ySg (a : Nat → Nat → Int32) (i r : Int32) : Nat → Nat → Int32 := qIf (zSl i ∧ zSl r ∧ aNm a (a 73 i.toNatClampNeg) ≠ -1) (aRt (aSt a (a 73 i.toNatClampNeg)) r (a 73 i.toNatClampNeg)) a
noncomputable def xSp (a : Nat → Nat → Int32) (n : Int32) : Nat → Nat → Int32 := qIf (0 ≤ n.toInt ∧ n.toInt ≤ 1000) (aGo a n.toInt.toNat) a
/-- put: an int -/
theorem RB_pu (hR : qRB us nr kr kd ws at' ho (m 108) wi ow rt wk wl wm nu ro fo le ra pi a) (hI : qI a) (h1 : 0 ≤ s.toInt) (h2 : s.toInt ≤ 3099) (hu : us s.toNatClampNeg ≠ 0) (hi : 0 ≤ i.toInt) (hi2 : i.toInt < (ws s.toNatClampNeg).toInt) (hk : ¬ kd s.toNatClampNeg = 16) (hk2 : ¬ (kd s.toNatClampNeg < 16 ∧ ((kr (kd s.toNatClampNeg).toNatClampNeg >>> (i &&& 31)) &&& 1) = 1)) (hn : nr s.toNatClampNeg = y) : qRB us nr kr kd ws at' ho (ma_u m 108 (s * (60 : Int32) + i).toNatClampNeg x 108) wi ow rt wk wl wm nu ro fo le ra pi (aCi a y.toNatClampNeg i x) ∧ a (1000 + y.toNatClampNeg) i.toNatClampNeg = 0 ∧ qWp a y.toNatClampNeg i := by
  have hs := tn_lt h1 (by omega)
  have ci := tn_cast hi
  have b := hR.1.1 _ hs hu
  have zp := zrf_put (kr := kr) (kd := kd) (m := m) (c := 108) (x := x) h1 h2 hi (by have := b.2.2.2.2.2.1; omega) hk hk2
  have q := hR.2.1 _ hs hu i.toNatClampNeg (by omega)
  have ir : ¬ qIr kr kd s.toNatClampNeg i.toNatClampNeg := by
    unfold qIr
    rw [ofN_tn hi]
    exact fun w => w.elim hk hk2
  have r0 : a (1000 + (nr s.toNatClampNeg).toNatClampNeg) i.toNatClampNeg = 0 := by
    by_cases z : a (1000 + (nr s.toNatClampNeg).toNatClampNeg) i.toNatClampNeg = 0
    · exact z
    · exact absurd (q.2.2.mp z) ir
  have W := Wp_s hR hs hu hi hi2
  rw [← hn]
  refine ⟨?_, r0, W⟩
  rw [Ci_eq hI W]
  refine RB_w hR hI hs hu hi hi2 (fun t' ht i' hi' hv _ => zp t' i' (by have := (hR.1.1 t' ht hv).2.2.2.2.2.1; omega)) ?_
  rw [zp _ _ (by have := b.2.2.2.2.2.1; omega)]
  refine ⟨q.1, ?_⟩
  rw [if_neg (fun w => w r0), ← q.2.1, ofN_tn hi]
  exact (aRef_no (fun w => w.1 r0)).symm
/-- link: a REFERENCE -/
theorem RB_li (hR : qRB us nr kr kd ws at' ho (m 108) wi ow rt wk wl wm nu ro fo le ra pi a) (hI : qI a) (h1 : 0 ≤ s.toInt) (h2 : s.toInt ≤ 3099) (hu : us s.toNatClampNeg ≠ 0) (hi : 0 ≤ i.toInt) (hi2 : i.toInt < (ws s.toNatClampNeg).toInt) (hk : kd s.toNatClampNeg = 16 ∨ (kd s.toNatClampNeg < 16 ∧ ((kr (kd s.toNatClampNeg).toNatClampNeg >>> (i &&& 31)) &&& 1) = 1)) (hn : nr s.toNatClampNeg = y) (uv : qU us v) : qRB us nr kr kd ws at' ho (ma_u m 108 (s * (60 : Int32) + i).toNatClampNeg v 108) wi ow rt wk wl wm nu ro fo le ra pi (aCi a y.toNatClampNeg i (qNo nr v)) ∧ a (1000 + y.toNatClampNeg) i.toNatClampNeg ≠ 0 ∧ qWp a y.toNatClampNeg i ∧ aRef a y.toNatClampNeg i = qNo nr (m 108 (s * (60 : Int32) + i).toNatClampNeg) ∧ qU us (m 108 (s * (60 : Int32) + i).toNatClampNeg) := by
  have hs := tn_lt h1 (by omega)
  have ci := tn_cast hi
  have b := hR.1.1 _ hs hu
  have zp := zrf_link (kr := kr) (kd := kd) (m := m) (c := 108) (x := v) h1 h2 hi (by have := b.2.2.2.2.2.1; omega) hk
  have q := hR.2.1 _ hs hu i.toNatClampNeg (by omega)
  have ir : qIr kr kd s.toNatClampNeg i.toNatClampNeg := by
    unfold qIr
    rw [ofN_tn hi]
    exact hk
  have r0 := q.2.2.mpr ir
  have W := Wp_s hR hs hu hi hi2
  have ew : zrf kr kd (m 108) s.toNatClampNeg i.toNatClampNeg = m 108 (s * (60 : Int32) + i).toNatClampNeg := by
    rw [zrf_eq h1 h2 hi (by have := b.2.2.2.2.2.1; omega)]
    rcases hk with w | w
    · rw [if_pos w]
    · by_cases w2 : kd s.toNatClampNeg = 16
      · rw [if_pos w2]
      · rw [if_neg w2, if_pos w]
  rw [← hn]
  rw [ew, ofN_tn hi] at q
  refine ⟨?_, r0, W, q.2.1, q.1⟩
  rw [Ci_eq hI W]
  refine RB_w hR hI hs hu hi hi2 (fun t' ht i' hi' hv hne => ?_) ?_
  · rw [zp t' i' (by have := (hR.1.1 t' ht hv).2.2.2.2.2.1; omega), if_neg hne]
  · rw [zp _ _ (by have := b.2.2.2.2.2.1; omega), if_pos ⟨rfl, rfl⟩]
    exact ⟨uv, by rw [if_pos r0]⟩
theorem MQ_71 (h : qMQ co gr ga gm us nr a) : qMQ co gr ga gm us nr (ma_u a 71 k x) := MQ_u h (by decide)
theorem MI_pu (h : qMI a) (hI : qI a) (W : qWp a n i) (hr : a (1000 + n) i.toNatClampNeg = 0) : qMI (aCi a n i x) := by
  rw [Ci_eq hI W]
  refine MI_cg h (un (by decide)) (Ed_pu hI W hr) (un (by decide)) (by rw [un (by decide)]) (fun _ u hu => Or.inl ?_)
  unfold zRt zRl zWl zHl at hu ⊢
  rw [Al_71, un (n := 72) (by decide), un (n := 74) (by decide), un (n := 69) (by decide), un (n := 133) (by decide)] at hu
  exact hu
/-- a REFERENCE is set: who refers to whom -/
theorem Ed_li (hI : qI a) (W : qWp a n i) (hr : a (1000 + n) i.toNatClampNeg ≠ 0) : (∀ u t, zEd (ma_u a 71 (a 130 n + 1 + i).toNatClampNeg x) u t → zEd a u t ∨ (u = n ∧ x = Int32.ofNat t ∧ xAl a t)) ∧ (∀ u t, zEd a u t → zEd (ma_u a 71 (a 130 n + 1 + i).toNatClampNeg x) u t ∨ (u = n ∧ aRef a n i = Int32.ofNat t)) := by
  refine ⟨fun u t h => ?_, fun u t h => ?_⟩
  · rw [Ed_w hI W] at h
    obtain ⟨h1, j, h2, h3⟩ := h
    by_cases z : u = n ∧ j = i
    · rw [if_pos z, if_pos hr] at h3
      exact Or.inr ⟨z.1, h3, h1⟩
    · rw [if_neg z] at h3
      exact Or.inl ((Ed_wp hI.2.2.2.2.2).mpr ⟨h1, j, h2, h3⟩)
  · have h' := (Ed_wp hI.2.2.2.2.2).mp h
    obtain ⟨h1, j, h2, h3⟩ := h'
    by_cases z : u = n ∧ j = i
    · rw [z.1, z.2] at h3
      exact Or.inr ⟨z.1, h3⟩
    · refine Or.inl ((Ed_w hI W).mpr ⟨h1, j, h2, ?_⟩)
      rw [if_neg z]
      exact h3
/-- the word had h, it has x: M, where what it had has come and what it has is among those to come -/
theorem Mk_li (hI : qI a) (hw : zWQ a) (hm : qMI a) (h7 : a 87 7 ≠ 1) (W : qWp a n i) (hr : a (1000 + n) i.toNatClampNeg ≠ 0) (hx : x.toInt < 0 ∨ zMk a x.toNatClampNeg) : ∀ u, zMk (aCm (ma_u a 71 (a 130 n + 1 + i).toNatClampNeg x) (aRef a n i)) u ↔ zMk (aCm a (aRef a n i)) u := by
  intro u
  have ed := Ed_li (x := x) hI W hr
  have g := gr_cm (y := aRef a n i) hw
  have hw2 : zWQ (ma_u a 71 (a 130 n + 1 + i).toNatClampNeg x) := WQ_u hw (by decide)
  have g2 := gr_cm (y := aRef a n i) hw2
  have e77 : (ma_u a 71 (a 130 n + 1 + i).toNatClampNeg x) 77 = a 77 := un (by decide)
  have nn : zNn (ma_u a 71 (a 130 n + 1 + i).toNatClampNeg x) = zNn a := by
    funext v
    unfold zNn
    rw [e77]
  have dn : zDn (ma_u a 71 (a 130 n + 1 + i).toNatClampNeg x) = zDn a := by
    funext v
    unfold zDn
    rw [e77]
  have N2 : ∀ v, zNn (aCm (ma_u a 71 (a 130 n + 1 + i).toNatClampNeg x) (aRef a n i)) v ↔ zNn (aCm a (aRef a n i)) v := fun v => by
    rw [g2.2.2.2.1 v, g.2.2.2.1 v, nn, Al_71]
  have D2 : ∀ v, zDn (aCm (ma_u a 71 (a 130 n + 1 + i).toNatClampNeg x) (aRef a n i)) v ↔ zDn (aCm a (aRef a n i)) v := fun v => by
    rw [g2.2.2.1 v, g.2.2.1 v, dn]
  have q := MI_gr hm g
  have e7 := g.2.1 87 7 (by decide) (by decide) (by decide)
  have q2 := q.2 (by rw [← e7]; exact h7)
  refine (zM_cg N2 D2 (fun v t => Of_ed g2.2.1)).trans ?_
  refine (zM_ed (N := zNn (aCm a (aRef a n i))) (D := zDn (aCm a (aRef a n i))) (E := zEd (aCm a (aRef a n i))) (fun v t he => ?_) (fun v t hd hv he => ?_))
  · have he1 := (Of_ed g.2.1).mp he
    rcases ed.2 v t he1 with z | z
    · exact Or.inl z
    · exact Or.inr ((g.2.2.2.1 t).mpr (Or.inr ⟨he1.1, z.2⟩))
  · rcases ed.1 v t he with z | z
    · exact q2.2 v t hv ((Of_ed g.2.1).mpr z)
    · have et := ofN_i z.2.2.1
      rcases hx with w | w
      · rw [z.2.1] at w
        omega
      · rw [z.2.1, tn_of z.2.2.1] at w
        have w2 := (Mk_cm (y := aRef a n i) hw (x := t)).mpr (zM_in (Or.inl w))
        exact w2
theorem MI_li (hI : qI a) (hw : zWQ a) (hm : qMI a) (W : qWp a n i) (hr : a (1000 + n) i.toNatClampNeg ≠ 0) (h87 : a 87 8 ≠ 0) (hx : a 87 7 ≠ 1 → x.toInt < 0 ∨ zMk a x.toNatClampNeg) (hxa : x.toInt < 0 ∨ (x.toInt < 512 ∧ xAl a x.toNatClampNeg)) (h70 : a 87 7 = 0 ∨ a 87 7 = 1) (hh : aRef a n i = -1 ∨ (0 ≤ (aRef a n i).toInt ∧ (aRef a n i).toInt < 512 ∧ xAl a (aRef a n i).toNatClampNeg)) : qMI (aNc (aCi a n i x) (aRef a n i) x) := by
  rw [Ci_eq hI W]
  have ed := Ed_li (x := x) hI W hr
  have hw2 : zWQ (ma_u a 71 (a 130 n + 1 + i).toNatClampNeg x) := WQ_u hw (by decide)
  have m1 : (-1 : Int32).toInt = -1 := rfl
  have nmx : aNm (ma_u a 71 (a 130 n + 1 + i).toNatClampNeg x) x = (if x.toInt < 0 then -1 else x) := by
    unfold aNm
    rw [un (n := 126) (by decide)]
    rcases hxa with z | z
    · rw [if_neg (by omega), if_pos z]
    · by_cases z2 : x.toInt < 0
      · rw [if_neg (by omega), if_pos z2]
      · rw [if_pos ⟨by omega, z.1, z.2.2⟩, if_neg z2]
  have nmh : aNm (ma_u a 71 (a 130 n + 1 + i).toNatClampNeg x) (aRef a n i) = aRef a n i := by
    unfold aNm
    rw [un (n := 126) (by decide)]
    rcases hh with z | z
    · rw [z, if_neg (fun w => absurd w.1 (by decide))]
    · rw [if_pos ⟨z.1, z.2.1, z.2.2.2⟩]
  have rt : ∀ u, zRt (ma_u a 71 (a 130 n + 1 + i).toNatClampNeg x) u ↔ zRt a u := fun u => by
    unfold zRt zRl zWl zHl
    rw [Al_71, un (n := 72) (by decide), un (n := 74) (by decide), un (n := 69) (by decide), un (n := 133) (by decide)]
  have e7 : (ma_u a 71 (a 130 n + 1 + i).toNatClampNeg x) 87 7 = a 87 7 := by rw [un (by decide)]
  by_cases same : aRef a n i = (if x.toInt < 0 then -1 else x)
  · -- nothing changes
    rw [aNc_n (fun w => w.2 (by rw [nmh, nmx]; exact same))]
    have ee : zEd (ma_u a 71 (a 130 n + 1 + i).toNatClampNeg x) = zEd a := by
      funext u t
      refine propext ⟨fun w => ?_, fun w => ?_⟩
      · rcases ed.1 u t w with z | z
        · exact z
        · have et := ofN_i z.2.2.1
          have x0 : ¬ x.toInt < 0 := by
            rw [z.2.1]
            omega
          rw [if_neg x0] at same
          rw [z.1]
          exact (Ed_wp hI.2.2.2.2.2).mpr ⟨z.2.2, i, W, same.trans z.2.1⟩
      · rcases ed.2 u t w with z | z
        · exact z
        · have et := ofN_i w.1.1
          have x0 : ¬ x.toInt < 0 := fun w2 => by
            rw [if_pos w2] at same
            rw [z.2] at same
            rw [same] at et
            omega
          rw [if_neg x0] at same
          refine (Ed_w hI W).mpr ⟨w.1, i, by rw [z.1]; exact W, ?_⟩
          rw [if_pos ⟨z.1, rfl⟩, if_pos hr, ← same]
          exact z.2
    exact MI_cg hm (un (by decide)) ee (un (by decide)) e7 (fun _ u hu => Or.inl ((rt u).mp hu))
  · rw [aNc_y (by rw [un (by decide)]; exact h87) (by rw [nmh, nmx]; exact same), e7]
    rcases h70 with h7 | h7
    · rw [if_pos h7]
      have h71 : a 87 7 ≠ 1 := by
        rw [h7]
        decide
      have mk := Mk_li (x := x) hI hw hm h71 W hr (hx h71)
      have g := gr_cm (y := aRef a n i) hw
      have g2 := gr_cm (y := aRef a n i) hw2
      have q := (MI_gr hm g).2 (by rw [← g.2.1 87 7 (by decide) (by decide) (by decide)]; exact h71)
      refine ⟨fun w => absurd w ?_, fun _ => ⟨fun u hu => (mk u).mpr (q.1 u ((Rt_of g.2.1).mpr ((rt u).mp ((Rt_of g2.2.1).mp hu)))), fun u t hu he => (mk t).mpr ?_⟩⟩
      · rw [← g2.2.1 87 7 (by decide) (by decide) (by decide), e7]
        exact h71
      · rcases ed.1 u t ((Of_ed g2.2.1).mp he) with z | z
        · exact q.2 u t ((mk u).mp hu) ((Of_ed g.2.1).mpr z)
        · have et := ofN_i z.2.2.1
          rcases hx h71 with w | w
          · rw [z.2.1] at w
            omega
          · rw [z.2.1, tn_of z.2.2.1] at w
            exact (Mk_cm (y := aRef a n i) hw (x := t)).mpr (zM_in (Or.inl w))
    · rw [if_neg (by rw [h7]; decide)]
      have g2 := gr_cm (y := x) hw2
      have e77 : (ma_u a 71 (a 130 n + 1 + i).toNatClampNeg x) 77 = a 77 := un (by decide)
      refine ⟨fun _ u t hd ha he => ?_, fun w => absurd ?_ w⟩
      · refine (g2.2.2.2.1 t).mpr ?_
        have hd2 := (g2.2.2.1 u).mp hd
        have ha2 : xAl a u := by
          rw [← Al_of g2.2.1, Al_71] at ha
          exact ha
        have hd3 : zDn a u := by
          unfold zDn at hd2 ⊢
          rw [e77] at hd2
          exact hd2
        rcases ed.1 u t ((Of_ed g2.2.1).mp he) with z | z
        · refine Or.inl ?_
          have q := hm.1 h7 u t hd3 ha2 z
          unfold zNn at q ⊢
          rw [e77]
          exact q
        · exact Or.inr ⟨by rw [Al_71]; exact z.2.2, z.2.1⟩
      · rw [← g2.2.1 87 7 (by decide) (by decide) (by decide), e7]
        exact h7
end QW
