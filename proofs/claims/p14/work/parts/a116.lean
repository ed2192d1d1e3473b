/-! from 95.h23 -/
/-! the reference by numbers (written by wip/tools/gen18r.py) -/
/-! WORDS ARE WRITTEN -/
section QW
variable {aa a b : Nat → Nat → Int32} {us nr kr kd ws at₉ ho wd wd₉ wi ow rt wk wl kp co gr : Nat → Int32} {wm nu ro fo le ra pi y x z i j ga gm r s v : Int32} {n k u t : Nat} {m m2 : Nat → Nat → Int32}
/-- an inner word of one that is there -/
def qWp (a : Nat → Nat → Int32) (n : Nat) (i : Int32) : Prop := xAl a n ∧ 0 ≤ i.toInt ∧ i.toInt < (a 128 n).toInt - 1
theorem wp_i (hI : qI a) (h : qWp a n i) : (a 130 n + 1 + i).toInt = (a 130 n).toInt + 1 + i.toInt ∧ 0 ≤ (a 130 n + 1 + i).toInt ∧ (a 130 n + 1 + i).toInt < 4500 := by
  have q := hI.1 n h.1
  have b4 := hI.2.2.2.1.2.2.1
  have h1 := h.2.1
  have h2 := h.2.2
  have e1 := i_p1 (i := a 130 n) (by omega)
  have e : (a 130 n + 1 + i).toInt = (a 130 n + 1).toInt + i.toInt := i_add (by omega) (by omega)
  omega
theorem Ci_eq (hI : qI a) (h : qWp a n i) : aCi a n i x = ma_u a 71 (a 130 n + 1 + i).toNatClampNeg x := by
  have q := wp_i hI h
  exact if_pos ⟨q.2.1, by omega⟩
theorem wp_ne (hI : qI a) (h : qWp a n i) (h2 : qWp a u j) (hne : ¬ (u = n ∧ j = i)) : (a 130 u + 1 + j).toNatClampNeg ≠ (a 130 n + 1 + i).toNatClampNeg := by
  have q := wp_i hI h
  have q2 := wp_i hI h2
  have c1 := tn_cast q.2.1
  have c2 := tn_cast q2.2.1
  intro e
  by_cases z : u = n
  · rw [z] at q2 c2 e
    exact hne ⟨z, Int32.toInt_inj.mp (by omega)⟩
  · have d := hI.2.1 u n h2.1 h.1 z
    have a1 := h.2
    have a2 := h2.2
    omega
theorem wp_rf (hI : qI a) (h : qWp a u j) : aRef a u j = if a (1000 + u) j.toNatClampNeg ≠ 0 then a 71 (a 130 u + 1 + j).toNatClampNeg else -1 := by
  have q := wp_i hI h
  unfold aRef
  by_cases z : a (1000 + u) j.toNatClampNeg ≠ 0
  · rw [if_pos z, if_pos ⟨z, q.2.1, by omega⟩]
  · rw [if_neg z, if_neg (fun w => z w.1)]
theorem Al_71 : xAl (ma_u a 71 k x) = xAl a := by
  funext n
  unfold xAl
  rw [un (by decide)]
theorem Wp_71 : qWp (ma_u a 71 k x) u j ↔ qWp a u j := by
  unfold qWp
  rw [Al_71, un (n := 128) (by decide)]
/-- one that is not there refers to nothing -/
theorem rf_dead (h : qI6 a) (hn : ¬ xAl a u) : aRef a u j = -1 := aRef_no (fun w => w.1 (h u hn _))
theorem I_w (hI : qI a) (h : qWp a n i) : qI (ma_u a 71 (a 130 n + 1 + i).toNatClampNeg x) := by
  have q := wp_i hI h
  have c := tn_cast q.2.1
  obtain ⟨h1, h2, h3, h4, h5, h6⟩ := hI
  have al := Al_71 (a := a) (k := (a 130 n + 1 + i).toNatClampNeg) (x := x)
  have iN := h1 n h.1
  have hi := h.2
  have su := Su_cg (a := ma_u a 71 (a 130 n + 1 + i).toNatClampNeg x) (b := a) (un (by decide)) (un (by decide)) 512
  refine ⟨fun u hu => ?_, fun u u₉ hu hu₉ hne => ?_, fun p hp hc => ?_, ?_, ?_, fun u hu k => ?_⟩
  · rw [al] at hu
    have w := h1 u hu
    have cu := tn_cast w.1.2
    rw [un (n := 69) (by decide), un (n := 130) (by decide), un (n := 128) (by decide), un (n := 87) (by decide), xu_o (fun z => ?_)]
    · exact w
    · by_cases z2 : u = n
      · rw [z2] at z cu
        omega
      · have d := h2 u n hu h.1 z2
        have e := z.2
        have iu := w.2.1
        omega
  · rw [al] at hu hu₉
    rw [un (n := 130) (by decide), un (n := 128) (by decide)]
    exact h2 u u₉ hu hu₉ hne
  · rw [al, un (n := 130) (by decide), un (n := 128) (by decide)] at hc
    rw [xu_o (fun z => hc n h.1 (by omega))]
    exact h3 p hp hc
  · unfold qI4 qGd at h4 ⊢
    rw [al, un (n := 69) (by decide), un (n := 130) (by decide), un (n := 128) (by decide), un (n := 87) (by decide)]
    exact h4
  · rw [su, un (by decide)]
    exact h5
  · rw [al] at hu
    rw [un (by omega)]
    exact h6 u hu k
theorem rf_w (hI : qI a) (h : qWp a n i) (h2 : qWp a u j) : aRef (ma_u a 71 (a 130 n + 1 + i).toNatClampNeg x) u j = if u = n ∧ j = i then (if a (1000 + n) i.toNatClampNeg ≠ 0 then x else -1) else aRef a u j := by
  have I2 := I_w (x := x) hI h
  rw [wp_rf I2 (Wp_71.mpr h2), un (n := 1000 + u) (by omega), un (n := 130) (by decide)]
  by_cases z : u = n ∧ j = i
  · rw [if_pos z, z.1, z.2, xu_s]
  · rw [if_neg z, xu_o (fun w => wp_ne hI h h2 z w.2), wp_rf hI h2]
theorem Ed_wp (h6 : qI6 a) : zEd a u t ↔ xAl a t ∧ ∃ j : Int32, qWp a u j ∧ aRef a u j = Int32.ofNat t := by
  unfold zEd
  constructor
  · rintro ⟨w1, j, w2, w3, w4⟩
    refine ⟨w1, j, ⟨?_, w2, w3⟩, w4⟩
    refine Classical.byContradiction (fun w5 => ?_)
    rw [rf_dead h6 w5] at w4
    have e := ofN_i w1.1
    rw [← w4] at e
    have m1 : (-1 : Int32).toInt = -1 := rfl
    omega
  · rintro ⟨w1, j, ⟨_, w2, w3⟩, w4⟩
    exact ⟨w1, j, w2, w3, w4⟩
theorem Ed_w (hI : qI a) (h : qWp a n i) : zEd (ma_u a 71 (a 130 n + 1 + i).toNatClampNeg x) u t ↔ xAl a t ∧ ∃ j : Int32, qWp a u j ∧ (if u = n ∧ j = i then (if a (1000 + n) i.toNatClampNeg ≠ 0 then x else -1) else aRef a u j) = Int32.ofNat t := by
  rw [Ed_wp (I_w hI h).2.2.2.2.2, Al_71]
  constructor
  · rintro ⟨w1, j, w2, w3⟩
    have w4 := Wp_71.mp w2
    rw [rf_w hI h w4] at w3
    exact ⟨w1, j, w4, w3⟩
  · rintro ⟨w1, j, w2, w3⟩
    refine ⟨w1, j, Wp_71.mpr w2, ?_⟩
    rw [rf_w hI h w2]
    exact w3
/-- an int: nothing refers otherwise -/
theorem Ed_pu (hI : qI a) (h : qWp a n i) (hr : a (1000 + n) i.toNatClampNeg = 0) : zEd (ma_u a 71 (a 130 n + 1 + i).toNatClampNeg x) = zEd a := by
  funext u t
  refine propext ?_
  rw [Ed_w hI h, Ed_wp hI.2.2.2.2.2]
  have e : ∀ j, (if u = n ∧ j = i then (if a (1000 + n) i.toNatClampNeg ≠ 0 then x else -1) else aRef a u j) = aRef a u j := fun j => by
    by_cases z : u = n ∧ j = i
    · rw [if_pos z, if_neg (fun w => w hr), z.1, z.2]
      exact (aRef_no (fun w => w.1 hr)).symm
    · rw [if_neg z]
  simp only [e]
theorem Wp_s (hR : qRB us nr kr kd ws at₉ ho wd wi ow rt wk wl wm nu ro fo le ra pi a) (h0 : t < 3100) (hu : us t ≠ 0) (hi : 0 ≤ i.toInt) (hi2 : i.toInt < (ws t).toInt) : qWp a (nr t).toNatClampNeg i := by
  have q := hR.1.1 t h0 hu
  refine ⟨R1_al hR.1 h0 hu, hi, ?_⟩
  rw [q.2.2.1, i_p1 (by have := q.2.2.2.2.2.1; omega)]
  omega
theorem RB_w (hR : qRB us nr kr kd ws at₉ ho wd wi ow rt wk wl wm nu ro fo le ra pi a) (hI : qI a) (hs : t < 3100) (hu : us t ≠ 0) (hi : 0 ≤ i.toInt) (hi2 : i.toInt < (ws t).toInt) (hz : ∀ t₉ : Nat, t₉ < 3100 → ∀ i₉ : Nat, (i₉ : Int) < (ws t₉).toInt → us t₉ ≠ 0 → ¬ (t₉ = t ∧ i₉ = i.toNatClampNeg) → zrf kr kd wd₉ t₉ i₉ = zrf kr kd wd t₉ i₉) (hx : qU us (zrf kr kd wd₉ t i.toNatClampNeg) ∧ (if a (1000 + (nr t).toNatClampNeg) i.toNatClampNeg ≠ 0 then x else -1) = qNo nr (zrf kr kd wd₉ t i.toNatClampNeg)) : qRB us nr kr kd ws at₉ ho wd₉ wi ow rt wk wl wm nu ro fo le ra pi (ma_u a 71 (a 130 (nr t).toNatClampNeg + 1 + i).toNatClampNeg x) := by
  have W := Wp_s hR hs hu hi hi2
  have ci := tn_cast hi
  refine ⟨R1_cg hR.1 (un (by decide)) (un (by decide)) (un (by decide)) (un (by decide)), fun t₉ ht hv i₉ hi₉ => ?_, R3_cg hR.2.2.1 (un (by decide)), R3_cg hR.2.2.2.1 (un (by decide)), R5_cg hR.2.2.2.2.1 (un (by decide)) (un (by decide)), R6_cg hR.2.2.2.2.2.1 (un (by decide)), hR.2.2.2.2.2.2.1, R8_cg hR.2.2.2.2.2.2.2 (by rw [un (by decide)]) (un (by decide))⟩
  have q := hR.2.1 t₉ ht hv i₉ hi₉
  have b := hR.1.1 t₉ ht hv
  have ei : (Int32.ofNat i₉).toInt = (i₉ : Int) := Int32.toInt_ofNat_of_lt (by have := b.2.2.2.2.2.1; omega)
  have W2 := Wp_s hR ht hv (i := Int32.ofNat i₉) (by omega) (by omega)
  rw [rf_w hI W W2, un (n := 1000 + (nr t₉).toNatClampNeg) (by omega)]
  by_cases z : t₉ = t ∧ i₉ = i.toNatClampNeg
  · rw [z.1, z.2, ofN_tn hi, if_pos ⟨rfl, rfl⟩]
    rw [z.1, z.2] at q
    exact ⟨hx.1, hx.2, q.2.2⟩
  · rw [hz t₉ ht i₉ hi₉ hv z, if_neg (fun w => z ?_)]
    · exact q
    · have e1 := R1_in hR.1 ht hs hv hu w.1
      refine ⟨e1, ?_⟩
      have e2 := congrArg Int32.toInt w.2
      omega
/-! the calls: what they make of a heap, also where they throw -/
noncomputable def qIf (P : Prop) (x y : Nat → Nat → Int32) : Nat → Nat → Int32 := @ite _ P (Classical.propDecidable P) x y
theorem qIf_y {P : Prop} {x y : Nat → Nat → Int32} (h : P) : qIf P x y = x := if_pos h
theorem qIf_n {P : Prop} {x y : Nat → Nat → Int32} (h : ¬ P) : qIf P x y = y := if_neg h
noncomputable def xPu (a : Nat → Nat → Int32) (o i v : Int32) : Nat → Nat → Int32 := qIf (zRq a o ∧ zHw a o i ∧ ¬ zIr a o i) (aCi a o.toNatClampNeg i v) a
noncomputable def xLi (a : Nat → Nat → Int32) (o i t : Int32) : Nat → Nat → Int32 := qIf (zRq a o ∧ (t = -1 ∨ zRq a t) ∧ zHw a o i ∧ zIr a o i) (aLn a o.toNatClampNeg i t) a
def zSl (i : Int32) : Prop := 0 ≤ i.toInt ∧ i.toInt ≤ 15
noncomputable def xRo (a : Nat → Nat → Int32) (i o : Int32) : Nat → Nat → Int32 := qIf (zSl i ∧ (o = -1 ∨ zRq a o)) (aRt a i o) a
noncomputable def xWe (a : Nat → Nat → Int32) (i o : Int32) : Nat → Nat → Int32 := qIf (zSl i ∧ (o = -1 ∨ zRq a o)) (ma_u a 73 i.toNatClampNeg (aNm a o)) a
noncomputable def xHo (a : Nat → Nat → Int32) (o b : Int32) : Nat → Nat → Int32 := qIf (zRq a o ∧ (¬ b = 0 ∨ ¬ a 133 o.toNatClampNeg = 0)) (ma_u a 133 o.toNatClampNeg (a 133 o.toNatClampNeg + (if b = 0 then -1 else 1))) a
noncomputable def xWi (a : Nat → Nat → Int32) (o : Int32) : Nat → Nat → Int32 := qIf (zRq a o) (ma_u a 134 o.toNatClampNeg 1) a
noncomputable def xGr (a : Nat → Nat → Int32) (r : Int32) : Nat → Nat → Int32 := qIf (zSl r) (qIf (aNm a (aTy a) = -1) (aTw a) (aRt (aTw a) r (aTy a))) a
/-- strong: the class's order, and the reference's -/
noncomputable def xSg (a : Nat → Nat → Int32) (i r : Int32) : Nat → Nat → Int32 := qIf (zSl i ∧ zSl r ∧ aNm a (a 73 i.toNatClampNeg) ≠ -1) (aSt (aRt a r (a 73 i.toNatClampNeg)) (a 73 i.toNatClampNeg)) a
noncomputable def ySg (a : Nat → Nat → Int32) (i r : Int32) : Nat → Nat → Int32 := qIf (zSl i ∧ zSl r ∧ aNm a (a 73 i.toNatClampNeg) ≠ -1) (aRt (aSt a (a 73 i.toNatClampNeg)) r (a 73 i.toNatClampNeg)) a
noncomputable def xSp (a : Nat → Nat → Int32) (n : Int32) : Nat → Nat → Int32 := qIf (0 ≤ n.toInt ∧ n.toInt ≤ 1000) (aGo a n.toInt.toNat) a
/-- put: an int -/
theorem RB_pu (hR : qRB us nr kr kd ws at₉ ho (m 108) wi ow rt wk wl wm nu ro fo le ra pi a) (hI : qI a) (h1 : 0 ≤ s.toInt) (h2 : s.toInt ≤ 3099) (hu : us s.toNatClampNeg ≠ 0) (hi : 0 ≤ i.toInt) (hi2 : i.toInt < (ws s.toNatClampNeg).toInt) (hk : ¬ kd s.toNatClampNeg = 16) (hk2 : ¬ (kd s.toNatClampNeg < 16 ∧ ((kr (kd s.toNatClampNeg).toNatClampNeg >>> (i &&& 31)) &&& 1) = 1)) (hn : nr s.toNatClampNeg = y) : qRB us nr kr kd ws at₉ ho (ma_u m 108 (s * (60 : Int32) + i).toNatClampNeg x 108) wi ow rt wk wl wm nu ro fo le ra pi (aCi a y.toNatClampNeg i x) ∧ a (1000 + y.toNatClampNeg) i.toNatClampNeg = 0 ∧ qWp a y.toNatClampNeg i := by
  have hs := tn_lt h1 (by omega)
  have ci := tn_cast hi
  have b := hR.1.1 _ hs hu
  have zp := zrf_put (kr := kr) (kd := kd) (m := m) (c := 108) (x := x) h1 h2 hi (by have := b.2.2.2.2.2.1; omega) hk hk2
  have q := hR.2.1 _ hs hu i.toNatClampNeg (by omega)
  have ir : ¬ qIr kr kd s.toNatClampNeg i.toNatClampNeg := by
    unfold qIr
    rw [ofN_tn hi]
    exact fun w => w.elim hk hk2
  have r0 : a (1000 + (nr s.toNatClampNeg).toNatClampNeg) i.toNatClampNeg = 0 := by
    by_cases z : a (1000 + (nr s.toNatClampNeg).toNatClampNeg) i.toNatClampNeg = 0
    · exact z
    · exact absurd (q.2.2.mp z) ir
  have W := Wp_s hR hs hu hi hi2
  rw [← hn]
  refine ⟨?_, r0, W⟩
  rw [Ci_eq hI W]
  refine RB_w hR hI hs hu hi hi2 (fun t₉ ht i₉ hi₉ hv _ => zp t₉ i₉ (by have := (hR.1.1 t₉ ht hv).2.2.2.2.2.1; omega)) ?_
  rw [zp _ _ (by have := b.2.2.2.2.2.1; omega)]
  refine ⟨q.1, ?_⟩
  rw [if_neg (fun w => w r0), ← q.2.1, ofN_tn hi]
  exact (aRef_no (fun w => w.1 r0)).symm
/-- link: a REFERENCE -/
theorem RB_li (hR : qRB us nr kr kd ws at₉ ho (m 108) wi ow rt wk wl wm nu ro fo le ra pi a) (hI : qI a) (h1 : 0 ≤ s.toInt) (h2 : s.toInt ≤ 3099) (hu : us s.toNatClampNeg ≠ 0) (hi : 0 ≤ i.toInt) (hi2 : i.toInt < (ws s.toNatClampNeg).toInt) (hk : kd s.toNatClampNeg = 16 ∨ (kd s.toNatClampNeg < 16 ∧ ((kr (kd s.toNatClampNeg).toNatClampNeg >>> (i &&& 31)) &&& 1) = 1)) (hn : nr s.toNatClampNeg = y) (uv : qU us v) : qRB us nr kr kd ws at₉ ho (ma_u m 108 (s * (60 : Int32) + i).toNatClampNeg v 108) wi ow rt wk wl wm nu ro fo le ra pi (aCi a y.toNatClampNeg i (qNo nr v)) ∧ a (1000 + y.toNatClampNeg) i.toNatClampNeg ≠ 0 ∧ qWp a y.toNatClampNeg i ∧ aRef a y.toNatClampNeg i = qNo nr (m 108 (s * (60 : Int32) + i).toNatClampNeg) ∧ qU us (m 108 (s * (60 : Int32) + i).toNatClampNeg) := by
  have hs := tn_lt h1 (by omega)
  have ci := tn_cast hi
  have b := hR.1.1 _ hs hu
  have zp := zrf_link (kr := kr) (kd := kd) (m := m) (c := 108) (x := v) h1 h2 hi (by have := b.2.2.2.2.2.1; omega) hk
  have q := hR.2.1 _ hs hu i.toNatClampNeg (by omega)
  have ir : qIr kr kd s.toNatClampNeg i.toNatClampNeg := by
    unfold qIr
    rw [ofN_tn hi]
    exact hk
  have r0 := q.2.2.mpr ir
  have W := Wp_s hR hs hu hi hi2
  have ew : zrf kr kd (m 108) s.toNatClampNeg i.toNatClampNeg = m 108 (s * (60 : Int32) + i).toNatClampNeg := by
    rw [zrf_eq h1 h2 hi (by have := b.2.2.2.2.2.1; omega)]
    rcases hk with w | w
    · rw [if_pos w]
    · by_cases w2 : kd s.toNatClampNeg = 16
      · rw [if_pos w2]
      · rw [if_neg w2, if_pos w]
  rw [← hn]
  rw [ew, ofN_tn hi] at q
  refine ⟨?_, r0, W, q.2.1, q.1⟩
  rw [Ci_eq hI W]
  refine RB_w hR hI hs hu hi hi2 (fun t₉ ht i₉ hi₉ hv hne => ?_) ?_
  · rw [zp t₉ i₉ (by have := (hR.1.1 t₉ ht hv).2.2.2.2.2.1; omega), if_neg hne]
  · rw [zp _ _ (by have := b.2.2.2.2.2.1; omega), if_pos ⟨rfl, rfl⟩]
    exact ⟨uv, by rw [if_pos r0]⟩
theorem MQ_71 (h : qMQ co gr ga gm us nr a) : qMQ co gr ga gm us nr (ma_u a 71 k x) := MQ_u h (by decide)
theorem MI_pu (h : qMI a) (hI : qI a) (W : qWp a n i) (hr : a (1000 + n) i.toNatClampNeg = 0) : qMI (aCi a n i x) := by
  rw [Ci_eq hI W]
  refine MI_cg h (un (by decide)) (Ed_pu hI W hr) (un (by decide)) (by rw [un (by decide)]) (fun _ u hu => Or.inl ?_)
  unfold zRt zRl zWl zHl at hu ⊢
  rw [Al_71, un (n := 72) (by decide), un (n := 74) (by decide), un (n := 69) (by decide), un (n := 133) (by decide)] at hu
  exact hu
/-- a REFERENCE is set: who refers to whom -/
theorem Ed_li (hI : qI a) (W : qWp a n i) (hr : a (1000 + n) i.toNatClampNeg ≠ 0) : (∀ u t, zEd (ma_u a 71 (a 130 n + 1 + i).toNatClampNeg x) u t → zEd a u t ∨ (u = n ∧ x = Int32.ofNat t ∧ xAl a t)) ∧ (∀ u t, zEd a u t → zEd (ma_u a 71 (a 130 n + 1 + i).toNatClampNeg x) u t ∨ (u = n ∧ aRef a n i = Int32.ofNat t)) := by
  refine ⟨fun u t h => ?_, fun u t h => ?_⟩
  · rw [Ed_w hI W] at h
    obtain ⟨h1, j, h2, h3⟩ := h
    by_cases z : u = n ∧ j = i
    · rw [if_pos z, if_pos hr] at h3
      exact Or.inr ⟨z.1, h3, h1⟩
    · rw [if_neg z] at h3
      exact Or.inl ((Ed_wp hI.2.2.2.2.2).mpr ⟨h1, j, h2, h3⟩)
  · have h₉ := (Ed_wp hI.2.2.2.2.2).mp h
    obtain ⟨h1, j, h2, h3⟩ := h₉
    by_cases z : u = n ∧ j = i
    · rw [z.1, z.2] at h3
      exact Or.inr ⟨z.1, h3⟩
    · refine Or.inl ((Ed_w hI W).mpr ⟨h1, j, h2, ?_⟩)
      rw [if_neg z]
      exact h3
/-- the word had h, it has x: M, where what it had has come and what it has is among those to come -/
theorem Mk_li (hI : qI a) (hw : zWQ a) (hm : qMI a) (h7 : a 87 7 ≠ 1) (W : qWp a n i) (hr : a (1000 + n) i.toNatClampNeg ≠ 0) (hx : x.toInt < 0 ∨ zMk a x.toNatClampNeg) : ∀ u, zMk (aCm (ma_u a 71 (a 130 n + 1 + i).toNatClampNeg x) (aRef a n i)) u ↔ zMk (aCm a (aRef a n i)) u := by
  intro u
  have ed := Ed_li (x := x) hI W hr
  have g := gr_cm (y := aRef a n i) hw
  have hw2 : zWQ (ma_u a 71 (a 130 n + 1 + i).toNatClampNeg x) := WQ_u hw (by decide)
  have g2 := gr_cm (y := aRef a n i) hw2
  have e77 : (ma_u a 71 (a 130 n + 1 + i).toNatClampNeg x) 77 = a 77 := un (by decide)
  have nn : zNn (ma_u a 71 (a 130 n + 1 + i).toNatClampNeg x) = zNn a := by
    funext v
    unfold zNn
    rw [e77]
  have dn : zDn (ma_u a 71 (a 130 n + 1 + i).toNatClampNeg x) = zDn a := by
    funext v
    unfold zDn
    rw [e77]
  have N2 : ∀ v, zNn (aCm (ma_u a 71 (a 130 n + 1 + i).toNatClampNeg x) (aRef a n i)) v ↔ zNn (aCm a (aRef a n i)) v := fun v => by
    rw [g2.2.2.2.1 v, g.2.2.2.1 v, nn, Al_71]
  have D2 : ∀ v, zDn (aCm (ma_u a 71 (a 130 n + 1 + i).toNatClampNeg x) (aRef a n i)) v ↔ zDn (aCm a (aRef a n i)) v := fun v => by
    rw [g2.2.2.1 v, g.2.2.1 v, dn]
  have q := MI_gr hm g
  have e7 := g.2.1 87 7 (by decide) (by decide) (by decide)
  have q2 := q.2 (by rw [← e7]; exact h7)
  refine (zM_cg N2 D2 (fun v t => Of_ed g2.2.1)).trans ?_
  refine (zM_ed (N := zNn (aCm a (aRef a n i))) (D := zDn (aCm a (aRef a n i))) (E := zEd (aCm a (aRef a n i))) (fun v t he => ?_) (fun v t hd hv he => ?_))
  · have he1 := (Of_ed g.2.1).mp he
    rcases ed.2 v t he1 with z | z
    · exact Or.inl z
    · exact Or.inr ((g.2.2.2.1 t).mpr (Or.inr ⟨he1.1, z.2⟩))
  · rcases ed.1 v t he with z | z
    · exact q2.2 v t hv ((Of_ed g.2.1).mpr z)
    · have et := ofN_i z.2.2.1
      rcases hx with w | w
      · rw [z.2.1] at w
        omega
      · rw [z.2.1, tn_of z.2.2.1] at w
        have w2 := (Mk_cm (y := aRef a n i) hw (x := t)).mpr (zM_in (Or.inl w))
        exact w2
theorem MI_li (hI : qI a) (hw : zWQ a) (hm : qMI a) (W : qWp a n i) (hr : a (1000 + n) i.toNatClampNeg ≠ 0) (h87 : a 87 8 ≠ 0) (hx : a 87 7 ≠ 1 → x.toInt < 0 ∨ zMk a x.toNatClampNeg) (hxa : x.toInt < 0 ∨ (x.toInt < 512 ∧ xAl a x.toNatClampNeg)) (h70 : a 87 7 = 0 ∨ a 87 7 = 1) (hh : aRef a n i = -1 ∨ (0 ≤ (aRef a n i).toInt ∧ (aRef a n i).toInt < 512 ∧ xAl a (aRef a n i).toNatClampNeg)) : qMI (aNc (aCi a n i x) (aRef a n i) x) := by
  rw [Ci_eq hI W]
  have ed := Ed_li (x := x) hI W hr
  have hw2 : zWQ (ma_u a 71 (a 130 n + 1 + i).toNatClampNeg x) := WQ_u hw (by decide)
  have m1 : (-1 : Int32).toInt = -1 := rfl
  have nmx : aNm (ma_u a 71 (a 130 n + 1 + i).toNatClampNeg x) x = (if x.toInt < 0 then -1 else x) := by
    unfold aNm
    rw [un (n := 126) (by decide)]
    rcases hxa with z | z
    · rw [if_neg (by omega), if_pos z]
    · by_cases z2 : x.toInt < 0
      · rw [if_neg (by omega), if_pos z2]
      · rw [if_pos ⟨by omega, z.1, z.2.2⟩, if_neg z2]
  have nmh : aNm (ma_u a 71 (a 130 n + 1 + i).toNatClampNeg x) (aRef a n i) = aRef a n i := by
    unfold aNm
    rw [un (n := 126) (by decide)]
    rcases hh with z | z
    · rw [z, if_neg (fun w => absurd w.1 (by decide))]
    · rw [if_pos ⟨z.1, z.2.1, z.2.2.2⟩]
  have rt : ∀ u, zRt (ma_u a 71 (a 130 n + 1 + i).toNatClampNeg x) u ↔ zRt a u := fun u => by
    unfold zRt zRl zWl zHl
    rw [Al_71, un (n := 72) (by decide), un (n := 74) (by decide), un (n := 69) (by decide), un (n := 133) (by decide)]
  have e7 : (ma_u a 71 (a 130 n + 1 + i).toNatClampNeg x) 87 7 = a 87 7 := by rw [un (by decide)]
  by_cases same : aRef a n i = (if x.toInt < 0 then -1 else x)
  · -- nothing changes
    rw [aNc_n (fun w => w.2 (by rw [nmh, nmx]; exact same))]
    have ee : zEd (ma_u a 71 (a 130 n + 1 + i).toNatClampNeg x) = zEd a := by
      funext u t
      refine propext ⟨fun w => ?_, fun w => ?_⟩
      · rcases ed.1 u t w with z | z
        · exact z
        · have et := ofN_i z.2.2.1
          have x0 : ¬ x.toInt < 0 := by
            rw [z.2.1]
            omega
          rw [if_neg x0] at same
          rw [z.1]
          exact (Ed_wp hI.2.2.2.2.2).mpr ⟨z.2.2, i, W, same.trans z.2.1⟩
      · rcases ed.2 u t w with z | z
        · exact z
        · have et := ofN_i w.1.1
          have x0 : ¬ x.toInt < 0 := fun w2 => by
            rw [if_pos w2] at same
            rw [z.2] at same
            rw [same] at et
            omega
          rw [if_neg x0] at same
          refine (Ed_w hI W).mpr ⟨w.1, i, by rw [z.1]; exact W, ?_⟩
          rw [if_pos ⟨z.1, rfl⟩, if_pos hr, ← same]
          exact z.2
    exact MI_cg hm (un (by decide)) ee (un (by decide)) e7 (fun _ u hu => Or.inl ((rt u).mp hu))
  · rw [aNc_y (by rw [un (by decide)]; exact h87) (by rw [nmh, nmx]; exact same), e7]
    rcases h70 with h7 | h7
    · rw [if_pos h7]
      have h71 : a 87 7 ≠ 1 := by
        rw [h7]
        decide
      have mk := Mk_li (x := x) hI hw hm h71 W hr (hx h71)
      have g := gr_cm (y := aRef a n i) hw
      have g2 := gr_cm (y := aRef a n i) hw2
      have q := (MI_gr hm g).2 (by rw [← g.2.1 87 7 (by decide) (by decide) (by decide)]; exact h71)
      refine ⟨fun w => absurd w ?_, fun _ => ⟨fun u hu => (mk u).mpr (q.1 u ((Rt_of g.2.1).mpr ((rt u).mp ((Rt_of g2.2.1).mp hu)))), fun u t hu he => (mk t).mpr ?_⟩⟩
      · rw [← g2.2.1 87 7 (by decide) (by decide) (by decide), e7]
        exact h71
      · rcases ed.1 u t ((Of_ed g2.2.1).mp he) with z | z
        · exact q.2 u t ((mk u).mp hu) ((Of_ed g.2.1).mpr z)
        · have et := ofN_i z.2.2.1
          rcases hx h71 with w | w
          · rw [z.2.1] at w
            omega
          · rw [z.2.1, tn_of z.2.2.1] at w
            exact (Mk_cm (y := aRef a n i) hw (x := t)).mpr (zM_in (Or.inl w))
    · rw [if_neg (by rw [h7]; decide)]
      have g2 := gr_cm (y := x) hw2
      have e77 : (ma_u a 71 (a 130 n + 1 + i).toNatClampNeg x) 77 = a 77 := un (by decide)
      refine ⟨fun _ u t hd ha he => ?_, fun w => absurd ?_ w⟩
      · refine (g2.2.2.2.1 t).mpr ?_
        have hd2 := (g2.2.2.1 u).mp hd
        have ha2 : xAl a u := by
          rw [← Al_of g2.2.1, Al_71] at ha
          exact ha
        have hd3 : zDn a u := by
          unfold zDn at hd2 ⊢
          rw [e77] at hd2
          exact hd2
        rcases ed.1 u t ((Of_ed g2.2.1).mp he) with z | z
        · refine Or.inl ?_
          have q := hm.1 h7 u t hd3 ha2 z
          unfold zNn at q ⊢
          rw [e77]
          exact q
        · exact Or.inr ⟨by rw [Al_71]; exact z.2.2, z.2.1⟩
      · rw [← g2.2.1 87 7 (by decide) (by decide) (by decide), e7]
        exact h7
end QW

/-! from 95.h24 -/
/-! the reference by numbers (written by wip/tools/gen18r.py) -/
theorem Re_n {us nr : Nat → Int32} {a : Nat → Nat → Int32} {x v : Int32} (h : qRe us nr a x v) (hv : v.toInt < 0) : ¬ zRq a x := h.elim (fun w => w.2) (fun w => absurd w.1 (by omega))
theorem Re_y {us nr : Nat → Int32} {a : Nat → Nat → Int32} {x v : Int32} (h : qRe us nr a x v) (hv : 0 ≤ v.toInt) : v.toInt ≤ 3099 ∧ us v.toNatClampNeg ≠ 0 ∧ nr v.toNatClampNeg = x ∧ zRq a x := h.elim (fun w => absurd hv (by rw [w.1]; decide)) (fun w => ⟨w.2.1, w.2.2.1, w.2.2.2.1, w.2.2.2.2⟩)
section CA1
variable {us nr kr kd ws at₉ ho wd wi ow rt wk wl : Nat → Int32} {wm nu ro fo le ra pi x v i : Int32} {a : Nat → Nat → Int32}
theorem Hw_y (hR : qRB us nr kr kd ws at₉ ho wd wi ow rt wk wl wm nu ro fo le ra pi a) (h : qRe us nr a x v) (hv : 0 ≤ v.toInt) : zHw a x i ↔ 0 ≤ i.toInt ∧ i.toInt < (ws v.toNatClampNeg).toInt := by
  have y := Re_y h hv
  have t := hR.1.1 _ (tn_lt hv (by omega)) y.2.1
  unfold zHw
  rw [← y.2.2.1, t.2.2.1, i_p1 (by have := t.2.2.2.2.2.1; omega)]
  constructor
  · rintro ⟨w1, w2⟩
    exact ⟨w1, by omega⟩
  · rintro ⟨w1, w2⟩
    exact ⟨w1, by omega⟩
theorem Ir_y (hR : qRB us nr kr kd ws at₉ ho wd wi ow rt wk wl wm nu ro fo le ra pi a) (h : qRe us nr a x v) (hv : 0 ≤ v.toInt) (h0 : 0 ≤ i.toInt) (h1 : i.toInt < (ws v.toNatClampNeg).toInt) : zIr a x i ↔ kd v.toNatClampNeg = 16 ∨ (kd v.toNatClampNeg < 16 ∧ ((kr (kd v.toNatClampNeg).toNatClampNeg >>> (i &&& 31)) &&& 1) = 1) := by
  have y := Re_y h hv
  have c := tn_cast h0
  have r := hR.2.1 _ (tn_lt hv (by omega)) y.2.1 i.toNatClampNeg (by omega)
  unfold zIr
  rw [← y.2.2.1, r.2.2]
  unfold qIr
  rw [ofN_tn h0]
end CA1
theorem sp_244r {X : Nat × (Nat → Int32)} {P : Option ma_V → (Nat → Nat → Int32) → Prop} {T : Nat} {aa : Nat→Nat→Int32} {m : Nat → Nat → Int32} (ob : Int32) (ix : Int32) (va : Int32) (hV : zV m) (hpre0 : T ≤ 512) (r_W : zW (m 94 7) (m 98) (m 101) (m 102) (m 108)) (r_GW : zGW T (m 94 55) (m 109)) (r_GU : zGU T (m 94 46) (m 99)) (r_OW : zOw (m 99) (m 103) (m 111)) (r_GG : zGG (m 94 58) (m 94 56) (m 94 57) (m 106)) (hpre6 : (m 94 10).toInt = 5) (hpre7 : (m 94 8).toInt = 1) (r_RB : qRB (m 99) (m 100) (m 98) (m 101) (m 102) (m 103) (m 107) (m 108) (m 109) (m 111) (m 112) (m 113) (m 114) (m 94 55) (m 94 46) (m 94 11) (m 94 12) (m 94 62) (m 94 17) (m 94 9) aa) (r_QI : qI aa) (r_MG : qMG (m 94 58) (m 106) (m 115) (m 94 57) (m 94 56) (m 99) (m 100) aa) (r_MK : aa 87 8 = (m 94 58)) (r_WTS : (m 94 45).toInt = sm (zbU (m 99)) (m 102) 3100) (KZ : ∀ v m₉, zV (zov wr_244 m m₉) → (zW (m 94 7) (m 98) (m 101) (m 102) (m₉ 108)) → (zGW T (m 94 55) (m 109)) → (zGU T (m 94 46) (m 99)) → (zOw (m 99) (m 103) (m 111)) → (zGG (m 94 58) (m 94 56) (m 94 57) (m 106)) → (qRB (m 99) (m 100) (m 98) (m 101) (m 102) (m 103) (m 107) (m₉ 108) (m 109) (m 111) (m 112) (m 113) (m 114) (m 94 55) (m 94 46) (m 94 11) (m 94 12) (m 94 62) (m 94 17) (m 94 9) (xPu aa ob ix va)) → (qI (xPu aa ob ix va)) → (qMG (m 94 58) (m 106) (m 115) (m 94 57) (m 94 56) (m 99) (m 100) (xPu aa ob ix va)) → ((xPu aa ob ix va) 87 8 = (m 94 58)) → ((m 94 45).toInt = sm (zbU (m 99)) (m 102) 3100) → P (some (.inl v)) (zov wr_244 m m₉)) : zm X 5 109 244 0 [(0, .inr (.inr (some 94))), (1, .inl ob), (2, .inl ix), (3, .inl va)] m P := by
  have K : ∀ v m₉, zF wr_244 m m₉ → zV m₉ → (zW (m₉ 94 7) (m₉ 98) (m₉ 101) (m₉ 102) (m₉ 108)) → (zGW T (m₉ 94 55) (m₉ 109)) → (zGU T (m₉ 94 46) (m₉ 99)) → (zOw (m₉ 99) (m₉ 103) (m₉ 111)) → (zGG (m₉ 94 58) (m₉ 94 56) (m₉ 94 57) (m₉ 106)) → (qRB (m₉ 99) (m₉ 100) (m₉ 98) (m₉ 101) (m₉ 102) (m₉ 103) (m₉ 107) (m₉ 108) (m₉ 109) (m₉ 111) (m₉ 112) (m₉ 113) (m₉ 114) (m₉ 94 55) (m₉ 94 46) (m₉ 94 11) (m₉ 94 12) (m₉ 94 62) (m₉ 94 17) (m₉ 94 9) (xPu aa ob ix va)) → (qI (xPu aa ob ix va)) → (qMG (m₉ 94 58) (m₉ 106) (m₉ 115) (m₉ 94 57) (m₉ 94 56) (m₉ 99) (m₉ 100) (xPu aa ob ix va)) → ((xPu aa ob ix va) 87 8 = (m₉ 94 58)) → ((m₉ 94 45).toInt = sm (zbU (m₉ 99)) (m₉ 102) 3100) → P (some (.inl v)) m₉ := by
    intro v m₉ hf z q0 q1 q2 q3 q4 q5 q6 q7 q8 q9
    have e := zov_eq hf
    rw [e] at z ⊢
    try rw [e] at q0
    try rw [e] at q1
    try rw [e] at q2
    try rw [e] at q3
    try rw [e] at q4
    try rw [e] at q5
    try rw [e] at q6
    try rw [e] at q7
    try rw [e] at q8
    try rw [e] at q9
    exact KZ v m₉ z q0 q1 q2 q3 q4 q5 q6 q7 q8 q9
  refine g_244_0 ob ix va ?_
  have f1 : 0 ≤ (m 94 10).toInt ∧ (m 94 10).toInt ≤ 6 := rs_94_10 (m := m) hV
  have f2 : 0 ≤ (m 94 8).toInt ∧ (m 94 8).toInt ≤ 1 := rs_94_8 (m := m) hV
  have li3 : (0 : Int32).toInt = 0 := rfl
  refine zd (fun (h4 : (m 94 8) = (0 : Int32)) => ?_) (fun (h4 : ¬ (m 94 8) = (0 : Int32)) => ?_)
  · skip
    have g5 := i_eq h4
    exfalso; omega
  · skip
    have g6 := i_ne h4
    have b7 := i_bd ob
    have hV8 : zV (ma_u m 94 0 (0 : Int32)) := uf_94_0 hV
    refine sp_245r (aa := aa) (ob) hV8 r_W r_RB r_QI (fun v2 m1 hV_m1 p0_m1 p1_m1 p2_m1 => zmi_n ?_)
    have p0_m1 : -1 ≤ v2.toInt ∧ v2.toInt ≤ 3099 := p0_m1
    have p1_m1 : v2.toInt < 0 ∨ (m 99) v2.toNatClampNeg ≠ 0 := p1_m1
    have p2_m1 : qRe (m 99) (m 100) aa ob v2 := p2_m1
    have b9 := i_bd v2
    refine zd (fun (h10 : (0 : Int32) ≤ v2) => ?_) (fun (h10 : ¬ (0 : Int32) ≤ v2) => ?_)
    · skip
      have g11 := i_le h10
      have b12 := i_bd ix
      refine zd (fun (h13 : ix < (0 : Int32)) => ?_) (fun (h13 : ¬ ix < (0 : Int32)) => ?_)
      · skip
        have g14 := i_lt h13
        have hV15 : zV (ma_u (zov wr_245 (ma_u m 94 0 (0 : Int32)) m1) 94 0 (3 : Int32)) := uf_94_0 hV_m1
        exact K ((0 : Int32)) _ (zF_u (zF_zov (zF_u zF_rfl rfl) ws_245_244) rfl) hV15 r_W r_GW r_GU r_OW r_GG (show qRB (m 99) (m 100) (m 98) (m 101) (m 102) (m 103) (m 107) (m 108) (m 109) (m 111) (m 112) (m 113) (m 114) (m 94 55) (m 94 46) (m 94 11) (m 94 12) (m 94 62) (m 94 17) (m 94 9) (xPu aa ob ix va) from by first | (unfold xPu; rw [qIf_n (show ¬ (zRq aa ob ∧ zHw aa ob ix ∧ ¬ zIr aa ob ix) from fun w => Re_n p2_m1 (by omega) w.1)]; exact r_RB; done) | (unfold xPu; rw [qIf_n (show ¬ (zRq aa ob ∧ zHw aa ob ix ∧ ¬ zIr aa ob ix) from fun w => by have w2 := (Hw_y r_RB p2_m1 (by omega)).mp w.2.1; omega)]; exact r_RB; done) | (unfold xPu; rw [qIf_n (show ¬ (zRq aa ob ∧ zHw aa ob ix ∧ ¬ zIr aa ob ix) from fun w => w.2.2 ((Ir_y r_RB p2_m1 (by omega) (by omega) (by omega)).mpr (Or.inl (by assumption))))]; exact r_RB; done) | (unfold xPu; rw [qIf_n (show ¬ (zRq aa ob ∧ zHw aa ob ix ∧ ¬ zIr aa ob ix) from fun w => w.2.2 ((Ir_y r_RB p2_m1 (by omega) (by omega) (by omega)).mpr (Or.inr ⟨Int32.lt_iff_toInt_lt.mpr (by omega), by assumption⟩)))]; exact r_RB; done) | (exfalso; omega; done) | (exfalso; contradiction; done)) (show qI (xPu aa ob ix va) from by first | (unfold xPu; rw [qIf_n (show ¬ (zRq aa ob ∧ zHw aa ob ix ∧ ¬ zIr aa ob ix) from fun w => Re_n p2_m1 (by omega) w.1)]; exact r_QI; done) | (unfold xPu; rw [qIf_n (show ¬ (zRq aa ob ∧ zHw aa ob ix ∧ ¬ zIr aa ob ix) from fun w => by have w2 := (Hw_y r_RB p2_m1 (by omega)).mp w.2.1; omega)]; exact r_QI; done) | (unfold xPu; rw [qIf_n (show ¬ (zRq aa ob ∧ zHw aa ob ix ∧ ¬ zIr aa ob ix) from fun w => w.2.2 ((Ir_y r_RB p2_m1 (by omega) (by omega) (by omega)).mpr (Or.inl (by assumption))))]; exact r_QI; done) | (unfold xPu; rw [qIf_n (show ¬ (zRq aa ob ∧ zHw aa ob ix ∧ ¬ zIr aa ob ix) from fun w => w.2.2 ((Ir_y r_RB p2_m1 (by omega) (by omega) (by omega)).mpr (Or.inr ⟨Int32.lt_iff_toInt_lt.mpr (by omega), by assumption⟩)))]; exact r_QI; done) | (exfalso; omega; done) | (exfalso; contradiction; done)) (show qMG (m 94 58) (m 106) (m 115) (m 94 57) (m 94 56) (m 99) (m 100) (xPu aa ob ix va) from by first | (unfold xPu; rw [qIf_n (show ¬ (zRq aa ob ∧ zHw aa ob ix ∧ ¬ zIr aa ob ix) from fun w => Re_n p2_m1 (by omega) w.1)]; exact r_MG; done) | (unfold xPu; rw [qIf_n (show ¬ (zRq aa ob ∧ zHw aa ob ix ∧ ¬ zIr aa ob ix) from fun w => by have w2 := (Hw_y r_RB p2_m1 (by omega)).mp w.2.1; omega)]; exact r_MG; done) | (unfold xPu; rw [qIf_n (show ¬ (zRq aa ob ∧ zHw aa ob ix ∧ ¬ zIr aa ob ix) from fun w => w.2.2 ((Ir_y r_RB p2_m1 (by omega) (by omega) (by omega)).mpr (Or.inl (by assumption))))]; exact r_MG; done) | (unfold xPu; rw [qIf_n (show ¬ (zRq aa ob ∧ zHw aa ob ix ∧ ¬ zIr aa ob ix) from fun w => w.2.2 ((Ir_y r_RB p2_m1 (by omega) (by omega) (by omega)).mpr (Or.inr ⟨Int32.lt_iff_toInt_lt.mpr (by omega), by assumption⟩)))]; exact r_MG; done) | (exfalso; omega; done) | (exfalso; contradiction; done)) (show (xPu aa ob ix va) 87 8 = (m 94 58) from by first | (unfold xPu; rw [qIf_n (show ¬ (zRq aa ob ∧ zHw aa ob ix ∧ ¬ zIr aa ob ix) from fun w => Re_n p2_m1 (by omega) w.1)]; exact r_MK; done) | (unfold xPu; rw [qIf_n (show ¬ (zRq aa ob ∧ zHw aa ob ix ∧ ¬ zIr aa ob ix) from fun w => by have w2 := (Hw_y r_RB p2_m1 (by omega)).mp w.2.1; omega)]; exact r_MK; done) | (unfold xPu; rw [qIf_n (show ¬ (zRq aa ob ∧ zHw aa ob ix ∧ ¬ zIr aa ob ix) from fun w => w.2.2 ((Ir_y r_RB p2_m1 (by omega) (by omega) (by omega)).mpr (Or.inl (by assumption))))]; exact r_MK; done) | (unfold xPu; rw [qIf_n (show ¬ (zRq aa ob ∧ zHw aa ob ix ∧ ¬ zIr aa ob ix) from fun w => w.2.2 ((Ir_y r_RB p2_m1 (by omega) (by omega) (by omega)).mpr (Or.inr ⟨Int32.lt_iff_toInt_lt.mpr (by omega), by assumption⟩)))]; exact r_MK; done) | (exfalso; omega; done) | (exfalso; contradiction; done)) r_WTS
      · skip
        have g16 := i_nlt h13
        have hg17 : (0 ≤ v2 ∧ v2.toNatClampNeg < 3100) := i_ix (by omega) (by omega)
        refine ⟨hg17, ?_⟩
        first | have f18 : 0 ≤ (m 102 v2.toNatClampNeg).toInt ∧ (m 102 v2.toNatClampNeg).toInt ≤ 60 := ra_102 (m := m) hV (k := v2.toNatClampNeg) (i_ix (n := 3100) (by omega) (by omega)).2 | have b19 := i_bd (m 102 v2.toNatClampNeg)
        refine zd (fun (h20 : ix < (m 102 v2.toNatClampNeg)) => ?_) (fun (h20 : ¬ ix < (m 102 v2.toNatClampNeg)) => ?_)
        · skip
          have g21 := i_lt h20
          have hg22 : (0 ≤ v2 ∧ v2.toNatClampNeg < 3100) := i_ix (by omega) (by omega)
          refine ⟨hg22, ?_⟩
          first | have f23 : 0 ≤ (m 101 v2.toNatClampNeg).toInt ∧ (m 101 v2.toNatClampNeg).toInt ≤ 17 := ra_101 (m := m) hV (k := v2.toNatClampNeg) (i_ix (n := 3100) (by omega) (by omega)).2 | have b24 := i_bd (m 101 v2.toNatClampNeg)
          have li25 : (16 : Int32).toInt = 16 := rfl
          refine zd (fun (h26 : (m 101 v2.toNatClampNeg) = (16 : Int32)) => ?_) (fun (h26 : ¬ (m 101 v2.toNatClampNeg) = (16 : Int32)) => ?_)
          · skip
            have g27 := i_eq h26
            have hV28 : zV (ma_u (zov wr_245 (ma_u m 94 0 (0 : Int32)) m1) 94 0 (4 : Int32)) := uf_94_0 hV_m1
            exact K ((0 : Int32)) _ (zF_u (zF_zov (zF_u zF_rfl rfl) ws_245_244) rfl) hV28 r_W r_GW r_GU r_OW r_GG (show qRB (m 99) (m 100) (m 98) (m 101) (m 102) (m 103) (m 107) (m 108) (m 109) (m 111) (m 112) (m 113) (m 114) (m 94 55) (m 94 46) (m 94 11) (m 94 12) (m 94 62) (m 94 17) (m 94 9) (xPu aa ob ix va) from by first | (unfold xPu; rw [qIf_n (show ¬ (zRq aa ob ∧ zHw aa ob ix ∧ ¬ zIr aa ob ix) from fun w => Re_n p2_m1 (by omega) w.1)]; exact r_RB; done) | (unfold xPu; rw [qIf_n (show ¬ (zRq aa ob ∧ zHw aa ob ix ∧ ¬ zIr aa ob ix) from fun w => by have w2 := (Hw_y r_RB p2_m1 (by omega)).mp w.2.1; omega)]; exact r_RB; done) | (unfold xPu; rw [qIf_n (show ¬ (zRq aa ob ∧ zHw aa ob ix ∧ ¬ zIr aa ob ix) from fun w => w.2.2 ((Ir_y r_RB p2_m1 (by omega) (by omega) (by omega)).mpr (Or.inl (by assumption))))]; exact r_RB; done) | (unfold xPu; rw [qIf_n (show ¬ (zRq aa ob ∧ zHw aa ob ix ∧ ¬ zIr aa ob ix) from fun w => w.2.2 ((Ir_y r_RB p2_m1 (by omega) (by omega) (by omega)).mpr (Or.inr ⟨Int32.lt_iff_toInt_lt.mpr (by omega), by assumption⟩)))]; exact r_RB; done) | (exfalso; omega; done) | (exfalso; contradiction; done)) (show qI (xPu aa ob ix va) from by first | (unfold xPu; rw [qIf_n (show ¬ (zRq aa ob ∧ zHw aa ob ix ∧ ¬ zIr aa ob ix) from fun w => Re_n p2_m1 (by omega) w.1)]; exact r_QI; done) | (unfold xPu; rw [qIf_n (show ¬ (zRq aa ob ∧ zHw aa ob ix ∧ ¬ zIr aa ob ix) from fun w => by have w2 := (Hw_y r_RB p2_m1 (by omega)).mp w.2.1; omega)]; exact r_QI; done) | (unfold xPu; rw [qIf_n (show ¬ (zRq aa ob ∧ zHw aa ob ix ∧ ¬ zIr aa ob ix) from fun w => w.2.2 ((Ir_y r_RB p2_m1 (by omega) (by omega) (by omega)).mpr (Or.inl (by assumption))))]; exact r_QI; done) | (unfold xPu; rw [qIf_n (show ¬ (zRq aa ob ∧ zHw aa ob ix ∧ ¬ zIr aa ob ix) from fun w => w.2.2 ((Ir_y r_RB p2_m1 (by omega) (by omega) (by omega)).mpr (Or.inr ⟨Int32.lt_iff_toInt_lt.mpr (by omega), by assumption⟩)))]; exact r_QI; done) | (exfalso; omega; done) | (exfalso; contradiction; done)) (show qMG (m 94 58) (m 106) (m 115) (m 94 57) (m 94 56) (m 99) (m 100) (xPu aa ob ix va) from by first | (unfold xPu; rw [qIf_n (show ¬ (zRq aa ob ∧ zHw aa ob ix ∧ ¬ zIr aa ob ix) from fun w => Re_n p2_m1 (by omega) w.1)]; exact r_MG; done) | (unfold xPu; rw [qIf_n (show ¬ (zRq aa ob ∧ zHw aa ob ix ∧ ¬ zIr aa ob ix) from fun w => by have w2 := (Hw_y r_RB p2_m1 (by omega)).mp w.2.1; omega)]; exact r_MG; done) | (unfold xPu; rw [qIf_n (show ¬ (zRq aa ob ∧ zHw aa ob ix ∧ ¬ zIr aa ob ix) from fun w => w.2.2 ((Ir_y r_RB p2_m1 (by omega) (by omega) (by omega)).mpr (Or.inl (by assumption))))]; exact r_MG; done) | (unfold xPu; rw [qIf_n (show ¬ (zRq aa ob ∧ zHw aa ob ix ∧ ¬ zIr aa ob ix) from fun w => w.2.2 ((Ir_y r_RB p2_m1 (by omega) (by omega) (by omega)).mpr (Or.inr ⟨Int32.lt_iff_toInt_lt.mpr (by omega), by assumption⟩)))]; exact r_MG; done) | (exfalso; omega; done) | (exfalso; contradiction; done)) (show (xPu aa ob ix va) 87 8 = (m 94 58) from by first | (unfold xPu; rw [qIf_n (show ¬ (zRq aa ob ∧ zHw aa ob ix ∧ ¬ zIr aa ob ix) from fun w => Re_n p2_m1 (by omega) w.1)]; exact r_MK; done) | (unfold xPu; rw [qIf_n (show ¬ (zRq aa ob ∧ zHw aa ob ix ∧ ¬ zIr aa ob ix) from fun w => by have w2 := (Hw_y r_RB p2_m1 (by omega)).mp w.2.1; omega)]; exact r_MK; done) | (unfold xPu; rw [qIf_n (show ¬ (zRq aa ob ∧ zHw aa ob ix ∧ ¬ zIr aa ob ix) from fun w => w.2.2 ((Ir_y r_RB p2_m1 (by omega) (by omega) (by omega)).mpr (Or.inl (by assumption))))]; exact r_MK; done) | (unfold xPu; rw [qIf_n (show ¬ (zRq aa ob ∧ zHw aa ob ix ∧ ¬ zIr aa ob ix) from fun w => w.2.2 ((Ir_y r_RB p2_m1 (by omega) (by omega) (by omega)).mpr (Or.inr ⟨Int32.lt_iff_toInt_lt.mpr (by omega), by assumption⟩)))]; exact r_MK; done) | (exfalso; omega; done) | (exfalso; contradiction; done)) r_WTS
          · skip
            have g29 := i_ne h26
            have hg30 : (0 ≤ v2 ∧ v2.toNatClampNeg < 3100) := i_ix (by omega) (by omega)
            refine ⟨hg30, ?_⟩
            refine zd (fun (h31 : (16 : Int32) ≤ (m 101 v2.toNatClampNeg)) => ?_) (fun (h31 : ¬ (16 : Int32) ≤ (m 101 v2.toNatClampNeg)) => ?_)
            · skip
              have g32 := i_le h31
              have li33 : (60 : Int32).toInt = 60 := rfl
              first | have e34 : (v2 * (60 : Int32)).toInt = v2.toInt * 60 := i_mulk rfl (by omega) (by omega) | have b35 := i_bd (v2 * (60 : Int32))
              first | have e36 : ((v2 * (60 : Int32)) + ix).toInt = (v2 * (60 : Int32)).toInt + ix.toInt := i_add (by omega) (by omega) | have b37 := i_bd ((v2 * (60 : Int32)) + ix)
              have hg38 : (0 ≤ ((v2 * (60 : Int32)) + ix) ∧ ((v2 * (60 : Int32)) + ix).toNatClampNeg < 186000) := i_ix (by omega) (by omega)
              refine ⟨hg38, ?_⟩
              have hg39 : (0 ≤ ((v2 * (60 : Int32)) + ix) ∧ ((v2 * (60 : Int32)) + ix).toNatClampNeg < 186000) := i_ix (by omega) (by omega)
              refine ⟨hg39, ?_⟩
              have hV40 : zV (ma_u (zov wr_245 (ma_u m 94 0 (0 : Int32)) m1) 94 0 (0 : Int32)) := uf_94_0 hV_m1
              have hV41 : zV (ma_u (ma_u (zov wr_245 (ma_u m 94 0 (0 : Int32)) m1) 94 0 (0 : Int32)) 108 ((v2 * (60 : Int32)) + ix).toNatClampNeg va) := ua_108 hV40
              have b42 := i_bd (m 108 ((v2 * (60 : Int32)) + ix).toNatClampNeg)
              exact K ((m 108 ((v2 * (60 : Int32)) + ix).toNatClampNeg)) _ (zF_u (zF_u (zF_zov (zF_u zF_rfl rfl) ws_245_244) rfl) rfl) hV41 (show zW (m 94 7) (m 98) (m 101) (m 102) ((ma_u m 108 ((v2 * (60 : Int32)) + ix).toNatClampNeg va) 108) from by first | (exact W_same r_W (by omega) (fun s2 i2 hs2 hi2 => zrf_put (by omega) (by omega) (by omega) (by omega) (by assumption) (fun z => by first | exact absurd (Int32.lt_iff_toInt_lt.mp z.1) (by omega) | exact absurd z.2 (by assumption)) s2 i2 (by have := (ra_102 hV hs2).2; omega))) | (exfalso; omega; done) | (exfalso; contradiction; done)) r_GW r_GU r_OW r_GG (show qRB (m 99) (m 100) (m 98) (m 101) (m 102) (m 103) (m 107) ((ma_u m 108 ((v2 * (60 : Int32)) + ix).toNatClampNeg va) 108) (m 109) (m 111) (m 112) (m 113) (m 114) (m 94 55) (m 94 46) (m 94 11) (m 94 12) (m 94 62) (m 94 17) (m 94 9) (xPu aa ob ix va) from by first | (unfold xPu; rw [qIf_y (show zRq aa ob ∧ zHw aa ob ix ∧ ¬ zIr aa ob ix from ⟨(Re_y p2_m1 (by omega)).2.2.2, (Hw_y r_RB p2_m1 (by omega)).mpr ⟨by omega, by omega⟩, fun w => ((Ir_y r_RB p2_m1 (by omega) (by omega) (by omega)).mp w).elim (fun z => absurd z (by assumption)) (fun z => by first | exact absurd (Int32.lt_iff_toInt_lt.mp z.1) (by omega) | exact absurd z.2 (by assumption))⟩)]; exact (RB_pu (x := va) r_RB r_QI (s := v2) (by omega) (by omega) (Re_y p2_m1 (by omega)).2.1 (i := ix) (by omega) (by omega) (by assumption) (fun z => by first | exact absurd (Int32.lt_iff_toInt_lt.mp z.1) (by omega) | exact absurd z.2 (by assumption)) (Re_y p2_m1 (by omega)).2.2.1).1; done) | (exfalso; omega; done) | (exfalso; contradiction; done)) (show qI (xPu aa ob ix va) from by first | (unfold xPu; rw [qIf_y (show zRq aa ob ∧ zHw aa ob ix ∧ ¬ zIr aa ob ix from ⟨(Re_y p2_m1 (by omega)).2.2.2, (Hw_y r_RB p2_m1 (by omega)).mpr ⟨by omega, by omega⟩, fun w => ((Ir_y r_RB p2_m1 (by omega) (by omega) (by omega)).mp w).elim (fun z => absurd z (by assumption)) (fun z => by first | exact absurd (Int32.lt_iff_toInt_lt.mp z.1) (by omega) | exact absurd z.2 (by assumption))⟩)]; have pw := (RB_pu (x := va) r_RB r_QI (s := v2) (by omega) (by omega) (Re_y p2_m1 (by omega)).2.1 (i := ix) (by omega) (by omega) (by assumption) (fun z => by first | exact absurd (Int32.lt_iff_toInt_lt.mp z.1) (by omega) | exact absurd z.2 (by assumption)) (Re_y p2_m1 (by omega)).2.2.1); rw [Ci_eq r_QI pw.2.2]; exact I_w r_QI pw.2.2; done) | (exfalso; omega; done) | (exfalso; contradiction; done)) (show qMG (m 94 58) (m 106) (m 115) (m 94 57) (m 94 56) (m 99) (m 100) (xPu aa ob ix va) from by first | (unfold xPu; rw [qIf_y (show zRq aa ob ∧ zHw aa ob ix ∧ ¬ zIr aa ob ix from ⟨(Re_y p2_m1 (by omega)).2.2.2, (Hw_y r_RB p2_m1 (by omega)).mpr ⟨by omega, by omega⟩, fun w => ((Ir_y r_RB p2_m1 (by omega) (by omega) (by omega)).mp w).elim (fun z => absurd z (by assumption)) (fun z => by first | exact absurd (Int32.lt_iff_toInt_lt.mp z.1) (by omega) | exact absurd z.2 (by assumption))⟩)]; have pw := (RB_pu (x := va) r_RB r_QI (s := v2) (by omega) (by omega) (Re_y p2_m1 (by omega)).2.1 (i := ix) (by omega) (by omega) (by assumption) (fun z => by first | exact absurd (Int32.lt_iff_toInt_lt.mp z.1) (by omega) | exact absurd z.2 (by assumption)) (Re_y p2_m1 (by omega)).2.2.1); exact fun z => ⟨by rw [Ci_eq r_QI pw.2.2]; exact MQ_71 (r_MG z).1, MI_pu (r_MG z).2 r_QI pw.2.2 pw.2.1⟩; done) | (exfalso; omega; done) | (exfalso; contradiction; done)) (show (xPu aa ob ix va) 87 8 = (m 94 58) from by first | (unfold xPu; rw [qIf_y (show zRq aa ob ∧ zHw aa ob ix ∧ ¬ zIr aa ob ix from ⟨(Re_y p2_m1 (by omega)).2.2.2, (Hw_y r_RB p2_m1 (by omega)).mpr ⟨by omega, by omega⟩, fun w => ((Ir_y r_RB p2_m1 (by omega) (by omega) (by omega)).mp w).elim (fun z => absurd z (by assumption)) (fun z => by first | exact absurd (Int32.lt_iff_toInt_lt.mp z.1) (by omega) | exact absurd z.2 (by assumption))⟩)]; have pw := (RB_pu (x := va) r_RB r_QI (s := v2) (by omega) (by omega) (Re_y p2_m1 (by omega)).2.1 (i := ix) (by omega) (by omega) (by assumption) (fun z => by first | exact absurd (Int32.lt_iff_toInt_lt.mp z.1) (by omega) | exact absurd z.2 (by assumption)) (Re_y p2_m1 (by omega)).2.2.1); rw [Ci_eq r_QI pw.2.2, un (by decide)]; exact r_MK; done) | (exfalso; omega; done) | (exfalso; contradiction; done)) r_WTS
            · skip
              have g43 := i_nle h31
              have hg44 : (0 ≤ v2 ∧ v2.toNatClampNeg < 3100) := i_ix (by omega) (by omega)
              refine ⟨hg44, ?_⟩
              have hg45 : (0 ≤ (m 101 v2.toNatClampNeg) ∧ (m 101 v2.toNatClampNeg).toNatClampNeg < 16) := i_ix (by omega) (by omega)
              refine ⟨hg45, ?_⟩
              have b46 := i_bd (((m 98 (m 101 v2.toNatClampNeg).toNatClampNeg) >>> (ix &&& 31)) &&& (1 : Int32))
              have li47 : (1 : Int32).toInt = 1 := rfl
              refine zd (fun (h48 : (((m 98 (m 101 v2.toNatClampNeg).toNatClampNeg) >>> (ix &&& 31)) &&& (1 : Int32)) = (1 : Int32)) => ?_) (fun (h48 : ¬ (((m 98 (m 101 v2.toNatClampNeg).toNatClampNeg) >>> (ix &&& 31)) &&& (1 : Int32)) = (1 : Int32)) => ?_)
              · skip
                have g49 := i_eq h48
                have hV50 : zV (ma_u (zov wr_245 (ma_u m 94 0 (0 : Int32)) m1) 94 0 (4 : Int32)) := uf_94_0 hV_m1
                exact K ((0 : Int32)) _ (zF_u (zF_zov (zF_u zF_rfl rfl) ws_245_244) rfl) hV50 r_W r_GW r_GU r_OW r_GG (show qRB (m 99) (m 100) (m 98) (m 101) (m 102) (m 103) (m 107) (m 108) (m 109) (m 111) (m 112) (m 113) (m 114) (m 94 55) (m 94 46) (m 94 11) (m 94 12) (m 94 62) (m 94 17) (m 94 9) (xPu aa ob ix va) from by first | (unfold xPu; rw [qIf_n (show ¬ (zRq aa ob ∧ zHw aa ob ix ∧ ¬ zIr aa ob ix) from fun w => Re_n p2_m1 (by omega) w.1)]; exact r_RB; done) | (unfold xPu; rw [qIf_n (show ¬ (zRq aa ob ∧ zHw aa ob ix ∧ ¬ zIr aa ob ix) from fun w => by have w2 := (Hw_y r_RB p2_m1 (by omega)).mp w.2.1; omega)]; exact r_RB; done) | (unfold xPu; rw [qIf_n (show ¬ (zRq aa ob ∧ zHw aa ob ix ∧ ¬ zIr aa ob ix) from fun w => w.2.2 ((Ir_y r_RB p2_m1 (by omega) (by omega) (by omega)).mpr (Or.inl (by assumption))))]; exact r_RB; done) | (unfold xPu; rw [qIf_n (show ¬ (zRq aa ob ∧ zHw aa ob ix ∧ ¬ zIr aa ob ix) from fun w => w.2.2 ((Ir_y r_RB p2_m1 (by omega) (by omega) (by omega)).mpr (Or.inr ⟨Int32.lt_iff_toInt_lt.mpr (by omega), by assumption⟩)))]; exact r_RB; done) | (exfalso; omega; done) | (exfalso; contradiction; done)) (show qI (xPu aa ob ix va) from by first | (unfold xPu; rw [qIf_n (show ¬ (zRq aa ob ∧ zHw aa ob ix ∧ ¬ zIr aa ob ix) from fun w => Re_n p2_m1 (by omega) w.1)]; exact r_QI; done) | (unfold xPu; rw [qIf_n (show ¬ (zRq aa ob ∧ zHw aa ob ix ∧ ¬ zIr aa ob ix) from fun w => by have w2 := (Hw_y r_RB p2_m1 (by omega)).mp w.2.1; omega)]; exact r_QI; done) | (unfold xPu; rw [qIf_n (show ¬ (zRq aa ob ∧ zHw aa ob ix ∧ ¬ zIr aa ob ix) from fun w => w.2.2 ((Ir_y r_RB p2_m1 (by omega) (by omega) (by omega)).mpr (Or.inl (by assumption))))]; exact r_QI; done) | (unfold xPu; rw [qIf_n (show ¬ (zRq aa ob ∧ zHw aa ob ix ∧ ¬ zIr aa ob ix) from fun w => w.2.2 ((Ir_y r_RB p2_m1 (by omega) (by omega) (by omega)).mpr (Or.inr ⟨Int32.lt_iff_toInt_lt.mpr (by omega), by assumption⟩)))]; exact r_QI; done) | (exfalso; omega; done) | (exfalso; contradiction; done)) (show qMG (m 94 58) (m 106) (m 115) (m 94 57) (m 94 56) (m 99) (m 100) (xPu aa ob ix va) from by first | (unfold xPu; rw [qIf_n (show ¬ (zRq aa ob ∧ zHw aa ob ix ∧ ¬ zIr aa ob ix) from fun w => Re_n p2_m1 (by omega) w.1)]; exact r_MG; done) | (unfold xPu; rw [qIf_n (show ¬ (zRq aa ob ∧ zHw aa ob ix ∧ ¬ zIr aa ob ix) from fun w => by have w2 := (Hw_y r_RB p2_m1 (by omega)).mp w.2.1; omega)]; exact r_MG; done) | (unfold xPu; rw [qIf_n (show ¬ (zRq aa ob ∧ zHw aa ob ix ∧ ¬ zIr aa ob ix) from fun w => w.2.2 ((Ir_y r_RB p2_m1 (by omega) (by omega) (by omega)).mpr (Or.inl (by assumption))))]; exact r_MG; done) | (unfold xPu; rw [qIf_n (show ¬ (zRq aa ob ∧ zHw aa ob ix ∧ ¬ zIr aa ob ix) from fun w => w.2.2 ((Ir_y r_RB p2_m1 (by omega) (by omega) (by omega)).mpr (Or.inr ⟨Int32.lt_iff_toInt_lt.mpr (by omega), by assumption⟩)))]; exact r_MG; done) | (exfalso; omega; done) | (exfalso; contradiction; done)) (show (xPu aa ob ix va) 87 8 = (m 94 58) from by first | (unfold xPu; rw [qIf_n (show ¬ (zRq aa ob ∧ zHw aa ob ix ∧ ¬ zIr aa ob ix) from fun w => Re_n p2_m1 (by omega) w.1)]; exact r_MK; done) | (unfold xPu; rw [qIf_n (show ¬ (zRq aa ob ∧ zHw aa ob ix ∧ ¬ zIr aa ob ix) from fun w => by have w2 := (Hw_y r_RB p2_m1 (by omega)).mp w.2.1; omega)]; exact r_MK; done) | (unfold xPu; rw [qIf_n (show ¬ (zRq aa ob ∧ zHw aa ob ix ∧ ¬ zIr aa ob ix) from fun w => w.2.2 ((Ir_y r_RB p2_m1 (by omega) (by omega) (by omega)).mpr (Or.inl (by assumption))))]; exact r_MK; done) | (unfold xPu; rw [qIf_n (show ¬ (zRq aa ob ∧ zHw aa ob ix ∧ ¬ zIr aa ob ix) from fun w => w.2.2 ((Ir_y r_RB p2_m1 (by omega) (by omega) (by omega)).mpr (Or.inr ⟨Int32.lt_iff_toInt_lt.mpr (by omega), by assumption⟩)))]; exact r_MK; done) | (exfalso; omega; done) | (exfalso; contradiction; done)) r_WTS
              · skip
                have g51 := i_ne h48
                have li52 : (60 : Int32).toInt = 60 := rfl
                first | have e53 : (v2 * (60 : Int32)).toInt = v2.toInt * 60 := i_mulk rfl (by omega) (by omega) | have b54 := i_bd (v2 * (60 : Int32))
                first | have e55 : ((v2 * (60 : Int32)) + ix).toInt = (v2 * (60 : Int32)).toInt + ix.toInt := i_add (by omega) (by omega) | have b56 := i_bd ((v2 * (60 : Int32)) + ix)
                have hg57 : (0 ≤ ((v2 * (60 : Int32)) + ix) ∧ ((v2 * (60 : Int32)) + ix).toNatClampNeg < 186000) := i_ix (by omega) (by omega)
                refine ⟨hg57, ?_⟩
                have hg58 : (0 ≤ ((v2 * (60 : Int32)) + ix) ∧ ((v2 * (60 : Int32)) + ix).toNatClampNeg < 186000) := i_ix (by omega) (by omega)
                refine ⟨hg58, ?_⟩
                have hV59 : zV (ma_u (zov wr_245 (ma_u m 94 0 (0 : Int32)) m1) 94 0 (0 : Int32)) := uf_94_0 hV_m1
                have hV60 : zV (ma_u (ma_u (zov wr_245 (ma_u m 94 0 (0 : Int32)) m1) 94 0 (0 : Int32)) 108 ((v2 * (60 : Int32)) + ix).toNatClampNeg va) := ua_108 hV59
                have b61 := i_bd (m 108 ((v2 * (60 : Int32)) + ix).toNatClampNeg)
                exact K ((m 108 ((v2 * (60 : Int32)) + ix).toNatClampNeg)) _ (zF_u (zF_u (zF_zov (zF_u zF_rfl rfl) ws_245_244) rfl) rfl) hV60 (show zW (m 94 7) (m 98) (m 101) (m 102) ((ma_u m 108 ((v2 * (60 : Int32)) + ix).toNatClampNeg va) 108) from by first | (exact W_same r_W (by omega) (fun s2 i2 hs2 hi2 => zrf_put (by omega) (by omega) (by omega) (by omega) (by assumption) (fun z => by first | exact absurd (Int32.lt_iff_toInt_lt.mp z.1) (by omega) | exact absurd z.2 (by assumption)) s2 i2 (by have := (ra_102 hV hs2).2; omega))) | (exfalso; omega; done) | (exfalso; contradiction; done)) r_GW r_GU r_OW r_GG (show qRB (m 99) (m 100) (m 98) (m 101) (m 102) (m 103) (m 107) ((ma_u m 108 ((v2 * (60 : Int32)) + ix).toNatClampNeg va) 108) (m 109) (m 111) (m 112) (m 113) (m 114) (m 94 55) (m 94 46) (m 94 11) (m 94 12) (m 94 62) (m 94 17) (m 94 9) (xPu aa ob ix va) from by first | (unfold xPu; rw [qIf_y (show zRq aa ob ∧ zHw aa ob ix ∧ ¬ zIr aa ob ix from ⟨(Re_y p2_m1 (by omega)).2.2.2, (Hw_y r_RB p2_m1 (by omega)).mpr ⟨by omega, by omega⟩, fun w => ((Ir_y r_RB p2_m1 (by omega) (by omega) (by omega)).mp w).elim (fun z => absurd z (by assumption)) (fun z => by first | exact absurd (Int32.lt_iff_toInt_lt.mp z.1) (by omega) | exact absurd z.2 (by assumption))⟩)]; exact (RB_pu (x := va) r_RB r_QI (s := v2) (by omega) (by omega) (Re_y p2_m1 (by omega)).2.1 (i := ix) (by omega) (by omega) (by assumption) (fun z => by first | exact absurd (Int32.lt_iff_toInt_lt.mp z.1) (by omega) | exact absurd z.2 (by assumption)) (Re_y p2_m1 (by omega)).2.2.1).1; done) | (exfalso; omega; done) | (exfalso; contradiction; done)) (show qI (xPu aa ob ix va) from by first | (unfold xPu; rw [qIf_y (show zRq aa ob ∧ zHw aa ob ix ∧ ¬ zIr aa ob ix from ⟨(Re_y p2_m1 (by omega)).2.2.2, (Hw_y r_RB p2_m1 (by omega)).mpr ⟨by omega, by omega⟩, fun w => ((Ir_y r_RB p2_m1 (by omega) (by omega) (by omega)).mp w).elim (fun z => absurd z (by assumption)) (fun z => by first | exact absurd (Int32.lt_iff_toInt_lt.mp z.1) (by omega) | exact absurd z.2 (by assumption))⟩)]; have pw := (RB_pu (x := va) r_RB r_QI (s := v2) (by omega) (by omega) (Re_y p2_m1 (by omega)).2.1 (i := ix) (by omega) (by omega) (by assumption) (fun z => by first | exact absurd (Int32.lt_iff_toInt_lt.mp z.1) (by omega) | exact absurd z.2 (by assumption)) (Re_y p2_m1 (by omega)).2.2.1); rw [Ci_eq r_QI pw.2.2]; exact I_w r_QI pw.2.2; done) | (exfalso; omega; done) | (exfalso; contradiction; done)) (show qMG (m 94 58) (m 106) (m 115) (m 94 57) (m 94 56) (m 99) (m 100) (xPu aa ob ix va) from by first | (unfold xPu; rw [qIf_y (show zRq aa ob ∧ zHw aa ob ix ∧ ¬ zIr aa ob ix from ⟨(Re_y p2_m1 (by omega)).2.2.2, (Hw_y r_RB p2_m1 (by omega)).mpr ⟨by omega, by omega⟩, fun w => ((Ir_y r_RB p2_m1 (by omega) (by omega) (by omega)).mp w).elim (fun z => absurd z (by assumption)) (fun z => by first | exact absurd (Int32.lt_iff_toInt_lt.mp z.1) (by omega) | exact absurd z.2 (by assumption))⟩)]; have pw := (RB_pu (x := va) r_RB r_QI (s := v2) (by omega) (by omega) (Re_y p2_m1 (by omega)).2.1 (i := ix) (by omega) (by omega) (by assumption) (fun z => by first | exact absurd (Int32.lt_iff_toInt_lt.mp z.1) (by omega) | exact absurd z.2 (by assumption)) (Re_y p2_m1 (by omega)).2.2.1); exact fun z => ⟨by rw [Ci_eq r_QI pw.2.2]; exact MQ_71 (r_MG z).1, MI_pu (r_MG z).2 r_QI pw.2.2 pw.2.1⟩; done) | (exfalso; omega; done) | (exfalso; contradiction; done)) (show (xPu aa ob ix va) 87 8 = (m 94 58) from by first | (unfold xPu; rw [qIf_y (show zRq aa ob ∧ zHw aa ob ix ∧ ¬ zIr aa ob ix from ⟨(Re_y p2_m1 (by omega)).2.2.2, (Hw_y r_RB p2_m1 (by omega)).mpr ⟨by omega, by omega⟩, fun w => ((Ir_y r_RB p2_m1 (by omega) (by omega) (by omega)).mp w).elim (fun z => absurd z (by assumption)) (fun z => by first | exact absurd (Int32.lt_iff_toInt_lt.mp z.1) (by omega) | exact absurd z.2 (by assumption))⟩)]; have pw := (RB_pu (x := va) r_RB r_QI (s := v2) (by omega) (by omega) (Re_y p2_m1 (by omega)).2.1 (i := ix) (by omega) (by omega) (by assumption) (fun z => by first | exact absurd (Int32.lt_iff_toInt_lt.mp z.1) (by omega) | exact absurd z.2 (by assumption)) (Re_y p2_m1 (by omega)).2.2.1); rw [Ci_eq r_QI pw.2.2, un (by decide)]; exact r_MK; done) | (exfalso; omega; done) | (exfalso; contradiction; done)) r_WTS
        · skip
          have g62 := i_nlt h20
          have hV63 : zV (ma_u (zov wr_245 (ma_u m 94 0 (0 : Int32)) m1) 94 0 (3 : Int32)) := uf_94_0 hV_m1
          exact K ((0 : Int32)) _ (zF_u (zF_zov (zF_u zF_rfl rfl) ws_245_244) rfl) hV63 r_W r_GW r_GU r_OW r_GG (show qRB (m 99) (m 100) (m 98) (m 101) (m 102) (m 103) (m 107) (m 108) (m 109) (m 111) (m 112) (m 113) (m 114) (m 94 55) (m 94 46) (m 94 11) (m 94 12) (m 94 62) (m 94 17) (m 94 9) (xPu aa ob ix va) from by first | (unfold xPu; rw [qIf_n (show ¬ (zRq aa ob ∧ zHw aa ob ix ∧ ¬ zIr aa ob ix) from fun w => Re_n p2_m1 (by omega) w.1)]; exact r_RB; done) | (unfold xPu; rw [qIf_n (show ¬ (zRq aa ob ∧ zHw aa ob ix ∧ ¬ zIr aa ob ix) from fun w => by have w2 := (Hw_y r_RB p2_m1 (by omega)).mp w.2.1; omega)]; exact r_RB; done) | (unfold xPu; rw [qIf_n (show ¬ (zRq aa ob ∧ zHw aa ob ix ∧ ¬ zIr aa ob ix) from fun w => w.2.2 ((Ir_y r_RB p2_m1 (by omega) (by omega) (by omega)).mpr (Or.inl (by assumption))))]; exact r_RB; done) | (unfold xPu; rw [qIf_n (show ¬ (zRq aa ob ∧ zHw aa ob ix ∧ ¬ zIr aa ob ix) from fun w => w.2.2 ((Ir_y r_RB p2_m1 (by omega) (by omega) (by omega)).mpr (Or.inr ⟨Int32.lt_iff_toInt_lt.mpr (by omega), by assumption⟩)))]; exact r_RB; done) | (exfalso; omega; done) | (exfalso; contradiction; done)) (show qI (xPu aa ob ix va) from by first | (unfold xPu; rw [qIf_n (show ¬ (zRq aa ob ∧ zHw aa ob ix ∧ ¬ zIr aa ob ix) from fun w => Re_n p2_m1 (by omega) w.1)]; exact r_QI; done) | (unfold xPu; rw [qIf_n (show ¬ (zRq aa ob ∧ zHw aa ob ix ∧ ¬ zIr aa ob ix) from fun w => by have w2 := (Hw_y r_RB p2_m1 (by omega)).mp w.2.1; omega)]; exact r_QI; done) | (unfold xPu; rw [qIf_n (show ¬ (zRq aa ob ∧ zHw aa ob ix ∧ ¬ zIr aa ob ix) from fun w => w.2.2 ((Ir_y r_RB p2_m1 (by omega) (by omega) (by omega)).mpr (Or.inl (by assumption))))]; exact r_QI; done) | (unfold xPu; rw [qIf_n (show ¬ (zRq aa ob ∧ zHw aa ob ix ∧ ¬ zIr aa ob ix) from fun w => w.2.2 ((Ir_y r_RB p2_m1 (by omega) (by omega) (by omega)).mpr (Or.inr ⟨Int32.lt_iff_toInt_lt.mpr (by omega), by assumption⟩)))]; exact r_QI; done) | (exfalso; omega; done) | (exfalso; contradiction; done)) (show qMG (m 94 58) (m 106) (m 115) (m 94 57) (m 94 56) (m 99) (m 100) (xPu aa ob ix va) from by first | (unfold xPu; rw [qIf_n (show ¬ (zRq aa ob ∧ zHw aa ob ix ∧ ¬ zIr aa ob ix) from fun w => Re_n p2_m1 (by omega) w.1)]; exact r_MG; done) | (unfold xPu; rw [qIf_n (show ¬ (zRq aa ob ∧ zHw aa ob ix ∧ ¬ zIr aa ob ix) from fun w => by have w2 := (Hw_y r_RB p2_m1 (by omega)).mp w.2.1; omega)]; exact r_MG; done) | (unfold xPu; rw [qIf_n (show ¬ (zRq aa ob ∧ zHw aa ob ix ∧ ¬ zIr aa ob ix) from fun w => w.2.2 ((Ir_y r_RB p2_m1 (by omega) (by omega) (by omega)).mpr (Or.inl (by assumption))))]; exact r_MG; done) | (unfold xPu; rw [qIf_n (show ¬ (zRq aa ob ∧ zHw aa ob ix ∧ ¬ zIr aa ob ix) from fun w => w.2.2 ((Ir_y r_RB p2_m1 (by omega) (by omega) (by omega)).mpr (Or.inr ⟨Int32.lt_iff_toInt_lt.mpr (by omega), by assumption⟩)))]; exact r_MG; done) | (exfalso; omega; done) | (exfalso; contradiction; done)) (show (xPu aa ob ix va) 87 8 = (m 94 58) from by first | (unfold xPu; rw [qIf_n (show ¬ (zRq aa ob ∧ zHw aa ob ix ∧ ¬ zIr aa ob ix) from fun w => Re_n p2_m1 (by omega) w.1)]; exact r_MK; done) | (unfold xPu; rw [qIf_n (show ¬ (zRq aa ob ∧ zHw aa ob ix ∧ ¬ zIr aa ob ix) from fun w => by have w2 := (Hw_y r_RB p2_m1 (by omega)).mp w.2.1; omega)]; exact r_MK; done) | (unfold xPu; rw [qIf_n (show ¬ (zRq aa ob ∧ zHw aa ob ix ∧ ¬ zIr aa ob ix) from fun w => w.2.2 ((Ir_y r_RB p2_m1 (by omega) (by omega) (by omega)).mpr (Or.inl (by assumption))))]; exact r_MK; done) | (unfold xPu; rw [qIf_n (show ¬ (zRq aa ob ∧ zHw aa ob ix ∧ ¬ zIr aa ob ix) from fun w => w.2.2 ((Ir_y r_RB p2_m1 (by omega) (by omega) (by omega)).mpr (Or.inr ⟨Int32.lt_iff_toInt_lt.mpr (by omega), by assumption⟩)))]; exact r_MK; done) | (exfalso; omega; done) | (exfalso; contradiction; done)) r_WTS
    · skip
      have g64 := i_nle h10
      have hV65 : zV (ma_u (zov wr_245 (ma_u m 94 0 (0 : Int32)) m1) 94 0 (2 : Int32)) := uf_94_0 hV_m1
      exact K ((0 : Int32)) _ (zF_u (zF_zov (zF_u zF_rfl rfl) ws_245_244) rfl) hV65 r_W r_GW r_GU r_OW r_GG (show qRB (m 99) (m 100) (m 98) (m 101) (m 102) (m 103) (m 107) (m 108) (m 109) (m 111) (m 112) (m 113) (m 114) (m 94 55) (m 94 46) (m 94 11) (m 94 12) (m 94 62) (m 94 17) (m 94 9) (xPu aa ob ix va) from by first | (unfold xPu; rw [qIf_n (show ¬ (zRq aa ob ∧ zHw aa ob ix ∧ ¬ zIr aa ob ix) from fun w => Re_n p2_m1 (by omega) w.1)]; exact r_RB; done) | (unfold xPu; rw [qIf_n (show ¬ (zRq aa ob ∧ zHw aa ob ix ∧ ¬ zIr aa ob ix) from fun w => by have w2 := (Hw_y r_RB p2_m1 (by omega)).mp w.2.1; omega)]; exact r_RB; done) | (unfold xPu; rw [qIf_n (show ¬ (zRq aa ob ∧ zHw aa ob ix ∧ ¬ zIr aa ob ix) from fun w => w.2.2 ((Ir_y r_RB p2_m1 (by omega) (by omega) (by omega)).mpr (Or.inl (by assumption))))]; exact r_RB; done) | (unfold xPu; rw [qIf_n (show ¬ (zRq aa ob ∧ zHw aa ob ix ∧ ¬ zIr aa ob ix) from fun w => w.2.2 ((Ir_y r_RB p2_m1 (by omega) (by omega) (by omega)).mpr (Or.inr ⟨Int32.lt_iff_toInt_lt.mpr (by omega), by assumption⟩)))]; exact r_RB; done) | (exfalso; omega; done) | (exfalso; contradiction; done)) (show qI (xPu aa ob ix va) from by first | (unfold xPu; rw [qIf_n (show ¬ (zRq aa ob ∧ zHw aa ob ix ∧ ¬ zIr aa ob ix) from fun w => Re_n p2_m1 (by omega) w.1)]; exact r_QI; done) | (unfold xPu; rw [qIf_n (show ¬ (zRq aa ob ∧ zHw aa ob ix ∧ ¬ zIr aa ob ix) from fun w => by have w2 := (Hw_y r_RB p2_m1 (by omega)).mp w.2.1; omega)]; exact r_QI; done) | (unfold xPu; rw [qIf_n (show ¬ (zRq aa ob ∧ zHw aa ob ix ∧ ¬ zIr aa ob ix) from fun w => w.2.2 ((Ir_y r_RB p2_m1 (by omega) (by omega) (by omega)).mpr (Or.inl (by assumption))))]; exact r_QI; done) | (unfold xPu; rw [qIf_n (show ¬ (zRq aa ob ∧ zHw aa ob ix ∧ ¬ zIr aa ob ix) from fun w => w.2.2 ((Ir_y r_RB p2_m1 (by omega) (by omega) (by omega)).mpr (Or.inr ⟨Int32.lt_iff_toInt_lt.mpr (by omega), by assumption⟩)))]; exact r_QI; done) | (exfalso; omega; done) | (exfalso; contradiction; done)) (show qMG (m 94 58) (m 106) (m 115) (m 94 57) (m 94 56) (m 99) (m 100) (xPu aa ob ix va) from by first | (unfold xPu; rw [qIf_n (show ¬ (zRq aa ob ∧ zHw aa ob ix ∧ ¬ zIr aa ob ix) from fun w => Re_n p2_m1 (by omega) w.1)]; exact r_MG; done) | (unfold xPu; rw [qIf_n (show ¬ (zRq aa ob ∧ zHw aa ob ix ∧ ¬ zIr aa ob ix) from fun w => by have w2 := (Hw_y r_RB p2_m1 (by omega)).mp w.2.1; omega)]; exact r_MG; done) | (unfold xPu; rw [qIf_n (show ¬ (zRq aa ob ∧ zHw aa ob ix ∧ ¬ zIr aa ob ix) from fun w => w.2.2 ((Ir_y r_RB p2_m1 (by omega) (by omega) (by omega)).mpr (Or.inl (by assumption))))]; exact r_MG; done) | (unfold xPu; rw [qIf_n (show ¬ (zRq aa ob ∧ zHw aa ob ix ∧ ¬ zIr aa ob ix) from fun w => w.2.2 ((Ir_y r_RB p2_m1 (by omega) (by omega) (by omega)).mpr (Or.inr ⟨Int32.lt_iff_toInt_lt.mpr (by omega), by assumption⟩)))]; exact r_MG; done) | (exfalso; omega; done) | (exfalso; contradiction; done)) (show (xPu aa ob ix va) 87 8 = (m 94 58) from by first | (unfold xPu; rw [qIf_n (show ¬ (zRq aa ob ∧ zHw aa ob ix ∧ ¬ zIr aa ob ix) from fun w => Re_n p2_m1 (by omega) w.1)]; exact r_MK; done) | (unfold xPu; rw [qIf_n (show ¬ (zRq aa ob ∧ zHw aa ob ix ∧ ¬ zIr aa ob ix) from fun w => by have w2 := (Hw_y r_RB p2_m1 (by omega)).mp w.2.1; omega)]; exact r_MK; done) | (unfold xPu; rw [qIf_n (show ¬ (zRq aa ob ∧ zHw aa ob ix ∧ ¬ zIr aa ob ix) from fun w => w.2.2 ((Ir_y r_RB p2_m1 (by omega) (by omega) (by omega)).mpr (Or.inl (by assumption))))]; exact r_MK; done) | (unfold xPu; rw [qIf_n (show ¬ (zRq aa ob ∧ zHw aa ob ix ∧ ¬ zIr aa ob ix) from fun w => w.2.2 ((Ir_y r_RB p2_m1 (by omega) (by omega) (by omega)).mpr (Or.inr ⟨Int32.lt_iff_toInt_lt.mpr (by omega), by assumption⟩)))]; exact r_MK; done) | (exfalso; omega; done) | (exfalso; contradiction; done)) r_WTS

