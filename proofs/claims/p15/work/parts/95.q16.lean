/-! the moving collectors, the class (written by wip/tools/gen15.py) -/
/-! HALVES: those of the queue go to the other half, one behind another -/
def zPs (a : Nat → Nat → Int32) (st : Int) : Nat → Int
  | 0 => st
  | j + 1 => zPs a st j + (a 128 (a 76 j).toNatClampNeg).toInt
def hQc (a : Nat → Nat → Int32) (j : Nat) : Prop := 0 ≤ (a 76 j).toInt ∧ (a 76 j).toInt < 512 ∧ a 126 (a 76 j).toNatClampNeg ≠ 0
def hMf : Nat → Nat → (Nat → Nat → Int32) → Int → (Nat → Nat → Int32) × Int
  | 0, _, a, t => (a, t)
  | f + 1, j, a, t => if 0 ≤ (a 76 j).toInt ∧ (a 76 j).toInt < 512 ∧ a 126 (a 76 j).toNatClampNeg ≠ 0 then hMf f (j + 1) (aMo a (a 76 j).toNatClampNeg (Int32.ofInt t)) (t + (a 128 (a 76 j).toNatClampNeg).toInt) else hMf f (j + 1) a t
/-- who of the queue's first j -/
def zIn (a : Nat → Nat → Int32) (j n : Nat) : Prop := ∃ i : Nat, i < j ∧ a 76 i = Int32.ofNat n
/-- the first j are moved, up to t -/
def qJh (a : Nat → Nat → Int32) (st ot r : Int) (j : Nat) (t : Int) : Prop :=
  qI a ∧ zFQ a ∧ (a 87 2).toInt = 0 ∧ (0 ≤ st ∧ st + r ≤ (a 87 0).toInt ∧ (ot + r ≤ st ∨ st + r ≤ ot)) ∧ (t = zPs a st j ∧ (j : Int) ≤ (a 75 4).toInt ∧ zPs a st (a 75 4).toInt.toNat ≤ st + r) ∧
  (∀ n, xAl a n → zIn a j n → st ≤ (a 130 n).toInt ∧ (a 130 n).toInt + (a 128 n).toInt ≤ t) ∧
  ∀ n, xAl a n → ¬ zIn a j n → ot ≤ (a 130 n).toInt ∧ (a 130 n).toInt + (a 128 n).toInt ≤ ot + r
section F7
variable {a b : Nat → Nat → Int32} {st ot r t : Int} {j k n f : Nat} {to : Int32}
theorem hMf_y (h : hQc a j) : hMf (f + 1) j a t = hMf f (j + 1) (aMo a (a 76 j).toNatClampNeg (Int32.ofInt t)) (t + (a 128 (a 76 j).toNatClampNeg).toInt) := if_pos h
theorem hMf_n (h : ¬ hQc a j) : hMf (f + 1) j a t = hMf f (j + 1) a t := if_neg h
theorem Ps_cg (e1 : b 76 = a 76) (e2 : b 128 = a 128) : ∀ j, zPs b st j = zPs a st j
  | 0 => rfl
  | j + 1 => by
    unfold zPs
    rw [Ps_cg e1 e2 j, e1, e2]
theorem FQ_al (h : zFQ a) (hj : (j : Int) < (a 75 4).toInt) : xAl a (a 76 j).toNatClampNeg ∧ Int32.ofNat (a 76 j).toNatClampNeg = a 76 j := by
  have q := h.1 j hj
  have t := tn_cast q.1
  exact ⟨⟨by omega, q.2.2.2⟩, ofN_tn q.1⟩
theorem Ps_le (hI : qI a) (h : zFQ a) : ∀ k : Nat, (k : Int) ≤ (a 75 4).toInt → ∀ j : Nat, j ≤ k → zPs a st j ≤ zPs a st k := by
  intro k
  induction k with
  | zero =>
    intro _ j hj
    rw [show j = 0 by omega]
    exact Int.le_refl _
  | succ k ih =>
    intro hk j hj
    have q := (hI.1 _ (FQ_al h (j := k) (by omega)).1).2.1.1
    show zPs a st j ≤ zPs a st k + (a 128 (a 76 k).toNatClampNeg).toInt
    by_cases w : j = k + 1
    · rw [w]
      exact Int.le_refl _
    · have := ih (by omega) j (by omega)
      omega
theorem In_s : zIn a (j + 1) n ↔ zIn a j n ∨ a 76 j = Int32.ofNat n := by
  constructor
  · rintro ⟨i, hi, e⟩
    by_cases w : i = j
    · exact Or.inr (w ▸ e)
    · exact Or.inl ⟨i, by omega, e⟩
  · rintro (⟨i, hi, e⟩ | e)
    · exact ⟨i, by omega, e⟩
    · exact ⟨j, by omega, e⟩
theorem ofN_j (h : n < 512) (h2 : k < 512) (e : Int32.ofNat n = Int32.ofNat k) : n = k := by
  have z := congrArg Int32.toInt e
  rw [Int32.toInt_ofNat_of_lt (by omega), Int32.toInt_ofNat_of_lt (by omega)] at z
  omega
theorem In_no (h : zFQ a) (hj : (j : Int) < (a 75 4).toInt) : ¬ zIn a j (a 76 j).toNatClampNeg := by
  rintro ⟨i, hi, e⟩
  rw [(FQ_al h hj).2] at e
  exact h.2.1 i j hi hj e
theorem FQ_mo (h : zFQ a) : zFQ (aMo a n to) := FQ_cg h (Mo_r (by decide) (by decide)) (Mo_r (by decide) (by decide)) (Mo_c (by decide) (by decide)) (fun x _ => by rw [Mo_r (c := 77) (by decide) (by decide)]) (Mo_c (by decide) (by decide))
/-- the next of the queue -/
theorem Jh_nx (h : qJh a st ot r j t) (hj : (j : Int) < (a 75 4).toInt) (he : to.toInt = t) : hQc a j ∧ qMv a (a 76 j).toNatClampNeg to ∧ qFr a (a 76 j).toNatClampNeg to ∧ to.toInt + (a 128 (a 76 j).toNatClampNeg).toInt ≤ (a 87 0).toInt ∧ 0 ≤ to.toInt ∧ (a 130 (a 76 j).toNatClampNeg).toInt ≠ t := by
  obtain ⟨hI, hF, hz, ⟨s0, s1, s2⟩, ⟨t0, t1, t2⟩, m1, m2⟩ := h
  have al := FQ_al hF hj
  have no := In_no hF hj
  have p := m2 _ al.1 no
  have q := hI.1 _ al.1
  have b4 := hI.2.2.2.1.2.2.1
  have l1 : st ≤ zPs a st j := Ps_le (st := st) hI hF j (by omega) 0 (by omega)
  have l2 := Ps_le (st := st) hI hF (a 75 4).toInt.toNat (by omega) (j + 1) (by omega)
  have l3 : zPs a st (j + 1) = zPs a st j + (a 128 (a 76 j).toNatClampNeg).toInt := rfl
  have f := hF.1 j hj
  refine ⟨⟨f.1, f.2.1, f.2.2.2⟩, ⟨by omega, by omega, by omega, by omega, by omega, by omega⟩, fun n' hn' hne => ?_, by omega, by omega, by omega⟩
  by_cases w : zIn a j n'
  · have := m1 n' hn' w
    omega
  · have := m2 n' hn' w
    omega
theorem Jh_go (h : qJh a st ot r j t) (hj : (j : Int) < (a 75 4).toInt) (he : to.toInt = t) : qJh (aMo a (a 76 j).toNatClampNeg to) st ot r (j + 1) (t + (a 128 (a 76 j).toNatClampNeg).toInt) := by
  have nx := Jh_nx h hj he
  obtain ⟨hI, hF, hz, ⟨s0, s1, s2⟩, ⟨t0, t1, t2⟩, m1, m2⟩ := h
  have al := FQ_al hF hj
  have q := hI.1 _ al.1
  have l1 : st ≤ zPs a st j := Ps_le (st := st) hI hF j (by omega) 0 (by omega)
  have e4 : aMo a (a 76 j).toNatClampNeg to 75 4 = a 75 4 := Mo_r (by decide) (by decide)
  have e6 : aMo a (a 76 j).toNatClampNeg to 76 = a 76 := Mo_c (by decide) (by decide)
  have e8 : aMo a (a 76 j).toNatClampNeg to 128 = a 128 := Mo_c (by decide) (by decide)
  have e7 : ∀ k, aMo a (a 76 j).toNatClampNeg to 87 k = a 87 k := fun k => Mo_r (by decide) (by decide)
  have inn : ∀ n, zIn (aMo a (a 76 j).toNatClampNeg to) (j + 1) n ↔ zIn a (j + 1) n := fun n => by
    unfold zIn
    rw [e6]
  refine ⟨I_mo hI al.1 nx.2.2.2.2.1 nx.2.2.2.1 nx.2.2.1 hz, FQ_mo hF, by rw [e7]; exact hz, ⟨s0, by rw [e7]; exact s1, s2⟩, ⟨?_, by rw [e4]; omega, by rw [e4, Ps_cg e6 e8]; exact t2⟩, fun n hn w => ?_, fun n hn w => ?_⟩
  · rw [Ps_cg e6 e8]
    show _ = zPs a st j + (a 128 (a 76 j).toNatClampNeg).toInt
    rw [t0]
  · have hn' := Mo_al.1 hn
    rw [e8]
    by_cases z : n = (a 76 j).toNatClampNeg
    · rw [z, Mo_pn]
      omega
    · rw [Mo_po z]
      rcases In_s.mp ((inn n).mp w) with w2 | w2
      · have := m1 n hn' w2
        omega
      · rw [← al.2] at w2
        exact absurd (ofN_j hn'.1 al.1.1 w2.symm) z
  · have hn' := Mo_al.1 hn
    have w1 : ¬ zIn a (j + 1) n := fun z => w ((inn n).mpr z)
    have z : n ≠ (a 76 j).toNatClampNeg := fun z => w1 (In_s.mpr (Or.inr (by rw [z]; exact al.2.symm)))
    rw [e8, Mo_po z]
    exact m2 n hn' (fun z2 => w1 (In_s.mpr (Or.inl z2)))
/-! how much it is -/
noncomputable def zSj (a : Nat → Nat → Int32) (j : Nat) : Nat → Int
  | 0 => 0
  | n + 1 => zSj a j n + (if @decide (zIn a j n) (Classical.propDecidable _) = true then (a 128 n).toInt else 0)
theorem dc_y {P : Prop} (h : P) : @decide P (Classical.propDecidable _) = true := @decide_eq_true P (Classical.propDecidable _) h
theorem dc_n {P : Prop} (h : ¬ P) : ¬ @decide P (Classical.propDecidable _) = true := fun z => h (@of_decide_eq_true P (Classical.propDecidable _) z)
theorem Sj_s (h : zFQ a) (hj : (j : Int) < (a 75 4).toInt) : ∀ n, n ≤ 512 → zSj a (j + 1) n = zSj a j n + (if (a 76 j).toNatClampNeg < n then (a 128 (a 76 j).toNatClampNeg).toInt else 0) := by
  have al := FQ_al h hj
  have no := In_no h hj
  intro n
  induction n with
  | zero =>
    intro _
    rw [if_neg (by omega)]
    rfl
  | succ n ih =>
    intro hn
    have q := ih (by omega)
    show zSj a (j + 1) n + (if @decide (zIn a (j + 1) n) (Classical.propDecidable _) = true then (a 128 n).toInt else 0) = zSj a j n + (if @decide (zIn a j n) (Classical.propDecidable _) = true then (a 128 n).toInt else 0) + _
    rw [q]
    by_cases w : n = (a 76 j).toNatClampNeg
    · rw [if_pos (dc_y (In_s.mpr (Or.inr (by rw [w]; exact al.2.symm)))), if_neg (dc_n (by rw [w]; exact no)), if_neg (by omega), if_pos (by omega), w]
    · have e : zIn a (j + 1) n ↔ zIn a j n := by
        constructor
        · intro z
          rcases In_s.mp z with z2 | z2
          · exact z2
          · rw [← al.2] at z2
            exact absurd (ofN_j (by omega) al.1.1 z2.symm) w
        · exact fun z => In_s.mpr (Or.inl z)
      have e2 : (if (a 76 j).toNatClampNeg < n + 1 then (a 128 (a 76 j).toNatClampNeg).toInt else 0) = (if (a 76 j).toNatClampNeg < n then (a 128 (a 76 j).toNatClampNeg).toInt else 0) := by
        by_cases z : (a 76 j).toNatClampNeg < n
        · rw [if_pos z, if_pos (by omega)]
        · rw [if_neg z, if_neg (by omega)]
      rw [e2]
      by_cases z : zIn a j n
      · rw [if_pos (dc_y z), if_pos (dc_y (e.mpr z))]
        omega
      · rw [if_neg (dc_n z), if_neg (dc_n (fun y => z (e.mp y)))]
        omega
theorem Sj_0 : ∀ n, zSj a 0 n = 0
  | 0 => rfl
  | n + 1 => by
    show zSj a 0 n + _ = 0
    rw [Sj_0 n, if_neg (dc_n (by rintro ⟨i, hi, _⟩; omega))]
    rfl
theorem Ps_sj (h : zFQ a) : ∀ j : Nat, (j : Int) ≤ (a 75 4).toInt → zPs a st j = st + zSj a j 512 := by
  intro j
  induction j with
  | zero =>
    intro _
    rw [Sj_0]
    show st = st + 0
    omega
  | succ j ih =>
    intro hj
    have al := FQ_al h (j := j) (by omega)
    rw [Sj_s h (by omega) 512 (by omega), if_pos al.1.1]
    show zPs a st j + _ = _
    rw [ih (by omega)]
    omega
theorem Sj_su (h : zFQ a) (hk : ∀ n, xAl a n → a 77 n ≠ 0) : ∀ n, n ≤ 512 → zSj a (a 75 4).toInt.toNat n = qSu a n := by
  intro n
  induction n with
  | zero => intro _; rfl
  | succ n ih =>
    intro hn
    show zSj a (a 75 4).toInt.toNat n + _ = qSu a n + (if a 126 n ≠ 0 then (a 128 n).toInt else 0)
    rw [ih (by omega)]
    by_cases w : a 126 n ≠ 0
    · obtain ⟨j, hj, e⟩ := h.2.2.1 n (by omega) (hk n ⟨by omega, w⟩)
      rw [if_pos w, if_pos (dc_y ⟨j, by omega, e⟩)]
    · rw [if_neg w, if_neg (dc_n ?_)]
      rintro ⟨i, hi, e⟩
      have q := h.1 i (by omega)
      have e2 : (a 76 i).toNatClampNeg = n := by
        have t := tn_cast q.1
        rw [e, Int32.toInt_ofNat_of_lt (by omega)] at t
        rw [e]
        omega
      rw [e2] at q
      exact w q.2.2.2
/-- all of the queue: the sum of the words there -/
theorem Ps_su (h : zFQ a) (hk : ∀ n, xAl a n → a 77 n ≠ 0) : zPs a st (a 75 4).toInt.toNat = st + qSu a 512 := by
  have q4 := h.2.2.2
  rw [Ps_sj h _ (by omega), Sj_su h hk 512 (by omega)]
theorem Su_le (h1 : ∀ n, n < 512 → b 126 n ≠ 0 → a 126 n ≠ 0 ∧ b 128 n = a 128 n) (h2 : ∀ n, xAl a n → 0 ≤ (a 128 n).toInt) : ∀ n, n ≤ 512 → qSu b n ≤ qSu a n := by
  intro n
  induction n with
  | zero => intro _; exact Int.le_refl _
  | succ n ih =>
    intro hn
    have q := ih (by omega)
    unfold qSu
    by_cases w : b 126 n ≠ 0
    · have z := h1 n (by omega) w
      rw [if_pos w, if_pos z.1, z.2]
      omega
    · rw [if_neg w]
      by_cases v : a 126 n ≠ 0
      · rw [if_pos v]
        have := h2 n ⟨by omega, v⟩
        omega
      · rw [if_neg v]
        omega
end F7
