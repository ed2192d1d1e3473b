/-! from 95.m11 -/
/-! COUNTS, the class (written by wip/tools/gen20k.py) -/
/-! COUNTS: those that go, one behind the other -/
def cOk (a : Nat → Nat → Int32) (x : Int32) : Prop := x.toInt < 0 ∨ xAl a x.toNatClampNeg
def cL : List Int32 → Nat → Nat
  | [], _ => 0
  | x :: l, n => cIs x n + cL l n
def cOc : List (List Int32) → Nat → Nat
  | [], _ => 0
  | l :: t, n => cL l n + cOc t n
def cLf (a : Nat → Nat → Int32) (m : Nat) : Nat → Nat → List Int32
  | 0, _ => []
  | k + 1, i => aRef a m (Int32.ofNat i) :: cLf a m k (i + 1)
def cLs (a : Nat → Nat → Int32) (m i : Nat) : List Int32 := cLf a m (((a 128 m).toInt - 1).toNat - i) i
def cFa (a : Nat → Nat → Int32) (st : List (List Int32)) (r : Int32) : (Nat → Nat → Int32) × List (List Int32) :=
  if 0 < cRf a r.toNatClampNeg + (cOc st r.toNatClampNeg : Int) then (a, st) else if a 134 r.toNatClampNeg = 0 then (aRm a r, cLs a r.toNatClampNeg 0 :: st) else (aGr a r, st)
def cSt : (Nat → Nat → Int32) × List (List Int32) → (Nat → Nat → Int32) × List (List Int32)
  | (a, []) => (a, [])
  | (a, [] :: t) => (a, t)
  | (a, (r :: l) :: t) => if r.toInt < 0 then (a, l :: t) else cFa a (l :: t) r
def cIt : Nat → (Nat → Nat → Int32) × List (List Int32) → (Nat → Nat → Int32) × List (List Int32)
  | 0, x => x
  | n + 1, x => cIt n (cSt x)
def cE (x : (Nat → Nat → Int32) × List (List Int32)) (b : Nat → Nat → Int32) : Prop := ∃ n, cIt n x = (b, [])
noncomputable def cEn (x : (Nat → Nat → Int32) × List (List Int32)) : Nat → Nat → Int32 := Classical.epsilon (fun b => cE x b)
/-- one that counts less now -/
noncomputable def cLe (a : Nat → Nat → Int32) (y : Int32) : Nat → Nat → Int32 := qIf (0 ≤ y.toInt ∧ xAl a y.toNatClampNeg) (cEn (cFa a [] y)) a
def cNd (a : Nat → Nat → Int32) : Prop := (∀ k, k < 16 → cOk a (a 72 k)) ∧ (∀ k : Nat, (k : Int) < (a 69 5).toInt → cOk a (a 74 k)) ∧ ∀ u j, qWp a u j → cOk a (aRef a u j)
def cNl (a : Nat → Nat → Int32) (st : List (List Int32)) : Prop := ∀ l, l ∈ st → ∀ x, x ∈ l → cOk a x
def cHd (a : Nat → Nat → Int32) (B : Int) : Prop := ∀ n, xAl a n → 0 ≤ (a 133 n).toInt ∧ (a 133 n).toInt ≤ B
def cLm : List (List Int32) → Nat
  | [] => 0
  | l :: t => l.length + 1 + cLm t
def cMs (a : Nat → Nat → Int32) : Nat := cSu (fun m => if a 126 m = 0 then 0 else (a 128 m).toInt.toNat + 1) 512
def cV (a : Nat → Nat → Int32) (st : List (List Int32)) (B : Int) : Prop := cQI a ∧ cNd a ∧ cNl a st ∧ cHd a B ∧ (0 ≤ (a 69 5).toInt ∧ (a 69 5).toInt ≤ 512) ∧ cLm st + cMs a ≤ 40000
section CR
variable {a b d : Nat → Nat → Int32} {x y i j r : Int32} {n m k u c : Nat} {st t : List (List Int32)} {l : List Int32} {B : Int}
theorem It_nil : ∀ n, cIt n (a, []) = (a, []) := by
  intro n
  induction n with
  | zero => rfl
  | succ n ih => exact ih
theorem It_add : ∀ (n m : Nat) (x : (Nat → Nat → Int32) × List (List Int32)), cIt (n + m) x = cIt m (cIt n x) := by
  intro n
  induction n with
  | zero => intro m x; rw [Nat.zero_add]; rfl
  | succ n ih =>
    intro m x
    rw [Nat.succ_add]
    exact ih m (cSt x)
theorem cE_dt {x : (Nat → Nat → Int32) × List (List Int32)} (h : cE x b) (h2 : cE x d) : b = d := by
  obtain ⟨n, e⟩ := h
  obtain ⟨m, f⟩ := h2
  have e1 : cIt (n + m) x = (b, []) := by rw [It_add, e, It_nil]
  have e2 : cIt (n + m) x = (d, []) := by rw [Nat.add_comm, It_add, f, It_nil]
  exact congrArg Prod.fst (e1.symm.trans e2)
theorem cE_o : cE (a, []) a := ⟨0, rfl⟩
theorem cE_s {x : (Nat → Nat → Int32) × List (List Int32)} (h : cE (cSt x) b) : cE x b := by
  obtain ⟨n, e⟩ := h
  exact ⟨n + 1, e⟩
theorem cEn_e {x : (Nat → Nat → Int32) × List (List Int32)} (h : cE x b) : cEn x = b := cE_dt (Classical.epsilon_spec (p := fun b => cE x b) ⟨b, h⟩) h
theorem cLe_y (h0 : 0 ≤ y.toInt) (hy : xAl a y.toNatClampNeg) (h : cE (cFa a [] y) b) : cLe a y = b := (qIf_y ⟨h0, hy⟩).trans (cEn_e h)
theorem cLe_n (h : ¬ (0 ≤ y.toInt ∧ xAl a y.toNatClampNeg)) : cLe a y = a := qIf_n h
theorem Fa_p (h : 0 < cRf a r.toNatClampNeg + (cOc st r.toNatClampNeg : Int)) : cFa a st r = (a, st) := if_pos h
theorem Fa_g (h : ¬ 0 < cRf a r.toNatClampNeg + (cOc st r.toNatClampNeg : Int)) (h2 : a 134 r.toNatClampNeg ≠ 0) : cFa a st r = (aGr a r, st) := (if_neg h).trans (if_neg h2)
theorem Fa_r (h : ¬ 0 < cRf a r.toNatClampNeg + (cOc st r.toNatClampNeg : Int)) (h2 : a 134 r.toNatClampNeg = 0) : cFa a st r = (aRm a r, cLs a r.toNatClampNeg 0 :: st) := (if_neg h).trans (if_pos h2)
theorem cSt_n (h : r.toInt < 0) : cSt (a, (r :: l) :: t) = (a, l :: t) := if_pos h
theorem cSt_y (h : 0 ≤ r.toInt) : cSt (a, (r :: l) :: t) = cFa a (l :: t) r := if_neg (by omega)
theorem cLf_m : ∀ (k i : Nat), x ∈ cLf a m k i → ∃ j, i ≤ j ∧ j < i + k ∧ x = aRef a m (Int32.ofNat j) := by
  intro k
  induction k with
  | zero => intro i h; exact absurd h (List.not_mem_nil)
  | succ k ih =>
    intro i h
    rcases List.mem_cons.mp h with w | w
    · exact ⟨i, Nat.le_refl _, by omega, w⟩
    · obtain ⟨j, j1, j2, j3⟩ := ih (i + 1) w
      exact ⟨j, by omega, by omega, j3⟩
theorem cLf_c : ∀ (k i : Nat), cL (cLf a m k i) n + cSu (fun i => cIs (aRef a m (Int32.ofNat i)) n) i = cSu (fun i => cIs (aRef a m (Int32.ofNat i)) n) (i + k) := by
  intro k
  induction k with
  | zero => intro i; show 0 + _ = _; rw [Nat.add_zero, Nat.zero_add]
  | succ k ih =>
    intro i
    have q := ih (i + 1)
    have q1 : cSu (fun i => cIs (aRef a m (Int32.ofNat i)) n) (i + 1) = cSu (fun i => cIs (aRef a m (Int32.ofNat i)) n) i + cIs (aRef a m (Int32.ofNat i)) n := rfl
    show cIs (aRef a m (Int32.ofNat i)) n + cL (cLf a m k (i + 1)) n + _ = _
    rw [show i + (k + 1) = i + 1 + k from by omega, ← q, q1]
    omega
theorem cLs_c : cL (cLs a m 0) n = cOb a m n := by
  have q := cLf_c (a := a) (m := m) (n := n) (((a 128 m).toInt - 1).toNat - 0) 0
  rw [Nat.zero_add, Nat.sub_zero] at q
  exact q
theorem cLf_l : ∀ (k i : Nat), (cLf a m k i).length = k := by
  intro k
  induction k with
  | zero => intro i; rfl
  | succ k ih =>
    intro i
    show (cLf a m k (i + 1)).length + 1 = k + 1
    rw [ih (i + 1)]
theorem cLf_cg : ∀ (k i : Nat), (∀ j, i ≤ j → j < i + k → aRef b m (Int32.ofNat j) = aRef a m (Int32.ofNat j)) → cLf b m k i = cLf a m k i := by
  intro k
  induction k with
  | zero => intro i _; rfl
  | succ k ih =>
    intro i h
    show aRef b m (Int32.ofNat i) :: cLf b m k (i + 1) = aRef a m (Int32.ofNat i) :: cLf a m k (i + 1)
    rw [h i (Nat.le_refl _) (by omega), ih (i + 1) (fun j h1 h2 => h j (by omega) (by omega))]
theorem cLs_cg (h1 : b 128 m = a 128 m) (h : ∀ j : Nat, k ≤ j → (j : Int) < (a 128 m).toInt - 1 → aRef b m (Int32.ofNat j) = aRef a m (Int32.ofNat j)) : cLs b m k = cLs a m k := by
  unfold cLs
  rw [h1]
  exact cLf_cg _ _ (fun j h2 h3 => h j h2 (by omega))
theorem cLs_0 (h : ¬ (k : Int) < (a 128 m).toInt - 1) : cLs a m k = [] := by
  unfold cLs
  rw [show ((a 128 m).toInt - 1).toNat - k = 0 from by omega]
  rfl
theorem cLs_s (h : (k : Int) < (a 128 m).toInt - 1) : cLs a m k = aRef a m (Int32.ofNat k) :: cLs a m (k + 1) := by
  unfold cLs
  rw [show ((a 128 m).toInt - 1).toNat - k = (((a 128 m).toInt - 1).toNat - (k + 1)) + 1 from by omega]
  rfl
theorem Ro_ne (h : cRo a n = 0) (hk : k < 16) : ¬ a 72 k = Int32.ofNat n := fun e => by
  have q : cIs (a 72 k) n ≤ cRo a n := cSu_le (f := fun k => cIs (a 72 k) n) 16 hk
  rw [cIs_1 e] at q
  omega
theorem Wi_ne (h : cWi a n = 0) (hk : (k : Int) < (a 69 5).toInt) : ¬ a 74 k = Int32.ofNat n := fun e => by
  have q : cIs (a 74 k) n ≤ cWi a n := cSu_le (f := fun k => cIs (a 74 k) n) (a 69 5).toInt.toNat (by omega)
  rw [cIs_1 e] at q
  omega
theorem Ob_le (h0 : 0 ≤ j.toInt) (h1 : j.toInt < (a 128 u).toInt - 1) : cIs (aRef a u j) n ≤ cOb a u n := by
  have q : cIs (aRef a u (Int32.ofNat j.toInt.toNat)) n ≤ cOb a u n := cSu_le (f := fun i => cIs (aRef a u (Int32.ofNat i)) n) ((a 128 u).toInt - 1).toNat (by omega)
  rw [ofN_k h0] at q
  exact q
theorem Th_ne (h : cTh a n = 0) (hw : qWp a u j) : ¬ aRef a u j = Int32.ofNat n := fun e => by
  have q : cTm a n u ≤ cTh a n := cSu_le (f := cTm a n) 512 hw.1.1
  have q2 : cTm a n u = cOb a u n := if_neg hw.1.2
  have q3 := Ob_le (a := a) (u := u) (n := n) hw.2.1 hw.2.2
  rw [cIs_1 e] at q3
  omega
theorem cL_ne : ∀ l : List Int32, cL l n = 0 → ∀ x, x ∈ l → ¬ x = Int32.ofNat n := by
  intro l
  induction l with
  | nil => intro _ x h; exact absurd h (List.not_mem_nil)
  | cons y l ih =>
    intro h x hx
    have h₉ : cIs y n + cL l n = 0 := h
    rcases List.mem_cons.mp hx with w | w
    · rw [w]
      intro e
      rw [cIs_1 e] at h₉
      omega
    · exact ih (by omega) x w
theorem Oc_ne : ∀ st : List (List Int32), cOc st n = 0 → ∀ l, l ∈ st → ∀ x, x ∈ l → ¬ x = Int32.ofNat n := by
  intro st
  induction st with
  | nil => intro _ l h; exact absurd h (List.not_mem_nil)
  | cons y t ih =>
    intro h l hl
    have h₉ : cL y n + cOc t n = 0 := h
    rcases List.mem_cons.mp hl with w | w
    · rw [w]; exact cL_ne y (by omega)
    · exact ih (by omega) l w
theorem cL_le : ∀ l : List Int32, cL l n ≤ l.length := by
  intro l
  induction l with
  | nil => exact Nat.le_refl _
  | cons y l ih =>
    show cIs y n + cL l n ≤ l.length + 1
    have := cIs_le (x := y) (n := n)
    omega
theorem Oc_le : ∀ st : List (List Int32), cOc st n ≤ cLm st := by
  intro st
  induction st with
  | nil => exact Nat.le_refl _
  | cons y t ih =>
    show cL y n + cOc t n ≤ y.length + 1 + cLm t
    have := cL_le (n := n) y
    omega
theorem Rf_z (hh : 0 ≤ (a 133 n).toInt) (h : ¬ 0 < cRf a n + (cOc st n : Int)) : cRo a n = 0 ∧ cWi a n = 0 ∧ cTh a n = 0 ∧ cOc st n = 0 ∧ (a 133 n).toInt = 0 := by
  unfold cRf at h
  omega
theorem Rf_bd (hV : cV a st B) (hB : B ≤ 1000000) (hn : xAl a n) : 0 ≤ cRf a n + (cOc st n : Int) ∧ cRf a n + (cOc st n : Int) ≤ 1200000 := by
  obtain ⟨q1, _, _, q4, q5, q6⟩ := hV
  have h1 : cRo a n ≤ 16 * 1 := cSu_bd 16 (fun k _ => cIs_le)
  have h2 : cWi a n ≤ (a 69 5).toInt.toNat * 1 := cSu_bd _ (fun k _ => cIs_le)
  have h3 : cTh a n ≤ 512 * 60 := cSu_bd 512 (fun m hm => by
    unfold cTm
    by_cases z : a 126 m = 0
    · rw [if_pos z]; exact Nat.zero_le _
    · rw [if_neg z]
      have w := q1.1 m ⟨hm, z⟩
      have := cSu_bd (f := fun i => cIs (aRef a m (Int32.ofNat i)) n) (B := 1) ((a 128 m).toInt - 1).toNat (fun k _ => cIs_le)
      unfold cOb
      omega)
  have h4 := Oc_le (n := n) st
  have h5 := q4 n hn
  unfold cRf
  omega
theorem cOk_rm (h0 : 0 ≤ y.toInt) (h : cOk a x) (hne : ¬ x = Int32.ofNat y.toNatClampNeg) : cOk (aRm a y) x := by
  rcases h with w | w
  · exact Or.inl w
  · by_cases z : x.toInt < 0
    · exact Or.inl z
    · refine Or.inr ((rm_al h0).mpr ⟨w, fun e => hne ?_⟩)
      rw [← e, ofN_tn (by omega)]
theorem gr_ref' {a : Nat → Nat → Int32} {y : Int32} : aRef (aGr a y) = aRef a := funext (fun _ => funext (fun _ => gr_ref))
theorem gr_al : xAl (aGr a y) = xAl a := by
  funext n
  unfold xAl
  rw [gr_r (by decide) (by decide) (by decide) (by decide)]
theorem cQ_gr (hI : cQI a) : cQI (aGr a y) := by
  obtain ⟨h1, h2, h3⟩ := hI
  refine ⟨?_, ?_, ?_⟩
  · rw [gr_al, gr_r (n := 130) (by decide) (by decide) (by decide) (by decide), gr_r (n := 128) (by decide) (by decide) (by decide) (by decide)]
    exact h1
  · unfold qI2
    rw [gr_al, gr_r (n := 130) (by decide) (by decide) (by decide) (by decide), gr_r (n := 128) (by decide) (by decide) (by decide) (by decide)]
    exact h2
  · intro n hn k
    rw [gr_al] at hn
    rw [gr_r (by omega) (by omega) (by omega) (by omega)]
    exact h3 n hn k
theorem Wp_gr : qWp (aGr a y) u j ↔ qWp a u j := by
  unfold qWp
  rw [gr_al, gr_r (n := 128) (by decide) (by decide) (by decide) (by decide)]
theorem cOk_cg (h : xAl b = xAl a) : cOk b x ↔ cOk a x := by
  unfold cOk
  rw [h]
theorem gr_n5 (h : ¬ (a 69 5).toInt < 512) : aGr a y 69 5 = a 69 5 ∧ aGr a y 74 = a 74 := by
  have e : aGr a y = ma_u (zUw a y 16) 134 y.toNatClampNeg 0 := if_neg h
  refine ⟨?_, funext (fun k => ?_)⟩
  · rw [e, xu_o (by omega), zUw_o (by decide)]
  · rw [e, xu_o (by omega), zUw_o (by decide)]
theorem V_gr (hV : cV a st B) (h0 : 0 ≤ y.toInt) (hy : xAl a y.toNatClampNeg) : cV (aGr a y) st B := by
  obtain ⟨q1, ⟨n1, n2, n3⟩, q3, q4, q5, q6⟩ := hV
  have al := gr_al (a := a) (y := y)
  refine ⟨cQ_gr q1, ⟨fun k hk => ?_, fun k hk => ?_, fun u j h => ?_⟩, fun l hl x hx => (cOk_cg al).mpr (q3 l hl x hx), fun n hn => ?_, ?_, ?_⟩
  · rw [gr_r (by decide) (by decide) (by decide) (by decide), cOk_cg al]
    exact n1 k hk
  · rw [cOk_cg al]
    by_cases w : (a 69 5).toInt < 512
    · obtain ⟨g1, g2, g3, _⟩ := gr_5 (y := y) w
      have e1 := i_p1 (i := a 69 5) (by omega)
      have c := tn_cast q5.1
      by_cases z : k = (a 69 5).toNatClampNeg
      · rw [z, g2]
        exact Or.inr hy
      · rw [g3 k z]
        rw [g1, e1] at hk
        exact n2 k (by omega)
    · have g := gr_n5 (y := y) w
      rw [g.2]
      rw [g.1] at hk
      exact n2 k hk
  · rw [gr_ref, cOk_cg al]
    exact n3 u j (Wp_gr.mp h)
  · rw [al] at hn
    rw [gr_r (by decide) (by decide) (by decide) (by decide)]
    exact q4 n hn
  · by_cases w : (a 69 5).toInt < 512
    · obtain ⟨g1, _⟩ := gr_5 (y := y) w
      have e1 := i_p1 (i := a 69 5) (by omega)
      rw [g1]
      omega
    · rw [(gr_n5 (y := y) w).1]
      exact q5
  · have e : cMs (aGr a y) = cMs a := by
      unfold cMs
      rw [gr_r (n := 126) (by decide) (by decide) (by decide) (by decide), gr_r (n := 128) (by decide) (by decide) (by decide) (by decide)]
    rw [e]
    exact q6
theorem Ms_rm (hI : cQI a) (h0 : 0 ≤ y.toInt) (hy : xAl a y.toNatClampNeg) : cMs (aRm a y) + (a 128 y.toNatClampNeg).toInt.toNat + 1 = cMs a := by
  have t := cSu_up (f := fun m => if a 126 m = 0 then 0 else (a 128 m).toInt.toNat + 1) (g := fun m => if aRm a y 126 m = 0 then 0 else (aRm a y 128 m).toInt.toNat + 1) (j := y.toNatClampNeg) 512 hy.1 (fun u hu w => by
    show (if aRm a y 126 u = 0 then 0 else (aRm a y 128 u).toInt.toNat + 1) = (if a 126 u = 0 then 0 else (a 128 u).toInt.toNat + 1)
    rw [rm_rw (c := 126) (by decide) (by decide) w, rm_rw (c := 128) (by decide) (by decide) w])
  have t1 : (if a 126 y.toNatClampNeg = 0 then 0 else (a 128 y.toNatClampNeg).toInt.toNat + 1) = (a 128 y.toNatClampNeg).toInt.toNat + 1 := if_neg hy.2
  have t2 : (if aRm a y 126 y.toNatClampNeg = 0 then 0 else (aRm a y 128 y.toNatClampNeg).toInt.toNat + 1) = 0 := if_pos (by rw [rm_f (by decide) (by decide), if_pos rfl])
  have t3 : cMs (aRm a y) + (if a 126 y.toNatClampNeg = 0 then 0 else (a 128 y.toNatClampNeg).toInt.toNat + 1) = cMs a + (if aRm a y 126 y.toNatClampNeg = 0 then 0 else (aRm a y 128 y.toNatClampNeg).toInt.toNat + 1) := t
  rw [t1, t2] at t3
  omega
theorem V_rm (hV : cV a st B) (h0 : 0 ≤ y.toInt) (hy : xAl a y.toNatClampNeg) (hz : ¬ 0 < cRf a y.toNatClampNeg + (cOc st y.toNatClampNeg : Int)) : cV (aRm a y) (cLs a y.toNatClampNeg 0 :: st) B ∧ cLm (cLs a y.toNatClampNeg 0 :: st) + cMs (aRm a y) < cLm st + cMs a := by
  obtain ⟨q1, ⟨n1, n2, n3⟩, q3, q4, q5, q6⟩ := hV
  obtain ⟨z1, z2, z3, z4, z5⟩ := Rf_z (q4 _ hy).1 hz
  have ms := Ms_rm q1 h0 hy
  have hs := q1.1 _ hy
  have ll : cLm (cLs a y.toNatClampNeg 0 :: st) = (((a 128 y.toNatClampNeg).toInt - 1).toNat - 0) + 1 + cLm st := congrArg (fun q => q + 1 + cLm st) (cLf_l _ _)
  have lt : cLm (cLs a y.toNatClampNeg 0 :: st) + cMs (aRm a y) < cLm st + cMs a := by omega
  refine ⟨⟨cQ_rm h0 q1, ⟨fun k hk => ?_, fun k hk => ?_, fun u j h => ?_⟩, fun l hl x hx => ?_, fun n hn => ?_, ?_, by omega⟩, lt⟩
  · rw [rm_126 (by decide) (by decide) (by decide) (by decide)]
    exact cOk_rm h0 (n1 k hk) (Ro_ne z1 hk)
  · rw [aRm_o (by decide) ⟨by decide, by decide, by decide, by decide⟩] at hk
    rw [rm_126 (by decide) (by decide) (by decide) (by decide)]
    exact cOk_rm h0 (n2 k hk) (Wi_ne z2 hk)
  · obtain ⟨w, w2⟩ := (Wp_rm h0).mp h
    rw [crf_rm q1 h0 hy w2 w]
    exact cOk_rm h0 (n3 u j w) (Th_ne z3 w)
  · rcases List.mem_cons.mp hl with w | w
    · rw [w] at hx
      obtain ⟨j, j1, j2, j3⟩ := cLf_m _ _ hx
      have wp := wp_N (k := j) q1 hy (by omega)
      rw [j3]
      exact cOk_rm h0 (n3 _ _ wp) (Th_ne z3 wp)
    · exact cOk_rm h0 (q3 l w x hx) (Oc_ne st z4 l w x hx)
  · have w := (rm_al h0).mp hn
    rw [rm_rw (by decide) (by decide) w.2]
    exact q4 n w.1
  · rw [aRm_o (by decide) ⟨by decide, by decide, by decide, by decide⟩]
    exact q5
theorem V_fa (hV : cV a st B) (h0 : 0 ≤ r.toInt) (hr : xAl a r.toNatClampNeg) : cV (cFa a st r).1 (cFa a st r).2 B ∧ cLm (cFa a st r).2 + cMs (cFa a st r).1 ≤ cLm st + cMs a := by
  by_cases w : 0 < cRf a r.toNatClampNeg + (cOc st r.toNatClampNeg : Int)
  · rw [Fa_p w]; exact ⟨hV, Nat.le_refl _⟩
  · by_cases z : a 134 r.toNatClampNeg = 0
    · rw [Fa_r w z]
      have q := V_rm hV h0 hr w
      exact ⟨q.1, Nat.le_of_lt q.2⟩
    · rw [Fa_g w z]
      refine ⟨V_gr hV h0 hr, ?_⟩
      show cLm st + cMs (aGr a r) ≤ _
      unfold cMs
      rw [gr_r (n := 126) (by decide) (by decide) (by decide) (by decide), gr_r (n := 128) (by decide) (by decide) (by decide) (by decide)]
      exact Nat.le_refl _
/-- how many refer, behind it -/
theorem Fr_gr (hV : cV a st B) (h0 : 0 ≤ y.toInt) (h : (a 69 5).toInt < 512) : cRf (aGr a y) n + (cOc st n : Int) = cRf a n + (cOc st n : Int) + (cIs y n : Int) := by
  have q := Rf_gr (y := y) (n := n) hV.2.2.2.2.1.1 h
  omega
theorem Fr_rm (hV : cV a st B) (h0 : 0 ≤ y.toInt) (hy : xAl a y.toNatClampNeg) (hn : n ≠ y.toNatClampNeg) : cRf (aRm a y) n + (cOc (cLs a y.toNatClampNeg 0 :: st) n : Int) = cRf a n + (cOc st n : Int) := by
  have q := Rf_rm hV.1 h0 hy hn
  have e : cOc (cLs a y.toNatClampNeg 0 :: st) n = cOb a y.toNatClampNeg n + cOc st n := congrArg (fun q => q + cOc st n) cLs_c
  rw [e]
  omega
end CR

/-! from 95.m12 -/
/-! COUNTS, the class (written by wip/tools/gen20k.py) -/
/-! COUNTS, the class: those on the stack go last -/
theorem i32_sc (p q r : Int32) : p - q - r = p - r - q := by
  rw [Int32.sub_eq_add_neg (p - q), Int32.sub_eq_add_neg p q, Int32.add_assoc, Int32.add_comm (-q), ← Int32.add_assoc, ← Int32.sub_eq_add_neg, ← Int32.sub_eq_add_neg]
theorem i32_ac (p q r : Int32) : p + q + r = p + r + q := by
  rw [Int32.add_assoc, Int32.add_comm q, ← Int32.add_assoc]
theorem ite_cm {P Q : Prop} [Decidable P] [Decidable Q] {x z : Int32} : (if P then x else if Q then x else z) = (if Q then x else if P then x else z) := by
  by_cases p : P
  · rw [if_pos p]
    by_cases q : Q
    · rw [if_pos q]
    · rw [if_neg q, if_pos p]
  · rw [if_neg p]
    by_cases q : Q
    · rw [if_pos q, if_pos q]
    · rw [if_neg q, if_neg q, if_neg p]
def cRa (a : Nat → Nat → Int32) : List (Int32 × Int32) → Nat → Nat → Int32
  | [] => a
  | q :: t => cRa (aRm a q.1) t
def cZ (a : Nat → Nat → Int32) : List (Int32 × Int32) → List (List Int32)
  | [] => []
  | q :: t => cLs a q.1.toNatClampNeg q.2.toInt.toNat :: cZ a t
def cNi (l : List (Int32 × Int32)) (n : Nat) : Prop := ∀ q, q ∈ l → n ≠ q.1.toNatClampNeg
def cDs : List (Int32 × Int32) → Prop
  | [] => True
  | q :: t => cNi t q.1.toNatClampNeg ∧ cDs t
def cYs (a : Nat → Nat → Int32) (l : List (Int32 × Int32)) : Prop := ∀ q, q ∈ l → 0 ≤ q.1.toInt ∧ xAl a q.1.toNatClampNeg ∧ (0 ≤ q.2.toInt ∧ q.2.toInt ≤ (a 128 q.1.toNatClampNeg).toInt - 1) ∧ ∀ j : Int32, 0 ≤ j.toInt → j.toInt < q.2.toInt → (aRef a q.1.toNatClampNeg j).toInt < 0
/-- the class's heap, its stack and its counts -/
def cC (a : Nat → Nat → Int32) (l : List (Int32 × Int32)) (K : Nat → Int32) (B : Int) : Prop := cQI a ∧ cYs a l ∧ cDs l ∧ cV (cRa a l) (cZ a l) B ∧ ∀ n, xAl (cRa a l) n → K n = Int32.ofInt (cRf (cRa a l) n + (cOc (cZ a l) n : Int))
section CS
variable {a b : Nat → Nat → Int32} {x y i j r : Int32} {n m k u c : Nat} {l t : List (Int32 × Int32)} {q : Int32 × Int32} {K K₉ : Nat → Int32} {B : Int}
theorem rm_co (hc : c < 126) (h1 : c ≠ 71) (h2 : c ≠ 73) (h3 : c ≠ 69) : aRm a y c k = a c k := congrFun (rm_126 hc h1 h2 h3) k
theorem rm_11 : aRm a y 69 11 = a 69 11 + a 128 y.toNatClampNeg := by
  unfold aRm
  rw [xu_s]
theorem rm_cm (hx : 0 ≤ x.toInt) (hy : 0 ≤ y.toInt) (hne : x.toNatClampNeg ≠ y.toNatClampNeg) : aRm (aRm a x) y = aRm (aRm a y) x := by
  funext c k
  have s1 : aRm a x 128 y.toNatClampNeg = a 128 y.toNatClampNeg := rm_rw (by decide) (by decide) (fun w => hne w.symm)
  have s2 : aRm a y 128 x.toNatClampNeg = a 128 x.toNatClampNeg := rm_rw (by decide) (by decide) hne
  have p1 : aRm a x 130 y.toNatClampNeg = a 130 y.toNatClampNeg := rm_rw (by decide) (by decide) (fun w => hne w.symm)
  have p2 : aRm a y 130 x.toNatClampNeg = a 130 x.toNatClampNeg := rm_rw (by decide) (by decide) hne
  by_cases h : 126 ≤ c
  · rw [rm_hi h, rm_hi h]
    unfold zNo
    rw [rm_hi h, rm_hi h]
    unfold zNo
    exact ite_cm
  · by_cases h71 : c = 71
    · rw [h71, rm_71, rm_71, s1, s2, p1, p2]
      unfold zFr
      rw [rm_71, rm_71]
      unfold zFr
      exact ite_cm
    · by_cases h73 : c = 73
      · rw [h73, rm_73, rm_73]
        unfold zUw
        rw [rm_73, rm_73]
        unfold zUw
        by_cases w1 : (k : Int) < 16 ∧ a 73 k = x
        · rw [if_pos (c := 73 = 73 ∧ (k : Int) < 16 ∧ a 73 k = x) ⟨rfl, w1⟩]
          by_cases w2 : (k : Int) < 16 ∧ a 73 k = y
          · exact absurd (w1.2.symm.trans w2.2) (fun e => hne (by rw [e]))
          · rw [if_neg (c := 73 = 73 ∧ (k : Int) < 16 ∧ a 73 k = y) (fun w => w2 w.2), if_pos (c := 73 = 73 ∧ (k : Int) < 16 ∧ a 73 k = x) ⟨rfl, w1⟩]
            split <;> rfl
        · rw [if_neg (c := 73 = 73 ∧ (k : Int) < 16 ∧ a 73 k = x) (fun w => w1 w.2)]
          by_cases w2 : (k : Int) < 16 ∧ a 73 k = y
          · rw [if_pos (c := 73 = 73 ∧ (k : Int) < 16 ∧ a 73 k = y) ⟨rfl, w2⟩]
            split <;> rfl
          · rw [if_neg (c := 73 = 73 ∧ (k : Int) < 16 ∧ a 73 k = y) (fun w => w2 w.2), if_neg (c := 73 = 73 ∧ (k : Int) < 16 ∧ a 73 k = x) (fun w => w1 w.2)]
      · by_cases h69 : c = 69
        · rw [h69]
          by_cases k8 : k = 8
          · rw [k8, rm_8, rm_8, rm_8, rm_8, s1, s2]
            exact i32_sc _ _ _
          · by_cases k11 : k = 11
            · rw [k11, rm_11, rm_11, rm_11, rm_11, s1, s2]
              exact i32_ac _ _ _
            · have o : ∀ (e : Nat → Nat → Int32) (z : Int32), aRm e z 69 k = e 69 k := fun e z => aRm_o (by decide) ⟨by decide, by decide, fun w => k8 w.2, fun w => k11 w.2⟩
              rw [o, o, o, o]
        · rw [rm_co (by omega) h71 h73 h69, rm_co (by omega) h71 h73 h69, rm_co (by omega) h71 h73 h69, rm_co (by omega) h71 h73 h69]
theorem gr_at : aGr a y c k = if c = 73 then zUw a y 16 73 k else if c = 134 ∧ k = y.toNatClampNeg then 0 else if (a 69 5).toInt < 512 ∧ c = 74 ∧ k = (a 69 5).toNatClampNeg then y else if (a 69 5).toInt < 512 ∧ c = 69 ∧ k = 5 then a 69 5 + 1 else a c k := by
  by_cases h : (a 69 5).toInt < 512
  · have e : aGr a y = ma_u (ma_u (ma_u (zUw a y 16) 134 y.toNatClampNeg 0) 74 (a 69 5).toNatClampNeg y) 69 5 (a 69 5 + 1) := if_pos h
    rw [e]
    by_cases h73 : c = 73
    · rw [if_pos h73, h73, xu_o (by omega), xu_o (by omega), xu_o (by omega)]
    · rw [if_neg h73]
      by_cases h134 : c = 134 ∧ k = y.toNatClampNeg
      · rw [if_pos h134, h134.1, h134.2, xu_o (by omega), xu_o (by omega), xu_s]
      · rw [if_neg h134]
        by_cases h74 : c = 74 ∧ k = (a 69 5).toNatClampNeg
        · rw [if_pos ⟨h, h74⟩, h74.1, h74.2, xu_o (by omega), xu_s]
        · rw [if_neg (fun w => h74 w.2)]
          by_cases h69 : c = 69 ∧ k = 5
          · rw [if_pos ⟨h, h69⟩, h69.1, h69.2, xu_s]
          · rw [if_neg (fun w => h69 w.2), xu_o h69, xu_o h74, xu_o h134, zUw_o h73]
  · have e : aGr a y = ma_u (zUw a y 16) 134 y.toNatClampNeg 0 := if_neg h
    rw [e]
    by_cases h73 : c = 73
    · rw [if_pos h73, h73, xu_o (by omega)]
    · rw [if_neg h73]
      by_cases h134 : c = 134 ∧ k = y.toNatClampNeg
      · rw [if_pos h134, h134.1, h134.2, xu_s]
      · rw [if_neg h134, if_neg (fun w => h w.1), if_neg (fun w => h w.1), xu_o h134, zUw_o h73]
theorem gr_rm (hx : 0 ≤ x.toInt) (hy : 0 ≤ y.toInt) (hne : x.toNatClampNeg ≠ y.toNatClampNeg) : aGr (aRm a x) y = aRm (aGr a y) x := by
  funext c k
  have e5 : aRm a x 69 5 = a 69 5 := aRm_o (by decide) ⟨by decide, by decide, by decide, by decide⟩
  have gs : aGr a y 128 x.toNatClampNeg = a 128 x.toNatClampNeg := congrFun (gr_r (by decide) (by decide) (by decide) (by decide)) _
  have gp : aGr a y 130 x.toNatClampNeg = a 130 x.toNatClampNeg := congrFun (gr_r (by decide) (by decide) (by decide) (by decide)) _
  by_cases h73 : c = 73
  · rw [h73, gr_at, if_pos rfl, rm_73]
    unfold zUw
    rw [rm_73, gr_at, if_pos rfl]
    unfold zUw
    by_cases w1 : (k : Int) < 16 ∧ a 73 k = x
    · rw [if_pos (c := 73 = 73 ∧ (k : Int) < 16 ∧ a 73 k = x) ⟨rfl, w1⟩]
      by_cases w2 : (k : Int) < 16 ∧ a 73 k = y
      · exact absurd (w1.2.symm.trans w2.2) (fun e => hne (by rw [e]))
      · rw [if_neg (c := 73 = 73 ∧ (k : Int) < 16 ∧ a 73 k = y) (fun w => w2 w.2), if_pos (c := 73 = 73 ∧ (k : Int) < 16 ∧ a 73 k = x) ⟨rfl, w1⟩]
        split <;> rfl
    · rw [if_neg (c := 73 = 73 ∧ (k : Int) < 16 ∧ a 73 k = x) (fun w => w1 w.2)]
      by_cases w2 : (k : Int) < 16 ∧ a 73 k = y
      · rw [if_pos (c := 73 = 73 ∧ (k : Int) < 16 ∧ a 73 k = y) ⟨rfl, w2⟩]
        split <;> rfl
      · rw [if_neg (c := 73 = 73 ∧ (k : Int) < 16 ∧ a 73 k = y) (fun w => w2 w.2), if_neg (c := 73 = 73 ∧ (k : Int) < 16 ∧ a 73 k = x) (fun w => w1 w.2)]
  · rw [gr_at, if_neg h73, e5]
    by_cases h : 126 ≤ c
    · rw [if_neg (c := (a 69 5).toInt < 512 ∧ c = 74 ∧ k = (a 69 5).toNatClampNeg) (fun w => by omega), if_neg (c := (a 69 5).toInt < 512 ∧ c = 69 ∧ k = 5) (fun w => by omega), rm_hi h, rm_hi h]
      unfold zNo
      rw [gr_at, if_neg h73, if_neg (c := (a 69 5).toInt < 512 ∧ c = 74 ∧ k = (a 69 5).toNatClampNeg) (fun w => by omega), if_neg (c := (a 69 5).toInt < 512 ∧ c = 69 ∧ k = 5) (fun w => by omega)]
      exact ite_cm
    · rw [if_neg (c := c = 134 ∧ k = y.toNatClampNeg) (fun w => by omega)]
      by_cases h71 : c = 71
      · rw [h71, if_neg (by omega), if_neg (by omega), rm_71, rm_71, gs, gp]
        unfold zFr
        rw [show aGr a y 71 k = a 71 k from congrFun (gr_r (by decide) (by decide) (by decide) (by decide)) k]
      · by_cases h69 : c = 69
        · rw [h69]
          by_cases k8 : k = 8
          · rw [k8, if_neg (by omega), if_neg (by omega), rm_8, rm_8, gs, gr_at, if_neg (by decide), if_neg (by omega), if_neg (by omega), if_neg (by omega)]
          · by_cases k11 : k = 11
            · rw [k11, if_neg (by omega), if_neg (by omega), rm_11, rm_11, gs, gr_at, if_neg (by decide), if_neg (by omega), if_neg (by omega), if_neg (by omega)]
            · have o : ∀ (e : Nat → Nat → Int32) (z : Int32), aRm e z 69 k = e 69 k := fun e z => aRm_o (by decide) ⟨by decide, by decide, fun w => k8 w.2, fun w => k11 w.2⟩
              rw [o, o, gr_at, if_neg (c := (69 : Nat) = 73) (by decide), if_neg (c := (69 : Nat) = 134 ∧ k = y.toNatClampNeg) (fun w => by omega)]
        · rw [rm_co (by omega) h71 h73 h69, rm_co (by omega) h71 h73 h69, gr_at, if_neg h73, if_neg (c := c = 134 ∧ k = y.toNatClampNeg) (fun w => by omega)]
theorem rm_w (hI : cQI a) (h : qWp a m i) (h0 : 0 ≤ y.toInt) (hm : m = y.toNatClampNeg) : aRm (ma_u a 71 (a 130 m + 1 + i).toNatClampNeg x) y = aRm a y := by
  have q := cwp_i hI h
  have cq := tn_cast q.2.1
  have hy1 := hI.1 _ h.1
  have hi := h.2
  rw [hm] at q cq hy1 hi ⊢
  have es : (a 130 y.toNatClampNeg + a 128 y.toNatClampNeg).toInt = (a 130 y.toNatClampNeg).toInt + (a 128 y.toNatClampNeg).toInt := i_add (by omega) (by omega)
  have em : zMin (a 130 y.toNatClampNeg + a 128 y.toNatClampNeg).toInt = (a 130 y.toNatClampNeg).toInt + (a 128 y.toNatClampNeg).toInt := by
    unfold zMin
    rw [es]
    split <;> omega
  funext c k
  by_cases h : 126 ≤ c
  · rw [rm_hi h, rm_hi h]
    unfold zNo
    rw [un (by omega)]
  · by_cases h71 : c = 71
    · rw [h71, rm_71, rm_71, un (n := 130) (by decide), un (n := 128) (by decide), em]
      unfold zFr
      by_cases z : (71 : Nat) = 71 ∧ (a 130 y.toNatClampNeg).toInt ≤ (k : Int) ∧ (k : Int) < (a 130 y.toNatClampNeg).toInt + (a 128 y.toNatClampNeg).toInt
      · rw [if_pos z, if_pos z]
      · rw [if_neg z, if_neg z, xu_o (fun w => z ⟨rfl, by omega, by omega⟩)]
    · by_cases h73 : c = 73
      · rw [h73, rm_73, rm_73]
        unfold zUw
        rw [un (n := 73) (by decide)]
      · by_cases h69 : c = 69
        · rw [h69]
          by_cases k8 : k = 8
          · rw [k8, rm_8, rm_8, un (n := 69) (by decide), un (n := 128) (by decide)]
          · by_cases k11 : k = 11
            · rw [k11, rm_11, rm_11, un (n := 69) (by decide), un (n := 128) (by decide)]
            · have o : ∀ (e : Nat → Nat → Int32) (z : Int32), aRm e z 69 k = e 69 k := fun e z => aRm_o (by decide) ⟨by decide, by decide, fun w => k8 w.2, fun w => k11 w.2⟩
              rw [o, o, un (n := 69) (by decide)]
        · rw [rm_co (by omega) h71 h73 h69, rm_co (by omega) h71 h73 h69, un h71]
theorem Ra_rm : ∀ (l : List (Int32 × Int32)) (a : Nat → Nat → Int32), (∀ q, q ∈ l → 0 ≤ q.1.toInt) → 0 ≤ y.toInt → cNi l y.toNatClampNeg → aRm (cRa a l) y = cRa (aRm a y) l := by
  intro l
  induction l with
  | nil => intro a _ _ _; rfl
  | cons q t ih =>
    intro a h hy hn
    show aRm (cRa (aRm a q.1) t) y = cRa (aRm (aRm a y) q.1) t
    rw [ih (aRm a q.1) (fun p hp => h p (List.mem_cons_of_mem _ hp)) hy (fun p hp => hn p (List.mem_cons_of_mem _ hp)), rm_cm (h q List.mem_cons_self) hy (fun e => hn q List.mem_cons_self e.symm)]
theorem Ra_gr : ∀ (l : List (Int32 × Int32)) (a : Nat → Nat → Int32), (∀ q, q ∈ l → 0 ≤ q.1.toInt) → 0 ≤ y.toInt → cNi l y.toNatClampNeg → aGr (cRa a l) y = cRa (aGr a y) l := by
  intro l
  induction l with
  | nil => intro a _ _ _; rfl
  | cons q t ih =>
    intro a h hy hn
    show aGr (cRa (aRm a q.1) t) y = cRa (aRm (aGr a y) q.1) t
    rw [ih (aRm a q.1) (fun p hp => h p (List.mem_cons_of_mem _ hp)) hy (fun p hp => hn p (List.mem_cons_of_mem _ hp)), gr_rm (h q List.mem_cons_self) hy (fun e => hn q List.mem_cons_self e.symm)]
theorem Ra_rw (h : 126 ≤ c) (h1 : c < 1000) : ∀ (l : List (Int32 × Int32)) (a : Nat → Nat → Int32), cNi l n → cRa a l c n = a c n := by
  intro l
  induction l with
  | nil => intro a _; rfl
  | cons q t ih =>
    intro a hn
    show cRa (aRm a q.1) t c n = a c n
    rw [ih _ (fun p hp => hn p (List.mem_cons_of_mem _ hp)), rm_rw h h1 (hn q List.mem_cons_self)]
theorem Ra_al : ∀ (l : List (Int32 × Int32)) (a : Nat → Nat → Int32), (∀ q, q ∈ l → 0 ≤ q.1.toInt) → (xAl (cRa a l) n ↔ xAl a n ∧ cNi l n) := by
  intro l
  induction l with
  | nil => intro a _; exact ⟨fun w => ⟨w, fun q h => absurd h (List.not_mem_nil)⟩, fun w => w.1⟩
  | cons q t ih =>
    intro a h
    show xAl (cRa (aRm a q.1) t) n ↔ _
    rw [ih (aRm a q.1) (fun p hp => h p (List.mem_cons_of_mem _ hp)), rm_al (h q List.mem_cons_self)]
    constructor
    · rintro ⟨⟨w1, w2⟩, w3⟩
      refine ⟨w1, fun p hp => ?_⟩
      rcases List.mem_cons.mp hp with e | e
      · rw [e]; exact w2
      · exact w3 p e
    · rintro ⟨w1, w3⟩
      exact ⟨⟨w1, w3 q List.mem_cons_self⟩, fun p hp => w3 p (List.mem_cons_of_mem _ hp)⟩
theorem Ra_rf : ∀ (l : List (Int32 × Int32)) (a : Nat → Nat → Int32), cQI a → (∀ q, q ∈ l → 0 ≤ q.1.toInt ∧ xAl a q.1.toNatClampNeg) → cDs l → cNi l u → qWp a u j → aRef (cRa a l) u j = aRef a u j := by
  intro l
  induction l with
  | nil => intro a _ _ _ _ _; rfl
  | cons q t ih =>
    intro a hI h hd hn hw
    have h0 := h q List.mem_cons_self
    have hu := hn q List.mem_cons_self
    show aRef (cRa (aRm a q.1) t) u j = _
    rw [ih (aRm a q.1) (cQ_rm h0.1 hI) (fun p hp => ⟨(h p (List.mem_cons_of_mem _ hp)).1, (rm_al h0.1).mpr ⟨(h p (List.mem_cons_of_mem _ hp)).2, fun e => hd.1 p hp e.symm⟩⟩) hd.2 (fun p hp => hn p (List.mem_cons_of_mem _ hp)) ((Wp_rm h0.1).mpr ⟨hw, hu⟩), crf_rm hI h0.1 h0.2 hu hw]
theorem Ra_5 : ∀ (l : List (Int32 × Int32)) (a : Nat → Nat → Int32), cRa a l 69 5 = a 69 5 := by
  intro l
  induction l with
  | nil => intro a; rfl
  | cons q t ih =>
    intro a
    show cRa (aRm a q.1) t 69 5 = a 69 5
    rw [ih, aRm_o (by decide) ⟨by decide, by decide, by decide, by decide⟩]
theorem Z_cg : ∀ (l : List (Int32 × Int32)), (∀ q, q ∈ l → cLs b q.1.toNatClampNeg q.2.toInt.toNat = cLs a q.1.toNatClampNeg q.2.toInt.toNat) → cZ b l = cZ a l := by
  intro l
  induction l with
  | nil => intro _; rfl
  | cons q t ih =>
    intro h
    show cLs b q.1.toNatClampNeg q.2.toInt.toNat :: cZ b t = cLs a q.1.toNatClampNeg q.2.toInt.toNat :: cZ a t
    rw [h q List.mem_cons_self, ih (fun p hp => h p (List.mem_cons_of_mem _ hp))]
/-- the last one goes -/
theorem C_pop (h : cC a ((y, i) :: t) K B) (hi : ¬ i.toInt < (a 128 y.toNatClampNeg).toInt - 1) (hK : ∀ n, xAl a n → n ≠ y.toNatClampNeg → K₉ n = K n - Int32.ofNat (cOb a y.toNatClampNeg n)) : cC (aRm a y) t K₉ B ∧ cSt (cRa a ((y, i) :: t), cZ a ((y, i) :: t)) = (cRa (aRm a y) t, cZ (aRm a y) t) ∧ cLm (cZ (aRm a y) t) + cMs (cRa (aRm a y) t) < cLm (cZ a ((y, i) :: t)) + cMs (cRa a ((y, i) :: t)) := by
  obtain ⟨hI, hY, hd, hV, hk⟩ := h
  have hy4 : 0 ≤ y.toInt ∧ xAl a y.toNatClampNeg ∧ (0 ≤ i.toInt ∧ i.toInt ≤ (a 128 y.toNatClampNeg).toInt - 1) ∧ ∀ j : Int32, 0 ≤ j.toInt → j.toInt < i.toInt → (aRef a y.toNatClampNeg j).toInt < 0 := hY (y, i) List.mem_cons_self
  obtain ⟨y0, ya, yi, yr⟩ := hy4
  have hI₉ := cQ_rm y0 hI
  have hz : cLs a y.toNatClampNeg i.toInt.toNat = [] := cLs_0 (by have := yi.1; omega)
  have e0 : cZ a ((y, i) :: t) = [] :: cZ a t := congrArg (fun q => q :: cZ a t) hz
  have hc : ∀ q, q ∈ t → cLs (aRm a y) q.1.toNatClampNeg q.2.toInt.toNat = cLs a q.1.toNatClampNeg q.2.toInt.toNat := fun q hq => by
    have w := hY q (List.mem_cons_of_mem _ hq)
    have ne : q.1.toNatClampNeg ≠ y.toNatClampNeg := fun e => hd.1 q hq e.symm
    exact cLs_cg (rm_rw (by decide) (by decide) ne) (fun j _ hj => crf_rm hI y0 ya ne (wp_N hI w.2.1 hj))
  have e1 : cZ (aRm a y) t = cZ a t := Z_cg t hc
  have e2 : cRa a ((y, i) :: t) = cRa (aRm a y) t := rfl
  rw [e0, e2] at hV hk
  have ob : ∀ n, n < 512 → cOb a y.toNatClampNeg n = 0 := fun n hn => cSu_z _ (fun k hk => by
    have q := hI.1 _ ya
    have e := ofN_s (s := k) (by omega)
    exact cIs_n (yr (Int32.ofNat k) (by omega) (by show (Int32.ofNat k).toInt < i.toInt; omega)) hn)
  rw [e0, e2, e1]
  refine ⟨⟨hI₉, fun q hq => ?_, hd.2, ?_, fun n hn => ?_⟩, rfl, ?_⟩
  · have w := hY q (List.mem_cons_of_mem _ hq)
    have ne : q.1.toNatClampNeg ≠ y.toNatClampNeg := fun e => hd.1 q hq e.symm
    refine ⟨w.1, (rm_al y0).mpr ⟨w.2.1, ne⟩, ?_, fun j j0 j1 => ?_⟩
    · rw [rm_rw (by decide) (by decide) ne]; exact w.2.2.1
    · have w3 := w.2.2.1
      rw [crf_rm hI y0 ya ne ⟨w.2.1, j0, by omega⟩]
      exact w.2.2.2 j j0 j1
  · rw [e1]
    obtain ⟨v1, v2, v3, v4, v5, v6⟩ := hV
    refine ⟨v1, v2, fun l hl => v3 l (List.mem_cons_of_mem _ hl), v4, v5, ?_⟩
    have : cLm ([] :: cZ a t) = 0 + 1 + cLm (cZ a t) := rfl
    omega
  · rw [e1]
    have q := hk n hn
    have w := (Ra_al t (aRm a y) (fun q hq => (hY q (List.mem_cons_of_mem _ hq)).1)).mp hn
    have w2 := (rm_al y0).mp w.1
    rw [hK n w2.1 w2.2, ob n w2.1.1, show Int32.ofNat 0 = 0 from rfl, Int32.sub_zero, q]
    have : cOc ([] :: cZ a t) n = 0 + cOc (cZ a t) n := rfl
    rw [this, Nat.zero_add]
  · have : cLm ([] :: cZ a t) = 0 + 1 + cLm (cZ a t) := rfl
    omega
end CS
/-! COUNTS, the class: a word is dropped, one falls -/
section CT
variable {a b : Nat → Nat → Int32} {x y i j r : Int32} {n m k u c : Nat} {l t : List (Int32 × Int32)} {q : Int32 × Int32} {K K₉ : Nat → Int32} {B : Int}
theorem V_tl {st : List (List Int32)} {l0 : List Int32} (h : cV a ((r :: l0) :: st) B) : cV a (l0 :: st) B := by
  obtain ⟨v1, v2, v3, v4, v5, v6⟩ := h
  refine ⟨v1, v2, fun l hl x hx => ?_, v4, v5, ?_⟩
  · rcases List.mem_cons.mp hl with e | e
    · rw [e] at hx
      exact v3 (r :: l0) List.mem_cons_self x (List.mem_cons_of_mem _ hx)
    · exact v3 l (List.mem_cons_of_mem _ e) x hx
  · have e1 : cLm ((r :: l0) :: st) = l0.length + 1 + 1 + cLm st := rfl
    have e2 : cLm (l0 :: st) = l0.length + 1 + cLm st := rfl
    omega
theorem Oc_tl {st : List (List Int32)} {l0 : List Int32} : cOc ((r :: l0) :: st) n = cIs r n + cOc (l0 :: st) n := Nat.add_assoc _ _ _
/-- a word that does not refer is passed over -/
theorem C_d0 (h : cC a ((y, i) :: t) K B) (hi : i.toInt < (a 128 y.toNatClampNeg).toInt - 1) (hb : a (1000 + y.toNatClampNeg) i.toNatClampNeg = 0) : cC a ((y, i + 1) :: t) K B ∧ cSt (cRa a ((y, i) :: t), cZ a ((y, i) :: t)) = (cRa a ((y, i + 1) :: t), cZ a ((y, i + 1) :: t)) ∧ cLm (cZ a ((y, i + 1) :: t)) + cMs (cRa a ((y, i + 1) :: t)) < cLm (cZ a ((y, i) :: t)) + cMs (cRa a ((y, i) :: t)) := by
  obtain ⟨hI, hY, hd, hV, hk⟩ := h
  have hy4 : 0 ≤ y.toInt ∧ xAl a y.toNatClampNeg ∧ (0 ≤ i.toInt ∧ i.toInt ≤ (a 128 y.toNatClampNeg).toInt - 1) ∧ ∀ j : Int32, 0 ≤ j.toInt → j.toInt < i.toInt → (aRef a y.toNatClampNeg j).toInt < 0 := hY (y, i) List.mem_cons_self
  obtain ⟨y0, ya, yi, yr⟩ := hy4
  have yi1 : 0 ≤ i.toInt := yi.1
  have qs := hI.1 _ ya
  have e1 := i_p1 (i := i) (by omega)
  have hr : aRef a y.toNatClampNeg i = -1 := aRef_no (fun w => w.1 hb)
  have hs : cLs a y.toNatClampNeg i.toInt.toNat = (-1) :: cLs a y.toNatClampNeg (i + 1).toInt.toNat := by
    rw [cLs_s (k := i.toInt.toNat) (by omega), ofN_k yi1, hr, show (i + 1).toInt.toNat = i.toInt.toNat + 1 from by omega]
  have e0 : cZ a ((y, i) :: t) = ((-1) :: cLs a y.toNatClampNeg (i + 1).toInt.toNat) :: cZ a t := congrArg (fun q => q :: cZ a t) hs
  have e2 : cZ a ((y, i + 1) :: t) = cLs a y.toNatClampNeg (i + 1).toInt.toNat :: cZ a t := rfl
  have e3 : cRa a ((y, i + 1) :: t) = cRa a ((y, i) :: t) := rfl
  rw [e0] at hV hk
  rw [e0, e2, e3]
  refine ⟨⟨hI, fun q hq => ?_, hd, ?_, fun n hn => ?_⟩, cSt_n (by decide), ?_⟩
  · rcases List.mem_cons.mp hq with e | e
    · rw [e]
      refine ⟨y0, ya, ⟨by show 0 ≤ (i + 1).toInt; omega, by show (i + 1).toInt ≤ (a 128 y.toNatClampNeg).toInt - 1; omega⟩, fun j j0 j1 => ?_⟩
      have j2 : j.toInt < (i + 1).toInt := j1
      by_cases w : j.toInt < i.toInt
      · exact yr j j0 w
      · have ej : j = i := Int32.toInt_inj.mp (by omega)
        show (aRef a y.toNatClampNeg j).toInt < 0
        rw [ej, hr]
        decide
    · exact hY q (List.mem_cons_of_mem _ e)
  · rw [e2, e3]; exact V_tl hV
  · rw [e3] at hn
    rw [e2, e3, hk n hn, Oc_tl, cIs_n (by decide) hn.1, Nat.zero_add]
  · have f1 : cLm (((-1) :: cLs a y.toNatClampNeg (i + 1).toInt.toNat) :: cZ a t) = (cLs a y.toNatClampNeg (i + 1).toInt.toNat).length + 1 + 1 + cLm (cZ a t) := rfl
    have f2 : cLm (cLs a y.toNatClampNeg (i + 1).toInt.toNat :: cZ a t) = (cLs a y.toNatClampNeg (i + 1).toInt.toNat).length + 1 + cLm (cZ a t) := rfl
    omega
/-- a REFERENCE is dropped -/
theorem C_dr (h : cC a ((y, i) :: t) K B) (hi : i.toInt < (a 128 y.toNatClampNeg).toInt - 1) (hb : a (1000 + y.toNatClampNeg) i.toNatClampNeg ≠ 0) (hK : ∀ n, xAl a n → K₉ n = K n - Int32.ofNat (cIs (aRef a y.toNatClampNeg i) n)) (hbe : b = ma_u a 71 (a 130 y.toNatClampNeg + 1 + i).toNatClampNeg (-1)) : cC b ((y, i + 1) :: t) K₉ B ∧ cRa b ((y, i + 1) :: t) = cRa a ((y, i) :: t) ∧ ∃ l0 t0, cZ a ((y, i) :: t) = (aRef a y.toNatClampNeg i :: l0) :: t0 ∧ cZ b ((y, i + 1) :: t) = l0 :: t0 := by
  obtain ⟨hI, hY, hd, hV, hk⟩ := h
  have hy4 : 0 ≤ y.toInt ∧ xAl a y.toNatClampNeg ∧ (0 ≤ i.toInt ∧ i.toInt ≤ (a 128 y.toNatClampNeg).toInt - 1) ∧ ∀ j : Int32, 0 ≤ j.toInt → j.toInt < i.toInt → (aRef a y.toNatClampNeg j).toInt < 0 := hY (y, i) List.mem_cons_self
  obtain ⟨y0, ya, yi, yr⟩ := hy4
  have yi1 : 0 ≤ i.toInt := yi.1
  have qs := hI.1 _ ya
  have e1 := i_p1 (i := i) (by omega)
  have wp : qWp a y.toNatClampNeg i := ⟨ya, yi1, hi⟩
  have r128 : b 128 = a 128 := by rw [hbe]; exact un (by decide)
  have ral : xAl b = xAl a := by rw [hbe]; exact Al_71
  have rrf : ∀ u j, qWp a u j → ¬ (u = y.toNatClampNeg ∧ j = i) → aRef b u j = aRef a u j := fun u j w z => by
    rw [hbe, crf_w hI wp w, if_neg z]
  have rri : aRef b y.toNatClampNeg i = -1 := by
    rw [hbe, crf_w hI wp wp, if_pos ⟨rfl, rfl⟩, if_pos hb]
  have hs : cLs a y.toNatClampNeg i.toInt.toNat = aRef a y.toNatClampNeg i :: cLs a y.toNatClampNeg (i + 1).toInt.toNat := by
    rw [cLs_s (k := i.toInt.toNat) (by omega), ofN_k yi1, show (i + 1).toInt.toNat = i.toInt.toNat + 1 from by omega]
  have e0 : cZ a ((y, i) :: t) = (aRef a y.toNatClampNeg i :: cLs a y.toNatClampNeg (i + 1).toInt.toNat) :: cZ a t := congrArg (fun q => q :: cZ a t) hs
  have z1 : cLs b y.toNatClampNeg (i + 1).toInt.toNat = cLs a y.toNatClampNeg (i + 1).toInt.toNat := cLs_cg (congrFun r128 _) (fun j hj h2 => rrf _ _ (wp_N hI ya h2) (fun w => by
    have e := congrArg Int32.toInt w.2
    rw [ofN_s (by omega)] at e
    omega))
  have z2 : cZ b t = cZ a t := Z_cg t (fun q hq => cLs_cg (congrFun r128 _) (fun j _ h2 => rrf _ _ (wp_N hI (hY q (List.mem_cons_of_mem _ hq)).2.1 h2) (fun w => hd.1 q hq w.1.symm)))
  have e2 : cZ b ((y, i + 1) :: t) = cLs a y.toNatClampNeg (i + 1).toInt.toNat :: cZ a t := by
    show cLs b y.toNatClampNeg (i + 1).toInt.toNat :: cZ b t = _
    rw [z1, z2]
  have e3 : cRa b ((y, i + 1) :: t) = cRa a ((y, i) :: t) := by
    show cRa (aRm b y) t = cRa (aRm a y) t
    rw [hbe, rm_w hI wp y0 rfl]
  rw [e0] at hV hk
  refine ⟨⟨by rw [hbe]; exact cQ_71 hI, fun q hq => ?_, hd, ?_, fun n hn => ?_⟩, e3, _, _, e0, e2⟩
  · rw [ral, r128]
    rcases List.mem_cons.mp hq with e | e
    · rw [e]
      refine ⟨y0, ya, ⟨by show 0 ≤ (i + 1).toInt; omega, by show (i + 1).toInt ≤ (a 128 y.toNatClampNeg).toInt - 1; omega⟩, fun j j0 j1 => ?_⟩
      have j2 : j.toInt < (i + 1).toInt := j1
      show (aRef b y.toNatClampNeg j).toInt < 0
      by_cases w : j.toInt < i.toInt
      · rw [rrf _ _ ⟨ya, j0, by omega⟩ (fun z => by rw [z.2] at w; omega)]
        exact yr j j0 w
      · have ej : j = i := Int32.toInt_inj.mp (by omega)
        rw [ej, rri]
        decide
    · have w := hY q (List.mem_cons_of_mem _ e)
      refine ⟨w.1, w.2.1, w.2.2.1, fun j j0 j1 => ?_⟩
      have w3 := w.2.2.1
      rw [rrf _ _ ⟨w.2.1, j0, by omega⟩ (fun z => hd.1 q e z.1.symm)]
      exact w.2.2.2 j j0 j1
  · rw [e2, e3]; exact V_tl hV
  · rw [e3] at hn
    have w := (Ra_al ((y, i) :: t) a (fun q hq => (hY q hq).1)).mp hn
    rw [e2, e3, hK n w.1, hk n hn, Oc_tl, ← Int32.ofInt_eq_ofNat (n := cIs (aRef a y.toNatClampNeg i) n), ← Int32.ofInt_sub]
    exact congrArg Int32.ofInt (by omega)
/-- who falls is there, and not on the stack -/
theorem C_al (h : cC a l K B) (hr : xAl (cRa a l) r.toNatClampNeg) : xAl a r.toNatClampNeg ∧ cNi l r.toNatClampNeg := (Ra_al l a (fun q hq => (h.2.1 q hq).1)).mp hr
theorem C_K (h : cC a l K B) (hB : B ≤ 1000000) (hr : xAl (cRa a l) n) : (K n).toInt = cRf (cRa a l) n + (cOc (cZ a l) n : Int) := by
  have q := Rf_bd h.2.2.2.1 hB hr
  rw [h.2.2.2.2 n hr]
  exact Int32.toInt_ofInt_of_le (by omega) (by omega)
theorem C_fp (h : cC a l K B) (hB : B ≤ 1000000) (hr : xAl (cRa a l) r.toNatClampNeg) (hK : 0 < (K r.toNatClampNeg).toInt) : cFa (cRa a l) (cZ a l) r = (cRa a l, cZ a l) := Fa_p (by rw [← C_K h hB hr]; exact hK)
theorem C_fg (h : cC a l K B) (hB : B ≤ 1000000) (h0 : 0 ≤ r.toInt) (hr : xAl (cRa a l) r.toNatClampNeg) (hK : ¬ 0 < (K r.toNatClampNeg).toInt) (hw : a 134 r.toNatClampNeg ≠ 0) (hK₉ : ∀ n, xAl a n → K₉ n = K n + (if (a 69 5).toInt < 512 then Int32.ofNat (cIs r n) else 0)) : cC (aGr a r) l K₉ B ∧ cFa (cRa a l) (cZ a l) r = (cRa (aGr a r) l, cZ (aGr a r) l) := by
  have al := C_al h hr
  have kk := C_K h hB hr
  obtain ⟨hI, hY, hd, hV, hk⟩ := h
  have e1 : aGr (cRa a l) r = cRa (aGr a r) l := Ra_gr l a (fun q hq => (hY q hq).1) h0 al.2
  have e2 : cZ (aGr a r) l = cZ a l := Z_cg l (fun q hq => cLs_cg (congrFun (gr_r (by decide) (by decide) (by decide) (by decide)) _) (fun j _ _ => gr_ref))
  have ga := gr_al (a := a) (y := r)
  refine ⟨⟨cQ_gr hI, fun q hq => ?_, hd, ?_, fun n hn => ?_⟩, ?_⟩
  · rw [ga, gr_r (n := 128) (by decide) (by decide) (by decide) (by decide), gr_ref']
    exact hY q hq
  · rw [e2, ← e1]; exact V_gr hV h0 hr
  · rw [← e1, gr_al] at hn
    have w := (Ra_al l a (fun q hq => (hY q hq).1)).mp hn
    rw [e2, ← e1, hK₉ n w.1, hk n hn]
    by_cases z : (a 69 5).toInt < 512
    · rw [if_pos z, Fr_gr hV h0 (by rw [Ra_5]; exact z), Int32.ofInt_add (cRf (cRa a l) n + _), Int32.ofInt_eq_ofNat]
    · rw [if_neg z, Rf_gn (by rw [Ra_5]; exact z), Int32.add_zero]
  · rw [e2, ← e1]
    exact Fa_g (by rw [← kk]; exact hK) (by rw [Ra_rw (by decide) (by decide) l a al.2]; exact hw)
theorem C_fr (h : cC a l K B) (hB : B ≤ 1000000) (h0 : 0 ≤ r.toInt) (hr : xAl (cRa a l) r.toNatClampNeg) (hK : ¬ 0 < (K r.toNatClampNeg).toInt) (hw : a 134 r.toNatClampNeg = 0) : cC a ((r, 0) :: l) K B ∧ cFa (cRa a l) (cZ a l) r = (cRa a ((r, 0) :: l), cZ a ((r, 0) :: l)) := by
  have al := C_al h hr
  have kk := C_K h hB hr
  obtain ⟨hI, hY, hd, hV, hk⟩ := h
  have e1 : aRm (cRa a l) r = cRa a ((r, 0) :: l) := Ra_rm l a (fun q hq => (hY q hq).1) h0 al.2
  have e2 : cLs (cRa a l) r.toNatClampNeg 0 = cLs a r.toNatClampNeg 0 := cLs_cg (Ra_rw (by decide) (by decide) l a al.2) (fun j _ hj => Ra_rf l a hI (fun q hq => ⟨(hY q hq).1, (hY q hq).2.1⟩) hd al.2 (wp_N hI al.1 hj))
  have e3 : cZ a ((r, 0) :: l) = cLs (cRa a l) r.toNatClampNeg 0 :: cZ a l := by
    rw [e2]; rfl
  have kz : ¬ 0 < cRf (cRa a l) r.toNatClampNeg + (cOc (cZ a l) r.toNatClampNeg : Int) := by rw [← kk]; exact hK
  have v := V_rm hV h0 hr kz
  have qs := hI.1 _ al.1
  refine ⟨⟨hI, fun q hq => ?_, ⟨al.2, hd⟩, ?_, fun n hn => ?_⟩, ?_⟩
  · rcases List.mem_cons.mp hq with e | e
    · rw [e]
      exact ⟨h0, al.1, ⟨by show 0 ≤ (0 : Int32).toInt; decide, by show (0 : Int32).toInt ≤ (a 128 r.toNatClampNeg).toInt - 1; rw [show (0 : Int32).toInt = 0 from rfl]; omega⟩, fun j j0 j1 => absurd j1 (by show ¬ j.toInt < (0 : Int32).toInt; rw [show (0 : Int32).toInt = 0 from rfl]; omega)⟩
    · exact hY q e
  · rw [e3, ← e1]; exact v.1
  · rw [← e1] at hn
    have w := (rm_al h0).mp hn
    rw [e3, ← e1, hk n w.1, Fr_rm hV h0 hr w.2]
  · rw [e3, ← e1]
    exact Fa_r kz (by rw [Ra_rw (by decide) (by decide) l a al.2]; exact hw)
end CT

