/-! COUNTS, the class (written by wip/tools/gen20k.py) -/
/-! COUNTS: those that go, one behind the other -/
def cOk (a : Nat → Nat → Int32) (x : Int32) : Prop := x.toInt < 0 ∨ xAl a x.toNatClampNeg
def cL : List Int32 → Nat → Nat
  | [], _ => 0
  | x :: l, n => cIs x n + cL l n
def cOc : List (List Int32) → Nat → Nat
  | [], _ => 0
  | l :: t, n => cL l n + cOc t n
def cLf (a : Nat → Nat → Int32) (m : Nat) : Nat → Nat → List Int32
  | 0, _ => []
  | k + 1, i => aRef a m (Int32.ofNat i) :: cLf a m k (i + 1)
def cLs (a : Nat → Nat → Int32) (m i : Nat) : List Int32 := cLf a m (((a 128 m).toInt - 1).toNat - i) i
def cFa (a : Nat → Nat → Int32) (st : List (List Int32)) (r : Int32) : (Nat → Nat → Int32) × List (List Int32) :=
  if 0 < cRf a r.toNatClampNeg + (cOc st r.toNatClampNeg : Int) then (a, st) else if a 134 r.toNatClampNeg = 0 then (aRm a r, cLs a r.toNatClampNeg 0 :: st) else (aGr a r, st)
def cSt : (Nat → Nat → Int32) × List (List Int32) → (Nat → Nat → Int32) × List (List Int32)
  | (a, []) => (a, [])
  | (a, [] :: t) => (a, t)
  | (a, (r :: l) :: t) => if r.toInt < 0 then (a, l :: t) else cFa a (l :: t) r
def cIt : Nat → (Nat → Nat → Int32) × List (List Int32) → (Nat → Nat → Int32) × List (List Int32)
  | 0, x => x
  | n + 1, x => cIt n (cSt x)
def cE (x : (Nat → Nat → Int32) × List (List Int32)) (b : Nat → Nat → Int32) : Prop := ∃ n, cIt n x = (b, [])
noncomputable def cEn (x : (Nat → Nat → Int32) × List (List Int32)) : Nat → Nat → Int32 := Classical.epsilon (fun b => cE x b)
/-- one that counts less now -/
noncomputable def cLe (a : Nat → Nat → Int32) (y : Int32) : Nat → Nat → Int32 := qIf (0 ≤ y.toInt ∧ xAl a y.toNatClampNeg) (cEn (cFa a [] y)) a
def cNd (a : Nat → Nat → Int32) : Prop := (∀ k, k < 16 → cOk a (a 72 k)) ∧ (∀ k : Nat, (k : Int) < (a 69 5).toInt → cOk a (a 74 k)) ∧ ∀ u j, qWp a u j → cOk a (aRef a u j)
def cNl (a : Nat → Nat → Int32) (st : List (List Int32)) : Prop := ∀ l, l ∈ st → ∀ x, x ∈ l → cOk a x
def cHd (a : Nat → Nat → Int32) (B : Int) : Prop := ∀ n, xAl a n → 0 ≤ (a 133 n).toInt ∧ (a 133 n).toInt ≤ B
def cLm : List (List Int32) → Nat
  | [] => 0
  | l :: t => l.length + 1 + cLm t
def cMs (a : Nat → Nat → Int32) : Nat := cSu (fun m => if a 126 m = 0 then 0 else (a 128 m).toInt.toNat + 1) 512
def cV (a : Nat → Nat → Int32) (st : List (List Int32)) (B : Int) : Prop := cQI a ∧ cNd a ∧ cNl a st ∧ cHd a B ∧ (0 ≤ (a 69 5).toInt ∧ (a 69 5).toInt ≤ 512) ∧ cLm st + cMs a ≤ 40000
section CR
variable {a b d : Nat → Nat → Int32} {x y i j r : Int32} {n m k u c : Nat} {st t : List (List Int32)} {l : List Int32} {B : Int}
theorem It_nil : ∀ n, cIt n (a, []) = (a, []) := by
  intro n
  induction n with
  | zero => rfl
  | succ n ih => exact ih
theorem It_add : ∀ (n m : Nat) (x : (Nat → Nat → Int32) × List (List Int32)), cIt (n + m) x = cIt m (cIt n x) := by
  intro n
  induction n with
  | zero => intro m x; rw [Nat.zero_add]; rfl
  | succ n ih =>
    intro m x
    rw [Nat.succ_add]
    exact ih m (cSt x)
theorem cE_dt {x : (Nat → Nat → Int32) × List (List Int32)} (h : cE x b) (h2 : cE x d) : b = d := by
  obtain ⟨n, e⟩ := h
  obtain ⟨m, f⟩ := h2
  have e1 : cIt (n + m) x = (b, []) := by rw [It_add, e, It_nil]
  have e2 : cIt (n + m) x = (d, []) := by rw [Nat.add_comm, It_add, f, It_nil]
  exact congrArg Prod.fst (e1.symm.trans e2)
theorem cE_o : cE (a, []) a := ⟨0, rfl⟩
theorem cE_s {x : (Nat → Nat → Int32) × List (List Int32)} (h : cE (cSt x) b) : cE x b := by
  obtain ⟨n, e⟩ := h
  exact ⟨n + 1, e⟩
theorem cEn_e {x : (Nat → Nat → Int32) × List (List Int32)} (h : cE x b) : cEn x = b := cE_dt (Classical.epsilon_spec (p := fun b => cE x b) ⟨b, h⟩) h
theorem cLe_y (h0 : 0 ≤ y.toInt) (hy : xAl a y.toNatClampNeg) (h : cE (cFa a [] y) b) : cLe a y = b := (qIf_y ⟨h0, hy⟩).trans (cEn_e h)
theorem cLe_n (h : ¬ (0 ≤ y.toInt ∧ xAl a y.toNatClampNeg)) : cLe a y = a := qIf_n h
theorem Fa_p (h : 0 < cRf a r.toNatClampNeg + (cOc st r.toNatClampNeg : Int)) : cFa a st r = (a, st) := if_pos h
theorem Fa_g (h : ¬ 0 < cRf a r.toNatClampNeg + (cOc st r.toNatClampNeg : Int)) (h2 : a 134 r.toNatClampNeg ≠ 0) : cFa a st r = (aGr a r, st) := (if_neg h).trans (if_neg h2)
theorem Fa_r (h : ¬ 0 < cRf a r.toNatClampNeg + (cOc st r.toNatClampNeg : Int)) (h2 : a 134 r.toNatClampNeg = 0) : cFa a st r = (aRm a r, cLs a r.toNatClampNeg 0 :: st) := (if_neg h).trans (if_pos h2)
theorem cSt_0 : cSt (a, [] :: t) = (a, t) := rfl
theorem cSt_n (h : r.toInt < 0) : cSt (a, (r :: l) :: t) = (a, l :: t) := if_pos h
theorem cSt_y (h : 0 ≤ r.toInt) : cSt (a, (r :: l) :: t) = cFa a (l :: t) r := if_neg (by omega)
theorem cLf_m : ∀ (k i : Nat), x ∈ cLf a m k i → ∃ j, i ≤ j ∧ j < i + k ∧ x = aRef a m (Int32.ofNat j) := by
  intro k
  induction k with
  | zero => intro i h; exact absurd h (List.not_mem_nil)
  | succ k ih =>
    intro i h
    rcases List.mem_cons.mp h with w | w
    · exact ⟨i, Nat.le_refl _, by omega, w⟩
    · obtain ⟨j, j1, j2, j3⟩ := ih (i + 1) w
      exact ⟨j, by omega, by omega, j3⟩
theorem cLf_c : ∀ (k i : Nat), cL (cLf a m k i) n + cSu (fun i => cIs (aRef a m (Int32.ofNat i)) n) i = cSu (fun i => cIs (aRef a m (Int32.ofNat i)) n) (i + k) := by
  intro k
  induction k with
  | zero => intro i; show 0 + _ = _; rw [Nat.add_zero, Nat.zero_add]
  | succ k ih =>
    intro i
    have q := ih (i + 1)
    have q1 : cSu (fun i => cIs (aRef a m (Int32.ofNat i)) n) (i + 1) = cSu (fun i => cIs (aRef a m (Int32.ofNat i)) n) i + cIs (aRef a m (Int32.ofNat i)) n := rfl
    show cIs (aRef a m (Int32.ofNat i)) n + cL (cLf a m k (i + 1)) n + _ = _
    rw [show i + (k + 1) = i + 1 + k from by omega, ← q, q1]
    omega
theorem cLs_c : cL (cLs a m 0) n = cOb a m n := by
  have q := cLf_c (a := a) (m := m) (n := n) (((a 128 m).toInt - 1).toNat - 0) 0
  rw [Nat.zero_add, Nat.sub_zero] at q
  exact q
theorem cLf_l : ∀ (k i : Nat), (cLf a m k i).length = k := by
  intro k
  induction k with
  | zero => intro i; rfl
  | succ k ih =>
    intro i
    show (cLf a m k (i + 1)).length + 1 = k + 1
    rw [ih (i + 1)]
theorem cLf_cg : ∀ (k i : Nat), (∀ j, i ≤ j → j < i + k → aRef b m (Int32.ofNat j) = aRef a m (Int32.ofNat j)) → cLf b m k i = cLf a m k i := by
  intro k
  induction k with
  | zero => intro i _; rfl
  | succ k ih =>
    intro i h
    show aRef b m (Int32.ofNat i) :: cLf b m k (i + 1) = aRef a m (Int32.ofNat i) :: cLf a m k (i + 1)
    rw [h i (Nat.le_refl _) (by omega), ih (i + 1) (fun j h1 h2 => h j (by omega) (by omega))]
theorem cLs_cg (h1 : b 128 m = a 128 m) (h : ∀ j : Nat, k ≤ j → (j : Int) < (a 128 m).toInt - 1 → aRef b m (Int32.ofNat j) = aRef a m (Int32.ofNat j)) : cLs b m k = cLs a m k := by
  unfold cLs
  rw [h1]
  exact cLf_cg _ _ (fun j h2 h3 => h j h2 (by omega))
theorem cLs_0 (h : ¬ (k : Int) < (a 128 m).toInt - 1) : cLs a m k = [] := by
  unfold cLs
  rw [show ((a 128 m).toInt - 1).toNat - k = 0 from by omega]
  rfl
theorem cLs_s (h : (k : Int) < (a 128 m).toInt - 1) : cLs a m k = aRef a m (Int32.ofNat k) :: cLs a m (k + 1) := by
  unfold cLs
  rw [show ((a 128 m).toInt - 1).toNat - k = (((a 128 m).toInt - 1).toNat - (k + 1)) + 1 from by omega]
  rfl
theorem Ro_ne (h : cRo a n = 0) (hk : k < 16) : ¬ a 72 k = Int32.ofNat n := fun e => by
  have q : cIs (a 72 k) n ≤ cRo a n := cSu_le (f := fun k => cIs (a 72 k) n) 16 hk
  rw [cIs_1 e] at q
  omega
theorem Wi_ne (h : cWi a n = 0) (hk : (k : Int) < (a 69 5).toInt) : ¬ a 74 k = Int32.ofNat n := fun e => by
  have q : cIs (a 74 k) n ≤ cWi a n := cSu_le (f := fun k => cIs (a 74 k) n) (a 69 5).toInt.toNat (by omega)
  rw [cIs_1 e] at q
  omega
theorem Ob_le (h0 : 0 ≤ j.toInt) (h1 : j.toInt < (a 128 u).toInt - 1) : cIs (aRef a u j) n ≤ cOb a u n := by
  have q : cIs (aRef a u (Int32.ofNat j.toInt.toNat)) n ≤ cOb a u n := cSu_le (f := fun i => cIs (aRef a u (Int32.ofNat i)) n) ((a 128 u).toInt - 1).toNat (by omega)
  rw [ofN_k h0] at q
  exact q
theorem Th_ne (h : cTh a n = 0) (hw : qWp a u j) : ¬ aRef a u j = Int32.ofNat n := fun e => by
  have q : cTm a n u ≤ cTh a n := cSu_le (f := cTm a n) 512 hw.1.1
  have q2 : cTm a n u = cOb a u n := if_neg hw.1.2
  have q3 := Ob_le (a := a) (u := u) (n := n) hw.2.1 hw.2.2
  rw [cIs_1 e] at q3
  omega
theorem cL_ne : ∀ l : List Int32, cL l n = 0 → ∀ x, x ∈ l → ¬ x = Int32.ofNat n := by
  intro l
  induction l with
  | nil => intro _ x h; exact absurd h (List.not_mem_nil)
  | cons y l ih =>
    intro h x hx
    have h' : cIs y n + cL l n = 0 := h
    rcases List.mem_cons.mp hx with w | w
    · rw [w]
      intro e
      rw [cIs_1 e] at h'
      omega
    · exact ih (by omega) x w
theorem Oc_ne : ∀ st : List (List Int32), cOc st n = 0 → ∀ l, l ∈ st → ∀ x, x ∈ l → ¬ x = Int32.ofNat n := by
  intro st
  induction st with
  | nil => intro _ l h; exact absurd h (List.not_mem_nil)
  | cons y t ih =>
    intro h l hl
    have h' : cL y n + cOc t n = 0 := h
    rcases List.mem_cons.mp hl with w | w
    · rw [w]; exact cL_ne y (by omega)
    · exact ih (by omega) l w
theorem cL_le : ∀ l : List Int32, cL l n ≤ l.length := by
  intro l
  induction l with
  | nil => exact Nat.le_refl _
  | cons y l ih =>
    show cIs y n + cL l n ≤ l.length + 1
    have := cIs_le (x := y) (n := n)
    omega
theorem Oc_le : ∀ st : List (List Int32), cOc st n ≤ cLm st := by
  intro st
  induction st with
  | nil => exact Nat.le_refl _
  | cons y t ih =>
    show cL y n + cOc t n ≤ y.length + 1 + cLm t
    have := cL_le (n := n) y
    omega
theorem Rf_z (hh : 0 ≤ (a 133 n).toInt) (h : ¬ 0 < cRf a n + (cOc st n : Int)) : cRo a n = 0 ∧ cWi a n = 0 ∧ cTh a n = 0 ∧ cOc st n = 0 ∧ (a 133 n).toInt = 0 := by
  unfold cRf at h
  omega
theorem Rf_bd (hV : cV a st B) (hB : B ≤ 1000000) (hn : xAl a n) : 0 ≤ cRf a n + (cOc st n : Int) ∧ cRf a n + (cOc st n : Int) ≤ 1200000 := by
  obtain ⟨q1, _, _, q4, q5, q6⟩ := hV
  have h1 : cRo a n ≤ 16 * 1 := cSu_bd 16 (fun k _ => cIs_le)
  have h2 : cWi a n ≤ (a 69 5).toInt.toNat * 1 := cSu_bd _ (fun k _ => cIs_le)
  have h3 : cTh a n ≤ 512 * 60 := cSu_bd 512 (fun m hm => by
    unfold cTm
    by_cases z : a 126 m = 0
    · rw [if_pos z]; exact Nat.zero_le _
    · rw [if_neg z]
      have w := q1.1 m ⟨hm, z⟩
      have := cSu_bd (f := fun i => cIs (aRef a m (Int32.ofNat i)) n) (B := 1) ((a 128 m).toInt - 1).toNat (fun k _ => cIs_le)
      unfold cOb
      omega)
  have h4 := Oc_le (n := n) st
  have h5 := q4 n hn
  unfold cRf
  omega
theorem cOk_rm (h0 : 0 ≤ y.toInt) (h : cOk a x) (hne : ¬ x = Int32.ofNat y.toNatClampNeg) : cOk (aRm a y) x := by
  rcases h with w | w
  · exact Or.inl w
  · by_cases z : x.toInt < 0
    · exact Or.inl z
    · refine Or.inr ((rm_al h0).mpr ⟨w, fun e => hne ?_⟩)
      rw [← e, ofN_tn (by omega)]
theorem gr_ref' {a : Nat → Nat → Int32} {y : Int32} : aRef (aGr a y) = aRef a := funext (fun _ => funext (fun _ => gr_ref))
theorem gr_al : xAl (aGr a y) = xAl a := by
  funext n
  unfold xAl
  rw [gr_r (by decide) (by decide) (by decide) (by decide)]
theorem cQ_gr (hI : cQI a) : cQI (aGr a y) := by
  obtain ⟨h1, h2, h3⟩ := hI
  refine ⟨?_, ?_, ?_⟩
  · rw [gr_al, gr_r (n := 130) (by decide) (by decide) (by decide) (by decide), gr_r (n := 128) (by decide) (by decide) (by decide) (by decide)]
    exact h1
  · unfold qI2
    rw [gr_al, gr_r (n := 130) (by decide) (by decide) (by decide) (by decide), gr_r (n := 128) (by decide) (by decide) (by decide) (by decide)]
    exact h2
  · intro n hn k
    rw [gr_al] at hn
    rw [gr_r (by omega) (by omega) (by omega) (by omega)]
    exact h3 n hn k
theorem Wp_gr : qWp (aGr a y) u j ↔ qWp a u j := by
  unfold qWp
  rw [gr_al, gr_r (n := 128) (by decide) (by decide) (by decide) (by decide)]
theorem cOk_cg (h : xAl b = xAl a) : cOk b x ↔ cOk a x := by
  unfold cOk
  rw [h]
theorem gr_n5 (h : ¬ (a 69 5).toInt < 512) : aGr a y 69 5 = a 69 5 ∧ aGr a y 74 = a 74 := by
  have e : aGr a y = ma_u (zUw a y 16) 134 y.toNatClampNeg 0 := if_neg h
  refine ⟨?_, funext (fun k => ?_)⟩
  · rw [e, xu_o (by omega), zUw_o (by decide)]
  · rw [e, xu_o (by omega), zUw_o (by decide)]
theorem V_gr (hV : cV a st B) (h0 : 0 ≤ y.toInt) (hy : xAl a y.toNatClampNeg) : cV (aGr a y) st B := by
  obtain ⟨q1, ⟨n1, n2, n3⟩, q3, q4, q5, q6⟩ := hV
  have al := gr_al (a := a) (y := y)
  refine ⟨cQ_gr q1, ⟨fun k hk => ?_, fun k hk => ?_, fun u j h => ?_⟩, fun l hl x hx => (cOk_cg al).mpr (q3 l hl x hx), fun n hn => ?_, ?_, ?_⟩
  · rw [gr_r (by decide) (by decide) (by decide) (by decide), cOk_cg al]
    exact n1 k hk
  · rw [cOk_cg al]
    by_cases w : (a 69 5).toInt < 512
    · obtain ⟨g1, g2, g3, _⟩ := gr_5 (y := y) w
      have e1 := i_p1 (i := a 69 5) (by omega)
      have c := tn_cast q5.1
      by_cases z : k = (a 69 5).toNatClampNeg
      · rw [z, g2]
        exact Or.inr hy
      · rw [g3 k z]
        rw [g1, e1] at hk
        exact n2 k (by omega)
    · have g := gr_n5 (y := y) w
      rw [g.2]
      rw [g.1] at hk
      exact n2 k hk
  · rw [gr_ref, cOk_cg al]
    exact n3 u j (Wp_gr.mp h)
  · rw [al] at hn
    rw [gr_r (by decide) (by decide) (by decide) (by decide)]
    exact q4 n hn
  · by_cases w : (a 69 5).toInt < 512
    · obtain ⟨g1, _⟩ := gr_5 (y := y) w
      have e1 := i_p1 (i := a 69 5) (by omega)
      rw [g1]
      omega
    · rw [(gr_n5 (y := y) w).1]
      exact q5
  · have e : cMs (aGr a y) = cMs a := by
      unfold cMs
      rw [gr_r (n := 126) (by decide) (by decide) (by decide) (by decide), gr_r (n := 128) (by decide) (by decide) (by decide) (by decide)]
    rw [e]
    exact q6
theorem Ms_rm (hI : cQI a) (h0 : 0 ≤ y.toInt) (hy : xAl a y.toNatClampNeg) : cMs (aRm a y) + (a 128 y.toNatClampNeg).toInt.toNat + 1 = cMs a := by
  have t := cSu_up (f := fun m => if a 126 m = 0 then 0 else (a 128 m).toInt.toNat + 1) (g := fun m => if aRm a y 126 m = 0 then 0 else (aRm a y 128 m).toInt.toNat + 1) (j := y.toNatClampNeg) 512 hy.1 (fun u hu w => by
    show (if aRm a y 126 u = 0 then 0 else (aRm a y 128 u).toInt.toNat + 1) = (if a 126 u = 0 then 0 else (a 128 u).toInt.toNat + 1)
    rw [rm_rw (c := 126) (by decide) (by decide) w, rm_rw (c := 128) (by decide) (by decide) w])
  have t1 : (if a 126 y.toNatClampNeg = 0 then 0 else (a 128 y.toNatClampNeg).toInt.toNat + 1) = (a 128 y.toNatClampNeg).toInt.toNat + 1 := if_neg hy.2
  have t2 : (if aRm a y 126 y.toNatClampNeg = 0 then 0 else (aRm a y 128 y.toNatClampNeg).toInt.toNat + 1) = 0 := if_pos (by rw [rm_f (by decide) (by decide), if_pos rfl])
  have t3 : cMs (aRm a y) + (if a 126 y.toNatClampNeg = 0 then 0 else (a 128 y.toNatClampNeg).toInt.toNat + 1) = cMs a + (if aRm a y 126 y.toNatClampNeg = 0 then 0 else (aRm a y 128 y.toNatClampNeg).toInt.toNat + 1) := t
  rw [t1, t2] at t3
  omega
theorem V_rm (hV : cV a st B) (h0 : 0 ≤ y.toInt) (hy : xAl a y.toNatClampNeg) (hz : ¬ 0 < cRf a y.toNatClampNeg + (cOc st y.toNatClampNeg : Int)) : cV (aRm a y) (cLs a y.toNatClampNeg 0 :: st) B ∧ cLm (cLs a y.toNatClampNeg 0 :: st) + cMs (aRm a y) < cLm st + cMs a := by
  obtain ⟨q1, ⟨n1, n2, n3⟩, q3, q4, q5, q6⟩ := hV
  obtain ⟨z1, z2, z3, z4, z5⟩ := Rf_z (q4 _ hy).1 hz
  have ms := Ms_rm q1 h0 hy
  have hs := q1.1 _ hy
  have ll : cLm (cLs a y.toNatClampNeg 0 :: st) = (((a 128 y.toNatClampNeg).toInt - 1).toNat - 0) + 1 + cLm st := congrArg (fun q => q + 1 + cLm st) (cLf_l _ _)
  have lt : cLm (cLs a y.toNatClampNeg 0 :: st) + cMs (aRm a y) < cLm st + cMs a := by omega
  refine ⟨⟨cQ_rm h0 q1, ⟨fun k hk => ?_, fun k hk => ?_, fun u j h => ?_⟩, fun l hl x hx => ?_, fun n hn => ?_, ?_, by omega⟩, lt⟩
  · rw [rm_126 (by decide) (by decide) (by decide) (by decide)]
    exact cOk_rm h0 (n1 k hk) (Ro_ne z1 hk)
  · rw [aRm_o (by decide) ⟨by decide, by decide, by decide, by decide⟩] at hk
    rw [rm_126 (by decide) (by decide) (by decide) (by decide)]
    exact cOk_rm h0 (n2 k hk) (Wi_ne z2 hk)
  · obtain ⟨w, w2⟩ := (Wp_rm h0).mp h
    rw [crf_rm q1 h0 hy w2 w]
    exact cOk_rm h0 (n3 u j w) (Th_ne z3 w)
  · rcases List.mem_cons.mp hl with w | w
    · rw [w] at hx
      obtain ⟨j, j1, j2, j3⟩ := cLf_m _ _ hx
      have wp := wp_N (k := j) q1 hy (by omega)
      rw [j3]
      exact cOk_rm h0 (n3 _ _ wp) (Th_ne z3 wp)
    · exact cOk_rm h0 (q3 l w x hx) (Oc_ne st z4 l w x hx)
  · have w := (rm_al h0).mp hn
    rw [rm_rw (by decide) (by decide) w.2]
    exact q4 n w.1
  · rw [aRm_o (by decide) ⟨by decide, by decide, by decide, by decide⟩]
    exact q5
theorem V_fa (hV : cV a st B) (h0 : 0 ≤ r.toInt) (hr : xAl a r.toNatClampNeg) : cV (cFa a st r).1 (cFa a st r).2 B ∧ cLm (cFa a st r).2 + cMs (cFa a st r).1 ≤ cLm st + cMs a := by
  by_cases w : 0 < cRf a r.toNatClampNeg + (cOc st r.toNatClampNeg : Int)
  · rw [Fa_p w]; exact ⟨hV, Nat.le_refl _⟩
  · by_cases z : a 134 r.toNatClampNeg = 0
    · rw [Fa_r w z]
      have q := V_rm hV h0 hr w
      exact ⟨q.1, Nat.le_of_lt q.2⟩
    · rw [Fa_g w z]
      refine ⟨V_gr hV h0 hr, ?_⟩
      show cLm st + cMs (aGr a r) ≤ _
      unfold cMs
      rw [gr_r (n := 126) (by decide) (by decide) (by decide) (by decide), gr_r (n := 128) (by decide) (by decide) (by decide) (by decide)]
      exact Nat.le_refl _
/-- how many refer, behind it -/
theorem Fr_gr (hV : cV a st B) (h0 : 0 ≤ y.toInt) (h : (a 69 5).toInt < 512) : cRf (aGr a y) n + (cOc st n : Int) = cRf a n + (cOc st n : Int) + (cIs y n : Int) := by
  have q := Rf_gr (y := y) (n := n) hV.2.2.2.2.1.1 h
  omega
theorem Fr_rm (hV : cV a st B) (h0 : 0 ≤ y.toInt) (hy : xAl a y.toNatClampNeg) (hn : n ≠ y.toNatClampNeg) : cRf (aRm a y) n + (cOc (cLs a y.toNatClampNeg 0 :: st) n : Int) = cRf a n + (cOc st n : Int) := by
  have q := Rf_rm hV.1 h0 hy hn
  have e : cOc (cLs a y.toNatClampNeg 0 :: st) n = cOb a y.toNatClampNeg n + cOc st n := congrArg (fun q => q + cOc st n) cLs_c
  rw [e]
  omega
end CR
