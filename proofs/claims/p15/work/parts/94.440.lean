/-! the place of OLD: who begins where -/
/-- below ol: each begins where its owner says, ends at e or before, and before the next begins -/
def zPK (ol e : Int) (us ws at' ow : Nat → Int32) : Prop := ∀ s, s < 3100 → us s ≠ 0 → (at' s).toInt < ol → (ow (at' s).toNatClampNeg).toNatClampNeg = s ∧ 0 ≤ (ow (at' s).toNatClampNeg).toInt ∧ (at' s).toInt + (ws s).toInt + 1 ≤ e ∧ ∀ s', s' < 3100 → us s' ≠ 0 → (at' s).toInt < (at' s').toInt → (at' s').toInt < ol → (at' s).toInt + (ws s).toInt + 1 ≤ (at' s').toInt
/-- while sliding: those that have slid end at f or before, the others begin at p or behind it -/
def zSL (ol e f p : Int) (us ws at' ow : Nat → Int32) : Prop := zPK ol e us ws at' ow ∧ f ≤ e ∧ ∀ s, s < 3100 → us s ≠ 0 → (at' s).toInt < ol → (at' s).toInt + (ws s).toInt + 1 ≤ f ∨ p ≤ (at' s).toInt
/-- where they are has changed below ol alone -/
def zLO (ol : Int) (at' at2 : Nat → Int32) : Prop := ∀ s, s < 3100 → at2 s = at' s ∨ ((at' s).toInt < ol ∧ (at2 s).toInt < ol)
section PK1
variable {ol e f p p2 f2 : Int} {us us' ws at' at2 ow ow2 ow' : Nat → Int32} {s to x : Int32} {m : Nat → Nat → Int32}
theorem tn_inj {x y : Int32} (hx : 0 ≤ x.toInt) (hy : 0 ≤ y.toInt) (h : x.toNatClampNeg = y.toNatClampNeg) : x = y := by
  rw [tn_eq, tn_eq] at h
  exact Int32.toInt_inj.mp (by omega)
theorem PK_sub (h : zPK ol e us ws at' ow) (hs : zsw us us' ow ow' at') (hb : ∀ s, s < 3100 → 0 ≤ (at' s).toInt ∧ (at' s).toInt < 4600) : zPK ol e us' ws at' ow' := by
  intro s hs1 hu ha
  obtain ⟨a1, a2, a3, a4⟩ := h s hs1 (hs.1 s hs1 hu) ha
  have hbs := hb s hs1
  have e : ow' (at' s).toNatClampNeg = ow (at' s).toNatClampNeg := by
    rcases hs.2 (at' s).toNatClampNeg (by rw [tn_eq]; omega) with q | ⟨_, s2, h1, h2, h3, h4⟩
    · exact q
    · exfalso
      rw [tn_cast hbs.1] at h4
      obtain ⟨b1, b2, -, -⟩ := h s2 h1 h2 (by omega)
      have e2 : at' s2 = at' s := Int32.toInt_inj.mp h4
      rw [e2] at b1
      rw [a1] at b1
      rw [b1] at hu
      exact hu h3
  rw [e]
  exact ⟨a1, a2, a3, fun s' h1 h2 h3 h4 => a4 s' h1 (hs.1 s' h1 h2) h3 h4⟩
theorem PK_mono (h : zPK ol e us ws at' ow) (he : e ≤ f) : zPK ol f us ws at' ow := fun s h1 h2 h3 => let a := h s h1 h2 h3; ⟨a.1, a.2.1, Int.le_trans a.2.2.1 he, a.2.2.2⟩
theorem SL_0 (h : zPK ol e us ws at' ow) (he : 0 ≤ e) (hb : ∀ s, s < 3100 → 0 ≤ (at' s).toInt) : zSL ol e 0 0 us ws at' ow := ⟨h, he, fun s h1 _ _ => Or.inr (hb s h1)⟩
/-- no one begins here -/
theorem SL_skip (h : zSL ol e f p us ws at' ow) (hp : (ow p.toNat).toInt < 0) (h0 : 0 ≤ p) (e2 : p2 = p + 1) : zSL ol e f p2 us ws at' ow := by
  subst e2
  refine ⟨h.1, h.2.1, fun s h1 h2 h3 => ?_⟩
  rcases h.2.2 s h1 h2 h3 with q | q
  · exact Or.inl q
  · refine Or.inr ?_
    have a := (h.1 s h1 h2 h3).2.1
    refine Classical.byContradiction (fun z => ?_)
    have e : (at' s).toNatClampNeg = p.toNat := by rw [tn_eq]; omega
    rw [e] at a
    omega
/-- the one that begins here stays -/
theorem SL_stay (h : zSL ol e f p us ws at' ow) (hs : s = ow p.toNat) (h0 : 0 ≤ s.toInt) (h1 : s.toInt ≤ 3099) (hu : us s.toNatClampNeg ≠ 0) (ha : (at' s.toNatClampNeg).toInt = p) (hol : p < ol) (hw : 0 ≤ (ws s.toNatClampNeg).toInt) (hf : f ≤ p) (e1 : f2 = p + (ws s.toNatClampNeg).toInt + 1) (e2 : p2 = f2) : zSL ol e f2 p2 us ws at' ow := by
  have hs1 : s.toNatClampNeg < 3100 := by rw [tn_eq]; omega
  obtain ⟨b1, b2, b3, b4⟩ := h.1 _ hs1 hu (by omega)
  refine ⟨h.1, by omega, fun t t1 t2 t3 => ?_⟩
  rcases h.2.2 t t1 t2 t3 with q | q
  · exact Or.inl (by omega)
  · by_cases z : (at' t).toInt = p
    · have e3 := (h.1 t t1 t2 t3).1
      have e4 : (at' t).toNatClampNeg = (at' s.toNatClampNeg).toNatClampNeg := by rw [tn_eq, tn_eq, z, ha]
      rw [e4, b1] at e3
      exact Or.inl (by rw [← e3]; omega)
    · have := b4 t t1 t2 (by omega) t3
      exact Or.inr (by omega)
/-- the one that begins here slides -/
theorem SL_move (h : zSL ol e f p us ws at' ow) (hm : zmov s to at' ow at2 ow2) (hto : to.toInt = f) (hf0 : 0 ≤ f) (h0 : 0 ≤ s.toInt) (h1 : s.toInt ≤ 3099) (hs : s = ow p.toNat) (hu : us s.toNatClampNeg ≠ 0) (ha : (at' s.toNatClampNeg).toInt = p) (hol : p < ol) (hw : ∀ t, t < 3100 → 0 ≤ (ws t).toInt) (hb : ∀ t, t < 3100 → 0 ≤ (at' t).toInt) (hf : f ≤ p) (e1 : f2 = f + (ws s.toNatClampNeg).toInt + 1) (e2 : p2 = p + (ws s.toNatClampNeg).toInt + 1) : zSL ol e f2 p2 us ws at2 ow2 := by
  have hs1 : s.toNatClampNeg < 3100 := by rw [tn_eq]; omega
  obtain ⟨b1, b2, b3, b4⟩ := h.1 _ hs1 hu (by omega)
  have hws := hw _ hs1
  have uniq : ∀ t, t < 3100 → us t ≠ 0 → (at' t).toInt < ol → (at' t).toInt = p → t = s.toNatClampNeg := by
    intro t t1 t2 t3 z
    have e3 := (h.1 t t1 t2 t3).1
    have e4 : (at' t).toNatClampNeg = (at' s.toNatClampNeg).toNatClampNeg := by rw [tn_eq, tn_eq, z, ha]
    rw [e4, b1] at e3
    exact e3.symm
  have far : ∀ t, t < 3100 → us t ≠ 0 → (at' t).toInt < ol → t ≠ s.toNatClampNeg → (at' t).toInt + (ws t).toInt + 1 ≤ f ∨ p + (ws s.toNatClampNeg).toInt + 1 ≤ (at' t).toInt := by
    intro t t1 t2 t3 tn
    rcases h.2.2 t t1 t2 t3 with q | q
    · exact Or.inl q
    · by_cases z : (at' t).toInt = p
      · exact absurd (uniq t t1 t2 t3 z) tn
      · have := b4 t t1 t2 (by omega) t3
        exact Or.inr (by omega)
  rcases hm with ⟨m1, m2, m3⟩ | ⟨m1, m2, m3⟩
  · rw [m1, m2]
    exact SL_stay h hs h0 h1 hu ha hol hws hf (by omega) (by omega)
  · have at_s : (at2 s.toNatClampNeg).toInt = f := by rw [m1, if_pos rfl]; exact hto
    have at_o : ∀ t, t ≠ s.toNatClampNeg → at2 t = at' t := fun t z => by rw [m1, if_neg z]
    have ton : to.toNatClampNeg = f.toNat := by rw [tn_eq, hto]
    refine ⟨fun t t1 t2 t3 => ?_, by omega, fun t t1 t2 t3 => ?_⟩
    · by_cases z : t = s.toNatClampNeg
      · subst z
        have e3 : (at2 s.toNatClampNeg).toNatClampNeg = to.toNatClampNeg := by rw [tn_eq, at_s, ton]
        rw [e3, m2]
        refine ⟨rfl, h0, by omega, fun t' u1 u2 u3 u4 => ?_⟩
        have zn : t' ≠ s.toNatClampNeg := fun z => by rw [z] at u3; omega
        rw [at_o t' zn] at u3 u4 ⊢
        have := hw t' u1
        rcases far t' u1 u2 u4 zn with q | q <;> omega
      · rw [at_o t z] at t3 ⊢
        obtain ⟨c1, c2, c3, c4⟩ := h.1 t t1 t2 t3
        have hwt := hw t t1
        have hbt := hb t t1
        have ne1 : (at' t).toNatClampNeg ≠ to.toNatClampNeg := by
          rw [tn_eq, ton]
          rcases far t t1 t2 t3 z with q | q <;> omega
        have eq1 : ow2 (at' t).toNatClampNeg = ow (at' t).toNatClampNeg := by
          rcases m3 _ ne1 with q | ⟨q, _, _⟩
          · exact q
          · exfalso
            rw [tn_cast hbt] at q
            rw [ha] at q
            exact z (uniq t t1 t2 t3 q)
        rw [eq1]
        refine ⟨c1, c2, c3, fun t' u1 u2 u3 u4 => ?_⟩
        by_cases y : t' = s.toNatClampNeg
        · rw [y] at u3 u4 ⊢
          rcases far t t1 t2 t3 z with q | q <;> omega
        · rw [at_o t' y] at u3 u4 ⊢
          exact c4 t' u1 u2 u3 u4
    · by_cases z : t = s.toNatClampNeg
      · rw [z]; exact Or.inl (by omega)
      · rw [at_o t z] at t3 ⊢
        rcases far t t1 t2 t3 z with q | q
        · exact Or.inl (by omega)
        · exact Or.inr (by omega)
theorem SL_end (h : zSL ol e f p us ws at' ow) (hp : ol ≤ p) : f ≤ e ∧ zPK ol f us ws at' ow := by
  refine ⟨h.2.1, fun s h1 h2 h3 => ?_⟩
  obtain ⟨a1, a2, a3, a4⟩ := h.1 s h1 h2 h3
  refine ⟨a1, a2, ?_, a4⟩
  rcases h.2.2 s h1 h2 h3 with q | q <;> omega
theorem LO_rfl : zLO ol at' at' := fun _ _ => Or.inl rfl
theorem LO_mv {r : Nat → Int32} (h : zLO ol r at') (hm : zmov s to at' ow at2 ow2) (ha : (at' s.toNatClampNeg).toInt < ol) (hto : to.toInt < ol) : zLO ol r at2 := by
  intro t ht
  rcases hm with ⟨m1, m2, m3⟩ | ⟨m1, m2, m3⟩
  · rw [m1]; exact h t ht
  · rw [m1]
    split
    · next z =>
      refine Or.inr ⟨?_, hto⟩
      rcases h t ht with q | q
      · rw [← q, z]; exact ha
      · exact q.1
    · exact h t ht
end PK1
