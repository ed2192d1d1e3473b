/-! the reference opens a heap (written by wip/tools/gen15w.py) -/
/-! two things told of one run -/
/-- the reference answered: what holds of the answer and of its ints -/
def zRj (S : ma_S) (F : Int32 → (Nat → Nat → Int32) → Prop) : Option ma_V ⊕ Nat → ma_S → Prop := fun o S' => ∃ v m', o = .inl (some (.inl v)) ∧ S' = zst S m' ∧ F v m'
section F42
variable {X : Nat × (Nat → Int32)} {d w M pc : Nat} {L : ma_L} {st : List ma_V} {S : ma_S} {Q Q' : Option ma_V ⊕ Nat → ma_S → Prop} {F G : Int32 → (Nat → Nat → Int32) → Prop}
theorem ma_wp_and (h1 : ma_wp X d w M pc L st S Q) (h2 : ma_wp X d w M pc L st S Q') : ma_wp X d w M pc L st S (fun o S' => Q o S' ∧ Q' o S') := by
  obtain ⟨f, o, S1, e, q⟩ := h1
  obtain ⟨g, o', S2, e', q'⟩ := h2
  have a := ma_run_le (Nat.le_max_left f g) e
  have b := ma_run_le (Nat.le_max_right f g) e'
  have c := Prod.mk.inj (Option.some.inj (a.symm.trans b))
  rw [← c.1, ← c.2] at q'
  exact ⟨_, _, _, a, q, q'⟩
theorem wp_mn (h : ma_wp X d w M pc L st S Q) (k : ∀ o S', Q o S' → Q' o S') : ma_wp X d w M pc L st S Q' := by
  obtain ⟨f, o, S1, e, q⟩ := h
  exact ⟨f, o, S1, e, k _ _ q⟩
theorem Rj_i (v : Int32) (m' : Nat → Nat → Int32) (h : F v m') : zRj S F (.inl (some (.inl v))) (zst S m') := ⟨v, m', rfl, rfl, h⟩
theorem Rj_and (h1 : ma_wp X d w M pc L st S (zRj S F)) (h2 : ma_wp X d w M pc L st S (zRj S G)) (K : ∀ v m', F v m' → G v m' → Q (.inl (some (.inl v))) (zst S m')) : ma_wp X d w M pc L st S Q := by
  refine wp_mn (ma_wp_and h1 h2) (fun o S' h => ?_)
  obtain ⟨⟨v, m', e1, e2, f⟩, v2, m2, e3, e4, g⟩ := h
  have ev : v = v2 := Sum.inl.inj (Option.some.inj (Sum.inl.inj (e1.symm.trans e3)))
  have em : m' = m2 := congrArg mI (e2.symm.trans e4)
  rw [← ev, ← em] at g
  rw [e1, e2]
  exact K v m' f g
end F42
