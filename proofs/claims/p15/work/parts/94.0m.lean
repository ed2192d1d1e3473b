/-! THE REFERENCE, over its ints alone: its runs change nothing else -/
def zst (S : ma_S) (m : Nat → Nat → Int32) : ma_S := (S.1, S.2.1, S.2.2.1, S.2.2.2.1, m, S.2.2.2.2.2.1, S.2.2.2.2.2.2)
theorem zT_zst {S : ma_S} (h : zT S) (m : Nat → Nat → Int32) : zT (zst S m) := h
/-- from here the run of that method of the reference answers, and P holds of the answer and of its ints -/
def zm (X : Nat × (Nat → Int32)) (D W M pc : Nat) (L : ma_L) (m : Nat → Nat → Int32) (P : Option ma_V → (Nat → Nat → Int32) → Prop) : Prop :=
  ∀ (d w : Nat) (S : ma_S) (Q : Option ma_V ⊕ Nat → ma_S → Prop), D ≤ d → W ≤ w → zT S → mI S = m → (∀ v m', P v m' → Q (.inl v) (zst S m')) → ma_wp X d w M pc L [] S Q
def zmi (K : Int32 → (Nat → Nat → Int32) → Prop) : Option ma_V → (Nat → Nat → Int32) → Prop := fun o m => match o with
  | some (.inl v) => K v m
  | _ => False
def zmv (K : (Nat → Nat → Int32) → Prop) : Option ma_V → (Nat → Nat → Int32) → Prop := fun o m => match o with
  | none => K m
  | _ => False
theorem zmi_n {K : Int32 → (Nat → Nat → Int32) → Prop} {v : Int32} {m : Nat → Nat → Int32} (h : K v m) : zmi K (some (.inl v)) m := h
theorem zmv_n {K : (Nat → Nat → Int32) → Prop} {m : Nat → Nat → Int32} (h : K m) : zmv K none m := h
theorem zmi_of {K : Int32 → (Nat → Nat → Int32) → Prop} {o : Option ma_V} {m : Nat → Nat → Int32} (z : zmi K o m) : ∃ v, o = some (.inl v) ∧ K v m := by
  rcases o with _ | v
  · exact z.elim
  · rcases v with v | v
    · exact ⟨v, rfl, z⟩
    · exact z.elim
theorem zmv_of {K : (Nat → Nat → Int32) → Prop} {o : Option ma_V} {m : Nat → Nat → Int32} (z : zmv K o m) : o = none ∧ K m := by
  rcases o with _ | v
  · exact ⟨rfl, z⟩
  · exact z.elim
theorem zmi_go {K : Int32 → (Nat → Nat → Int32) → Prop} {S : ma_S} {Q : Option ma_V ⊕ Nat → ma_S → Prop} (h : ∀ v m, K v m → Q (.inl (some (.inl v))) (zst S m)) : ∀ v m, zmi K v m → Q (.inl v) (zst S m) := by
  intro v m z
  rcases v with _ | v
  · exact z.elim
  · rcases v with v | v
    · exact h _ _ z
    · exact z.elim
theorem zmv_go {K : (Nat → Nat → Int32) → Prop} {S : ma_S} {Q : Option ma_V ⊕ Nat → ma_S → Prop} (h : ∀ m, K m → Q (.inl none) (zst S m)) : ∀ v m, zmv K v m → Q (.inl v) (zst S m) := by
  intro v m z
  rcases v with _ | v
  · exact h _ z
  · exact z.elim
theorem zm_mono {X : Nat × (Nat → Int32)} {D W M pc : Nat} {L : ma_L} {m : Nat → Nat → Int32} {P P' : Option ma_V → (Nat → Nat → Int32) → Prop} (h : zm X D W M pc L m P) (k : ∀ v m', P v m' → P' v m') : zm X D W M pc L m P' :=
  fun d w S Q hd hw hT hm HQ => h d w S Q hd hw hT hm (fun v m' z => HQ v m' (k v m' z))
/-- the cells that may have changed -/
def zov (wr : Nat → Nat → Bool) (m m' : Nat → Nat → Int32) : Nat → Nat → Int32 := fun c k => cond (wr c k) (m' c k) (m c k)
def zF (wr : Nat → Nat → Bool) (m0 m : Nat → Nat → Int32) : Prop := ∀ c k, wr c k = false → m c k = m0 c k
section ZM1
variable {wr w2 : Nat → Nat → Bool} {m0 m m' : Nat → Nat → Int32} {c k : Nat} {x : Int32}
theorem zF_rfl : zF wr m m := fun _ _ _ => rfl
theorem zF_u (h : zF wr m0 m) (hw : wr c k = true) : zF wr m0 (ma_u m c k x) := by
  intro c' k' z
  show (if c' = c ∧ k' = k then x else m c' k') = m0 c' k'
  rw [if_neg (fun q => by rw [q.1, q.2, hw] at z; cases z)]
  exact h c' k' z
theorem zF_zov (h : zF wr m0 m) (hw : ∀ c k, w2 c k = true → wr c k = true) : zF wr m0 (zov w2 m m') := by
  intro c k z
  have : w2 c k = false := by
    cases e : w2 c k with
    | false => rfl
    | true => rw [hw c k e] at z; cases z
  show cond (w2 c k) (m' c k) (m c k) = m0 c k
  rw [this]
  exact h c k z
theorem zov_eq (h : zF wr m0 m) : m = zov wr m0 m := by
  funext c k
  show m c k = cond (wr c k) (m c k) (m0 c k)
  cases e : wr c k with
  | true => rfl
  | false => exact h c k e
end ZM1
section ZM2
variable {X : Nat × (Nat → Int32)} {d w M pc : Nat} {L : ma_L} {st r : List ma_V} {S : ma_S} {o nL : Nat} {y : MethodName} {cc : ByteArray} {ret : Option FieldType} {Q : Option ma_V ⊕ Nat → ma_S → Prop}
theorem zw_bas22l (hm : ma_md M = some (o, y, cc, nL, ret)) (hd : decode cc pc = .ok (.bastore, 1)) {c N a : Nat} {j x : Int32} (yv : Int32) (hx : vp_nar .boolean x = yv) (hs : ma_is S c = true) (ht : mH S c = (22, N)) (ha : j.toNatClampNeg = a) (hj : 0 ≤ j ∧ a < N) (K : ma_wp X d w M (pc + 1) L r (ma_put S c a (.inl yv)) Q) : ma_wp X d w M pc L (.inl x :: .inl j :: .inr (.inr (some c)) :: r) S Q := by
  subst hx
  exact zw_bas22 hm hd hs ht ha hj K
end ZM2
theorem i_mulk {x y : Int32} {k : Int} (hk : y.toInt = k) (h1 : -2147483648 ≤ x.toInt * k) (h2 : x.toInt * k ≤ 2147483647) : (x * y).toInt = x.toInt * k := by
  rw [← hk] at h1 h2 ⊢
  exact i_mul h1 h2
theorem i_mulk2 {x y : Int32} {k : Int} (hk : x.toInt = k) (h1 : -2147483648 ≤ k * y.toInt) (h2 : k * y.toInt ≤ 2147483647) : (x * y).toInt = k * y.toInt := by
  rw [← hk] at h1 h2 ⊢
  exact i_mul h1 h2
theorem i_01 {x : Int32} (h : x = 0 ∨ x = 1) : 0 ≤ x.toInt ∧ x.toInt ≤ 1 := by
  rcases h with rfl | rfl <;> decide
