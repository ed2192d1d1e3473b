theorem mu_congr {X X' : Nat → Nat → Int32} {c k : Nat} {x : Int32} (h : X c = X' c) : ma_u X c k x c = ma_u X' c k x c := by
  funext j
  rw [mu_at, mu_at, h]
section RG2
variable {si rg pr x r v : Int32} {us at' ws rt : Nat → Int32}
theorem RG_LE (h : zRG1 si rg pr us at' ws rt) (h2 : zLE rt rg v) (hs : si.toInt ≤ 256) (hr : rg.toInt ≤ 93) : 0 ≤ v.toInt → (v.toInt < rg.toInt ∧ (rt v.toNatClampNeg).toInt = 0 ∧ 0 ≤ (v * si).toInt ∧ (v * si).toInt + si.toInt ≤ 1500 ∧ (v * si).toInt + si.toInt ≤ rg.toInt * si.toInt) := by
  intro z
  have a := LE_ge h2 z
  have b := RG_mul h z a.1 hs hr
  refine ⟨a.1, ?_, b⟩
  rw [a.2]
  rfl
theorem RG_ml (h : zRG1 si rg pr us at' ws rt) (hs : si.toInt ≤ 256) (hr : rg.toInt ≤ 93) : 0 ≤ r.toInt ∧ r.toInt < rg.toInt → (0 ≤ (r * si).toInt ∧ (r * si).toInt + si.toInt ≤ 1500 ∧ (r * si).toInt + si.toInt ≤ rg.toInt * si.toInt ∧ (rt r.toNatClampNeg).toInt ≤ si.toInt) := by
  intro z
  have b := RG_mul h z.1 z.2 hs hr
  exact ⟨b.1, b.2.1, b.2.2, RG_top h z.1 z.2⟩
end RG2
/-- what a move does -/
def zmov (s to : Int32) (at' ow at2 ow2 : Nat → Int32) : Prop := (at2 = at' ∧ ow2 = ow ∧ (at' s.toNatClampNeg).toInt = to.toInt) ∨ ((∀ j, at2 j = if j = s.toNatClampNeg then to else at' j) ∧ ow2 to.toNatClampNeg = s ∧ ∀ p, p ≠ to.toNatClampNeg → ow2 p = ow p ∨ ((p : Int) = (at' s.toNatClampNeg).toInt ∧ ow p = s ∧ (ow2 p).toInt = -1))
section MV1
variable {m ma mo : Nat → Nat → Int32} {c ca co k : Nat} {si rg pr x s to : Int32} {us at' ws rt at2 ow ow2 : Nat → Int32}
theorem mv_0 (h : (at' s.toNatClampNeg).toInt = to.toInt) : zmov s to at' ow at' ow := Or.inl ⟨rfl, rfl, h⟩
theorem mv_1 (hx : x.toInt = -1) (hl : (ma ca s.toNatClampNeg).toInt = (k : Int)) (ho : mo co k = s) : zmov s to (ma ca) (mo co) (ma_u ma ca s.toNatClampNeg to ca) (ma_u (ma_u mo co k x) co to.toNatClampNeg s co) := by
  refine Or.inr ⟨fun j => mu_at j, mu_self, fun p hp => ?_⟩
  rw [mu_ne hp, mu_at]
  split
  · next e => exact Or.inr ⟨by rw [e, hl], by rw [e]; exact ho, hx⟩
  · exact Or.inl rfl
theorem mv_2 : zmov s to (ma ca) (mo co) (ma_u ma ca s.toNatClampNeg to ca) (ma_u mo co to.toNatClampNeg s co) := Or.inr ⟨fun j => mu_at j, mu_self, fun p hp => Or.inl (mu_ne hp)⟩
theorem mv_at (h : zmov s to at' ow at2 ow2) (j : Nat) : (at2 j).toInt = (at' j).toInt ∨ (at2 j).toInt = to.toInt := by
  rcases h with ⟨e, _, _⟩ | ⟨e, _, _⟩
  · rw [e]; exact Or.inl rfl
  · rw [e]; split
    · exact Or.inr rfl
    · exact Or.inl rfl
theorem mv_s (h : zmov s to at' ow at2 ow2) : (at2 s.toNatClampNeg).toInt = to.toInt := by
  rcases h with ⟨e, _, e2⟩ | ⟨e, _, _⟩
  · rw [e]; exact e2
  · rw [e, if_pos rfl]
theorem RG_mv2 (h : zRG1 si rg pr us at' ws rt) (hm : zmov s to at' ow at2 ow2) (hx : to.toInt < rg.toInt * si.toInt) : zRG1 si rg pr us at2 ws rt := by
  refine ⟨h.1, h.2.1, h.2.2.1, h.2.2.2.1, h.2.2.2.2.1, fun s hs hu => ?_⟩
  have := h.2.2.2.2.2 s hs hu
  refine ⟨?_, this.2⟩
  rcases mv_at hm s with e | e
  · rw [e]; exact this.1
  · rw [e]; exact hx
end MV1
