/-! THE SMALL MACHINE, part 2: its heap (cells by number: shape, ints, longs, references), and the world of cells that stands for it.
Numbers below 64 name what lies outside: the script is 30, constant texts are 0 .., their rows of bytes 32 .. -/
abbrev ma_S : Type := Nat × Nat × Nat × (Nat → Nat × Nat) × (Nat → Nat → Int32) × (Nat → Nat → Int64) × (Nat → Nat → Option Nat)
/-- the next cell's number; cells made; slots made; shapes (kind, length); contents -/
abbrev mN (S : ma_S) : Nat := S.1
abbrev mC (S : ma_S) : Nat := S.2.1
abbrev mZ (S : ma_S) : Nat := S.2.2.1
abbrev mH (S : ma_S) : Nat → Nat × Nat := S.2.2.2.1
abbrev mI (S : ma_S) : Nat → Nat → Int32 := S.2.2.2.2.1
abbrev mL (S : ma_S) : Nat → Nat → Int64 := S.2.2.2.2.2.1
abbrev mR (S : ma_S) : Nat → Nat → Option Nat := S.2.2.2.2.2.2
/-- one slot of one cell -/
def ma_u {α : Type} (h : Nat → Nat → α) (c k : Nat) (x : α) : Nat → Nat → α := fun c' k' => if c' = c ∧ k' = k then x else h c' k'
/-- one cell -/
def ma_uc {α : Type} (h : Nat → α) (c : Nat) (x : α) : Nat → α := fun c' => if c' = c then x else h c'
theorem ma_u_eq {α : Type} (h : Nat → Nat → α) (c k : Nat) (x : α) : ma_u h c k x c = va_up (h c) k x := by
  funext j; unfold ma_u va_up; simp
theorem ma_u_ne {α : Type} (h : Nat → Nat → α) {c c' : Nat} (k : Nat) (x : α) (hn : c' ≠ c) : ma_u h c k x c' = h c' := by
  funext j; unfold ma_u; simp [hn]
theorem ma_u_at {α : Type} (h : Nat → Nat → α) (c k : Nat) (x : α) (k' : Nat) : ma_u h c k x c k' = if k' = k then x else h c k' := by
  unfold ma_u; simp
def ma_put (S : ma_S) (c k : Nat) (v : ma_V) : ma_S := match v with
  | .inl x => (S.1, S.2.1, S.2.2.1, S.2.2.2.1, ma_u (mI S) c k x, mL S, mR S)
  | .inr (.inl x) => (S.1, S.2.1, S.2.2.1, S.2.2.2.1, mI S, ma_u (mL S) c k x, mR S)
  | .inr (.inr r) => (S.1, S.2.1, S.2.2.1, S.2.2.2.1, mI S, mL S, ma_u (mR S) c k r)
/-- a new cell of kind t with n slots, all 0 or null -/
def ma_new (S : ma_S) (t n : Nat) : ma_S := (S.1 + 1, S.2.1 + 1, S.2.2.1 + n, ma_uc (mH S) S.1 (t, n), ma_uc (mI S) S.1 (fun _ => 0), ma_uc (mL S) S.1 (fun _ => 0), ma_uc (mR S) S.1 (fun _ => none))
/-- the value that a slot of that type has -/
def ma_rd (S : ma_S) (c k : Nat) (ty : FieldType) : ma_V := match ty with
  | .long => .inr (.inl (mL S c k))
  | .object _ => .inr (.inr (mR S c k))
  | .array _ => .inr (.inr (mR S c k))
  | _ => .inl (mI S c k)
/-- classes: by their places in vwCl -/
def ma_ft (t : Nat) : Nat → FieldType := match t with
  | 1 => tyX0 | 2 => tyX2 | 3 => tyX3 | 4 => tyX4 | 5 => tyX5 | 6 => tyX6 | 7 => tyX7 | 8 => tyX8 | 9 => tyX9 | 10 => tyX10 | 11 => tyX11 | 12 => tyX12
  | _ => fun _ => .int
def ma_fn (t : Nat) : Nat := match t with
  | 1 => 10 | 2 => 8 | 3 => 5 | 4 => 9 | 5 => 4 | 6 => 9 | 7 => 13 | 8 => 5 | 9 => 9 | 10 => 6 | 11 => 12 | 12 => 85
  | _ => 0
def ma_fs (ad : Nat → Nat) (S : ma_S) (c t : Nat) : List Value := (List.range (ma_fn t)).map (fun k => ma_tv ad (ma_rd S c k (ma_ft t k)))
/-- arrays: 20 int, 21 byte, 22 boolean, 23 long, 24 Thing, 25 Collector -/
def ma_tys (kA : Nat → ClassId) : List (ClassId × FieldType) := [(kA 20, .int), (kA 21, .byte), (kA 22, .boolean), (kA 23, .long), (kA 24, .object RX9), (kA 25, .object RX1)]
def ma_E (kA : Nat → ClassId) (ad : Nat → Nat) (S : ma_S) (c : Nat) : va_E :=
  if (mH S c).1 < 20 then .inr ((mH S c).1, ma_fs ad S c (mH S c).1)
  else if (mH S c).1 < 23 then .inl (kA (mH S c).1, (mH S c).2, .inl (mI S c))
  else if (mH S c).1 < 24 then .inl (kA (mH S c).1, (mH S c).2, .inr (.inl (mL S c)))
  else .inl (kA (mH S c).1, (mH S c).2, .inr (.inr (.inr (.inr (fun j => (mR S c j).map ad)))))
def ma_wl (kA : Nat → ClassId) (ad : Nat → Nat) (S : ma_S) : va_W := (List.range (mN S - 64)).map (fun j => (ad (j + 64), ma_E kA ad S (j + 64)))
theorem ma_wl_at {kA : Nat → ClassId} {ad : Nat → Nat} {S : ma_S} {c : Nat} (h1 : 64 ≤ c) (h2 : c < mN S) : (ma_wl kA ad S)[c - 64]? = some (ad c, ma_E kA ad S c) := by
  unfold ma_wl
  rw [List.getElem?_map, List.getElem?_range (by omega)]
  show some (ad (c - 64 + 64), ma_E kA ad S (c - 64 + 64)) = _
  rw [Nat.sub_add_cancel h1]
theorem ma_wl_set {kA : Nat → ClassId} {ad : Nat → Nat} {S S' : ma_S} {c : Nat} {e : va_E} (h1 : 64 ≤ c) (h2 : c < mN S) (hn : mN S' = mN S) (he : ma_E kA ad S' c = e) (ho : ∀ c', c' ≠ c → ma_E kA ad S' c' = ma_E kA ad S c') : (ma_wl kA ad S).set (c - 64) (ad c, e) = ma_wl kA ad S' := by
  apply List.ext_getElem?
  intro j
  unfold ma_wl
  rw [hn]
  by_cases hj : j = c - 64
  · subst hj
    rw [List.getElem?_set_self (by simp; omega), List.getElem?_map, List.getElem?_range (by omega)]
    show _ = some (ad (c - 64 + 64), ma_E kA ad S' (c - 64 + 64))
    rw [Nat.sub_add_cancel h1, he]
  · rw [List.getElem?_set_ne (Ne.symm hj), List.getElem?_map, List.getElem?_map]
    by_cases hl : j < mN S - 64
    · rw [List.getElem?_range hl]
      show some (ad (j + 64), ma_E kA ad S (j + 64)) = some (ad (j + 64), ma_E kA ad S' (j + 64))
      rw [ho (j + 64) (by omega)]
    · rw [List.getElem?_eq_none (by simp; omega)]
      rfl
/-- no reference beyond the last cell -/
def ma_cv (n : Nat) (v : ma_V) : Prop := ∀ b, v = .inr (.inr (some b)) → b < n
def ma_ch (S : ma_S) : Prop := (∀ c k b, mR S c k = some b → b < mN S) ∧ 64 ≤ mN S
def ma_cL (n : Nat) (L : ma_L) : Prop := ∀ q ∈ L, ma_cv n q.2
def ma_cs (n : Nat) (st : List ma_V) : Prop := ∀ v ∈ st, ma_cv n v
theorem ma_cv_i {n : Nat} {x : Int32} : ma_cv n (.inl x) := fun _ h => by cases h
theorem ma_cv_l {n : Nat} {x : Int64} : ma_cv n (.inr (.inl x)) := fun _ h => by cases h
theorem ma_cv_n {n : Nat} : ma_cv n (.inr (.inr none)) := fun _ h => by cases h
theorem ma_cv.mono {n n' : Nat} {v : ma_V} (h : ma_cv n v) (hn : n ≤ n') : ma_cv n' v := fun b hb => Nat.lt_of_lt_of_le (h b hb) hn
theorem ma_tv_ad {ad ad' : Nat → Nat} {n : Nat} {v : ma_V} (h : ma_cv n v) (ha : ∀ b, b < n → ad' b = ad b) : ma_tv ad' v = ma_tv ad v := by
  rcases v with x | x | r
  · rfl
  · rfl
  · cases r with
    | none => rfl
    | some b => show Value.ref (ad' b) = Value.ref (ad b); rw [ha b (h b rfl)]
theorem ma_tl_ad {ad ad' : Nat → Nat} {n : Nat} {L : ma_L} (h : ma_cL n L) (ha : ∀ b, b < n → ad' b = ad b) : ma_tl ad' L = ma_tl ad L := by
  unfold ma_tl
  apply List.map_congr_left
  intro q hq
  rw [ma_tv_ad (h q hq) ha]
theorem ma_ts_ad {ad ad' : Nat → Nat} {n : Nat} {st : List ma_V} (h : ma_cs n st) (ha : ∀ b, b < n → ad' b = ad b) : ma_ts ad' st = ma_ts ad st := by
  unfold ma_ts
  apply List.map_congr_left
  intro q hq
  rw [ma_tv_ad (h q hq) ha]
theorem ma_rd_cv {S : ma_S} (h : ma_ch S) (c k : Nat) (ty : FieldType) : ma_cv (mN S) (ma_rd S c k ty) := by
  intro b hb
  cases ty <;> simp only [ma_rd, reduceCtorEq, Sum.inr.injEq] at hb
  · exact h.1 c k b hb
  · exact h.1 c k b hb
theorem ma_E_ad {kA : Nat → ClassId} {ad ad' : Nat → Nat} {S : ma_S} (h : ma_ch S) (ha : ∀ b, b < mN S → ad' b = ad b) (c : Nat) : ma_E kA ad' S c = ma_E kA ad S c := by
  unfold ma_E
  have h1 : ma_fs ad' S c (mH S c).1 = ma_fs ad S c (mH S c).1 := by
    unfold ma_fs
    apply List.map_congr_left
    intro k _
    rw [ma_tv_ad (ma_rd_cv h c k _) ha]
  have h2 : (fun j => (mR S c j).map ad') = (fun j => (mR S c j).map ad) := by
    funext j
    cases hr : mR S c j with
    | none => rfl
    | some b => show some (ad' b) = some (ad b); rw [ha b (h.1 c j b hr)]
  rw [h1, h2]
theorem ma_E_congr {kA : Nat → ClassId} {ad : Nat → Nat} {S S' : ma_S} {c : Nat} (h1 : mH S' c = mH S c) (h2 : mI S' c = mI S c) (h3 : mL S' c = mL S c) (h4 : mR S' c = mR S c) : ma_E kA ad S' c = ma_E kA ad S c := by
  have h5 : ∀ k ty, ma_rd S' c k ty = ma_rd S c k ty := by
    intro k ty
    cases ty <;> simp only [ma_rd, h2, h3, h4]
  unfold ma_E ma_fs
  simp only [h1, h2, h3, h4, h5]
theorem ma_wl_new {kA : Nat → ClassId} {ad : Nat → Nat} {S : ma_S} (h : ma_ch S) (t n q : Nat) : ma_wl kA (va_up ad (mN S) q) (ma_new S t n) = ma_wl kA ad S ++ [(q, ma_E kA (va_up ad (mN S) q) (ma_new S t n) (mN S))] := by
  have h32 := h.2
  unfold ma_wl
  have hn : mN (ma_new S t n) - 64 = (mN S - 64) + 1 := by show S.1 + 1 - 64 = _; show _ = S.1 - 64 + 1; have : 64 ≤ S.1 := h32; omega
  rw [hn, List.range_succ, List.map_append]
  congr 1
  · apply List.map_congr_left
    intro j hj
    have hj := List.mem_range.mp hj
    have hne : j + 64 ≠ mN S := by omega
    have e1 : va_up ad (mN S) q (j + 64) = ad (j + 64) := va_up_ne ad q hne
    have e2 : ma_E kA (va_up ad (mN S) q) (ma_new S t n) (j + 64) = ma_E kA ad S (j + 64) := by
      rw [← ma_E_ad (ad' := va_up ad (mN S) q) h (fun b hb => va_up_ne ad q (by omega))]
      have hne : j + 64 ≠ S.1 := hne
      exact ma_E_congr (if_neg hne) (if_neg hne) (if_neg hne) (if_neg hne)
    rw [e1, e2]
  · have e : mN S - 64 + 64 = mN S := Nat.sub_add_cancel h32
    rw [List.map_cons, List.map_nil, e, va_up_self]
theorem ma_new_ch {S : ma_S} (h : ma_ch S) (t n : Nat) : ma_ch (ma_new S t n) := by
  refine ⟨fun c k b hb => ?_, Nat.le_succ_of_le h.2⟩
  have hb : ma_uc (mR S) S.1 (fun _ => none) c k = some b := hb
  unfold ma_uc at hb
  split at hb
  · cases hb
  · exact Nat.lt_succ_of_lt (h.1 c k b hb)
theorem ma_put_ch {S : ma_S} (h : ma_ch S) {c k : Nat} {v : ma_V} (hv : ma_cv (mN S) v) : ma_ch (ma_put S c k v) := by
  rcases v with x | x | r
  · exact h
  · exact h
  · refine ⟨fun c' k' b hb => ?_, h.2⟩
    have hb : ma_u (mR S) c k r c' k' = some b := hb
    unfold ma_u at hb
    split at hb
    · exact hv b (by rw [hb])
    · exact h.1 c' k' b hb
theorem ma_put_n (S : ma_S) (c k : Nat) (v : ma_V) : mN (ma_put S c k v) = mN S ∧ mC (ma_put S c k v) = mC S ∧ mZ (ma_put S c k v) = mZ S ∧ mH (ma_put S c k v) = mH S := by
  rcases v with x | x | r <;> exact ⟨rfl, rfl, rfl, rfl⟩
theorem ma_put_o {kA : Nat → ClassId} {ad : Nat → Nat} {S : ma_S} {c k : Nat} {v : ma_V} {c' : Nat} (h : c' ≠ c) : ma_E kA ad (ma_put S c k v) c' = ma_E kA ad S c' := by
  rcases v with x | x | r
  · exact ma_E_congr rfl (ma_u_ne _ _ _ h) rfl rfl
  · exact ma_E_congr rfl rfl (ma_u_ne _ _ _ h) rfl
  · exact ma_E_congr rfl rfl rfl (ma_u_ne _ _ _ h)
