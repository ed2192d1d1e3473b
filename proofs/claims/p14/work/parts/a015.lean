/-! from 93.b10 -/
/-! collectors, by what they keep (written by wip/tools/gen93b.py) -/
theorem zp_th {S : ma_S} {c₉ k₉ c k : Nat} {x : Int32} (hc : 126 ≤ c₉) (h : c < 126) : (mI (ma_put S c₉ k₉ (.inl x)) c k).toInt = (mI S c k).toInt := by
  have : mI (ma_put S c₉ k₉ (.inl x)) c k = mI S c k := if_neg (fun z => by omega)
  rw [this]
/-! from 94.0m -/
/-! THE REFERENCE, over its ints alone: its runs change nothing else -/
def zst (S : ma_S) (m : Nat → Nat → Int32) : ma_S := (S.1, S.2.1, S.2.2.1, S.2.2.2.1, m, S.2.2.2.2.2.1, S.2.2.2.2.2.2)
theorem zT_zst {S : ma_S} (h : zT S) (m : Nat → Nat → Int32) : zT (zst S m) := h
/-- from here the run of that method of the reference answers, and P holds of the answer and of its ints -/
def zm (X : Nat × (Nat → Int32)) (D W M pc : Nat) (L : ma_L) (m : Nat → Nat → Int32) (P : Option ma_V → (Nat → Nat → Int32) → Prop) : Prop :=
  ∀ (d w : Nat) (S : ma_S) (Q : Option ma_V ⊕ Nat → ma_S → Prop), D ≤ d → W ≤ w → zT S → mI S = m → (∀ v m₉, P v m₉ → Q (.inl v) (zst S m₉)) → ma_wp X d w M pc L [] S Q
def zmi (K : Int32 → (Nat → Nat → Int32) → Prop) : Option ma_V → (Nat → Nat → Int32) → Prop := fun o m => match o with
  | some (.inl v) => K v m
  | _ => False
def zmv (K : (Nat → Nat → Int32) → Prop) : Option ma_V → (Nat → Nat → Int32) → Prop := fun o m => match o with
  | none => K m
  | _ => False
theorem zmi_n {K : Int32 → (Nat → Nat → Int32) → Prop} {v : Int32} {m : Nat → Nat → Int32} (h : K v m) : zmi K (some (.inl v)) m := h
theorem zmv_n {K : (Nat → Nat → Int32) → Prop} {m : Nat → Nat → Int32} (h : K m) : zmv K none m := h
theorem zmi_of {K : Int32 → (Nat → Nat → Int32) → Prop} {o : Option ma_V} {m : Nat → Nat → Int32} (z : zmi K o m) : ∃ v, o = some (.inl v) ∧ K v m := by
  rcases o with _ | v
  · exact z.elim
  · rcases v with v | v
    · exact ⟨v, rfl, z⟩
    · exact z.elim
theorem zmv_of {K : (Nat → Nat → Int32) → Prop} {o : Option ma_V} {m : Nat → Nat → Int32} (z : zmv K o m) : o = none ∧ K m := by
  rcases o with _ | v
  · exact ⟨rfl, z⟩
  · exact z.elim
/-- the cells that may have changed -/
def zov (wr : Nat → Nat → Bool) (m m₉ : Nat → Nat → Int32) : Nat → Nat → Int32 := fun c k => cond (wr c k) (m₉ c k) (m c k)
def zF (wr : Nat → Nat → Bool) (m0 m : Nat → Nat → Int32) : Prop := ∀ c k, wr c k = false → m c k = m0 c k
section ZM1
variable {wr w2 : Nat → Nat → Bool} {m0 m m₉ : Nat → Nat → Int32} {c k : Nat} {x : Int32}
theorem zF_rfl : zF wr m m := fun _ _ _ => rfl
theorem zF_u (h : zF wr m0 m) (hw : wr c k = true) : zF wr m0 (ma_u m c k x) := by
  intro c₉ k₉ z
  show (if c₉ = c ∧ k₉ = k then x else m c₉ k₉) = m0 c₉ k₉
  rw [if_neg (fun q => by rw [q.1, q.2, hw] at z; cases z)]
  exact h c₉ k₉ z
theorem zF_zov (h : zF wr m0 m) (hw : ∀ c k, w2 c k = true → wr c k = true) : zF wr m0 (zov w2 m m₉) := by
  intro c k z
  have : w2 c k = false := by
    cases e : w2 c k with
    | false => rfl
    | true => rw [hw c k e] at z; cases z
  show cond (w2 c k) (m₉ c k) (m c k) = m0 c k
  rw [this]
  exact h c k z
theorem zov_eq (h : zF wr m0 m) : m = zov wr m0 m := by
  funext c k
  show m c k = cond (wr c k) (m c k) (m0 c k)
  cases e : wr c k with
  | true => rfl
  | false => exact h c k e
end ZM1
section ZM2
variable {X : Nat × (Nat → Int32)} {d w M pc : Nat} {L : ma_L} {st r : List ma_V} {S : ma_S} {o nL : Nat} {y : MethodName} {cc : ByteArray} {ret : Option FieldType} {Q : Option ma_V ⊕ Nat → ma_S → Prop}
theorem zw_bas22l (hm : ma_md M = some (o, y, cc, nL, ret)) (hd : decode cc pc = .ok (.bastore, 1)) {c N a : Nat} {j x : Int32} (yv : Int32) (hx : vp_nar .boolean x = yv) (hs : ma_is S c = true) (ht : mH S c = (22, N)) (ha : j.toNatClampNeg = a) (hj : 0 ≤ j ∧ a < N) (K : ma_wp X d w M (pc + 1) L r (ma_put S c a (.inl yv)) Q) : ma_wp X d w M pc L (.inl x :: .inl j :: .inr (.inr (some c)) :: r) S Q := by
  subst hx
  exact zw_bas22 hm hd hs ht ha hj K
end ZM2
theorem i_mulk {x y : Int32} {k : Int} (hk : y.toInt = k) (h1 : -2147483648 ≤ x.toInt * k) (h2 : x.toInt * k ≤ 2147483647) : (x * y).toInt = x.toInt * k := by
  rw [← hk] at h1 h2 ⊢
  exact i_mul h1 h2
theorem i_mulk2 {x y : Int32} {k : Int} (hk : x.toInt = k) (h1 : -2147483648 ≤ k * y.toInt) (h2 : k * y.toInt ≤ 2147483647) : (x * y).toInt = k * y.toInt := by
  rw [← hk] at h1 h2 ⊢
  exact i_mul h1 h2
theorem i_01 {x : Int32} (h : x = 0 ∨ x = 1) : 0 ≤ x.toInt ∧ x.toInt ≤ 1 := by
  rcases h with rfl | rfl <;> decide

/-! from 94.0v -/
/-! bounds of the reference: fields, rows -/
def zV_s : List (Nat × Nat × Int × Int) := [(94, 3, 0, 100), (94, 4, 0, 100), (94, 7, 0, 16), (94, 8, 0, 1), (94, 9, 0, 1), (94, 10, 0, 6), (94, 11, 0, 1500), (94, 13, 0, 1500), (94, 14, 0, 1500), (94, 16, 0, 64), (94, 18, 0, 256), (94, 20, -1, 6), (94, 21, 0, 1500), (94, 23, 0, 1500), (94, 24, 0, 1500), (94, 26, 0, 64), (94, 28, 0, 256), (94, 30, 0, 1), (94, 46, 0, 100000), (94, 55, 0, 3100), (94, 56, 0, 3100), (94, 57, 0, 3100), (94, 58, 0, 1), (94, 59, 0, 4600), (94, 60, 0, 1600), (94, 61, 0, 1), (94, 62, 0, 4600), (94, 63, 0, 127), (94, 64, 0, 93), (94, 67, 0, 100), (94, 68, 0, 100), (94, 69, 0, 100), (94, 70, 0, 100), (94, 73, 0, 3100), (94, 75, 0, 3100), (94, 76, 0, 3100), (94, 77, 0, 4600), (94, 80, 0, 3100), (94, 84, 0, 4600)]
def zV_a : List (Nat × Nat × Int × Int) := [(97, 16, 0, 8), (98, 16, 0, 255), (99, 3100, 0, 1), (100, 3100, 0, 100000), (101, 3100, 0, 17), (102, 3100, 0, 60), (103, 3100, 0, 4599), (109, 3100, 0, 1), (110, 3100, 0, 1), (111, 4600, -1, 3099), (112, 16, -1, 3099), (113, 16, -1, 3099), (114, 3100, 0, 3099), (115, 3100, 0, 3099), (116, 128, 0, 4600), (117, 512, 0, 1), (118, 3100, 0, 3099), (119, 3100, 0, 3099), (120, 3100, 0, 3099), (121, 3100, 0, 60), (123, 128, 0, 1), (124, 128, 0, 1)]
def zV (m : Nat → Nat → Int32) : Prop := (∀ q ∈ zV_s, q.2.2.1 ≤ (m q.1 q.2.1).toInt ∧ (m q.1 q.2.1).toInt ≤ q.2.2.2) ∧ ∀ q ∈ zV_a, ∀ k, k < q.2.1 → q.2.2.1 ≤ (m q.1 k).toInt ∧ (m q.1 k).toInt ≤ q.2.2.2
section ZV1
variable {m : Nat → Nat → Int32} {c k : Nat} {x : Int32}
theorem zV_u (h : zV m) (h2 : ∀ q ∈ zV_s, q.1 = c → q.2.1 = k → q.2.2.1 ≤ x.toInt ∧ x.toInt ≤ q.2.2.2) (h4 : ∀ q ∈ zV_a, q.1 = c → q.2.2.1 ≤ x.toInt ∧ x.toInt ≤ q.2.2.2) : zV (ma_u m c k x) := by
  have rd : ∀ c₉ k₉, ma_u m c k x c₉ k₉ = if c₉ = c ∧ k₉ = k then x else m c₉ k₉ := fun _ _ => rfl
  refine ⟨fun q hq => ?_, fun q hq k₉ hk => ?_⟩
  · rw [rd]
    split
    · next z => exact h2 q hq z.1 z.2
    · exact h.1 q hq
  · rw [rd]
    split
    · next z => exact h4 q hq z.1
    · exact h.2 q hq k₉ hk
theorem va_94 : ∀ q ∈ zV_a, q.1 ≠ 94 := by decide
theorem ms_94_3 : (94, 3, 0, 100) ∈ zV_s := by decide
theorem vs_94_3 : ∀ q ∈ zV_s, q.1 = 94 → q.2.1 = 3 → q.2.2.1 = 0 ∧ q.2.2.2 = 100 := by decide
theorem rs_94_3 (h : zV m) : 0 ≤ (m 94 3).toInt ∧ (m 94 3).toInt ≤ 100 := h.1 _ ms_94_3
theorem us_94_3 (h : zV m) (h1 : 0 ≤ x.toInt) (h2 : x.toInt ≤ 100) : zV (ma_u m 94 3 x) := zV_u h (fun q hq g1 g2 => by rw [(vs_94_3 q hq g1 g2).1, (vs_94_3 q hq g1 g2).2]; exact ⟨h1, h2⟩) (fun q hq g => absurd g (va_94 q hq))
theorem ms_94_4 : (94, 4, 0, 100) ∈ zV_s := by decide
theorem vs_94_4 : ∀ q ∈ zV_s, q.1 = 94 → q.2.1 = 4 → q.2.2.1 = 0 ∧ q.2.2.2 = 100 := by decide
theorem rs_94_4 (h : zV m) : 0 ≤ (m 94 4).toInt ∧ (m 94 4).toInt ≤ 100 := h.1 _ ms_94_4
theorem us_94_4 (h : zV m) (h1 : 0 ≤ x.toInt) (h2 : x.toInt ≤ 100) : zV (ma_u m 94 4 x) := zV_u h (fun q hq g1 g2 => by rw [(vs_94_4 q hq g1 g2).1, (vs_94_4 q hq g1 g2).2]; exact ⟨h1, h2⟩) (fun q hq g => absurd g (va_94 q hq))
theorem ms_94_7 : (94, 7, 0, 16) ∈ zV_s := by decide
theorem vs_94_7 : ∀ q ∈ zV_s, q.1 = 94 → q.2.1 = 7 → q.2.2.1 = 0 ∧ q.2.2.2 = 16 := by decide
theorem rs_94_7 (h : zV m) : 0 ≤ (m 94 7).toInt ∧ (m 94 7).toInt ≤ 16 := h.1 _ ms_94_7
theorem us_94_7 (h : zV m) (h1 : 0 ≤ x.toInt) (h2 : x.toInt ≤ 16) : zV (ma_u m 94 7 x) := zV_u h (fun q hq g1 g2 => by rw [(vs_94_7 q hq g1 g2).1, (vs_94_7 q hq g1 g2).2]; exact ⟨h1, h2⟩) (fun q hq g => absurd g (va_94 q hq))
theorem ms_94_8 : (94, 8, 0, 1) ∈ zV_s := by decide
theorem vs_94_8 : ∀ q ∈ zV_s, q.1 = 94 → q.2.1 = 8 → q.2.2.1 = 0 ∧ q.2.2.2 = 1 := by decide
theorem rs_94_8 (h : zV m) : 0 ≤ (m 94 8).toInt ∧ (m 94 8).toInt ≤ 1 := h.1 _ ms_94_8
theorem us_94_8 (h : zV m) (h1 : 0 ≤ x.toInt) (h2 : x.toInt ≤ 1) : zV (ma_u m 94 8 x) := zV_u h (fun q hq g1 g2 => by rw [(vs_94_8 q hq g1 g2).1, (vs_94_8 q hq g1 g2).2]; exact ⟨h1, h2⟩) (fun q hq g => absurd g (va_94 q hq))
theorem ms_94_9 : (94, 9, 0, 1) ∈ zV_s := by decide
theorem vs_94_9 : ∀ q ∈ zV_s, q.1 = 94 → q.2.1 = 9 → q.2.2.1 = 0 ∧ q.2.2.2 = 1 := by decide
theorem rs_94_9 (h : zV m) : 0 ≤ (m 94 9).toInt ∧ (m 94 9).toInt ≤ 1 := h.1 _ ms_94_9
theorem us_94_9 (h : zV m) (h1 : 0 ≤ x.toInt) (h2 : x.toInt ≤ 1) : zV (ma_u m 94 9 x) := zV_u h (fun q hq g1 g2 => by rw [(vs_94_9 q hq g1 g2).1, (vs_94_9 q hq g1 g2).2]; exact ⟨h1, h2⟩) (fun q hq g => absurd g (va_94 q hq))
theorem ms_94_10 : (94, 10, 0, 6) ∈ zV_s := by decide
theorem vs_94_10 : ∀ q ∈ zV_s, q.1 = 94 → q.2.1 = 10 → q.2.2.1 = 0 ∧ q.2.2.2 = 6 := by decide
theorem rs_94_10 (h : zV m) : 0 ≤ (m 94 10).toInt ∧ (m 94 10).toInt ≤ 6 := h.1 _ ms_94_10
theorem us_94_10 (h : zV m) (h1 : 0 ≤ x.toInt) (h2 : x.toInt ≤ 6) : zV (ma_u m 94 10 x) := zV_u h (fun q hq g1 g2 => by rw [(vs_94_10 q hq g1 g2).1, (vs_94_10 q hq g1 g2).2]; exact ⟨h1, h2⟩) (fun q hq g => absurd g (va_94 q hq))
theorem ms_94_11 : (94, 11, 0, 1500) ∈ zV_s := by decide
theorem vs_94_11 : ∀ q ∈ zV_s, q.1 = 94 → q.2.1 = 11 → q.2.2.1 = 0 ∧ q.2.2.2 = 1500 := by decide
theorem rs_94_11 (h : zV m) : 0 ≤ (m 94 11).toInt ∧ (m 94 11).toInt ≤ 1500 := h.1 _ ms_94_11
theorem us_94_11 (h : zV m) (h1 : 0 ≤ x.toInt) (h2 : x.toInt ≤ 1500) : zV (ma_u m 94 11 x) := zV_u h (fun q hq g1 g2 => by rw [(vs_94_11 q hq g1 g2).1, (vs_94_11 q hq g1 g2).2]; exact ⟨h1, h2⟩) (fun q hq g => absurd g (va_94 q hq))
theorem ms_94_13 : (94, 13, 0, 1500) ∈ zV_s := by decide
theorem vs_94_13 : ∀ q ∈ zV_s, q.1 = 94 → q.2.1 = 13 → q.2.2.1 = 0 ∧ q.2.2.2 = 1500 := by decide
theorem rs_94_13 (h : zV m) : 0 ≤ (m 94 13).toInt ∧ (m 94 13).toInt ≤ 1500 := h.1 _ ms_94_13
theorem us_94_13 (h : zV m) (h1 : 0 ≤ x.toInt) (h2 : x.toInt ≤ 1500) : zV (ma_u m 94 13 x) := zV_u h (fun q hq g1 g2 => by rw [(vs_94_13 q hq g1 g2).1, (vs_94_13 q hq g1 g2).2]; exact ⟨h1, h2⟩) (fun q hq g => absurd g (va_94 q hq))
theorem ms_94_14 : (94, 14, 0, 1500) ∈ zV_s := by decide
theorem vs_94_14 : ∀ q ∈ zV_s, q.1 = 94 → q.2.1 = 14 → q.2.2.1 = 0 ∧ q.2.2.2 = 1500 := by decide
theorem rs_94_14 (h : zV m) : 0 ≤ (m 94 14).toInt ∧ (m 94 14).toInt ≤ 1500 := h.1 _ ms_94_14
theorem us_94_14 (h : zV m) (h1 : 0 ≤ x.toInt) (h2 : x.toInt ≤ 1500) : zV (ma_u m 94 14 x) := zV_u h (fun q hq g1 g2 => by rw [(vs_94_14 q hq g1 g2).1, (vs_94_14 q hq g1 g2).2]; exact ⟨h1, h2⟩) (fun q hq g => absurd g (va_94 q hq))
theorem ms_94_16 : (94, 16, 0, 64) ∈ zV_s := by decide
theorem vs_94_16 : ∀ q ∈ zV_s, q.1 = 94 → q.2.1 = 16 → q.2.2.1 = 0 ∧ q.2.2.2 = 64 := by decide
theorem rs_94_16 (h : zV m) : 0 ≤ (m 94 16).toInt ∧ (m 94 16).toInt ≤ 64 := h.1 _ ms_94_16
theorem us_94_16 (h : zV m) (h1 : 0 ≤ x.toInt) (h2 : x.toInt ≤ 64) : zV (ma_u m 94 16 x) := zV_u h (fun q hq g1 g2 => by rw [(vs_94_16 q hq g1 g2).1, (vs_94_16 q hq g1 g2).2]; exact ⟨h1, h2⟩) (fun q hq g => absurd g (va_94 q hq))
theorem ms_94_18 : (94, 18, 0, 256) ∈ zV_s := by decide
theorem vs_94_18 : ∀ q ∈ zV_s, q.1 = 94 → q.2.1 = 18 → q.2.2.1 = 0 ∧ q.2.2.2 = 256 := by decide
theorem rs_94_18 (h : zV m) : 0 ≤ (m 94 18).toInt ∧ (m 94 18).toInt ≤ 256 := h.1 _ ms_94_18
theorem us_94_18 (h : zV m) (h1 : 0 ≤ x.toInt) (h2 : x.toInt ≤ 256) : zV (ma_u m 94 18 x) := zV_u h (fun q hq g1 g2 => by rw [(vs_94_18 q hq g1 g2).1, (vs_94_18 q hq g1 g2).2]; exact ⟨h1, h2⟩) (fun q hq g => absurd g (va_94 q hq))
theorem ms_94_20 : (94, 20, -1, 6) ∈ zV_s := by decide
theorem vs_94_20 : ∀ q ∈ zV_s, q.1 = 94 → q.2.1 = 20 → q.2.2.1 = -1 ∧ q.2.2.2 = 6 := by decide
theorem rs_94_20 (h : zV m) : -1 ≤ (m 94 20).toInt ∧ (m 94 20).toInt ≤ 6 := h.1 _ ms_94_20
theorem us_94_20 (h : zV m) (h1 : -1 ≤ x.toInt) (h2 : x.toInt ≤ 6) : zV (ma_u m 94 20 x) := zV_u h (fun q hq g1 g2 => by rw [(vs_94_20 q hq g1 g2).1, (vs_94_20 q hq g1 g2).2]; exact ⟨h1, h2⟩) (fun q hq g => absurd g (va_94 q hq))
theorem ms_94_21 : (94, 21, 0, 1500) ∈ zV_s := by decide
theorem vs_94_21 : ∀ q ∈ zV_s, q.1 = 94 → q.2.1 = 21 → q.2.2.1 = 0 ∧ q.2.2.2 = 1500 := by decide
theorem rs_94_21 (h : zV m) : 0 ≤ (m 94 21).toInt ∧ (m 94 21).toInt ≤ 1500 := h.1 _ ms_94_21
theorem us_94_21 (h : zV m) (h1 : 0 ≤ x.toInt) (h2 : x.toInt ≤ 1500) : zV (ma_u m 94 21 x) := zV_u h (fun q hq g1 g2 => by rw [(vs_94_21 q hq g1 g2).1, (vs_94_21 q hq g1 g2).2]; exact ⟨h1, h2⟩) (fun q hq g => absurd g (va_94 q hq))
theorem ms_94_23 : (94, 23, 0, 1500) ∈ zV_s := by decide
theorem vs_94_23 : ∀ q ∈ zV_s, q.1 = 94 → q.2.1 = 23 → q.2.2.1 = 0 ∧ q.2.2.2 = 1500 := by decide
theorem rs_94_23 (h : zV m) : 0 ≤ (m 94 23).toInt ∧ (m 94 23).toInt ≤ 1500 := h.1 _ ms_94_23
theorem us_94_23 (h : zV m) (h1 : 0 ≤ x.toInt) (h2 : x.toInt ≤ 1500) : zV (ma_u m 94 23 x) := zV_u h (fun q hq g1 g2 => by rw [(vs_94_23 q hq g1 g2).1, (vs_94_23 q hq g1 g2).2]; exact ⟨h1, h2⟩) (fun q hq g => absurd g (va_94 q hq))
theorem ms_94_24 : (94, 24, 0, 1500) ∈ zV_s := by decide
theorem vs_94_24 : ∀ q ∈ zV_s, q.1 = 94 → q.2.1 = 24 → q.2.2.1 = 0 ∧ q.2.2.2 = 1500 := by decide
theorem rs_94_24 (h : zV m) : 0 ≤ (m 94 24).toInt ∧ (m 94 24).toInt ≤ 1500 := h.1 _ ms_94_24
theorem us_94_24 (h : zV m) (h1 : 0 ≤ x.toInt) (h2 : x.toInt ≤ 1500) : zV (ma_u m 94 24 x) := zV_u h (fun q hq g1 g2 => by rw [(vs_94_24 q hq g1 g2).1, (vs_94_24 q hq g1 g2).2]; exact ⟨h1, h2⟩) (fun q hq g => absurd g (va_94 q hq))
theorem ms_94_26 : (94, 26, 0, 64) ∈ zV_s := by decide
theorem vs_94_26 : ∀ q ∈ zV_s, q.1 = 94 → q.2.1 = 26 → q.2.2.1 = 0 ∧ q.2.2.2 = 64 := by decide
theorem rs_94_26 (h : zV m) : 0 ≤ (m 94 26).toInt ∧ (m 94 26).toInt ≤ 64 := h.1 _ ms_94_26
theorem us_94_26 (h : zV m) (h1 : 0 ≤ x.toInt) (h2 : x.toInt ≤ 64) : zV (ma_u m 94 26 x) := zV_u h (fun q hq g1 g2 => by rw [(vs_94_26 q hq g1 g2).1, (vs_94_26 q hq g1 g2).2]; exact ⟨h1, h2⟩) (fun q hq g => absurd g (va_94 q hq))
theorem ms_94_28 : (94, 28, 0, 256) ∈ zV_s := by decide
theorem vs_94_28 : ∀ q ∈ zV_s, q.1 = 94 → q.2.1 = 28 → q.2.2.1 = 0 ∧ q.2.2.2 = 256 := by decide
theorem rs_94_28 (h : zV m) : 0 ≤ (m 94 28).toInt ∧ (m 94 28).toInt ≤ 256 := h.1 _ ms_94_28
theorem us_94_28 (h : zV m) (h1 : 0 ≤ x.toInt) (h2 : x.toInt ≤ 256) : zV (ma_u m 94 28 x) := zV_u h (fun q hq g1 g2 => by rw [(vs_94_28 q hq g1 g2).1, (vs_94_28 q hq g1 g2).2]; exact ⟨h1, h2⟩) (fun q hq g => absurd g (va_94 q hq))
theorem ms_94_30 : (94, 30, 0, 1) ∈ zV_s := by decide
theorem vs_94_30 : ∀ q ∈ zV_s, q.1 = 94 → q.2.1 = 30 → q.2.2.1 = 0 ∧ q.2.2.2 = 1 := by decide
theorem rs_94_30 (h : zV m) : 0 ≤ (m 94 30).toInt ∧ (m 94 30).toInt ≤ 1 := h.1 _ ms_94_30
theorem us_94_30 (h : zV m) (h1 : 0 ≤ x.toInt) (h2 : x.toInt ≤ 1) : zV (ma_u m 94 30 x) := zV_u h (fun q hq g1 g2 => by rw [(vs_94_30 q hq g1 g2).1, (vs_94_30 q hq g1 g2).2]; exact ⟨h1, h2⟩) (fun q hq g => absurd g (va_94 q hq))
theorem ms_94_46 : (94, 46, 0, 100000) ∈ zV_s := by decide
theorem vs_94_46 : ∀ q ∈ zV_s, q.1 = 94 → q.2.1 = 46 → q.2.2.1 = 0 ∧ q.2.2.2 = 100000 := by decide
theorem rs_94_46 (h : zV m) : 0 ≤ (m 94 46).toInt ∧ (m 94 46).toInt ≤ 100000 := h.1 _ ms_94_46
theorem us_94_46 (h : zV m) (h1 : 0 ≤ x.toInt) (h2 : x.toInt ≤ 100000) : zV (ma_u m 94 46 x) := zV_u h (fun q hq g1 g2 => by rw [(vs_94_46 q hq g1 g2).1, (vs_94_46 q hq g1 g2).2]; exact ⟨h1, h2⟩) (fun q hq g => absurd g (va_94 q hq))
theorem ms_94_55 : (94, 55, 0, 3100) ∈ zV_s := by decide
theorem vs_94_55 : ∀ q ∈ zV_s, q.1 = 94 → q.2.1 = 55 → q.2.2.1 = 0 ∧ q.2.2.2 = 3100 := by decide
theorem rs_94_55 (h : zV m) : 0 ≤ (m 94 55).toInt ∧ (m 94 55).toInt ≤ 3100 := h.1 _ ms_94_55
theorem us_94_55 (h : zV m) (h1 : 0 ≤ x.toInt) (h2 : x.toInt ≤ 3100) : zV (ma_u m 94 55 x) := zV_u h (fun q hq g1 g2 => by rw [(vs_94_55 q hq g1 g2).1, (vs_94_55 q hq g1 g2).2]; exact ⟨h1, h2⟩) (fun q hq g => absurd g (va_94 q hq))
theorem ms_94_56 : (94, 56, 0, 3100) ∈ zV_s := by decide
theorem vs_94_56 : ∀ q ∈ zV_s, q.1 = 94 → q.2.1 = 56 → q.2.2.1 = 0 ∧ q.2.2.2 = 3100 := by decide
theorem rs_94_56 (h : zV m) : 0 ≤ (m 94 56).toInt ∧ (m 94 56).toInt ≤ 3100 := h.1 _ ms_94_56
theorem us_94_56 (h : zV m) (h1 : 0 ≤ x.toInt) (h2 : x.toInt ≤ 3100) : zV (ma_u m 94 56 x) := zV_u h (fun q hq g1 g2 => by rw [(vs_94_56 q hq g1 g2).1, (vs_94_56 q hq g1 g2).2]; exact ⟨h1, h2⟩) (fun q hq g => absurd g (va_94 q hq))
theorem ms_94_57 : (94, 57, 0, 3100) ∈ zV_s := by decide
theorem vs_94_57 : ∀ q ∈ zV_s, q.1 = 94 → q.2.1 = 57 → q.2.2.1 = 0 ∧ q.2.2.2 = 3100 := by decide
theorem rs_94_57 (h : zV m) : 0 ≤ (m 94 57).toInt ∧ (m 94 57).toInt ≤ 3100 := h.1 _ ms_94_57
theorem us_94_57 (h : zV m) (h1 : 0 ≤ x.toInt) (h2 : x.toInt ≤ 3100) : zV (ma_u m 94 57 x) := zV_u h (fun q hq g1 g2 => by rw [(vs_94_57 q hq g1 g2).1, (vs_94_57 q hq g1 g2).2]; exact ⟨h1, h2⟩) (fun q hq g => absurd g (va_94 q hq))
theorem ms_94_58 : (94, 58, 0, 1) ∈ zV_s := by decide
theorem vs_94_58 : ∀ q ∈ zV_s, q.1 = 94 → q.2.1 = 58 → q.2.2.1 = 0 ∧ q.2.2.2 = 1 := by decide
theorem rs_94_58 (h : zV m) : 0 ≤ (m 94 58).toInt ∧ (m 94 58).toInt ≤ 1 := h.1 _ ms_94_58
theorem us_94_58 (h : zV m) (h1 : 0 ≤ x.toInt) (h2 : x.toInt ≤ 1) : zV (ma_u m 94 58 x) := zV_u h (fun q hq g1 g2 => by rw [(vs_94_58 q hq g1 g2).1, (vs_94_58 q hq g1 g2).2]; exact ⟨h1, h2⟩) (fun q hq g => absurd g (va_94 q hq))
theorem ms_94_59 : (94, 59, 0, 4600) ∈ zV_s := by decide
theorem vs_94_59 : ∀ q ∈ zV_s, q.1 = 94 → q.2.1 = 59 → q.2.2.1 = 0 ∧ q.2.2.2 = 4600 := by decide
theorem rs_94_59 (h : zV m) : 0 ≤ (m 94 59).toInt ∧ (m 94 59).toInt ≤ 4600 := h.1 _ ms_94_59
theorem us_94_59 (h : zV m) (h1 : 0 ≤ x.toInt) (h2 : x.toInt ≤ 4600) : zV (ma_u m 94 59 x) := zV_u h (fun q hq g1 g2 => by rw [(vs_94_59 q hq g1 g2).1, (vs_94_59 q hq g1 g2).2]; exact ⟨h1, h2⟩) (fun q hq g => absurd g (va_94 q hq))
theorem ms_94_60 : (94, 60, 0, 1600) ∈ zV_s := by decide
theorem vs_94_60 : ∀ q ∈ zV_s, q.1 = 94 → q.2.1 = 60 → q.2.2.1 = 0 ∧ q.2.2.2 = 1600 := by decide
theorem rs_94_60 (h : zV m) : 0 ≤ (m 94 60).toInt ∧ (m 94 60).toInt ≤ 1600 := h.1 _ ms_94_60
theorem us_94_60 (h : zV m) (h1 : 0 ≤ x.toInt) (h2 : x.toInt ≤ 1600) : zV (ma_u m 94 60 x) := zV_u h (fun q hq g1 g2 => by rw [(vs_94_60 q hq g1 g2).1, (vs_94_60 q hq g1 g2).2]; exact ⟨h1, h2⟩) (fun q hq g => absurd g (va_94 q hq))
theorem ms_94_61 : (94, 61, 0, 1) ∈ zV_s := by decide
theorem vs_94_61 : ∀ q ∈ zV_s, q.1 = 94 → q.2.1 = 61 → q.2.2.1 = 0 ∧ q.2.2.2 = 1 := by decide
theorem rs_94_61 (h : zV m) : 0 ≤ (m 94 61).toInt ∧ (m 94 61).toInt ≤ 1 := h.1 _ ms_94_61
theorem us_94_61 (h : zV m) (h1 : 0 ≤ x.toInt) (h2 : x.toInt ≤ 1) : zV (ma_u m 94 61 x) := zV_u h (fun q hq g1 g2 => by rw [(vs_94_61 q hq g1 g2).1, (vs_94_61 q hq g1 g2).2]; exact ⟨h1, h2⟩) (fun q hq g => absurd g (va_94 q hq))
theorem ms_94_62 : (94, 62, 0, 4600) ∈ zV_s := by decide
theorem vs_94_62 : ∀ q ∈ zV_s, q.1 = 94 → q.2.1 = 62 → q.2.2.1 = 0 ∧ q.2.2.2 = 4600 := by decide
theorem rs_94_62 (h : zV m) : 0 ≤ (m 94 62).toInt ∧ (m 94 62).toInt ≤ 4600 := h.1 _ ms_94_62
theorem us_94_62 (h : zV m) (h1 : 0 ≤ x.toInt) (h2 : x.toInt ≤ 4600) : zV (ma_u m 94 62 x) := zV_u h (fun q hq g1 g2 => by rw [(vs_94_62 q hq g1 g2).1, (vs_94_62 q hq g1 g2).2]; exact ⟨h1, h2⟩) (fun q hq g => absurd g (va_94 q hq))
theorem ms_94_63 : (94, 63, 0, 127) ∈ zV_s := by decide
theorem vs_94_63 : ∀ q ∈ zV_s, q.1 = 94 → q.2.1 = 63 → q.2.2.1 = 0 ∧ q.2.2.2 = 127 := by decide
theorem rs_94_63 (h : zV m) : 0 ≤ (m 94 63).toInt ∧ (m 94 63).toInt ≤ 127 := h.1 _ ms_94_63
theorem us_94_63 (h : zV m) (h1 : 0 ≤ x.toInt) (h2 : x.toInt ≤ 127) : zV (ma_u m 94 63 x) := zV_u h (fun q hq g1 g2 => by rw [(vs_94_63 q hq g1 g2).1, (vs_94_63 q hq g1 g2).2]; exact ⟨h1, h2⟩) (fun q hq g => absurd g (va_94 q hq))
theorem ms_94_64 : (94, 64, 0, 93) ∈ zV_s := by decide
theorem vs_94_64 : ∀ q ∈ zV_s, q.1 = 94 → q.2.1 = 64 → q.2.2.1 = 0 ∧ q.2.2.2 = 93 := by decide
theorem rs_94_64 (h : zV m) : 0 ≤ (m 94 64).toInt ∧ (m 94 64).toInt ≤ 93 := h.1 _ ms_94_64
theorem us_94_64 (h : zV m) (h1 : 0 ≤ x.toInt) (h2 : x.toInt ≤ 93) : zV (ma_u m 94 64 x) := zV_u h (fun q hq g1 g2 => by rw [(vs_94_64 q hq g1 g2).1, (vs_94_64 q hq g1 g2).2]; exact ⟨h1, h2⟩) (fun q hq g => absurd g (va_94 q hq))
theorem ms_94_67 : (94, 67, 0, 100) ∈ zV_s := by decide
theorem vs_94_67 : ∀ q ∈ zV_s, q.1 = 94 → q.2.1 = 67 → q.2.2.1 = 0 ∧ q.2.2.2 = 100 := by decide
theorem rs_94_67 (h : zV m) : 0 ≤ (m 94 67).toInt ∧ (m 94 67).toInt ≤ 100 := h.1 _ ms_94_67
theorem us_94_67 (h : zV m) (h1 : 0 ≤ x.toInt) (h2 : x.toInt ≤ 100) : zV (ma_u m 94 67 x) := zV_u h (fun q hq g1 g2 => by rw [(vs_94_67 q hq g1 g2).1, (vs_94_67 q hq g1 g2).2]; exact ⟨h1, h2⟩) (fun q hq g => absurd g (va_94 q hq))
theorem ms_94_68 : (94, 68, 0, 100) ∈ zV_s := by decide
theorem vs_94_68 : ∀ q ∈ zV_s, q.1 = 94 → q.2.1 = 68 → q.2.2.1 = 0 ∧ q.2.2.2 = 100 := by decide
theorem rs_94_68 (h : zV m) : 0 ≤ (m 94 68).toInt ∧ (m 94 68).toInt ≤ 100 := h.1 _ ms_94_68
theorem us_94_68 (h : zV m) (h1 : 0 ≤ x.toInt) (h2 : x.toInt ≤ 100) : zV (ma_u m 94 68 x) := zV_u h (fun q hq g1 g2 => by rw [(vs_94_68 q hq g1 g2).1, (vs_94_68 q hq g1 g2).2]; exact ⟨h1, h2⟩) (fun q hq g => absurd g (va_94 q hq))
theorem ms_94_69 : (94, 69, 0, 100) ∈ zV_s := by decide
theorem vs_94_69 : ∀ q ∈ zV_s, q.1 = 94 → q.2.1 = 69 → q.2.2.1 = 0 ∧ q.2.2.2 = 100 := by decide
theorem rs_94_69 (h : zV m) : 0 ≤ (m 94 69).toInt ∧ (m 94 69).toInt ≤ 100 := h.1 _ ms_94_69
theorem us_94_69 (h : zV m) (h1 : 0 ≤ x.toInt) (h2 : x.toInt ≤ 100) : zV (ma_u m 94 69 x) := zV_u h (fun q hq g1 g2 => by rw [(vs_94_69 q hq g1 g2).1, (vs_94_69 q hq g1 g2).2]; exact ⟨h1, h2⟩) (fun q hq g => absurd g (va_94 q hq))
theorem ms_94_70 : (94, 70, 0, 100) ∈ zV_s := by decide
theorem vs_94_70 : ∀ q ∈ zV_s, q.1 = 94 → q.2.1 = 70 → q.2.2.1 = 0 ∧ q.2.2.2 = 100 := by decide
theorem rs_94_70 (h : zV m) : 0 ≤ (m 94 70).toInt ∧ (m 94 70).toInt ≤ 100 := h.1 _ ms_94_70
theorem us_94_70 (h : zV m) (h1 : 0 ≤ x.toInt) (h2 : x.toInt ≤ 100) : zV (ma_u m 94 70 x) := zV_u h (fun q hq g1 g2 => by rw [(vs_94_70 q hq g1 g2).1, (vs_94_70 q hq g1 g2).2]; exact ⟨h1, h2⟩) (fun q hq g => absurd g (va_94 q hq))
theorem ms_94_73 : (94, 73, 0, 3100) ∈ zV_s := by decide
theorem vs_94_73 : ∀ q ∈ zV_s, q.1 = 94 → q.2.1 = 73 → q.2.2.1 = 0 ∧ q.2.2.2 = 3100 := by decide
theorem rs_94_73 (h : zV m) : 0 ≤ (m 94 73).toInt ∧ (m 94 73).toInt ≤ 3100 := h.1 _ ms_94_73
theorem us_94_73 (h : zV m) (h1 : 0 ≤ x.toInt) (h2 : x.toInt ≤ 3100) : zV (ma_u m 94 73 x) := zV_u h (fun q hq g1 g2 => by rw [(vs_94_73 q hq g1 g2).1, (vs_94_73 q hq g1 g2).2]; exact ⟨h1, h2⟩) (fun q hq g => absurd g (va_94 q hq))
theorem ms_94_75 : (94, 75, 0, 3100) ∈ zV_s := by decide
theorem vs_94_75 : ∀ q ∈ zV_s, q.1 = 94 → q.2.1 = 75 → q.2.2.1 = 0 ∧ q.2.2.2 = 3100 := by decide
theorem rs_94_75 (h : zV m) : 0 ≤ (m 94 75).toInt ∧ (m 94 75).toInt ≤ 3100 := h.1 _ ms_94_75
theorem us_94_75 (h : zV m) (h1 : 0 ≤ x.toInt) (h2 : x.toInt ≤ 3100) : zV (ma_u m 94 75 x) := zV_u h (fun q hq g1 g2 => by rw [(vs_94_75 q hq g1 g2).1, (vs_94_75 q hq g1 g2).2]; exact ⟨h1, h2⟩) (fun q hq g => absurd g (va_94 q hq))
theorem ms_94_76 : (94, 76, 0, 3100) ∈ zV_s := by decide
theorem vs_94_76 : ∀ q ∈ zV_s, q.1 = 94 → q.2.1 = 76 → q.2.2.1 = 0 ∧ q.2.2.2 = 3100 := by decide
theorem rs_94_76 (h : zV m) : 0 ≤ (m 94 76).toInt ∧ (m 94 76).toInt ≤ 3100 := h.1 _ ms_94_76
theorem us_94_76 (h : zV m) (h1 : 0 ≤ x.toInt) (h2 : x.toInt ≤ 3100) : zV (ma_u m 94 76 x) := zV_u h (fun q hq g1 g2 => by rw [(vs_94_76 q hq g1 g2).1, (vs_94_76 q hq g1 g2).2]; exact ⟨h1, h2⟩) (fun q hq g => absurd g (va_94 q hq))
theorem ms_94_77 : (94, 77, 0, 4600) ∈ zV_s := by decide
theorem vs_94_77 : ∀ q ∈ zV_s, q.1 = 94 → q.2.1 = 77 → q.2.2.1 = 0 ∧ q.2.2.2 = 4600 := by decide
theorem rs_94_77 (h : zV m) : 0 ≤ (m 94 77).toInt ∧ (m 94 77).toInt ≤ 4600 := h.1 _ ms_94_77
theorem us_94_77 (h : zV m) (h1 : 0 ≤ x.toInt) (h2 : x.toInt ≤ 4600) : zV (ma_u m 94 77 x) := zV_u h (fun q hq g1 g2 => by rw [(vs_94_77 q hq g1 g2).1, (vs_94_77 q hq g1 g2).2]; exact ⟨h1, h2⟩) (fun q hq g => absurd g (va_94 q hq))
theorem ms_94_80 : (94, 80, 0, 3100) ∈ zV_s := by decide
theorem vs_94_80 : ∀ q ∈ zV_s, q.1 = 94 → q.2.1 = 80 → q.2.2.1 = 0 ∧ q.2.2.2 = 3100 := by decide
theorem rs_94_80 (h : zV m) : 0 ≤ (m 94 80).toInt ∧ (m 94 80).toInt ≤ 3100 := h.1 _ ms_94_80
theorem us_94_80 (h : zV m) (h1 : 0 ≤ x.toInt) (h2 : x.toInt ≤ 3100) : zV (ma_u m 94 80 x) := zV_u h (fun q hq g1 g2 => by rw [(vs_94_80 q hq g1 g2).1, (vs_94_80 q hq g1 g2).2]; exact ⟨h1, h2⟩) (fun q hq g => absurd g (va_94 q hq))
theorem ms_94_84 : (94, 84, 0, 4600) ∈ zV_s := by decide
theorem vs_94_84 : ∀ q ∈ zV_s, q.1 = 94 → q.2.1 = 84 → q.2.2.1 = 0 ∧ q.2.2.2 = 4600 := by decide
theorem rs_94_84 (h : zV m) : 0 ≤ (m 94 84).toInt ∧ (m 94 84).toInt ≤ 4600 := h.1 _ ms_94_84
theorem us_94_84 (h : zV m) (h1 : 0 ≤ x.toInt) (h2 : x.toInt ≤ 4600) : zV (ma_u m 94 84 x) := zV_u h (fun q hq g1 g2 => by rw [(vs_94_84 q hq g1 g2).1, (vs_94_84 q hq g1 g2).2]; exact ⟨h1, h2⟩) (fun q hq g => absurd g (va_94 q hq))
theorem uf_94_0 (h : zV m) : zV (ma_u m 94 0 x) := zV_u h (fun q hq g1 g2 => absurd g2 ((by decide : ∀ q ∈ zV_s, q.2.1 ≠ 0) q hq)) (fun q hq g => absurd g (va_94 q hq))
theorem uf_94_12 (h : zV m) : zV (ma_u m 94 12 x) := zV_u h (fun q hq g1 g2 => absurd g2 ((by decide : ∀ q ∈ zV_s, q.2.1 ≠ 12) q hq)) (fun q hq g => absurd g (va_94 q hq))
theorem uf_94_15 (h : zV m) : zV (ma_u m 94 15 x) := zV_u h (fun q hq g1 g2 => absurd g2 ((by decide : ∀ q ∈ zV_s, q.2.1 ≠ 15) q hq)) (fun q hq g => absurd g (va_94 q hq))
theorem uf_94_17 (h : zV m) : zV (ma_u m 94 17 x) := zV_u h (fun q hq g1 g2 => absurd g2 ((by decide : ∀ q ∈ zV_s, q.2.1 ≠ 17) q hq)) (fun q hq g => absurd g (va_94 q hq))
theorem uf_94_19 (h : zV m) : zV (ma_u m 94 19 x) := zV_u h (fun q hq g1 g2 => absurd g2 ((by decide : ∀ q ∈ zV_s, q.2.1 ≠ 19) q hq)) (fun q hq g => absurd g (va_94 q hq))
theorem uf_94_22 (h : zV m) : zV (ma_u m 94 22 x) := zV_u h (fun q hq g1 g2 => absurd g2 ((by decide : ∀ q ∈ zV_s, q.2.1 ≠ 22) q hq)) (fun q hq g => absurd g (va_94 q hq))
theorem uf_94_25 (h : zV m) : zV (ma_u m 94 25 x) := zV_u h (fun q hq g1 g2 => absurd g2 ((by decide : ∀ q ∈ zV_s, q.2.1 ≠ 25) q hq)) (fun q hq g => absurd g (va_94 q hq))
theorem uf_94_27 (h : zV m) : zV (ma_u m 94 27 x) := zV_u h (fun q hq g1 g2 => absurd g2 ((by decide : ∀ q ∈ zV_s, q.2.1 ≠ 27) q hq)) (fun q hq g => absurd g (va_94 q hq))
theorem uf_94_29 (h : zV m) : zV (ma_u m 94 29 x) := zV_u h (fun q hq g1 g2 => absurd g2 ((by decide : ∀ q ∈ zV_s, q.2.1 ≠ 29) q hq)) (fun q hq g => absurd g (va_94 q hq))
theorem uf_94_44 (h : zV m) : zV (ma_u m 94 44 x) := zV_u h (fun q hq g1 g2 => absurd g2 ((by decide : ∀ q ∈ zV_s, q.2.1 ≠ 44) q hq)) (fun q hq g => absurd g (va_94 q hq))
theorem uf_94_45 (h : zV m) : zV (ma_u m 94 45 x) := zV_u h (fun q hq g1 g2 => absurd g2 ((by decide : ∀ q ∈ zV_s, q.2.1 ≠ 45) q hq)) (fun q hq g => absurd g (va_94 q hq))
theorem uf_94_47 (h : zV m) : zV (ma_u m 94 47 x) := zV_u h (fun q hq g1 g2 => absurd g2 ((by decide : ∀ q ∈ zV_s, q.2.1 ≠ 47) q hq)) (fun q hq g => absurd g (va_94 q hq))
theorem uf_94_48 (h : zV m) : zV (ma_u m 94 48 x) := zV_u h (fun q hq g1 g2 => absurd g2 ((by decide : ∀ q ∈ zV_s, q.2.1 ≠ 48) q hq)) (fun q hq g => absurd g (va_94 q hq))
theorem uf_94_49 (h : zV m) : zV (ma_u m 94 49 x) := zV_u h (fun q hq g1 g2 => absurd g2 ((by decide : ∀ q ∈ zV_s, q.2.1 ≠ 49) q hq)) (fun q hq g => absurd g (va_94 q hq))
theorem uf_94_50 (h : zV m) : zV (ma_u m 94 50 x) := zV_u h (fun q hq g1 g2 => absurd g2 ((by decide : ∀ q ∈ zV_s, q.2.1 ≠ 50) q hq)) (fun q hq g => absurd g (va_94 q hq))
theorem uf_94_71 (h : zV m) : zV (ma_u m 94 71 x) := zV_u h (fun q hq g1 g2 => absurd g2 ((by decide : ∀ q ∈ zV_s, q.2.1 ≠ 71) q hq)) (fun q hq g => absurd g (va_94 q hq))
theorem vn_s : ∀ q ∈ zV_s, q.1 = 94 := by decide
theorem ua_95 (h : zV m) : zV (ma_u m 95 k x) := zV_u h (fun q hq g1 g2 => by rw [vn_s q hq] at g1; cases g1) (fun q hq g => absurd g ((by decide : ∀ q ∈ zV_a, q.1 ≠ 95) q hq))
theorem ua_96 (h : zV m) : zV (ma_u m 96 k x) := zV_u h (fun q hq g1 g2 => by rw [vn_s q hq] at g1; cases g1) (fun q hq g => absurd g ((by decide : ∀ q ∈ zV_a, q.1 ≠ 96) q hq))
theorem ma_97 : (97, 16, 0, 8) ∈ zV_a := by decide
theorem va_97 : ∀ q ∈ zV_a, q.1 = 97 → q.2.2.1 = 0 ∧ q.2.2.2 = 8 := by decide
theorem ra_97 (h : zV m) (hk : k < 16) : 0 ≤ (m 97 k).toInt ∧ (m 97 k).toInt ≤ 8 := h.2 _ ma_97 k hk
theorem ua_97 (h : zV m) (h1 : 0 ≤ x.toInt) (h2 : x.toInt ≤ 8) : zV (ma_u m 97 k x) := zV_u h (fun q hq g1 g2 => by rw [vn_s q hq] at g1; cases g1) (fun q hq g => by rw [(va_97 q hq g).1, (va_97 q hq g).2]; exact ⟨h1, h2⟩)
theorem ma_98 : (98, 16, 0, 255) ∈ zV_a := by decide
theorem va_98 : ∀ q ∈ zV_a, q.1 = 98 → q.2.2.1 = 0 ∧ q.2.2.2 = 255 := by decide
theorem ra_98 (h : zV m) (hk : k < 16) : 0 ≤ (m 98 k).toInt ∧ (m 98 k).toInt ≤ 255 := h.2 _ ma_98 k hk
theorem ua_98 (h : zV m) (h1 : 0 ≤ x.toInt) (h2 : x.toInt ≤ 255) : zV (ma_u m 98 k x) := zV_u h (fun q hq g1 g2 => by rw [vn_s q hq] at g1; cases g1) (fun q hq g => by rw [(va_98 q hq g).1, (va_98 q hq g).2]; exact ⟨h1, h2⟩)
theorem ma_99 : (99, 3100, 0, 1) ∈ zV_a := by decide
theorem va_99 : ∀ q ∈ zV_a, q.1 = 99 → q.2.2.1 = 0 ∧ q.2.2.2 = 1 := by decide
theorem ra_99 (h : zV m) (hk : k < 3100) : 0 ≤ (m 99 k).toInt ∧ (m 99 k).toInt ≤ 1 := h.2 _ ma_99 k hk
theorem ua_99 (h : zV m) (h1 : 0 ≤ x.toInt) (h2 : x.toInt ≤ 1) : zV (ma_u m 99 k x) := zV_u h (fun q hq g1 g2 => by rw [vn_s q hq] at g1; cases g1) (fun q hq g => by rw [(va_99 q hq g).1, (va_99 q hq g).2]; exact ⟨h1, h2⟩)
theorem ma_100 : (100, 3100, 0, 100000) ∈ zV_a := by decide
theorem va_100 : ∀ q ∈ zV_a, q.1 = 100 → q.2.2.1 = 0 ∧ q.2.2.2 = 100000 := by decide
theorem ra_100 (h : zV m) (hk : k < 3100) : 0 ≤ (m 100 k).toInt ∧ (m 100 k).toInt ≤ 100000 := h.2 _ ma_100 k hk
theorem ua_100 (h : zV m) (h1 : 0 ≤ x.toInt) (h2 : x.toInt ≤ 100000) : zV (ma_u m 100 k x) := zV_u h (fun q hq g1 g2 => by rw [vn_s q hq] at g1; cases g1) (fun q hq g => by rw [(va_100 q hq g).1, (va_100 q hq g).2]; exact ⟨h1, h2⟩)
theorem ma_101 : (101, 3100, 0, 17) ∈ zV_a := by decide
theorem va_101 : ∀ q ∈ zV_a, q.1 = 101 → q.2.2.1 = 0 ∧ q.2.2.2 = 17 := by decide
theorem ra_101 (h : zV m) (hk : k < 3100) : 0 ≤ (m 101 k).toInt ∧ (m 101 k).toInt ≤ 17 := h.2 _ ma_101 k hk
theorem ua_101 (h : zV m) (h1 : 0 ≤ x.toInt) (h2 : x.toInt ≤ 17) : zV (ma_u m 101 k x) := zV_u h (fun q hq g1 g2 => by rw [vn_s q hq] at g1; cases g1) (fun q hq g => by rw [(va_101 q hq g).1, (va_101 q hq g).2]; exact ⟨h1, h2⟩)
theorem ma_102 : (102, 3100, 0, 60) ∈ zV_a := by decide
theorem va_102 : ∀ q ∈ zV_a, q.1 = 102 → q.2.2.1 = 0 ∧ q.2.2.2 = 60 := by decide
theorem ra_102 (h : zV m) (hk : k < 3100) : 0 ≤ (m 102 k).toInt ∧ (m 102 k).toInt ≤ 60 := h.2 _ ma_102 k hk
theorem ua_102 (h : zV m) (h1 : 0 ≤ x.toInt) (h2 : x.toInt ≤ 60) : zV (ma_u m 102 k x) := zV_u h (fun q hq g1 g2 => by rw [vn_s q hq] at g1; cases g1) (fun q hq g => by rw [(va_102 q hq g).1, (va_102 q hq g).2]; exact ⟨h1, h2⟩)
theorem ma_103 : (103, 3100, 0, 4599) ∈ zV_a := by decide
theorem va_103 : ∀ q ∈ zV_a, q.1 = 103 → q.2.2.1 = 0 ∧ q.2.2.2 = 4599 := by decide
theorem ra_103 (h : zV m) (hk : k < 3100) : 0 ≤ (m 103 k).toInt ∧ (m 103 k).toInt ≤ 4599 := h.2 _ ma_103 k hk
theorem ua_103 (h : zV m) (h1 : 0 ≤ x.toInt) (h2 : x.toInt ≤ 4599) : zV (ma_u m 103 k x) := zV_u h (fun q hq g1 g2 => by rw [vn_s q hq] at g1; cases g1) (fun q hq g => by rw [(va_103 q hq g).1, (va_103 q hq g).2]; exact ⟨h1, h2⟩)
theorem ua_104 (h : zV m) : zV (ma_u m 104 k x) := zV_u h (fun q hq g1 g2 => by rw [vn_s q hq] at g1; cases g1) (fun q hq g => absurd g ((by decide : ∀ q ∈ zV_a, q.1 ≠ 104) q hq))
theorem ua_105 (h : zV m) : zV (ma_u m 105 k x) := zV_u h (fun q hq g1 g2 => by rw [vn_s q hq] at g1; cases g1) (fun q hq g => absurd g ((by decide : ∀ q ∈ zV_a, q.1 ≠ 105) q hq))
theorem ua_106 (h : zV m) : zV (ma_u m 106 k x) := zV_u h (fun q hq g1 g2 => by rw [vn_s q hq] at g1; cases g1) (fun q hq g => absurd g ((by decide : ∀ q ∈ zV_a, q.1 ≠ 106) q hq))
theorem ua_107 (h : zV m) : zV (ma_u m 107 k x) := zV_u h (fun q hq g1 g2 => by rw [vn_s q hq] at g1; cases g1) (fun q hq g => absurd g ((by decide : ∀ q ∈ zV_a, q.1 ≠ 107) q hq))
theorem ua_108 (h : zV m) : zV (ma_u m 108 k x) := zV_u h (fun q hq g1 g2 => by rw [vn_s q hq] at g1; cases g1) (fun q hq g => absurd g ((by decide : ∀ q ∈ zV_a, q.1 ≠ 108) q hq))
theorem ma_109 : (109, 3100, 0, 1) ∈ zV_a := by decide
theorem va_109 : ∀ q ∈ zV_a, q.1 = 109 → q.2.2.1 = 0 ∧ q.2.2.2 = 1 := by decide
theorem ra_109 (h : zV m) (hk : k < 3100) : 0 ≤ (m 109 k).toInt ∧ (m 109 k).toInt ≤ 1 := h.2 _ ma_109 k hk
theorem ua_109 (h : zV m) (h1 : 0 ≤ x.toInt) (h2 : x.toInt ≤ 1) : zV (ma_u m 109 k x) := zV_u h (fun q hq g1 g2 => by rw [vn_s q hq] at g1; cases g1) (fun q hq g => by rw [(va_109 q hq g).1, (va_109 q hq g).2]; exact ⟨h1, h2⟩)
theorem ma_110 : (110, 3100, 0, 1) ∈ zV_a := by decide
theorem va_110 : ∀ q ∈ zV_a, q.1 = 110 → q.2.2.1 = 0 ∧ q.2.2.2 = 1 := by decide
theorem ra_110 (h : zV m) (hk : k < 3100) : 0 ≤ (m 110 k).toInt ∧ (m 110 k).toInt ≤ 1 := h.2 _ ma_110 k hk
theorem ua_110 (h : zV m) (h1 : 0 ≤ x.toInt) (h2 : x.toInt ≤ 1) : zV (ma_u m 110 k x) := zV_u h (fun q hq g1 g2 => by rw [vn_s q hq] at g1; cases g1) (fun q hq g => by rw [(va_110 q hq g).1, (va_110 q hq g).2]; exact ⟨h1, h2⟩)
theorem ma_111 : (111, 4600, -1, 3099) ∈ zV_a := by decide
theorem va_111 : ∀ q ∈ zV_a, q.1 = 111 → q.2.2.1 = -1 ∧ q.2.2.2 = 3099 := by decide
theorem ra_111 (h : zV m) (hk : k < 4600) : -1 ≤ (m 111 k).toInt ∧ (m 111 k).toInt ≤ 3099 := h.2 _ ma_111 k hk
theorem ua_111 (h : zV m) (h1 : -1 ≤ x.toInt) (h2 : x.toInt ≤ 3099) : zV (ma_u m 111 k x) := zV_u h (fun q hq g1 g2 => by rw [vn_s q hq] at g1; cases g1) (fun q hq g => by rw [(va_111 q hq g).1, (va_111 q hq g).2]; exact ⟨h1, h2⟩)
theorem ma_112 : (112, 16, -1, 3099) ∈ zV_a := by decide
theorem va_112 : ∀ q ∈ zV_a, q.1 = 112 → q.2.2.1 = -1 ∧ q.2.2.2 = 3099 := by decide
theorem ra_112 (h : zV m) (hk : k < 16) : -1 ≤ (m 112 k).toInt ∧ (m 112 k).toInt ≤ 3099 := h.2 _ ma_112 k hk
theorem ua_112 (h : zV m) (h1 : -1 ≤ x.toInt) (h2 : x.toInt ≤ 3099) : zV (ma_u m 112 k x) := zV_u h (fun q hq g1 g2 => by rw [vn_s q hq] at g1; cases g1) (fun q hq g => by rw [(va_112 q hq g).1, (va_112 q hq g).2]; exact ⟨h1, h2⟩)
theorem ma_113 : (113, 16, -1, 3099) ∈ zV_a := by decide
theorem va_113 : ∀ q ∈ zV_a, q.1 = 113 → q.2.2.1 = -1 ∧ q.2.2.2 = 3099 := by decide
theorem ra_113 (h : zV m) (hk : k < 16) : -1 ≤ (m 113 k).toInt ∧ (m 113 k).toInt ≤ 3099 := h.2 _ ma_113 k hk
theorem ua_113 (h : zV m) (h1 : -1 ≤ x.toInt) (h2 : x.toInt ≤ 3099) : zV (ma_u m 113 k x) := zV_u h (fun q hq g1 g2 => by rw [vn_s q hq] at g1; cases g1) (fun q hq g => by rw [(va_113 q hq g).1, (va_113 q hq g).2]; exact ⟨h1, h2⟩)
theorem ma_114 : (114, 3100, 0, 3099) ∈ zV_a := by decide
theorem va_114 : ∀ q ∈ zV_a, q.1 = 114 → q.2.2.1 = 0 ∧ q.2.2.2 = 3099 := by decide
theorem ra_114 (h : zV m) (hk : k < 3100) : 0 ≤ (m 114 k).toInt ∧ (m 114 k).toInt ≤ 3099 := h.2 _ ma_114 k hk
theorem ua_114 (h : zV m) (h1 : 0 ≤ x.toInt) (h2 : x.toInt ≤ 3099) : zV (ma_u m 114 k x) := zV_u h (fun q hq g1 g2 => by rw [vn_s q hq] at g1; cases g1) (fun q hq g => by rw [(va_114 q hq g).1, (va_114 q hq g).2]; exact ⟨h1, h2⟩)
theorem ma_115 : (115, 3100, 0, 3099) ∈ zV_a := by decide
theorem va_115 : ∀ q ∈ zV_a, q.1 = 115 → q.2.2.1 = 0 ∧ q.2.2.2 = 3099 := by decide
theorem ra_115 (h : zV m) (hk : k < 3100) : 0 ≤ (m 115 k).toInt ∧ (m 115 k).toInt ≤ 3099 := h.2 _ ma_115 k hk
theorem ua_115 (h : zV m) (h1 : 0 ≤ x.toInt) (h2 : x.toInt ≤ 3099) : zV (ma_u m 115 k x) := zV_u h (fun q hq g1 g2 => by rw [vn_s q hq] at g1; cases g1) (fun q hq g => by rw [(va_115 q hq g).1, (va_115 q hq g).2]; exact ⟨h1, h2⟩)
theorem ma_116 : (116, 128, 0, 4600) ∈ zV_a := by decide
theorem va_116 : ∀ q ∈ zV_a, q.1 = 116 → q.2.2.1 = 0 ∧ q.2.2.2 = 4600 := by decide
theorem ra_116 (h : zV m) (hk : k < 128) : 0 ≤ (m 116 k).toInt ∧ (m 116 k).toInt ≤ 4600 := h.2 _ ma_116 k hk
theorem ua_116 (h : zV m) (h1 : 0 ≤ x.toInt) (h2 : x.toInt ≤ 4600) : zV (ma_u m 116 k x) := zV_u h (fun q hq g1 g2 => by rw [vn_s q hq] at g1; cases g1) (fun q hq g => by rw [(va_116 q hq g).1, (va_116 q hq g).2]; exact ⟨h1, h2⟩)
theorem ma_117 : (117, 512, 0, 1) ∈ zV_a := by decide
theorem va_117 : ∀ q ∈ zV_a, q.1 = 117 → q.2.2.1 = 0 ∧ q.2.2.2 = 1 := by decide
theorem ra_117 (h : zV m) (hk : k < 512) : 0 ≤ (m 117 k).toInt ∧ (m 117 k).toInt ≤ 1 := h.2 _ ma_117 k hk
theorem ua_117 (h : zV m) (h1 : 0 ≤ x.toInt) (h2 : x.toInt ≤ 1) : zV (ma_u m 117 k x) := zV_u h (fun q hq g1 g2 => by rw [vn_s q hq] at g1; cases g1) (fun q hq g => by rw [(va_117 q hq g).1, (va_117 q hq g).2]; exact ⟨h1, h2⟩)
theorem ma_118 : (118, 3100, 0, 3099) ∈ zV_a := by decide
theorem va_118 : ∀ q ∈ zV_a, q.1 = 118 → q.2.2.1 = 0 ∧ q.2.2.2 = 3099 := by decide
theorem ra_118 (h : zV m) (hk : k < 3100) : 0 ≤ (m 118 k).toInt ∧ (m 118 k).toInt ≤ 3099 := h.2 _ ma_118 k hk
theorem ua_118 (h : zV m) (h1 : 0 ≤ x.toInt) (h2 : x.toInt ≤ 3099) : zV (ma_u m 118 k x) := zV_u h (fun q hq g1 g2 => by rw [vn_s q hq] at g1; cases g1) (fun q hq g => by rw [(va_118 q hq g).1, (va_118 q hq g).2]; exact ⟨h1, h2⟩)
theorem ma_119 : (119, 3100, 0, 3099) ∈ zV_a := by decide
theorem va_119 : ∀ q ∈ zV_a, q.1 = 119 → q.2.2.1 = 0 ∧ q.2.2.2 = 3099 := by decide
theorem ra_119 (h : zV m) (hk : k < 3100) : 0 ≤ (m 119 k).toInt ∧ (m 119 k).toInt ≤ 3099 := h.2 _ ma_119 k hk
theorem ua_119 (h : zV m) (h1 : 0 ≤ x.toInt) (h2 : x.toInt ≤ 3099) : zV (ma_u m 119 k x) := zV_u h (fun q hq g1 g2 => by rw [vn_s q hq] at g1; cases g1) (fun q hq g => by rw [(va_119 q hq g).1, (va_119 q hq g).2]; exact ⟨h1, h2⟩)
theorem ma_120 : (120, 3100, 0, 3099) ∈ zV_a := by decide
theorem va_120 : ∀ q ∈ zV_a, q.1 = 120 → q.2.2.1 = 0 ∧ q.2.2.2 = 3099 := by decide
theorem ra_120 (h : zV m) (hk : k < 3100) : 0 ≤ (m 120 k).toInt ∧ (m 120 k).toInt ≤ 3099 := h.2 _ ma_120 k hk
theorem ua_120 (h : zV m) (h1 : 0 ≤ x.toInt) (h2 : x.toInt ≤ 3099) : zV (ma_u m 120 k x) := zV_u h (fun q hq g1 g2 => by rw [vn_s q hq] at g1; cases g1) (fun q hq g => by rw [(va_120 q hq g).1, (va_120 q hq g).2]; exact ⟨h1, h2⟩)
theorem ma_121 : (121, 3100, 0, 60) ∈ zV_a := by decide
theorem va_121 : ∀ q ∈ zV_a, q.1 = 121 → q.2.2.1 = 0 ∧ q.2.2.2 = 60 := by decide
theorem ra_121 (h : zV m) (hk : k < 3100) : 0 ≤ (m 121 k).toInt ∧ (m 121 k).toInt ≤ 60 := h.2 _ ma_121 k hk
theorem ua_121 (h : zV m) (h1 : 0 ≤ x.toInt) (h2 : x.toInt ≤ 60) : zV (ma_u m 121 k x) := zV_u h (fun q hq g1 g2 => by rw [vn_s q hq] at g1; cases g1) (fun q hq g => by rw [(va_121 q hq g).1, (va_121 q hq g).2]; exact ⟨h1, h2⟩)
theorem ua_122 (h : zV m) : zV (ma_u m 122 k x) := zV_u h (fun q hq g1 g2 => by rw [vn_s q hq] at g1; cases g1) (fun q hq g => absurd g ((by decide : ∀ q ∈ zV_a, q.1 ≠ 122) q hq))
theorem ma_123 : (123, 128, 0, 1) ∈ zV_a := by decide
theorem va_123 : ∀ q ∈ zV_a, q.1 = 123 → q.2.2.1 = 0 ∧ q.2.2.2 = 1 := by decide
theorem ra_123 (h : zV m) (hk : k < 128) : 0 ≤ (m 123 k).toInt ∧ (m 123 k).toInt ≤ 1 := h.2 _ ma_123 k hk
theorem ua_123 (h : zV m) (h1 : 0 ≤ x.toInt) (h2 : x.toInt ≤ 1) : zV (ma_u m 123 k x) := zV_u h (fun q hq g1 g2 => by rw [vn_s q hq] at g1; cases g1) (fun q hq g => by rw [(va_123 q hq g).1, (va_123 q hq g).2]; exact ⟨h1, h2⟩)
theorem ma_124 : (124, 128, 0, 1) ∈ zV_a := by decide
theorem va_124 : ∀ q ∈ zV_a, q.1 = 124 → q.2.2.1 = 0 ∧ q.2.2.2 = 1 := by decide
theorem ra_124 (h : zV m) (hk : k < 128) : 0 ≤ (m 124 k).toInt ∧ (m 124 k).toInt ≤ 1 := h.2 _ ma_124 k hk
theorem ua_124 (h : zV m) (h1 : 0 ≤ x.toInt) (h2 : x.toInt ≤ 1) : zV (ma_u m 124 k x) := zV_u h (fun q hq g1 g2 => by rw [vn_s q hq] at g1; cases g1) (fun q hq g => by rw [(va_124 q hq g).1, (va_124 q hq g).2]; exact ⟨h1, h2⟩)
end ZV1

/-! from 94.3lib -/
/-! counting, and what the reference keeps -/
def cnt (r : Nat → Int32) : Nat → Nat
  | 0 => 0
  | n + 1 => cnt r n + (if r n = 0 then 0 else 1)
section CN1
variable {r : Nat → Int32} {n k : Nat} {m : Nat → Nat → Int32} {c : Nat} {x : Int32}
theorem cnt_le : cnt r n ≤ n := by
  induction n with
  | zero => exact Nat.le_refl _
  | succ n ih => unfold cnt; split <;> omega
theorem cnt_congr {r₉ : Nat → Int32} (h : ∀ j, j < n → (r j = 0 ↔ r₉ j = 0)) : cnt r n = cnt r₉ n := by
  induction n with
  | zero => rfl
  | succ n ih =>
    unfold cnt
    rw [ih (fun j hj => h j (by omega))]
    have := h n (by omega)
    by_cases e : r n = 0
    · rw [if_pos e, if_pos (this.mp e)]
    · rw [if_neg e, if_neg (fun z => e (this.mpr z))]
theorem cnt_mono {r₉ : Nat → Int32} (h : ∀ j, j < n → r j ≠ 0 → r₉ j ≠ 0) : cnt r n ≤ cnt r₉ n := by
  induction n with
  | zero => exact Nat.le_refl _
  | succ n ih =>
    unfold cnt
    have i := ih (fun j hj => h j (by omega))
    have := h n (by omega)
    by_cases e : r n = 0
    · rw [if_pos e]; omega
    · rw [if_neg e, if_neg (this e)]; omega
theorem mu_at (j : Nat) : ma_u m c k x c j = if j = k then x else m c j := ma_u_at m c k x j
theorem mu_self : ma_u m c k x c k = x := by rw [mu_at, if_pos rfl]
theorem mu_ne {j : Nat} (h : j ≠ k) : ma_u m c k x c j = m c j := by rw [mu_at, if_neg h]
/-- one more -/
theorem cnt_up (hk : k < n) (h0 : m c k = 0) (hx : x ≠ 0) : cnt (ma_u m c k x c) n = cnt (m c) n + 1 := by
  induction n with
  | zero => omega
  | succ n ih =>
    unfold cnt
    by_cases e : n = k
    · subst e
      rw [mu_self, if_neg hx, if_pos h0]
      have : cnt (ma_u m c n x c) n = cnt (m c) n := cnt_congr (fun j hj => by rw [mu_ne (by omega)])
      omega
    · rw [mu_ne e, ih (by omega)]
      omega
/-- one less -/
theorem cnt_dn (hk : k < n) (h0 : m c k ≠ 0) : cnt (ma_u m c k 0 c) n + 1 = cnt (m c) n := by
  induction n with
  | zero => omega
  | succ n ih =>
    unfold cnt
    by_cases e : n = k
    · subst e
      rw [mu_self, if_pos rfl, if_neg h0]
      have : cnt (ma_u m c n 0 c) n = cnt (m c) n := cnt_congr (fun j hj => by rw [mu_ne (by omega)])
      omega
    · rw [mu_ne e]
      have := ih (by omega)
      omega
theorem cnt_u1 (hx : x ≠ 0) : cnt (m c) n ≤ cnt (ma_u m c k x c) n := by
  refine cnt_mono (fun j _ h => ?_)
  rw [mu_at]
  split
  · exact hx
  · exact h
theorem cnt_u0 : cnt (ma_u m c k 0 c) n ≤ cnt (m c) n := by
  refine cnt_mono (fun j _ h => ?_)
  rw [mu_at] at h
  split at h
  · exact absurd rfl h
  · exact h
theorem cnt_ub : cnt (ma_u m c k x c) n ≤ cnt (m c) n + 1 := by
  by_cases hk : k < n
  · by_cases hx : x = 0
    · rw [hx]; have := cnt_u0 (m := m) (c := c) (k := k) (n := n); omega
    · by_cases h0 : m c k = 0
      · rw [cnt_up hk h0 hx]; exact Nat.le_refl _
      · have : cnt (ma_u m c k x c) n = cnt (m c) n := cnt_congr (fun j hj => by
          rw [mu_at]
          split
          · next e => subst e; exact ⟨fun z => absurd z hx, fun z => absurd z h0⟩
          · exact Iff.rfl)
        omega
  · have : cnt (ma_u m c k x c) n = cnt (m c) n := cnt_congr (fun j hj => by rw [mu_ne (by omega)])
    omega
theorem cnt_lt (hk : k < n) (h0 : r k = 0) : cnt r n < n := by
  induction n with
  | zero => omega
  | succ n ih =>
    unfold cnt
    by_cases e : n = k
    · subst e
      rw [if_pos h0]
      have := cnt_le (r := r) (n := n)
      omega
    · have := ih (by omega)
      split <;> omega
theorem cnt_pos (hk : k < n) (h0 : r k ≠ 0) : 0 < cnt r n := by
  induction n with
  | zero => omega
  | succ n ih =>
    unfold cnt
    by_cases e : n = k
    · subst e
      rw [if_neg h0]
      omega
    · have := ih (by omega)
      omega
theorem cnt_all (h : ∀ j, j < n → r j ≠ 0) : cnt r n = n := by
  induction n with
  | zero => rfl
  | succ n ih =>
    unfold cnt
    rw [ih (fun j hj => h j (by omega)), if_neg (h n (by omega))]
end CN1
/-- what a word of that slot refers to -/
def zrf (kr kd wd : Nat → Int32) (s i : Nat) : Int32 := if kd s = 16 then wd (60 * s + i) else if kd s < 16 ∧ ((kr (kd s).toNatClampNeg >>> (Int32.ofNat i &&& 31)) &&& 1) = 1 then wd (60 * s + i) else -1
/-- words that refer, refer to slots; kinds are there -/
def zW (ks : Int32) (kr kd ws wd : Nat → Int32) : Prop := ∀ s, s < 3100 → (∀ i : Nat, (i : Int) < (ws s).toInt → -1 ≤ (zrf kr kd wd s i).toInt ∧ (zrf kr kd wd s i).toInt ≤ 3099) ∧ ((ws s).toInt = 0 ∨ 16 ≤ (kd s).toInt ∨ (kd s).toInt < ks.toInt)
/-- no more on the stack than are kept -/
def zKS (kp : Nat → Int32) (z : Int32) : Prop := z.toInt ≤ (cnt kp 3100 : Int)
def zMu (kp : Nat → Int32) (z : Int32) : Nat := 2 * (3100 - cnt kp 3100) + z.toInt.toNat
theorem KS_push {m : Nat → Nat → Int32} {c k : Nat} {z x y : Int32} (h : zKS (m c) z) (h0 : m c k = 0) (hk : k < 3100) (hx : x ≠ 0) (hy : y.toInt = z.toInt + 1) : zKS (ma_u m c k x c) y := by
  unfold zKS at h ⊢
  rw [cnt_up hk h0 hx]
  omega
theorem KS_room {r : Nat → Int32} {k : Nat} {z : Int32} (h : zKS r z) (h0 : r k = 0) (hk : k < 3100) : z.toInt < 3100 := by
  unfold zKS at h
  have := cnt_lt hk h0
  omega
theorem KS_dec {r : Nat → Int32} {z y : Int32} (h : zKS r z) (hy : y.toInt ≤ z.toInt) : zKS r y := by
  unfold zKS at h ⊢
  omega
theorem KS_0 {r : Nat → Int32} {y : Int32} (hy : y.toInt ≤ 0) : zKS r y := by
  unfold zKS
  omega
theorem Mu_push {m : Nat → Nat → Int32} {c k : Nat} {z x y : Int32} (hz : 0 ≤ z.toInt) (h0 : m c k = 0) (hk : k < 3100) (hx : x ≠ 0) (hy : y.toInt = z.toInt + 1) : zMu (ma_u m c k x c) y + 1 = zMu (m c) z := by
  unfold zMu
  rw [cnt_up hk h0 hx]
  have := cnt_lt hk h0
  omega
theorem Mu_pop {r : Nat → Int32} {z y : Int32} (hz : 0 < z.toInt) (hy : y.toInt = z.toInt - 1) : zMu r y + 1 = zMu r z := by
  unfold zMu
  omega
theorem tn_eq {x : Int32} : x.toNatClampNeg = x.toInt.toNat := rfl
theorem ix_word {s i : Int32} (h1 : 0 ≤ s.toInt) (h2 : s.toInt ≤ 3099) (h3 : 0 ≤ i.toInt) (h4 : i.toInt ≤ 60) : (s * (60 : Int32) + i).toNatClampNeg = 60 * s.toNatClampNeg + i.toNatClampNeg := by
  have e1 : (s * (60 : Int32)).toInt = s.toInt * 60 := i_mulk rfl (by omega) (by omega)
  have e2 : (s * (60 : Int32) + i).toInt = (s * (60 : Int32)).toInt + i.toInt := i_add (by omega) (by omega)
  rw [tn_eq, tn_eq, tn_eq]
  omega
theorem ofNat_tn {i : Int32} (h : 0 ≤ i.toInt) : Int32.ofNat i.toNatClampNeg = i := by
  apply Int32.toInt_inj.mp
  have := i_bd i
  rw [Int32.toInt_ofNat_of_lt (by rw [tn_eq]; omega), tn_eq]
  omega
theorem zrf_eq {kr kd wd : Nat → Int32} {s i : Int32} (h1 : 0 ≤ s.toInt) (h2 : s.toInt ≤ 3099) (h3 : 0 ≤ i.toInt) (h4 : i.toInt ≤ 60) : zrf kr kd wd s.toNatClampNeg i.toNatClampNeg = if kd s.toNatClampNeg = 16 then wd (s * (60 : Int32) + i).toNatClampNeg else if kd s.toNatClampNeg < 16 ∧ ((kr (kd s.toNatClampNeg).toNatClampNeg >>> (i &&& 31)) &&& 1) = 1 then wd (s * (60 : Int32) + i).toNatClampNeg else -1 := by
  unfold zrf
  rw [ix_word h1 h2 h3 h4, ofNat_tn h3]
theorem W_ref {ks : Int32} {kr kd ws wd : Nat → Int32} (h : zW ks kr kd ws wd) {s i : Int32} {v : Int32} (h1 : 0 ≤ s.toInt) (h2 : s.toInt ≤ 3099) (h3 : 0 ≤ i.toInt) (h4 : i.toInt < (ws s.toNatClampNeg).toInt) (e : v = zrf kr kd wd s.toNatClampNeg i.toNatClampNeg) : -1 ≤ v.toInt ∧ v.toInt ≤ 3099 := by
  rw [e]
  exact (h s.toNatClampNeg (by rw [tn_eq]; omega)).1 i.toNatClampNeg (by rw [tn_eq]; omega)
/-- wishes: those in WISHES and those to come are no more than T -/
def zGW (T : Nat) (z : Int32) (wi : Nat → Int32) : Prop := z.toInt + (cnt wi 3100 : Int) ≤ (T : Int) ∧ T ≤ 3000
theorem GW_take {T : Nat} {m : Nat → Nat → Int32} {c k : Nat} {z y : Int32} (h : zGW T z (m c)) (h0 : m c k ≠ 0) (hk : k < 3100) (hy : y.toInt = z.toInt + 1) : zGW T y (ma_u m c k 0 c) := by
  have := cnt_dn hk h0
  refine ⟨?_, h.2⟩
  have := h.1
  omega
theorem GW_room {T : Nat} {r : Nat → Int32} {z : Int32} (h : zGW T z r) : z.toInt ≤ 3000 := by
  have := h.1
  have := h.2
  omega
theorem GW_le {T : Nat} {r : Nat → Int32} {z y : Int32} (h : zGW T z r) (hy : y.toInt ≤ z.toInt) : zGW T y r := ⟨by have := h.1; omega, h.2⟩
theorem GW_0 {T : Nat} {m : Nat → Nat → Int32} {c k : Nat} {z : Int32} (h : zGW T z (m c)) : zGW T z (ma_u m c k 0 c) := by
  have := cnt_u0 (m := m) (c := c) (k := k) (n := 3100)
  exact ⟨by have := h.1; omega, h.2⟩
/-- slots in use are no more than were made, and those no more than T -/
def zGU (T : Nat) (nu : Int32) (us : Nat → Int32) : Prop := (cnt us 3100 : Int) ≤ nu.toInt ∧ nu.toInt ≤ (T : Int) ∧ T ≤ 3000
theorem GU_0 {T : Nat} {m : Nat → Nat → Int32} {c k : Nat} {z : Int32} (h : zGU T z (m c)) : zGU T z (ma_u m c k 0 c) := by
  have := cnt_u0 (m := m) (c := c) (k := k) (n := 3100)
  exact ⟨by have := h.1; omega, h.2⟩
/-- who begins at a place is there, and is in use -/
def zOw (us at₉ ow : Nat → Int32) : Prop := ∀ p, p < 4600 → 0 ≤ (ow p).toInt → us (ow p).toNatClampNeg ≠ 0 ∧ (at₉ (ow p).toNatClampNeg).toInt = (p : Int)
/-- who might be granted -/
def zWS (nr us kp wi : Nat → Int32) (a v : Int32) : Prop := v.toInt = -1 ∨ (0 ≤ v.toInt ∧ v.toInt ≤ 3099 ∧ us v.toNatClampNeg ≠ 0 ∧ kp v.toNatClampNeg = 0 ∧ wi v.toNatClampNeg ≠ 0 ∧ a.toInt < (nr v.toNatClampNeg).toInt)
def zmg (nr : Nat → Int32) (s : Int32) : Nat := if s.toInt < 0 then 0 else 100001 - (nr s.toNatClampNeg).toInt.toNat
theorem zmg_lt {nr us kp wi : Nat → Int32} {s a v : Int32} (hs : 0 ≤ s.toInt) (h : zWS nr us kp wi a v) (ha : a = nr s.toNatClampNeg) (h0 : 0 ≤ (nr s.toNatClampNeg).toInt) (h1 : (nr s.toNatClampNeg).toInt ≤ 100000) : zmg nr v < zmg nr s := by
  unfold zmg
  rcases h with e | ⟨e1, e2, e3, e4, e5, e6⟩
  · split <;> split <;> omega
  · rw [ha] at e6
    split <;> split <;> omega
theorem tn_cast {x : Int32} (h : 0 ≤ x.toInt) : ((x.toNatClampNeg : Nat) : Int) = x.toInt := by
  rw [tn_eq]
  omega
theorem tn_succ {x y : Int32} (h : 0 ≤ x.toInt) (e : y.toInt = x.toInt + 1) : y.toNatClampNeg = x.toNatClampNeg + 1 := by
  rw [tn_eq, tn_eq]
  omega
theorem z0_step {m : Nat → Nat → Int32} {c : Nat} {i j : Int32} (h : ∀ s : Nat, (s : Int) < i.toInt → m c s = 0) (h0 : 0 ≤ i.toInt) (e : j.toInt = i.toInt + 1) : ∀ s : Nat, (s : Int) < j.toInt → ma_u m c i.toNatClampNeg 0 c s = 0 := by
  intro s hs
  rw [mu_at]
  split
  · rfl
  · next q => exact h s (by rw [tn_eq] at q; omega)
theorem z0_all {r : Nat → Int32} {i : Int32} (h : ∀ s : Nat, (s : Int) < i.toInt → r s = 0) (e : 3100 ≤ i.toInt) : ∀ s : Nat, s < 3100 → r s = 0 := fun s hs => h s (by omega)

/-! from 94.3m -/
/-! what is kept: closed under what its words refer to -/
def zcl (kp kr kd wd : Nat → Int32) (s i : Nat) : Prop := (zrf kr kd wd s i).toInt < 0 ∨ kp (zrf kr kd wd s i).toNatClampNeg ≠ 0
/-- those on the stack are kept; of those kept, each is on the stack, or done, or the one at work (done up to i) -/
def zCL (kp kr kd ws wd st : Nat → Int32) (z : Int32) (cur i : Nat) : Prop :=
  (∀ j : Nat, (j : Int) < z.toInt → kp (st j).toNatClampNeg ≠ 0) ∧ (cur < 3100 → kp cur ≠ 0) ∧
  ∀ s, s < 3100 → kp s ≠ 0 → (∃ j : Nat, (j : Int) < z.toInt ∧ (st j).toNatClampNeg = s) ∨ (∀ i₉ : Nat, (i₉ : Int) < (ws s).toInt → zcl kp kr kd wd s i₉) ∨ (s = cur ∧ ∀ i₉, i₉ < i → zcl kp kr kd wd s i₉)
def zle (r r₉ : Nat → Int32) : Prop := ∀ j, j < 3100 → r j ≠ 0 → r₉ j ≠ 0
def zcov (kp rt : Nat → Int32) (n : Int) : Prop := ∀ k : Nat, (k : Int) < n → (rt k).toInt < 0 ∨ kp (rt k).toNatClampNeg ≠ 0
/-- by halves and by ages: nothing refers to a slot that is not in use -/
def zDX (po : Int32) (us rt wk wi : Nat → Int32) (wm : Int32) (kr kd ws wd : Nat → Int32) : Prop := (po.toInt = 2 ∨ po.toInt = 3) → zcov us rt 16 ∧ zcov us wk 16 ∧ zcov us wi wm.toInt ∧ ∀ s, s < 3100 → us s ≠ 0 → ∀ i : Nat, (i : Int) < (ws s).toInt → zcl us kr kd wd s i
def zKU (po : Int32) (us kp : Nat → Int32) : Prop := (po.toInt = 2 ∨ po.toInt = 3) → ∀ s, s < 3100 → kp s ≠ 0 → us s ≠ 0
section CL1
variable {m ms : Nat → Nat → Int32} {c d k cur i : Nat} {kp kr kd ws wd st us rt wk wi : Nat → Int32} {z x y v po wm : Int32}
theorem mu_mono {j : Nat} (hx : x ≠ 0) (h : m c j ≠ 0) : ma_u m c k x c j ≠ 0 := by
  rw [mu_at]
  split
  · exact hx
  · exact h
theorem mu_back {j : Nat} (hj : j ≠ k) (h : ma_u m c k x c j ≠ 0) : m c j ≠ 0 := by
  rw [mu_ne hj] at h
  exact h
theorem zcl_mono {s : Nat} (hx : x ≠ 0) (h : zcl (m c) kr kd wd s i) : zcl (ma_u m c k x c) kr kd wd s i := h.elim Or.inl (fun z => Or.inr (mu_mono hx z))
theorem CL_push (h : zCL (m c) kr kd ws wd (ms d) z cur i) (hx : x ≠ 0) (hz : 0 ≤ z.toInt) (hv : v.toNatClampNeg = k) (hy : y.toInt = z.toInt + 1) : zCL (ma_u m c k x c) kr kd ws wd (ma_u ms d z.toNatClampNeg v d) y cur i := by
  obtain ⟨h1, h2, h3⟩ := h
  have hzn : z.toNatClampNeg = z.toInt.toNat := rfl
  refine ⟨fun j hj => ?_, fun hc => mu_mono hx (h2 hc), fun s hs hk => ?_⟩
  · by_cases e : j = z.toNatClampNeg
    · rw [e, mu_self, hv, mu_self]; exact hx
    · rw [mu_ne e]; exact mu_mono hx (h1 j (by omega))
  · by_cases e : s = k
    · exact Or.inl ⟨z.toNatClampNeg, by omega, by rw [mu_self, hv, e]⟩
    · rcases h3 s hs (mu_back e hk) with ⟨j, hj, hs2⟩ | q | ⟨q1, q2⟩
      · exact Or.inl ⟨j, by omega, by rw [mu_ne (by omega)]; exact hs2⟩
      · exact Or.inr (Or.inl (fun i₉ hi => zcl_mono hx (q i₉ hi)))
      · exact Or.inr (Or.inr ⟨q1, fun i₉ hi => zcl_mono hx (q2 i₉ hi)⟩)
theorem CL_adv {i2 : Nat} (h : zCL kp kr kd ws wd st z cur i) (hr : zcl kp kr kd wd cur i) (e : i2 = i + 1) : zCL kp kr kd ws wd st z cur i2 := by
  subst e
  refine ⟨h.1, h.2.1, fun s hs hk => ?_⟩
  rcases h.2.2 s hs hk with q | q | ⟨q1, q2⟩
  · exact Or.inl q
  · exact Or.inr (Or.inl q)
  · refine Or.inr (Or.inr ⟨q1, fun i₉ hi => ?_⟩)
    by_cases e : i₉ = i
    · rw [e, q1]; exact hr
    · exact q2 i₉ (by omega)
theorem CL_done (h : zCL kp kr kd ws wd st z cur i) (hi : (ws cur).toInt ≤ (i : Int)) : zCL kp kr kd ws wd st z 3100 0 := by
  refine ⟨h.1, fun e => absurd e (by decide), fun s hs hk => ?_⟩
  rcases h.2.2 s hs hk with q | q | ⟨q1, q2⟩
  · exact Or.inl q
  · exact Or.inr (Or.inl q)
  · refine Or.inr (Or.inl (fun i₉ hi₉ => q2 i₉ ?_))
    rw [q1] at hi₉
    omega
theorem CL_pop (h : zCL kp kr kd ws wd st z 3100 i) (hz : 0 < z.toInt) (hy : y.toInt = z.toInt - 1) (hc : cur = (st y.toNatClampNeg).toNatClampNeg) : zCL kp kr kd ws wd st y cur 0 := by
  have hyn : y.toNatClampNeg = y.toInt.toNat := rfl
  refine ⟨fun j hj => h.1 j (by omega), fun _ => by rw [hc]; exact h.1 _ (by omega), fun s hs hk => ?_⟩
  rcases h.2.2 s hs hk with ⟨j, hj, hs2⟩ | q | ⟨q1, q2⟩
  · by_cases e : j = y.toNatClampNeg
    · refine Or.inr (Or.inr ⟨?_, fun i₉ hi => absurd hi (Nat.not_lt_zero _)⟩)
      rw [hc, ← e, hs2]
    · exact Or.inl ⟨j, by omega, hs2⟩
  · exact Or.inr (Or.inl q)
  · omega
theorem CL_none (h : ∀ s, s < 3100 → kp s = 0) (hz : z.toInt = 0) : zCL kp kr kd ws wd st z 3100 0 :=
  ⟨fun j hj => by omega, fun e => absurd e (by decide), fun s hs hk => absurd (h s hs) hk⟩
theorem zle_rfl : zle kp kp := fun _ _ h => h
theorem zle_push {r : Nat → Int32} (h : zle r (m c)) (hx : x ≠ 0) : zle r (ma_u m c k x c) := fun j hj q => mu_mono hx (h j hj q)
theorem zle_tr {r r₉ : Nat → Int32} (h : zle r r₉) (h₉ : zle r₉ kp) : zle r kp := fun j hj q => h₉ j hj (h j hj q)
theorem cov_push {n : Int} (h : zcov (m c) rt n) (hx : x ≠ 0) : zcov (ma_u m c k x c) rt n := fun j hj => (h j hj).elim Or.inl (fun q => Or.inr (mu_mono hx q))
theorem cov_le {n : Int} {kp₉ : Nat → Int32} (h : zcov kp rt n) (hl : zle kp kp₉) (hb : ∀ j : Nat, (j : Int) < n → (rt j).toInt ≤ 3099) : zcov kp₉ rt n := by
  intro j hj
  rcases h j hj with q | q
  · exact Or.inl q
  · refine Or.inr (hl _ ?_ q)
    have := hb j hj
    rw [tn_eq]; omega
theorem cov_one {n n2 : Int} {j : Int32} (h : zcov kp rt n) (hj : j.toInt = n) (hn : n2 = n + 1) (h0 : 0 ≤ n) (hk : (rt j.toNatClampNeg).toInt < 0 ∨ kp (rt j.toNatClampNeg).toNatClampNeg ≠ 0) : zcov kp rt n2 := by
  intro q hq
  have hjn : j.toNatClampNeg = j.toInt.toNat := rfl
  by_cases e : q = j.toNatClampNeg
  · rw [e]; exact hk
  · exact h q (by omega)
theorem cov_0 {n : Int} (h : n ≤ 0) : zcov kp rt n := fun q hq => by omega
theorem cov_cut {n n2 : Int} (h : zcov kp rt n) (hn : n2 ≤ n) : zcov kp rt n2 := fun q hq => h q (by omega)
theorem KU_push (h : zKU po us (m c)) (hu : (po.toInt = 2 ∨ po.toInt = 3) → us k ≠ 0) : zKU po us (ma_u m c k x c) := by
  intro hp s hs hk
  by_cases e : s = k
  · rw [e]; exact hu hp
  · exact h hp s hs (mu_back e hk)
/-- what a kept one refers to is in use -/
theorem KU_ref (h : zKU po us kp) (hD : zDX po us rt wk wi wm kr kd ws wd) (hcur : cur < 3100) (hk : kp cur ≠ 0) (hi : (i : Int) < (ws cur).toInt) (hv : v = zrf kr kd wd cur i) (h0 : 0 ≤ v.toInt) (hp : po.toInt = 2 ∨ po.toInt = 3) : us v.toNatClampNeg ≠ 0 := by
  have := (hD hp).2.2.2 cur hcur (h hp cur hcur hk) i hi
  rw [hv]
  rw [hv] at h0
  exact this.elim (fun q => by omega) id
theorem KU_root {n : Int} (hD : zcov us rt n) {j : Int32} (hj : j.toInt < n) (h0j : 0 ≤ j.toInt) (hv : v = rt j.toNatClampNeg) (h0 : 0 ≤ v.toInt) : us v.toNatClampNeg ≠ 0 := by
  have hjn : j.toNatClampNeg = j.toInt.toNat := rfl
  have := hD j.toNatClampNeg (by omega)
  rw [hv]
  rw [hv] at h0
  exact this.elim (fun q => by omega) id
theorem KU_none (h : ∀ s, s < 3100 → kp s = 0) : zKU po us kp := fun _ s hs hk => absurd (h s hs) hk
end CL1

