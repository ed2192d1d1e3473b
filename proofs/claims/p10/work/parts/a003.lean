/-! from 94.0v -/
/-! bounds of the reference: fields, rows -/
def zV_s : List (Nat × Nat × Int × Int) := [(94, 3, 0, 100), (94, 4, 0, 100), (94, 7, 0, 16), (94, 8, 0, 1), (94, 9, 0, 1), (94, 10, 0, 6), (94, 11, 0, 1500), (94, 13, 0, 1500), (94, 14, 0, 1500), (94, 16, 0, 64), (94, 18, 0, 256), (94, 20, -1, 6), (94, 21, 0, 1500), (94, 23, 0, 1500), (94, 24, 0, 1500), (94, 26, 0, 64), (94, 28, 0, 256), (94, 30, 0, 1), (94, 46, 0, 100000), (94, 55, 0, 3100), (94, 56, 0, 3100), (94, 57, 0, 3100), (94, 58, 0, 1), (94, 59, 0, 4600), (94, 60, 0, 1600), (94, 61, 0, 1), (94, 62, 0, 4600), (94, 63, 0, 127), (94, 64, 0, 93), (94, 67, 0, 100), (94, 68, 0, 100), (94, 69, 0, 100), (94, 70, 0, 100), (94, 73, 0, 3100), (94, 75, 0, 3100), (94, 76, 0, 3100), (94, 77, 0, 4600), (94, 80, 0, 3100), (94, 84, 0, 4600)]
def zV_a : List (Nat × Nat × Int × Int) := [(97, 16, 0, 8), (98, 16, 0, 255), (99, 3100, 0, 1), (100, 3100, 0, 100000), (101, 3100, 0, 17), (102, 3100, 0, 60), (103, 3100, 0, 4599), (109, 3100, 0, 1), (110, 3100, 0, 1), (111, 4600, -1, 3099), (112, 16, -1, 3099), (113, 16, -1, 3099), (114, 3100, 0, 3099), (115, 3100, 0, 3099), (116, 128, 0, 4600), (117, 512, 0, 1), (118, 3100, 0, 3099), (119, 3100, 0, 3099), (120, 3100, 0, 3099), (121, 3100, 0, 60), (123, 128, 0, 1), (124, 128, 0, 1)]
def zV (m : Nat → Nat → Int32) : Prop := (∀ q ∈ zV_s, q.2.2.1 ≤ (m q.1 q.2.1).toInt ∧ (m q.1 q.2.1).toInt ≤ q.2.2.2) ∧ ∀ q ∈ zV_a, ∀ k, k < q.2.1 → q.2.2.1 ≤ (m q.1 k).toInt ∧ (m q.1 k).toInt ≤ q.2.2.2
section ZV1
variable {m : Nat → Nat → Int32} {c k : Nat} {x : Int32}
theorem zV_u (h : zV m) (h2 : ∀ q ∈ zV_s, q.1 = c → q.2.1 = k → q.2.2.1 ≤ x.toInt ∧ x.toInt ≤ q.2.2.2) (h4 : ∀ q ∈ zV_a, q.1 = c → q.2.2.1 ≤ x.toInt ∧ x.toInt ≤ q.2.2.2) : zV (ma_u m c k x) := by
  have rd : ∀ c₉ k₉, ma_u m c k x c₉ k₉ = if c₉ = c ∧ k₉ = k then x else m c₉ k₉ := fun _ _ => rfl
  refine ⟨fun q hq => ?_, fun q hq k₉ hk => ?_⟩
  · rw [rd]
    split
    · next z => exact h2 q hq z.1 z.2
    · exact h.1 q hq
  · rw [rd]
    split
    · next z => exact h4 q hq z.1
    · exact h.2 q hq k₉ hk
theorem va_94 : ∀ q ∈ zV_a, q.1 ≠ 94 := by decide
theorem ms_94_3 : (94, 3, 0, 100) ∈ zV_s := by decide
theorem vs_94_3 : ∀ q ∈ zV_s, q.1 = 94 → q.2.1 = 3 → q.2.2.1 = 0 ∧ q.2.2.2 = 100 := by decide
theorem rs_94_3 (h : zV m) : 0 ≤ (m 94 3).toInt ∧ (m 94 3).toInt ≤ 100 := h.1 _ ms_94_3
theorem us_94_3 (h : zV m) (h1 : 0 ≤ x.toInt) (h2 : x.toInt ≤ 100) : zV (ma_u m 94 3 x) := zV_u h (fun q hq g1 g2 => by rw [(vs_94_3 q hq g1 g2).1, (vs_94_3 q hq g1 g2).2]; exact ⟨h1, h2⟩) (fun q hq g => absurd g (va_94 q hq))
theorem ms_94_4 : (94, 4, 0, 100) ∈ zV_s := by decide
theorem vs_94_4 : ∀ q ∈ zV_s, q.1 = 94 → q.2.1 = 4 → q.2.2.1 = 0 ∧ q.2.2.2 = 100 := by decide
theorem rs_94_4 (h : zV m) : 0 ≤ (m 94 4).toInt ∧ (m 94 4).toInt ≤ 100 := h.1 _ ms_94_4
theorem us_94_4 (h : zV m) (h1 : 0 ≤ x.toInt) (h2 : x.toInt ≤ 100) : zV (ma_u m 94 4 x) := zV_u h (fun q hq g1 g2 => by rw [(vs_94_4 q hq g1 g2).1, (vs_94_4 q hq g1 g2).2]; exact ⟨h1, h2⟩) (fun q hq g => absurd g (va_94 q hq))
theorem ms_94_7 : (94, 7, 0, 16) ∈ zV_s := by decide
theorem vs_94_7 : ∀ q ∈ zV_s, q.1 = 94 → q.2.1 = 7 → q.2.2.1 = 0 ∧ q.2.2.2 = 16 := by decide
theorem rs_94_7 (h : zV m) : 0 ≤ (m 94 7).toInt ∧ (m 94 7).toInt ≤ 16 := h.1 _ ms_94_7
theorem us_94_7 (h : zV m) (h1 : 0 ≤ x.toInt) (h2 : x.toInt ≤ 16) : zV (ma_u m 94 7 x) := zV_u h (fun q hq g1 g2 => by rw [(vs_94_7 q hq g1 g2).1, (vs_94_7 q hq g1 g2).2]; exact ⟨h1, h2⟩) (fun q hq g => absurd g (va_94 q hq))
theorem ms_94_8 : (94, 8, 0, 1) ∈ zV_s := by decide
theorem vs_94_8 : ∀ q ∈ zV_s, q.1 = 94 → q.2.1 = 8 → q.2.2.1 = 0 ∧ q.2.2.2 = 1 := by decide
theorem rs_94_8 (h : zV m) : 0 ≤ (m 94 8).toInt ∧ (m 94 8).toInt ≤ 1 := h.1 _ ms_94_8
theorem us_94_8 (h : zV m) (h1 : 0 ≤ x.toInt) (h2 : x.toInt ≤ 1) : zV (ma_u m 94 8 x) := zV_u h (fun q hq g1 g2 => by rw [(vs_94_8 q hq g1 g2).1, (vs_94_8 q hq g1 g2).2]; exact ⟨h1, h2⟩) (fun q hq g => absurd g (va_94 q hq))
theorem ms_94_9 : (94, 9, 0, 1) ∈ zV_s := by decide
theorem vs_94_9 : ∀ q ∈ zV_s, q.1 = 94 → q.2.1 = 9 → q.2.2.1 = 0 ∧ q.2.2.2 = 1 := by decide
theorem rs_94_9 (h : zV m) : 0 ≤ (m 94 9).toInt ∧ (m 94 9).toInt ≤ 1 := h.1 _ ms_94_9
theorem us_94_9 (h : zV m) (h1 : 0 ≤ x.toInt) (h2 : x.toInt ≤ 1) : zV (ma_u m 94 9 x) := zV_u h (fun q hq g1 g2 => by rw [(vs_94_9 q hq g1 g2).1, (vs_94_9 q hq g1 g2).2]; exact ⟨h1, h2⟩) (fun q hq g => absurd g (va_94 q hq))
theorem ms_94_10 : (94, 10, 0, 6) ∈ zV_s := by decide
theorem vs_94_10 : ∀ q ∈ zV_s, q.1 = 94 → q.2.1 = 10 → q.2.2.1 = 0 ∧ q.2.2.2 = 6 := by decide
theorem rs_94_10 (h : zV m) : 0 ≤ (m 94 10).toInt ∧ (m 94 10).toInt ≤ 6 := h.1 _ ms_94_10
theorem us_94_10 (h : zV m) (h1 : 0 ≤ x.toInt) (h2 : x.toInt ≤ 6) : zV (ma_u m 94 10 x) := zV_u h (fun q hq g1 g2 => by rw [(vs_94_10 q hq g1 g2).1, (vs_94_10 q hq g1 g2).2]; exact ⟨h1, h2⟩) (fun q hq g => absurd g (va_94 q hq))
theorem ms_94_11 : (94, 11, 0, 1500) ∈ zV_s := by decide
theorem vs_94_11 : ∀ q ∈ zV_s, q.1 = 94 → q.2.1 = 11 → q.2.2.1 = 0 ∧ q.2.2.2 = 1500 := by decide
theorem rs_94_11 (h : zV m) : 0 ≤ (m 94 11).toInt ∧ (m 94 11).toInt ≤ 1500 := h.1 _ ms_94_11
theorem us_94_11 (h : zV m) (h1 : 0 ≤ x.toInt) (h2 : x.toInt ≤ 1500) : zV (ma_u m 94 11 x) := zV_u h (fun q hq g1 g2 => by rw [(vs_94_11 q hq g1 g2).1, (vs_94_11 q hq g1 g2).2]; exact ⟨h1, h2⟩) (fun q hq g => absurd g (va_94 q hq))
theorem ms_94_13 : (94, 13, 0, 1500) ∈ zV_s := by decide
theorem vs_94_13 : ∀ q ∈ zV_s, q.1 = 94 → q.2.1 = 13 → q.2.2.1 = 0 ∧ q.2.2.2 = 1500 := by decide
theorem rs_94_13 (h : zV m) : 0 ≤ (m 94 13).toInt ∧ (m 94 13).toInt ≤ 1500 := h.1 _ ms_94_13
theorem us_94_13 (h : zV m) (h1 : 0 ≤ x.toInt) (h2 : x.toInt ≤ 1500) : zV (ma_u m 94 13 x) := zV_u h (fun q hq g1 g2 => by rw [(vs_94_13 q hq g1 g2).1, (vs_94_13 q hq g1 g2).2]; exact ⟨h1, h2⟩) (fun q hq g => absurd g (va_94 q hq))
theorem ms_94_14 : (94, 14, 0, 1500) ∈ zV_s := by decide
theorem vs_94_14 : ∀ q ∈ zV_s, q.1 = 94 → q.2.1 = 14 → q.2.2.1 = 0 ∧ q.2.2.2 = 1500 := by decide
theorem rs_94_14 (h : zV m) : 0 ≤ (m 94 14).toInt ∧ (m 94 14).toInt ≤ 1500 := h.1 _ ms_94_14
theorem us_94_14 (h : zV m) (h1 : 0 ≤ x.toInt) (h2 : x.toInt ≤ 1500) : zV (ma_u m 94 14 x) := zV_u h (fun q hq g1 g2 => by rw [(vs_94_14 q hq g1 g2).1, (vs_94_14 q hq g1 g2).2]; exact ⟨h1, h2⟩) (fun q hq g => absurd g (va_94 q hq))
theorem ms_94_16 : (94, 16, 0, 64) ∈ zV_s := by decide
theorem vs_94_16 : ∀ q ∈ zV_s, q.1 = 94 → q.2.1 = 16 → q.2.2.1 = 0 ∧ q.2.2.2 = 64 := by decide
theorem rs_94_16 (h : zV m) : 0 ≤ (m 94 16).toInt ∧ (m 94 16).toInt ≤ 64 := h.1 _ ms_94_16
theorem us_94_16 (h : zV m) (h1 : 0 ≤ x.toInt) (h2 : x.toInt ≤ 64) : zV (ma_u m 94 16 x) := zV_u h (fun q hq g1 g2 => by rw [(vs_94_16 q hq g1 g2).1, (vs_94_16 q hq g1 g2).2]; exact ⟨h1, h2⟩) (fun q hq g => absurd g (va_94 q hq))
theorem ms_94_18 : (94, 18, 0, 256) ∈ zV_s := by decide
theorem vs_94_18 : ∀ q ∈ zV_s, q.1 = 94 → q.2.1 = 18 → q.2.2.1 = 0 ∧ q.2.2.2 = 256 := by decide
theorem rs_94_18 (h : zV m) : 0 ≤ (m 94 18).toInt ∧ (m 94 18).toInt ≤ 256 := h.1 _ ms_94_18
theorem us_94_18 (h : zV m) (h1 : 0 ≤ x.toInt) (h2 : x.toInt ≤ 256) : zV (ma_u m 94 18 x) := zV_u h (fun q hq g1 g2 => by rw [(vs_94_18 q hq g1 g2).1, (vs_94_18 q hq g1 g2).2]; exact ⟨h1, h2⟩) (fun q hq g => absurd g (va_94 q hq))
theorem ms_94_20 : (94, 20, -1, 6) ∈ zV_s := by decide
theorem vs_94_20 : ∀ q ∈ zV_s, q.1 = 94 → q.2.1 = 20 → q.2.2.1 = -1 ∧ q.2.2.2 = 6 := by decide
theorem rs_94_20 (h : zV m) : -1 ≤ (m 94 20).toInt ∧ (m 94 20).toInt ≤ 6 := h.1 _ ms_94_20
theorem us_94_20 (h : zV m) (h1 : -1 ≤ x.toInt) (h2 : x.toInt ≤ 6) : zV (ma_u m 94 20 x) := zV_u h (fun q hq g1 g2 => by rw [(vs_94_20 q hq g1 g2).1, (vs_94_20 q hq g1 g2).2]; exact ⟨h1, h2⟩) (fun q hq g => absurd g (va_94 q hq))
theorem ms_94_21 : (94, 21, 0, 1500) ∈ zV_s := by decide
theorem vs_94_21 : ∀ q ∈ zV_s, q.1 = 94 → q.2.1 = 21 → q.2.2.1 = 0 ∧ q.2.2.2 = 1500 := by decide
theorem rs_94_21 (h : zV m) : 0 ≤ (m 94 21).toInt ∧ (m 94 21).toInt ≤ 1500 := h.1 _ ms_94_21
theorem us_94_21 (h : zV m) (h1 : 0 ≤ x.toInt) (h2 : x.toInt ≤ 1500) : zV (ma_u m 94 21 x) := zV_u h (fun q hq g1 g2 => by rw [(vs_94_21 q hq g1 g2).1, (vs_94_21 q hq g1 g2).2]; exact ⟨h1, h2⟩) (fun q hq g => absurd g (va_94 q hq))
theorem ms_94_23 : (94, 23, 0, 1500) ∈ zV_s := by decide
theorem vs_94_23 : ∀ q ∈ zV_s, q.1 = 94 → q.2.1 = 23 → q.2.2.1 = 0 ∧ q.2.2.2 = 1500 := by decide
theorem rs_94_23 (h : zV m) : 0 ≤ (m 94 23).toInt ∧ (m 94 23).toInt ≤ 1500 := h.1 _ ms_94_23
theorem us_94_23 (h : zV m) (h1 : 0 ≤ x.toInt) (h2 : x.toInt ≤ 1500) : zV (ma_u m 94 23 x) := zV_u h (fun q hq g1 g2 => by rw [(vs_94_23 q hq g1 g2).1, (vs_94_23 q hq g1 g2).2]; exact ⟨h1, h2⟩) (fun q hq g => absurd g (va_94 q hq))
theorem ms_94_24 : (94, 24, 0, 1500) ∈ zV_s := by decide
theorem vs_94_24 : ∀ q ∈ zV_s, q.1 = 94 → q.2.1 = 24 → q.2.2.1 = 0 ∧ q.2.2.2 = 1500 := by decide
theorem rs_94_24 (h : zV m) : 0 ≤ (m 94 24).toInt ∧ (m 94 24).toInt ≤ 1500 := h.1 _ ms_94_24
theorem us_94_24 (h : zV m) (h1 : 0 ≤ x.toInt) (h2 : x.toInt ≤ 1500) : zV (ma_u m 94 24 x) := zV_u h (fun q hq g1 g2 => by rw [(vs_94_24 q hq g1 g2).1, (vs_94_24 q hq g1 g2).2]; exact ⟨h1, h2⟩) (fun q hq g => absurd g (va_94 q hq))
theorem ms_94_26 : (94, 26, 0, 64) ∈ zV_s := by decide
theorem vs_94_26 : ∀ q ∈ zV_s, q.1 = 94 → q.2.1 = 26 → q.2.2.1 = 0 ∧ q.2.2.2 = 64 := by decide
theorem rs_94_26 (h : zV m) : 0 ≤ (m 94 26).toInt ∧ (m 94 26).toInt ≤ 64 := h.1 _ ms_94_26
theorem us_94_26 (h : zV m) (h1 : 0 ≤ x.toInt) (h2 : x.toInt ≤ 64) : zV (ma_u m 94 26 x) := zV_u h (fun q hq g1 g2 => by rw [(vs_94_26 q hq g1 g2).1, (vs_94_26 q hq g1 g2).2]; exact ⟨h1, h2⟩) (fun q hq g => absurd g (va_94 q hq))
theorem ms_94_28 : (94, 28, 0, 256) ∈ zV_s := by decide
theorem vs_94_28 : ∀ q ∈ zV_s, q.1 = 94 → q.2.1 = 28 → q.2.2.1 = 0 ∧ q.2.2.2 = 256 := by decide
theorem rs_94_28 (h : zV m) : 0 ≤ (m 94 28).toInt ∧ (m 94 28).toInt ≤ 256 := h.1 _ ms_94_28
theorem us_94_28 (h : zV m) (h1 : 0 ≤ x.toInt) (h2 : x.toInt ≤ 256) : zV (ma_u m 94 28 x) := zV_u h (fun q hq g1 g2 => by rw [(vs_94_28 q hq g1 g2).1, (vs_94_28 q hq g1 g2).2]; exact ⟨h1, h2⟩) (fun q hq g => absurd g (va_94 q hq))
theorem ms_94_30 : (94, 30, 0, 1) ∈ zV_s := by decide
theorem vs_94_30 : ∀ q ∈ zV_s, q.1 = 94 → q.2.1 = 30 → q.2.2.1 = 0 ∧ q.2.2.2 = 1 := by decide
theorem rs_94_30 (h : zV m) : 0 ≤ (m 94 30).toInt ∧ (m 94 30).toInt ≤ 1 := h.1 _ ms_94_30
theorem us_94_30 (h : zV m) (h1 : 0 ≤ x.toInt) (h2 : x.toInt ≤ 1) : zV (ma_u m 94 30 x) := zV_u h (fun q hq g1 g2 => by rw [(vs_94_30 q hq g1 g2).1, (vs_94_30 q hq g1 g2).2]; exact ⟨h1, h2⟩) (fun q hq g => absurd g (va_94 q hq))
theorem ms_94_46 : (94, 46, 0, 100000) ∈ zV_s := by decide
theorem vs_94_46 : ∀ q ∈ zV_s, q.1 = 94 → q.2.1 = 46 → q.2.2.1 = 0 ∧ q.2.2.2 = 100000 := by decide
theorem rs_94_46 (h : zV m) : 0 ≤ (m 94 46).toInt ∧ (m 94 46).toInt ≤ 100000 := h.1 _ ms_94_46
theorem us_94_46 (h : zV m) (h1 : 0 ≤ x.toInt) (h2 : x.toInt ≤ 100000) : zV (ma_u m 94 46 x) := zV_u h (fun q hq g1 g2 => by rw [(vs_94_46 q hq g1 g2).1, (vs_94_46 q hq g1 g2).2]; exact ⟨h1, h2⟩) (fun q hq g => absurd g (va_94 q hq))
theorem ms_94_55 : (94, 55, 0, 3100) ∈ zV_s := by decide
theorem vs_94_55 : ∀ q ∈ zV_s, q.1 = 94 → q.2.1 = 55 → q.2.2.1 = 0 ∧ q.2.2.2 = 3100 := by decide
theorem rs_94_55 (h : zV m) : 0 ≤ (m 94 55).toInt ∧ (m 94 55).toInt ≤ 3100 := h.1 _ ms_94_55
theorem us_94_55 (h : zV m) (h1 : 0 ≤ x.toInt) (h2 : x.toInt ≤ 3100) : zV (ma_u m 94 55 x) := zV_u h (fun q hq g1 g2 => by rw [(vs_94_55 q hq g1 g2).1, (vs_94_55 q hq g1 g2).2]; exact ⟨h1, h2⟩) (fun q hq g => absurd g (va_94 q hq))
theorem ms_94_56 : (94, 56, 0, 3100) ∈ zV_s := by decide
theorem vs_94_56 : ∀ q ∈ zV_s, q.1 = 94 → q.2.1 = 56 → q.2.2.1 = 0 ∧ q.2.2.2 = 3100 := by decide
theorem rs_94_56 (h : zV m) : 0 ≤ (m 94 56).toInt ∧ (m 94 56).toInt ≤ 3100 := h.1 _ ms_94_56
theorem us_94_56 (h : zV m) (h1 : 0 ≤ x.toInt) (h2 : x.toInt ≤ 3100) : zV (ma_u m 94 56 x) := zV_u h (fun q hq g1 g2 => by rw [(vs_94_56 q hq g1 g2).1, (vs_94_56 q hq g1 g2).2]; exact ⟨h1, h2⟩) (fun q hq g => absurd g (va_94 q hq))
theorem ms_94_57 : (94, 57, 0, 3100) ∈ zV_s := by decide
theorem vs_94_57 : ∀ q ∈ zV_s, q.1 = 94 → q.2.1 = 57 → q.2.2.1 = 0 ∧ q.2.2.2 = 3100 := by decide
theorem rs_94_57 (h : zV m) : 0 ≤ (m 94 57).toInt ∧ (m 94 57).toInt ≤ 3100 := h.1 _ ms_94_57
theorem us_94_57 (h : zV m) (h1 : 0 ≤ x.toInt) (h2 : x.toInt ≤ 3100) : zV (ma_u m 94 57 x) := zV_u h (fun q hq g1 g2 => by rw [(vs_94_57 q hq g1 g2).1, (vs_94_57 q hq g1 g2).2]; exact ⟨h1, h2⟩) (fun q hq g => absurd g (va_94 q hq))
theorem ms_94_58 : (94, 58, 0, 1) ∈ zV_s := by decide
theorem vs_94_58 : ∀ q ∈ zV_s, q.1 = 94 → q.2.1 = 58 → q.2.2.1 = 0 ∧ q.2.2.2 = 1 := by decide
theorem rs_94_58 (h : zV m) : 0 ≤ (m 94 58).toInt ∧ (m 94 58).toInt ≤ 1 := h.1 _ ms_94_58
theorem us_94_58 (h : zV m) (h1 : 0 ≤ x.toInt) (h2 : x.toInt ≤ 1) : zV (ma_u m 94 58 x) := zV_u h (fun q hq g1 g2 => by rw [(vs_94_58 q hq g1 g2).1, (vs_94_58 q hq g1 g2).2]; exact ⟨h1, h2⟩) (fun q hq g => absurd g (va_94 q hq))
theorem ms_94_59 : (94, 59, 0, 4600) ∈ zV_s := by decide
theorem vs_94_59 : ∀ q ∈ zV_s, q.1 = 94 → q.2.1 = 59 → q.2.2.1 = 0 ∧ q.2.2.2 = 4600 := by decide
theorem rs_94_59 (h : zV m) : 0 ≤ (m 94 59).toInt ∧ (m 94 59).toInt ≤ 4600 := h.1 _ ms_94_59
theorem us_94_59 (h : zV m) (h1 : 0 ≤ x.toInt) (h2 : x.toInt ≤ 4600) : zV (ma_u m 94 59 x) := zV_u h (fun q hq g1 g2 => by rw [(vs_94_59 q hq g1 g2).1, (vs_94_59 q hq g1 g2).2]; exact ⟨h1, h2⟩) (fun q hq g => absurd g (va_94 q hq))
theorem ms_94_60 : (94, 60, 0, 1600) ∈ zV_s := by decide
theorem vs_94_60 : ∀ q ∈ zV_s, q.1 = 94 → q.2.1 = 60 → q.2.2.1 = 0 ∧ q.2.2.2 = 1600 := by decide
theorem rs_94_60 (h : zV m) : 0 ≤ (m 94 60).toInt ∧ (m 94 60).toInt ≤ 1600 := h.1 _ ms_94_60
theorem us_94_60 (h : zV m) (h1 : 0 ≤ x.toInt) (h2 : x.toInt ≤ 1600) : zV (ma_u m 94 60 x) := zV_u h (fun q hq g1 g2 => by rw [(vs_94_60 q hq g1 g2).1, (vs_94_60 q hq g1 g2).2]; exact ⟨h1, h2⟩) (fun q hq g => absurd g (va_94 q hq))
theorem ms_94_61 : (94, 61, 0, 1) ∈ zV_s := by decide
theorem vs_94_61 : ∀ q ∈ zV_s, q.1 = 94 → q.2.1 = 61 → q.2.2.1 = 0 ∧ q.2.2.2 = 1 := by decide
theorem rs_94_61 (h : zV m) : 0 ≤ (m 94 61).toInt ∧ (m 94 61).toInt ≤ 1 := h.1 _ ms_94_61
theorem us_94_61 (h : zV m) (h1 : 0 ≤ x.toInt) (h2 : x.toInt ≤ 1) : zV (ma_u m 94 61 x) := zV_u h (fun q hq g1 g2 => by rw [(vs_94_61 q hq g1 g2).1, (vs_94_61 q hq g1 g2).2]; exact ⟨h1, h2⟩) (fun q hq g => absurd g (va_94 q hq))
theorem ms_94_62 : (94, 62, 0, 4600) ∈ zV_s := by decide
theorem vs_94_62 : ∀ q ∈ zV_s, q.1 = 94 → q.2.1 = 62 → q.2.2.1 = 0 ∧ q.2.2.2 = 4600 := by decide
theorem rs_94_62 (h : zV m) : 0 ≤ (m 94 62).toInt ∧ (m 94 62).toInt ≤ 4600 := h.1 _ ms_94_62
theorem us_94_62 (h : zV m) (h1 : 0 ≤ x.toInt) (h2 : x.toInt ≤ 4600) : zV (ma_u m 94 62 x) := zV_u h (fun q hq g1 g2 => by rw [(vs_94_62 q hq g1 g2).1, (vs_94_62 q hq g1 g2).2]; exact ⟨h1, h2⟩) (fun q hq g => absurd g (va_94 q hq))
theorem ms_94_63 : (94, 63, 0, 127) ∈ zV_s := by decide
theorem vs_94_63 : ∀ q ∈ zV_s, q.1 = 94 → q.2.1 = 63 → q.2.2.1 = 0 ∧ q.2.2.2 = 127 := by decide
theorem rs_94_63 (h : zV m) : 0 ≤ (m 94 63).toInt ∧ (m 94 63).toInt ≤ 127 := h.1 _ ms_94_63
theorem us_94_63 (h : zV m) (h1 : 0 ≤ x.toInt) (h2 : x.toInt ≤ 127) : zV (ma_u m 94 63 x) := zV_u h (fun q hq g1 g2 => by rw [(vs_94_63 q hq g1 g2).1, (vs_94_63 q hq g1 g2).2]; exact ⟨h1, h2⟩) (fun q hq g => absurd g (va_94 q hq))
theorem ms_94_64 : (94, 64, 0, 93) ∈ zV_s := by decide
theorem vs_94_64 : ∀ q ∈ zV_s, q.1 = 94 → q.2.1 = 64 → q.2.2.1 = 0 ∧ q.2.2.2 = 93 := by decide
theorem rs_94_64 (h : zV m) : 0 ≤ (m 94 64).toInt ∧ (m 94 64).toInt ≤ 93 := h.1 _ ms_94_64
theorem us_94_64 (h : zV m) (h1 : 0 ≤ x.toInt) (h2 : x.toInt ≤ 93) : zV (ma_u m 94 64 x) := zV_u h (fun q hq g1 g2 => by rw [(vs_94_64 q hq g1 g2).1, (vs_94_64 q hq g1 g2).2]; exact ⟨h1, h2⟩) (fun q hq g => absurd g (va_94 q hq))
theorem ms_94_67 : (94, 67, 0, 100) ∈ zV_s := by decide
theorem vs_94_67 : ∀ q ∈ zV_s, q.1 = 94 → q.2.1 = 67 → q.2.2.1 = 0 ∧ q.2.2.2 = 100 := by decide
theorem rs_94_67 (h : zV m) : 0 ≤ (m 94 67).toInt ∧ (m 94 67).toInt ≤ 100 := h.1 _ ms_94_67
theorem us_94_67 (h : zV m) (h1 : 0 ≤ x.toInt) (h2 : x.toInt ≤ 100) : zV (ma_u m 94 67 x) := zV_u h (fun q hq g1 g2 => by rw [(vs_94_67 q hq g1 g2).1, (vs_94_67 q hq g1 g2).2]; exact ⟨h1, h2⟩) (fun q hq g => absurd g (va_94 q hq))
theorem ms_94_68 : (94, 68, 0, 100) ∈ zV_s := by decide
theorem vs_94_68 : ∀ q ∈ zV_s, q.1 = 94 → q.2.1 = 68 → q.2.2.1 = 0 ∧ q.2.2.2 = 100 := by decide
theorem rs_94_68 (h : zV m) : 0 ≤ (m 94 68).toInt ∧ (m 94 68).toInt ≤ 100 := h.1 _ ms_94_68
theorem us_94_68 (h : zV m) (h1 : 0 ≤ x.toInt) (h2 : x.toInt ≤ 100) : zV (ma_u m 94 68 x) := zV_u h (fun q hq g1 g2 => by rw [(vs_94_68 q hq g1 g2).1, (vs_94_68 q hq g1 g2).2]; exact ⟨h1, h2⟩) (fun q hq g => absurd g (va_94 q hq))
theorem ms_94_69 : (94, 69, 0, 100) ∈ zV_s := by decide
theorem vs_94_69 : ∀ q ∈ zV_s, q.1 = 94 → q.2.1 = 69 → q.2.2.1 = 0 ∧ q.2.2.2 = 100 := by decide
theorem rs_94_69 (h : zV m) : 0 ≤ (m 94 69).toInt ∧ (m 94 69).toInt ≤ 100 := h.1 _ ms_94_69
theorem us_94_69 (h : zV m) (h1 : 0 ≤ x.toInt) (h2 : x.toInt ≤ 100) : zV (ma_u m 94 69 x) := zV_u h (fun q hq g1 g2 => by rw [(vs_94_69 q hq g1 g2).1, (vs_94_69 q hq g1 g2).2]; exact ⟨h1, h2⟩) (fun q hq g => absurd g (va_94 q hq))
theorem ms_94_70 : (94, 70, 0, 100) ∈ zV_s := by decide
theorem vs_94_70 : ∀ q ∈ zV_s, q.1 = 94 → q.2.1 = 70 → q.2.2.1 = 0 ∧ q.2.2.2 = 100 := by decide
theorem rs_94_70 (h : zV m) : 0 ≤ (m 94 70).toInt ∧ (m 94 70).toInt ≤ 100 := h.1 _ ms_94_70
theorem us_94_70 (h : zV m) (h1 : 0 ≤ x.toInt) (h2 : x.toInt ≤ 100) : zV (ma_u m 94 70 x) := zV_u h (fun q hq g1 g2 => by rw [(vs_94_70 q hq g1 g2).1, (vs_94_70 q hq g1 g2).2]; exact ⟨h1, h2⟩) (fun q hq g => absurd g (va_94 q hq))
theorem ms_94_73 : (94, 73, 0, 3100) ∈ zV_s := by decide
theorem vs_94_73 : ∀ q ∈ zV_s, q.1 = 94 → q.2.1 = 73 → q.2.2.1 = 0 ∧ q.2.2.2 = 3100 := by decide
theorem rs_94_73 (h : zV m) : 0 ≤ (m 94 73).toInt ∧ (m 94 73).toInt ≤ 3100 := h.1 _ ms_94_73
theorem us_94_73 (h : zV m) (h1 : 0 ≤ x.toInt) (h2 : x.toInt ≤ 3100) : zV (ma_u m 94 73 x) := zV_u h (fun q hq g1 g2 => by rw [(vs_94_73 q hq g1 g2).1, (vs_94_73 q hq g1 g2).2]; exact ⟨h1, h2⟩) (fun q hq g => absurd g (va_94 q hq))
theorem ms_94_75 : (94, 75, 0, 3100) ∈ zV_s := by decide
theorem vs_94_75 : ∀ q ∈ zV_s, q.1 = 94 → q.2.1 = 75 → q.2.2.1 = 0 ∧ q.2.2.2 = 3100 := by decide
theorem rs_94_75 (h : zV m) : 0 ≤ (m 94 75).toInt ∧ (m 94 75).toInt ≤ 3100 := h.1 _ ms_94_75
theorem us_94_75 (h : zV m) (h1 : 0 ≤ x.toInt) (h2 : x.toInt ≤ 3100) : zV (ma_u m 94 75 x) := zV_u h (fun q hq g1 g2 => by rw [(vs_94_75 q hq g1 g2).1, (vs_94_75 q hq g1 g2).2]; exact ⟨h1, h2⟩) (fun q hq g => absurd g (va_94 q hq))
theorem ms_94_76 : (94, 76, 0, 3100) ∈ zV_s := by decide
theorem vs_94_76 : ∀ q ∈ zV_s, q.1 = 94 → q.2.1 = 76 → q.2.2.1 = 0 ∧ q.2.2.2 = 3100 := by decide
theorem rs_94_76 (h : zV m) : 0 ≤ (m 94 76).toInt ∧ (m 94 76).toInt ≤ 3100 := h.1 _ ms_94_76
theorem us_94_76 (h : zV m) (h1 : 0 ≤ x.toInt) (h2 : x.toInt ≤ 3100) : zV (ma_u m 94 76 x) := zV_u h (fun q hq g1 g2 => by rw [(vs_94_76 q hq g1 g2).1, (vs_94_76 q hq g1 g2).2]; exact ⟨h1, h2⟩) (fun q hq g => absurd g (va_94 q hq))
theorem ms_94_77 : (94, 77, 0, 4600) ∈ zV_s := by decide
theorem vs_94_77 : ∀ q ∈ zV_s, q.1 = 94 → q.2.1 = 77 → q.2.2.1 = 0 ∧ q.2.2.2 = 4600 := by decide
theorem rs_94_77 (h : zV m) : 0 ≤ (m 94 77).toInt ∧ (m 94 77).toInt ≤ 4600 := h.1 _ ms_94_77
theorem us_94_77 (h : zV m) (h1 : 0 ≤ x.toInt) (h2 : x.toInt ≤ 4600) : zV (ma_u m 94 77 x) := zV_u h (fun q hq g1 g2 => by rw [(vs_94_77 q hq g1 g2).1, (vs_94_77 q hq g1 g2).2]; exact ⟨h1, h2⟩) (fun q hq g => absurd g (va_94 q hq))
theorem ms_94_80 : (94, 80, 0, 3100) ∈ zV_s := by decide
theorem vs_94_80 : ∀ q ∈ zV_s, q.1 = 94 → q.2.1 = 80 → q.2.2.1 = 0 ∧ q.2.2.2 = 3100 := by decide
theorem rs_94_80 (h : zV m) : 0 ≤ (m 94 80).toInt ∧ (m 94 80).toInt ≤ 3100 := h.1 _ ms_94_80
theorem us_94_80 (h : zV m) (h1 : 0 ≤ x.toInt) (h2 : x.toInt ≤ 3100) : zV (ma_u m 94 80 x) := zV_u h (fun q hq g1 g2 => by rw [(vs_94_80 q hq g1 g2).1, (vs_94_80 q hq g1 g2).2]; exact ⟨h1, h2⟩) (fun q hq g => absurd g (va_94 q hq))
theorem ms_94_84 : (94, 84, 0, 4600) ∈ zV_s := by decide
theorem vs_94_84 : ∀ q ∈ zV_s, q.1 = 94 → q.2.1 = 84 → q.2.2.1 = 0 ∧ q.2.2.2 = 4600 := by decide
theorem rs_94_84 (h : zV m) : 0 ≤ (m 94 84).toInt ∧ (m 94 84).toInt ≤ 4600 := h.1 _ ms_94_84
theorem us_94_84 (h : zV m) (h1 : 0 ≤ x.toInt) (h2 : x.toInt ≤ 4600) : zV (ma_u m 94 84 x) := zV_u h (fun q hq g1 g2 => by rw [(vs_94_84 q hq g1 g2).1, (vs_94_84 q hq g1 g2).2]; exact ⟨h1, h2⟩) (fun q hq g => absurd g (va_94 q hq))
theorem uf_94_0 (h : zV m) : zV (ma_u m 94 0 x) := zV_u h (fun q hq g1 g2 => absurd g2 ((by decide : ∀ q ∈ zV_s, q.2.1 ≠ 0) q hq)) (fun q hq g => absurd g (va_94 q hq))
theorem uf_94_12 (h : zV m) : zV (ma_u m 94 12 x) := zV_u h (fun q hq g1 g2 => absurd g2 ((by decide : ∀ q ∈ zV_s, q.2.1 ≠ 12) q hq)) (fun q hq g => absurd g (va_94 q hq))
theorem uf_94_15 (h : zV m) : zV (ma_u m 94 15 x) := zV_u h (fun q hq g1 g2 => absurd g2 ((by decide : ∀ q ∈ zV_s, q.2.1 ≠ 15) q hq)) (fun q hq g => absurd g (va_94 q hq))
theorem uf_94_17 (h : zV m) : zV (ma_u m 94 17 x) := zV_u h (fun q hq g1 g2 => absurd g2 ((by decide : ∀ q ∈ zV_s, q.2.1 ≠ 17) q hq)) (fun q hq g => absurd g (va_94 q hq))
theorem uf_94_19 (h : zV m) : zV (ma_u m 94 19 x) := zV_u h (fun q hq g1 g2 => absurd g2 ((by decide : ∀ q ∈ zV_s, q.2.1 ≠ 19) q hq)) (fun q hq g => absurd g (va_94 q hq))
theorem uf_94_22 (h : zV m) : zV (ma_u m 94 22 x) := zV_u h (fun q hq g1 g2 => absurd g2 ((by decide : ∀ q ∈ zV_s, q.2.1 ≠ 22) q hq)) (fun q hq g => absurd g (va_94 q hq))
theorem uf_94_25 (h : zV m) : zV (ma_u m 94 25 x) := zV_u h (fun q hq g1 g2 => absurd g2 ((by decide : ∀ q ∈ zV_s, q.2.1 ≠ 25) q hq)) (fun q hq g => absurd g (va_94 q hq))
theorem uf_94_27 (h : zV m) : zV (ma_u m 94 27 x) := zV_u h (fun q hq g1 g2 => absurd g2 ((by decide : ∀ q ∈ zV_s, q.2.1 ≠ 27) q hq)) (fun q hq g => absurd g (va_94 q hq))
theorem uf_94_29 (h : zV m) : zV (ma_u m 94 29 x) := zV_u h (fun q hq g1 g2 => absurd g2 ((by decide : ∀ q ∈ zV_s, q.2.1 ≠ 29) q hq)) (fun q hq g => absurd g (va_94 q hq))
theorem uf_94_44 (h : zV m) : zV (ma_u m 94 44 x) := zV_u h (fun q hq g1 g2 => absurd g2 ((by decide : ∀ q ∈ zV_s, q.2.1 ≠ 44) q hq)) (fun q hq g => absurd g (va_94 q hq))
theorem uf_94_45 (h : zV m) : zV (ma_u m 94 45 x) := zV_u h (fun q hq g1 g2 => absurd g2 ((by decide : ∀ q ∈ zV_s, q.2.1 ≠ 45) q hq)) (fun q hq g => absurd g (va_94 q hq))
theorem uf_94_47 (h : zV m) : zV (ma_u m 94 47 x) := zV_u h (fun q hq g1 g2 => absurd g2 ((by decide : ∀ q ∈ zV_s, q.2.1 ≠ 47) q hq)) (fun q hq g => absurd g (va_94 q hq))
theorem uf_94_48 (h : zV m) : zV (ma_u m 94 48 x) := zV_u h (fun q hq g1 g2 => absurd g2 ((by decide : ∀ q ∈ zV_s, q.2.1 ≠ 48) q hq)) (fun q hq g => absurd g (va_94 q hq))
theorem uf_94_49 (h : zV m) : zV (ma_u m 94 49 x) := zV_u h (fun q hq g1 g2 => absurd g2 ((by decide : ∀ q ∈ zV_s, q.2.1 ≠ 49) q hq)) (fun q hq g => absurd g (va_94 q hq))
theorem uf_94_50 (h : zV m) : zV (ma_u m 94 50 x) := zV_u h (fun q hq g1 g2 => absurd g2 ((by decide : ∀ q ∈ zV_s, q.2.1 ≠ 50) q hq)) (fun q hq g => absurd g (va_94 q hq))
theorem uf_94_71 (h : zV m) : zV (ma_u m 94 71 x) := zV_u h (fun q hq g1 g2 => absurd g2 ((by decide : ∀ q ∈ zV_s, q.2.1 ≠ 71) q hq)) (fun q hq g => absurd g (va_94 q hq))
theorem vn_s : ∀ q ∈ zV_s, q.1 = 94 := by decide
theorem ua_95 (h : zV m) : zV (ma_u m 95 k x) := zV_u h (fun q hq g1 g2 => by rw [vn_s q hq] at g1; cases g1) (fun q hq g => absurd g ((by decide : ∀ q ∈ zV_a, q.1 ≠ 95) q hq))
theorem ua_96 (h : zV m) : zV (ma_u m 96 k x) := zV_u h (fun q hq g1 g2 => by rw [vn_s q hq] at g1; cases g1) (fun q hq g => absurd g ((by decide : ∀ q ∈ zV_a, q.1 ≠ 96) q hq))
theorem ma_97 : (97, 16, 0, 8) ∈ zV_a := by decide
theorem va_97 : ∀ q ∈ zV_a, q.1 = 97 → q.2.2.1 = 0 ∧ q.2.2.2 = 8 := by decide
theorem ra_97 (h : zV m) (hk : k < 16) : 0 ≤ (m 97 k).toInt ∧ (m 97 k).toInt ≤ 8 := h.2 _ ma_97 k hk
theorem ua_97 (h : zV m) (h1 : 0 ≤ x.toInt) (h2 : x.toInt ≤ 8) : zV (ma_u m 97 k x) := zV_u h (fun q hq g1 g2 => by rw [vn_s q hq] at g1; cases g1) (fun q hq g => by rw [(va_97 q hq g).1, (va_97 q hq g).2]; exact ⟨h1, h2⟩)
theorem ma_98 : (98, 16, 0, 255) ∈ zV_a := by decide
theorem va_98 : ∀ q ∈ zV_a, q.1 = 98 → q.2.2.1 = 0 ∧ q.2.2.2 = 255 := by decide
theorem ra_98 (h : zV m) (hk : k < 16) : 0 ≤ (m 98 k).toInt ∧ (m 98 k).toInt ≤ 255 := h.2 _ ma_98 k hk
theorem ua_98 (h : zV m) (h1 : 0 ≤ x.toInt) (h2 : x.toInt ≤ 255) : zV (ma_u m 98 k x) := zV_u h (fun q hq g1 g2 => by rw [vn_s q hq] at g1; cases g1) (fun q hq g => by rw [(va_98 q hq g).1, (va_98 q hq g).2]; exact ⟨h1, h2⟩)
theorem ma_99 : (99, 3100, 0, 1) ∈ zV_a := by decide
theorem va_99 : ∀ q ∈ zV_a, q.1 = 99 → q.2.2.1 = 0 ∧ q.2.2.2 = 1 := by decide
theorem ra_99 (h : zV m) (hk : k < 3100) : 0 ≤ (m 99 k).toInt ∧ (m 99 k).toInt ≤ 1 := h.2 _ ma_99 k hk
theorem ua_99 (h : zV m) (h1 : 0 ≤ x.toInt) (h2 : x.toInt ≤ 1) : zV (ma_u m 99 k x) := zV_u h (fun q hq g1 g2 => by rw [vn_s q hq] at g1; cases g1) (fun q hq g => by rw [(va_99 q hq g).1, (va_99 q hq g).2]; exact ⟨h1, h2⟩)
theorem ma_100 : (100, 3100, 0, 100000) ∈ zV_a := by decide
theorem va_100 : ∀ q ∈ zV_a, q.1 = 100 → q.2.2.1 = 0 ∧ q.2.2.2 = 100000 := by decide
theorem ra_100 (h : zV m) (hk : k < 3100) : 0 ≤ (m 100 k).toInt ∧ (m 100 k).toInt ≤ 100000 := h.2 _ ma_100 k hk
theorem ua_100 (h : zV m) (h1 : 0 ≤ x.toInt) (h2 : x.toInt ≤ 100000) : zV (ma_u m 100 k x) := zV_u h (fun q hq g1 g2 => by rw [vn_s q hq] at g1; cases g1) (fun q hq g => by rw [(va_100 q hq g).1, (va_100 q hq g).2]; exact ⟨h1, h2⟩)
theorem ma_101 : (101, 3100, 0, 17) ∈ zV_a := by decide
theorem va_101 : ∀ q ∈ zV_a, q.1 = 101 → q.2.2.1 = 0 ∧ q.2.2.2 = 17 := by decide
theorem ra_101 (h : zV m) (hk : k < 3100) : 0 ≤ (m 101 k).toInt ∧ (m 101 k).toInt ≤ 17 := h.2 _ ma_101 k hk
theorem ua_101 (h : zV m) (h1 : 0 ≤ x.toInt) (h2 : x.toInt ≤ 17) : zV (ma_u m 101 k x) := zV_u h (fun q hq g1 g2 => by rw [vn_s q hq] at g1; cases g1) (fun q hq g => by rw [(va_101 q hq g).1, (va_101 q hq g).2]; exact ⟨h1, h2⟩)
theorem ma_102 : (102, 3100, 0, 60) ∈ zV_a := by decide
theorem va_102 : ∀ q ∈ zV_a, q.1 = 102 → q.2.2.1 = 0 ∧ q.2.2.2 = 60 := by decide
theorem ra_102 (h : zV m) (hk : k < 3100) : 0 ≤ (m 102 k).toInt ∧ (m 102 k).toInt ≤ 60 := h.2 _ ma_102 k hk
theorem ua_102 (h : zV m) (h1 : 0 ≤ x.toInt) (h2 : x.toInt ≤ 60) : zV (ma_u m 102 k x) := zV_u h (fun q hq g1 g2 => by rw [vn_s q hq] at g1; cases g1) (fun q hq g => by rw [(va_102 q hq g).1, (va_102 q hq g).2]; exact ⟨h1, h2⟩)
theorem ma_103 : (103, 3100, 0, 4599) ∈ zV_a := by decide
theorem va_103 : ∀ q ∈ zV_a, q.1 = 103 → q.2.2.1 = 0 ∧ q.2.2.2 = 4599 := by decide
theorem ra_103 (h : zV m) (hk : k < 3100) : 0 ≤ (m 103 k).toInt ∧ (m 103 k).toInt ≤ 4599 := h.2 _ ma_103 k hk
theorem ua_103 (h : zV m) (h1 : 0 ≤ x.toInt) (h2 : x.toInt ≤ 4599) : zV (ma_u m 103 k x) := zV_u h (fun q hq g1 g2 => by rw [vn_s q hq] at g1; cases g1) (fun q hq g => by rw [(va_103 q hq g).1, (va_103 q hq g).2]; exact ⟨h1, h2⟩)
theorem ua_104 (h : zV m) : zV (ma_u m 104 k x) := zV_u h (fun q hq g1 g2 => by rw [vn_s q hq] at g1; cases g1) (fun q hq g => absurd g ((by decide : ∀ q ∈ zV_a, q.1 ≠ 104) q hq))
theorem ua_105 (h : zV m) : zV (ma_u m 105 k x) := zV_u h (fun q hq g1 g2 => by rw [vn_s q hq] at g1; cases g1) (fun q hq g => absurd g ((by decide : ∀ q ∈ zV_a, q.1 ≠ 105) q hq))
theorem ua_106 (h : zV m) : zV (ma_u m 106 k x) := zV_u h (fun q hq g1 g2 => by rw [vn_s q hq] at g1; cases g1) (fun q hq g => absurd g ((by decide : ∀ q ∈ zV_a, q.1 ≠ 106) q hq))
theorem ua_107 (h : zV m) : zV (ma_u m 107 k x) := zV_u h (fun q hq g1 g2 => by rw [vn_s q hq] at g1; cases g1) (fun q hq g => absurd g ((by decide : ∀ q ∈ zV_a, q.1 ≠ 107) q hq))
theorem ua_108 (h : zV m) : zV (ma_u m 108 k x) := zV_u h (fun q hq g1 g2 => by rw [vn_s q hq] at g1; cases g1) (fun q hq g => absurd g ((by decide : ∀ q ∈ zV_a, q.1 ≠ 108) q hq))
theorem ma_109 : (109, 3100, 0, 1) ∈ zV_a := by decide
theorem va_109 : ∀ q ∈ zV_a, q.1 = 109 → q.2.2.1 = 0 ∧ q.2.2.2 = 1 := by decide
theorem ra_109 (h : zV m) (hk : k < 3100) : 0 ≤ (m 109 k).toInt ∧ (m 109 k).toInt ≤ 1 := h.2 _ ma_109 k hk
theorem ua_109 (h : zV m) (h1 : 0 ≤ x.toInt) (h2 : x.toInt ≤ 1) : zV (ma_u m 109 k x) := zV_u h (fun q hq g1 g2 => by rw [vn_s q hq] at g1; cases g1) (fun q hq g => by rw [(va_109 q hq g).1, (va_109 q hq g).2]; exact ⟨h1, h2⟩)
theorem ma_110 : (110, 3100, 0, 1) ∈ zV_a := by decide
theorem va_110 : ∀ q ∈ zV_a, q.1 = 110 → q.2.2.1 = 0 ∧ q.2.2.2 = 1 := by decide
theorem ra_110 (h : zV m) (hk : k < 3100) : 0 ≤ (m 110 k).toInt ∧ (m 110 k).toInt ≤ 1 := h.2 _ ma_110 k hk
theorem ua_110 (h : zV m) (h1 : 0 ≤ x.toInt) (h2 : x.toInt ≤ 1) : zV (ma_u m 110 k x) := zV_u h (fun q hq g1 g2 => by rw [vn_s q hq] at g1; cases g1) (fun q hq g => by rw [(va_110 q hq g).1, (va_110 q hq g).2]; exact ⟨h1, h2⟩)
theorem ma_111 : (111, 4600, -1, 3099) ∈ zV_a := by decide
theorem va_111 : ∀ q ∈ zV_a, q.1 = 111 → q.2.2.1 = -1 ∧ q.2.2.2 = 3099 := by decide
theorem ra_111 (h : zV m) (hk : k < 4600) : -1 ≤ (m 111 k).toInt ∧ (m 111 k).toInt ≤ 3099 := h.2 _ ma_111 k hk
theorem ua_111 (h : zV m) (h1 : -1 ≤ x.toInt) (h2 : x.toInt ≤ 3099) : zV (ma_u m 111 k x) := zV_u h (fun q hq g1 g2 => by rw [vn_s q hq] at g1; cases g1) (fun q hq g => by rw [(va_111 q hq g).1, (va_111 q hq g).2]; exact ⟨h1, h2⟩)
theorem ma_112 : (112, 16, -1, 3099) ∈ zV_a := by decide
theorem va_112 : ∀ q ∈ zV_a, q.1 = 112 → q.2.2.1 = -1 ∧ q.2.2.2 = 3099 := by decide
theorem ra_112 (h : zV m) (hk : k < 16) : -1 ≤ (m 112 k).toInt ∧ (m 112 k).toInt ≤ 3099 := h.2 _ ma_112 k hk
theorem ua_112 (h : zV m) (h1 : -1 ≤ x.toInt) (h2 : x.toInt ≤ 3099) : zV (ma_u m 112 k x) := zV_u h (fun q hq g1 g2 => by rw [vn_s q hq] at g1; cases g1) (fun q hq g => by rw [(va_112 q hq g).1, (va_112 q hq g).2]; exact ⟨h1, h2⟩)
theorem ma_113 : (113, 16, -1, 3099) ∈ zV_a := by decide
theorem va_113 : ∀ q ∈ zV_a, q.1 = 113 → q.2.2.1 = -1 ∧ q.2.2.2 = 3099 := by decide
theorem ra_113 (h : zV m) (hk : k < 16) : -1 ≤ (m 113 k).toInt ∧ (m 113 k).toInt ≤ 3099 := h.2 _ ma_113 k hk
theorem ua_113 (h : zV m) (h1 : -1 ≤ x.toInt) (h2 : x.toInt ≤ 3099) : zV (ma_u m 113 k x) := zV_u h (fun q hq g1 g2 => by rw [vn_s q hq] at g1; cases g1) (fun q hq g => by rw [(va_113 q hq g).1, (va_113 q hq g).2]; exact ⟨h1, h2⟩)
theorem ma_114 : (114, 3100, 0, 3099) ∈ zV_a := by decide
theorem va_114 : ∀ q ∈ zV_a, q.1 = 114 → q.2.2.1 = 0 ∧ q.2.2.2 = 3099 := by decide
theorem ra_114 (h : zV m) (hk : k < 3100) : 0 ≤ (m 114 k).toInt ∧ (m 114 k).toInt ≤ 3099 := h.2 _ ma_114 k hk
theorem ua_114 (h : zV m) (h1 : 0 ≤ x.toInt) (h2 : x.toInt ≤ 3099) : zV (ma_u m 114 k x) := zV_u h (fun q hq g1 g2 => by rw [vn_s q hq] at g1; cases g1) (fun q hq g => by rw [(va_114 q hq g).1, (va_114 q hq g).2]; exact ⟨h1, h2⟩)
theorem ma_115 : (115, 3100, 0, 3099) ∈ zV_a := by decide
theorem va_115 : ∀ q ∈ zV_a, q.1 = 115 → q.2.2.1 = 0 ∧ q.2.2.2 = 3099 := by decide
theorem ra_115 (h : zV m) (hk : k < 3100) : 0 ≤ (m 115 k).toInt ∧ (m 115 k).toInt ≤ 3099 := h.2 _ ma_115 k hk
theorem ua_115 (h : zV m) (h1 : 0 ≤ x.toInt) (h2 : x.toInt ≤ 3099) : zV (ma_u m 115 k x) := zV_u h (fun q hq g1 g2 => by rw [vn_s q hq] at g1; cases g1) (fun q hq g => by rw [(va_115 q hq g).1, (va_115 q hq g).2]; exact ⟨h1, h2⟩)
theorem ma_116 : (116, 128, 0, 4600) ∈ zV_a := by decide
theorem va_116 : ∀ q ∈ zV_a, q.1 = 116 → q.2.2.1 = 0 ∧ q.2.2.2 = 4600 := by decide
theorem ra_116 (h : zV m) (hk : k < 128) : 0 ≤ (m 116 k).toInt ∧ (m 116 k).toInt ≤ 4600 := h.2 _ ma_116 k hk
theorem ua_116 (h : zV m) (h1 : 0 ≤ x.toInt) (h2 : x.toInt ≤ 4600) : zV (ma_u m 116 k x) := zV_u h (fun q hq g1 g2 => by rw [vn_s q hq] at g1; cases g1) (fun q hq g => by rw [(va_116 q hq g).1, (va_116 q hq g).2]; exact ⟨h1, h2⟩)
theorem ma_117 : (117, 512, 0, 1) ∈ zV_a := by decide
theorem va_117 : ∀ q ∈ zV_a, q.1 = 117 → q.2.2.1 = 0 ∧ q.2.2.2 = 1 := by decide
theorem ra_117 (h : zV m) (hk : k < 512) : 0 ≤ (m 117 k).toInt ∧ (m 117 k).toInt ≤ 1 := h.2 _ ma_117 k hk
theorem ua_117 (h : zV m) (h1 : 0 ≤ x.toInt) (h2 : x.toInt ≤ 1) : zV (ma_u m 117 k x) := zV_u h (fun q hq g1 g2 => by rw [vn_s q hq] at g1; cases g1) (fun q hq g => by rw [(va_117 q hq g).1, (va_117 q hq g).2]; exact ⟨h1, h2⟩)
theorem ma_118 : (118, 3100, 0, 3099) ∈ zV_a := by decide
theorem va_118 : ∀ q ∈ zV_a, q.1 = 118 → q.2.2.1 = 0 ∧ q.2.2.2 = 3099 := by decide
theorem ra_118 (h : zV m) (hk : k < 3100) : 0 ≤ (m 118 k).toInt ∧ (m 118 k).toInt ≤ 3099 := h.2 _ ma_118 k hk
theorem ua_118 (h : zV m) (h1 : 0 ≤ x.toInt) (h2 : x.toInt ≤ 3099) : zV (ma_u m 118 k x) := zV_u h (fun q hq g1 g2 => by rw [vn_s q hq] at g1; cases g1) (fun q hq g => by rw [(va_118 q hq g).1, (va_118 q hq g).2]; exact ⟨h1, h2⟩)
theorem ma_119 : (119, 3100, 0, 3099) ∈ zV_a := by decide
theorem va_119 : ∀ q ∈ zV_a, q.1 = 119 → q.2.2.1 = 0 ∧ q.2.2.2 = 3099 := by decide
theorem ra_119 (h : zV m) (hk : k < 3100) : 0 ≤ (m 119 k).toInt ∧ (m 119 k).toInt ≤ 3099 := h.2 _ ma_119 k hk
theorem ua_119 (h : zV m) (h1 : 0 ≤ x.toInt) (h2 : x.toInt ≤ 3099) : zV (ma_u m 119 k x) := zV_u h (fun q hq g1 g2 => by rw [vn_s q hq] at g1; cases g1) (fun q hq g => by rw [(va_119 q hq g).1, (va_119 q hq g).2]; exact ⟨h1, h2⟩)
theorem ma_120 : (120, 3100, 0, 3099) ∈ zV_a := by decide
theorem va_120 : ∀ q ∈ zV_a, q.1 = 120 → q.2.2.1 = 0 ∧ q.2.2.2 = 3099 := by decide
theorem ra_120 (h : zV m) (hk : k < 3100) : 0 ≤ (m 120 k).toInt ∧ (m 120 k).toInt ≤ 3099 := h.2 _ ma_120 k hk
theorem ua_120 (h : zV m) (h1 : 0 ≤ x.toInt) (h2 : x.toInt ≤ 3099) : zV (ma_u m 120 k x) := zV_u h (fun q hq g1 g2 => by rw [vn_s q hq] at g1; cases g1) (fun q hq g => by rw [(va_120 q hq g).1, (va_120 q hq g).2]; exact ⟨h1, h2⟩)
theorem ma_121 : (121, 3100, 0, 60) ∈ zV_a := by decide
theorem va_121 : ∀ q ∈ zV_a, q.1 = 121 → q.2.2.1 = 0 ∧ q.2.2.2 = 60 := by decide
theorem ra_121 (h : zV m) (hk : k < 3100) : 0 ≤ (m 121 k).toInt ∧ (m 121 k).toInt ≤ 60 := h.2 _ ma_121 k hk
theorem ua_121 (h : zV m) (h1 : 0 ≤ x.toInt) (h2 : x.toInt ≤ 60) : zV (ma_u m 121 k x) := zV_u h (fun q hq g1 g2 => by rw [vn_s q hq] at g1; cases g1) (fun q hq g => by rw [(va_121 q hq g).1, (va_121 q hq g).2]; exact ⟨h1, h2⟩)
theorem ua_122 (h : zV m) : zV (ma_u m 122 k x) := zV_u h (fun q hq g1 g2 => by rw [vn_s q hq] at g1; cases g1) (fun q hq g => absurd g ((by decide : ∀ q ∈ zV_a, q.1 ≠ 122) q hq))
theorem ma_123 : (123, 128, 0, 1) ∈ zV_a := by decide
theorem va_123 : ∀ q ∈ zV_a, q.1 = 123 → q.2.2.1 = 0 ∧ q.2.2.2 = 1 := by decide
theorem ra_123 (h : zV m) (hk : k < 128) : 0 ≤ (m 123 k).toInt ∧ (m 123 k).toInt ≤ 1 := h.2 _ ma_123 k hk
theorem ua_123 (h : zV m) (h1 : 0 ≤ x.toInt) (h2 : x.toInt ≤ 1) : zV (ma_u m 123 k x) := zV_u h (fun q hq g1 g2 => by rw [vn_s q hq] at g1; cases g1) (fun q hq g => by rw [(va_123 q hq g).1, (va_123 q hq g).2]; exact ⟨h1, h2⟩)
theorem ma_124 : (124, 128, 0, 1) ∈ zV_a := by decide
theorem va_124 : ∀ q ∈ zV_a, q.1 = 124 → q.2.2.1 = 0 ∧ q.2.2.2 = 1 := by decide
theorem ra_124 (h : zV m) (hk : k < 128) : 0 ≤ (m 124 k).toInt ∧ (m 124 k).toInt ≤ 1 := h.2 _ ma_124 k hk
theorem ua_124 (h : zV m) (h1 : 0 ≤ x.toInt) (h2 : x.toInt ≤ 1) : zV (ma_u m 124 k x) := zV_u h (fun q hq g1 g2 => by rw [vn_s q hq] at g1; cases g1) (fun q hq g => by rw [(va_124 q hq g).1, (va_124 q hq g).2]; exact ⟨h1, h2⟩)
end ZV1

/-! from 94.3lib -/
/-! counting, and what the reference keeps -/
def cnt (r : Nat → Int32) : Nat → Nat
  | 0 => 0
  | n + 1 => cnt r n + (if r n = 0 then 0 else 1)
section CN1
variable {r : Nat → Int32} {n k : Nat} {m : Nat → Nat → Int32} {c : Nat} {x : Int32}
theorem cnt_le : cnt r n ≤ n := by
  induction n with
  | zero => exact Nat.le_refl _
  | succ n ih => unfold cnt; split <;> omega
theorem cnt_congr {r₉ : Nat → Int32} (h : ∀ j, j < n → (r j = 0 ↔ r₉ j = 0)) : cnt r n = cnt r₉ n := by
  induction n with
  | zero => rfl
  | succ n ih =>
    unfold cnt
    rw [ih (fun j hj => h j (by omega))]
    have := h n (by omega)
    by_cases e : r n = 0
    · rw [if_pos e, if_pos (this.mp e)]
    · rw [if_neg e, if_neg (fun z => e (this.mpr z))]
theorem cnt_mono {r₉ : Nat → Int32} (h : ∀ j, j < n → r j ≠ 0 → r₉ j ≠ 0) : cnt r n ≤ cnt r₉ n := by
  induction n with
  | zero => exact Nat.le_refl _
  | succ n ih =>
    unfold cnt
    have i := ih (fun j hj => h j (by omega))
    have := h n (by omega)
    by_cases e : r n = 0
    · rw [if_pos e]; omega
    · rw [if_neg e, if_neg (this e)]; omega
theorem mu_at (j : Nat) : ma_u m c k x c j = if j = k then x else m c j := ma_u_at m c k x j
theorem mu_self : ma_u m c k x c k = x := by rw [mu_at, if_pos rfl]
theorem mu_ne {j : Nat} (h : j ≠ k) : ma_u m c k x c j = m c j := by rw [mu_at, if_neg h]
/-- one more -/
theorem cnt_up (hk : k < n) (h0 : m c k = 0) (hx : x ≠ 0) : cnt (ma_u m c k x c) n = cnt (m c) n + 1 := by
  induction n with
  | zero => omega
  | succ n ih =>
    unfold cnt
    by_cases e : n = k
    · subst e
      rw [mu_self, if_neg hx, if_pos h0]
      have : cnt (ma_u m c n x c) n = cnt (m c) n := cnt_congr (fun j hj => by rw [mu_ne (by omega)])
      omega
    · rw [mu_ne e, ih (by omega)]
      omega
/-- one less -/
theorem cnt_dn (hk : k < n) (h0 : m c k ≠ 0) : cnt (ma_u m c k 0 c) n + 1 = cnt (m c) n := by
  induction n with
  | zero => omega
  | succ n ih =>
    unfold cnt
    by_cases e : n = k
    · subst e
      rw [mu_self, if_pos rfl, if_neg h0]
      have : cnt (ma_u m c n 0 c) n = cnt (m c) n := cnt_congr (fun j hj => by rw [mu_ne (by omega)])
      omega
    · rw [mu_ne e]
      have := ih (by omega)
      omega
theorem cnt_u1 (hx : x ≠ 0) : cnt (m c) n ≤ cnt (ma_u m c k x c) n := by
  refine cnt_mono (fun j _ h => ?_)
  rw [mu_at]
  split
  · exact hx
  · exact h
theorem cnt_u0 : cnt (ma_u m c k 0 c) n ≤ cnt (m c) n := by
  refine cnt_mono (fun j _ h => ?_)
  rw [mu_at] at h
  split at h
  · exact absurd rfl h
  · exact h
theorem cnt_ub : cnt (ma_u m c k x c) n ≤ cnt (m c) n + 1 := by
  by_cases hk : k < n
  · by_cases hx : x = 0
    · rw [hx]; have := cnt_u0 (m := m) (c := c) (k := k) (n := n); omega
    · by_cases h0 : m c k = 0
      · rw [cnt_up hk h0 hx]; exact Nat.le_refl _
      · have : cnt (ma_u m c k x c) n = cnt (m c) n := cnt_congr (fun j hj => by
          rw [mu_at]
          split
          · next e => subst e; exact ⟨fun z => absurd z hx, fun z => absurd z h0⟩
          · exact Iff.rfl)
        omega
  · have : cnt (ma_u m c k x c) n = cnt (m c) n := cnt_congr (fun j hj => by rw [mu_ne (by omega)])
    omega
theorem cnt_lt (hk : k < n) (h0 : r k = 0) : cnt r n < n := by
  induction n with
  | zero => omega
  | succ n ih =>
    unfold cnt
    by_cases e : n = k
    · subst e
      rw [if_pos h0]
      have := cnt_le (r := r) (n := n)
      omega
    · have := ih (by omega)
      split <;> omega
theorem cnt_pos (hk : k < n) (h0 : r k ≠ 0) : 0 < cnt r n := by
  induction n with
  | zero => omega
  | succ n ih =>
    unfold cnt
    by_cases e : n = k
    · subst e
      rw [if_neg h0]
      omega
    · have := ih (by omega)
      omega
theorem cnt_all (h : ∀ j, j < n → r j ≠ 0) : cnt r n = n := by
  induction n with
  | zero => rfl
  | succ n ih =>
    unfold cnt
    rw [ih (fun j hj => h j (by omega)), if_neg (h n (by omega))]
end CN1
/-- what a word of that slot refers to -/
def zrf (kr kd wd : Nat → Int32) (s i : Nat) : Int32 := if kd s = 16 then wd (60 * s + i) else if kd s < 16 ∧ ((kr (kd s).toNatClampNeg >>> (Int32.ofNat i &&& 31)) &&& 1) = 1 then wd (60 * s + i) else -1
/-- words that refer, refer to slots; kinds are there -/
def zW (ks : Int32) (kr kd ws wd : Nat → Int32) : Prop := ∀ s, s < 3100 → (∀ i : Nat, (i : Int) < (ws s).toInt → -1 ≤ (zrf kr kd wd s i).toInt ∧ (zrf kr kd wd s i).toInt ≤ 3099) ∧ ((ws s).toInt = 0 ∨ 16 ≤ (kd s).toInt ∨ (kd s).toInt < ks.toInt)
/-- no more on the stack than are kept -/
def zKS (kp : Nat → Int32) (z : Int32) : Prop := z.toInt ≤ (cnt kp 3100 : Int)
def zMu (kp : Nat → Int32) (z : Int32) : Nat := 2 * (3100 - cnt kp 3100) + z.toInt.toNat
theorem KS_push {m : Nat → Nat → Int32} {c k : Nat} {z x y : Int32} (h : zKS (m c) z) (h0 : m c k = 0) (hk : k < 3100) (hx : x ≠ 0) (hy : y.toInt = z.toInt + 1) : zKS (ma_u m c k x c) y := by
  unfold zKS at h ⊢
  rw [cnt_up hk h0 hx]
  omega
theorem KS_room {r : Nat → Int32} {k : Nat} {z : Int32} (h : zKS r z) (h0 : r k = 0) (hk : k < 3100) : z.toInt < 3100 := by
  unfold zKS at h
  have := cnt_lt hk h0
  omega
theorem KS_dec {r : Nat → Int32} {z y : Int32} (h : zKS r z) (hy : y.toInt ≤ z.toInt) : zKS r y := by
  unfold zKS at h ⊢
  omega
theorem KS_0 {r : Nat → Int32} {y : Int32} (hy : y.toInt ≤ 0) : zKS r y := by
  unfold zKS
  omega
theorem Mu_push {m : Nat → Nat → Int32} {c k : Nat} {z x y : Int32} (hz : 0 ≤ z.toInt) (h0 : m c k = 0) (hk : k < 3100) (hx : x ≠ 0) (hy : y.toInt = z.toInt + 1) : zMu (ma_u m c k x c) y + 1 = zMu (m c) z := by
  unfold zMu
  rw [cnt_up hk h0 hx]
  have := cnt_lt hk h0
  omega
theorem Mu_pop {r : Nat → Int32} {z y : Int32} (hz : 0 < z.toInt) (hy : y.toInt = z.toInt - 1) : zMu r y + 1 = zMu r z := by
  unfold zMu
  omega
theorem tn_eq {x : Int32} : x.toNatClampNeg = x.toInt.toNat := rfl
theorem ix_word {s i : Int32} (h1 : 0 ≤ s.toInt) (h2 : s.toInt ≤ 3099) (h3 : 0 ≤ i.toInt) (h4 : i.toInt ≤ 60) : (s * (60 : Int32) + i).toNatClampNeg = 60 * s.toNatClampNeg + i.toNatClampNeg := by
  have e1 : (s * (60 : Int32)).toInt = s.toInt * 60 := i_mulk rfl (by omega) (by omega)
  have e2 : (s * (60 : Int32) + i).toInt = (s * (60 : Int32)).toInt + i.toInt := i_add (by omega) (by omega)
  rw [tn_eq, tn_eq, tn_eq]
  omega
theorem ofNat_tn {i : Int32} (h : 0 ≤ i.toInt) : Int32.ofNat i.toNatClampNeg = i := by
  apply Int32.toInt_inj.mp
  have := i_bd i
  rw [Int32.toInt_ofNat_of_lt (by rw [tn_eq]; omega), tn_eq]
  omega
theorem zrf_eq {kr kd wd : Nat → Int32} {s i : Int32} (h1 : 0 ≤ s.toInt) (h2 : s.toInt ≤ 3099) (h3 : 0 ≤ i.toInt) (h4 : i.toInt ≤ 60) : zrf kr kd wd s.toNatClampNeg i.toNatClampNeg = if kd s.toNatClampNeg = 16 then wd (s * (60 : Int32) + i).toNatClampNeg else if kd s.toNatClampNeg < 16 ∧ ((kr (kd s.toNatClampNeg).toNatClampNeg >>> (i &&& 31)) &&& 1) = 1 then wd (s * (60 : Int32) + i).toNatClampNeg else -1 := by
  unfold zrf
  rw [ix_word h1 h2 h3 h4, ofNat_tn h3]
theorem W_ref {ks : Int32} {kr kd ws wd : Nat → Int32} (h : zW ks kr kd ws wd) {s i : Int32} {v : Int32} (h1 : 0 ≤ s.toInt) (h2 : s.toInt ≤ 3099) (h3 : 0 ≤ i.toInt) (h4 : i.toInt < (ws s.toNatClampNeg).toInt) (e : v = zrf kr kd wd s.toNatClampNeg i.toNatClampNeg) : -1 ≤ v.toInt ∧ v.toInt ≤ 3099 := by
  rw [e]
  exact (h s.toNatClampNeg (by rw [tn_eq]; omega)).1 i.toNatClampNeg (by rw [tn_eq]; omega)
/-- wishes: those in WISHES and those to come are no more than T -/
def zGW (T : Nat) (z : Int32) (wi : Nat → Int32) : Prop := z.toInt + (cnt wi 3100 : Int) ≤ (T : Int) ∧ T ≤ 3000
theorem GW_take {T : Nat} {m : Nat → Nat → Int32} {c k : Nat} {z y : Int32} (h : zGW T z (m c)) (h0 : m c k ≠ 0) (hk : k < 3100) (hy : y.toInt = z.toInt + 1) : zGW T y (ma_u m c k 0 c) := by
  have := cnt_dn hk h0
  refine ⟨?_, h.2⟩
  have := h.1
  omega
theorem GW_room {T : Nat} {r : Nat → Int32} {z : Int32} (h : zGW T z r) : z.toInt ≤ 3000 := by
  have := h.1
  have := h.2
  omega
theorem GW_le {T : Nat} {r : Nat → Int32} {z y : Int32} (h : zGW T z r) (hy : y.toInt ≤ z.toInt) : zGW T y r := ⟨by have := h.1; omega, h.2⟩
theorem GW_0 {T : Nat} {m : Nat → Nat → Int32} {c k : Nat} {z : Int32} (h : zGW T z (m c)) : zGW T z (ma_u m c k 0 c) := by
  have := cnt_u0 (m := m) (c := c) (k := k) (n := 3100)
  exact ⟨by have := h.1; omega, h.2⟩
/-- slots in use are no more than were made, and those no more than T -/
def zGU (T : Nat) (nu : Int32) (us : Nat → Int32) : Prop := (cnt us 3100 : Int) ≤ nu.toInt ∧ nu.toInt ≤ (T : Int) ∧ T ≤ 3000
theorem GU_0 {T : Nat} {m : Nat → Nat → Int32} {c k : Nat} {z : Int32} (h : zGU T z (m c)) : zGU T z (ma_u m c k 0 c) := by
  have := cnt_u0 (m := m) (c := c) (k := k) (n := 3100)
  exact ⟨by have := h.1; omega, h.2⟩
/-- who begins at a place is there, and is in use -/
def zOw (us at₉ ow : Nat → Int32) : Prop := ∀ p, p < 4600 → 0 ≤ (ow p).toInt → us (ow p).toNatClampNeg ≠ 0 ∧ (at₉ (ow p).toNatClampNeg).toInt = (p : Int)
/-- who might be granted -/
def zWS (nr us kp wi : Nat → Int32) (a v : Int32) : Prop := v.toInt = -1 ∨ (0 ≤ v.toInt ∧ v.toInt ≤ 3099 ∧ us v.toNatClampNeg ≠ 0 ∧ kp v.toNatClampNeg = 0 ∧ wi v.toNatClampNeg ≠ 0 ∧ a.toInt < (nr v.toNatClampNeg).toInt)
def zmg (nr : Nat → Int32) (s : Int32) : Nat := if s.toInt < 0 then 0 else 100001 - (nr s.toNatClampNeg).toInt.toNat
theorem zmg_lt {nr us kp wi : Nat → Int32} {s a v : Int32} (hs : 0 ≤ s.toInt) (h : zWS nr us kp wi a v) (ha : a = nr s.toNatClampNeg) (h0 : 0 ≤ (nr s.toNatClampNeg).toInt) (h1 : (nr s.toNatClampNeg).toInt ≤ 100000) : zmg nr v < zmg nr s := by
  unfold zmg
  rcases h with e | ⟨e1, e2, e3, e4, e5, e6⟩
  · split <;> split <;> omega
  · rw [ha] at e6
    split <;> split <;> omega
theorem tn_cast {x : Int32} (h : 0 ≤ x.toInt) : ((x.toNatClampNeg : Nat) : Int) = x.toInt := by
  rw [tn_eq]
  omega
theorem tn_succ {x y : Int32} (h : 0 ≤ x.toInt) (e : y.toInt = x.toInt + 1) : y.toNatClampNeg = x.toNatClampNeg + 1 := by
  rw [tn_eq, tn_eq]
  omega
theorem z0_step {m : Nat → Nat → Int32} {c : Nat} {i j : Int32} (h : ∀ s : Nat, (s : Int) < i.toInt → m c s = 0) (h0 : 0 ≤ i.toInt) (e : j.toInt = i.toInt + 1) : ∀ s : Nat, (s : Int) < j.toInt → ma_u m c i.toNatClampNeg 0 c s = 0 := by
  intro s hs
  rw [mu_at]
  split
  · rfl
  · next q => exact h s (by rw [tn_eq] at q; omega)
theorem z0_all {r : Nat → Int32} {i : Int32} (h : ∀ s : Nat, (s : Int) < i.toInt → r s = 0) (e : 3100 ≤ i.toInt) : ∀ s : Nat, s < 3100 → r s = 0 := fun s hs => h s (by omega)

/-! from 94.3m -/
/-! what is kept: closed under what its words refer to -/
def zcl (kp kr kd wd : Nat → Int32) (s i : Nat) : Prop := (zrf kr kd wd s i).toInt < 0 ∨ kp (zrf kr kd wd s i).toNatClampNeg ≠ 0
/-- those on the stack are kept; of those kept, each is on the stack, or done, or the one at work (done up to i) -/
def zCL (kp kr kd ws wd st : Nat → Int32) (z : Int32) (cur i : Nat) : Prop :=
  (∀ j : Nat, (j : Int) < z.toInt → kp (st j).toNatClampNeg ≠ 0) ∧ (cur < 3100 → kp cur ≠ 0) ∧
  ∀ s, s < 3100 → kp s ≠ 0 → (∃ j : Nat, (j : Int) < z.toInt ∧ (st j).toNatClampNeg = s) ∨ (∀ i₉ : Nat, (i₉ : Int) < (ws s).toInt → zcl kp kr kd wd s i₉) ∨ (s = cur ∧ ∀ i₉, i₉ < i → zcl kp kr kd wd s i₉)
def zle (r r₉ : Nat → Int32) : Prop := ∀ j, j < 3100 → r j ≠ 0 → r₉ j ≠ 0
def zcov (kp rt : Nat → Int32) (n : Int) : Prop := ∀ k : Nat, (k : Int) < n → (rt k).toInt < 0 ∨ kp (rt k).toNatClampNeg ≠ 0
/-- by halves and by ages: nothing refers to a slot that is not in use -/
def zDX (po : Int32) (us rt wk wi : Nat → Int32) (wm : Int32) (kr kd ws wd : Nat → Int32) : Prop := (po.toInt = 2 ∨ po.toInt = 3) → zcov us rt 16 ∧ zcov us wk 16 ∧ zcov us wi wm.toInt ∧ ∀ s, s < 3100 → us s ≠ 0 → ∀ i : Nat, (i : Int) < (ws s).toInt → zcl us kr kd wd s i
def zKU (po : Int32) (us kp : Nat → Int32) : Prop := (po.toInt = 2 ∨ po.toInt = 3) → ∀ s, s < 3100 → kp s ≠ 0 → us s ≠ 0
section CL1
variable {m ms : Nat → Nat → Int32} {c d k cur i : Nat} {kp kr kd ws wd st us rt wk wi : Nat → Int32} {z x y v po wm : Int32}
theorem mu_mono {j : Nat} (hx : x ≠ 0) (h : m c j ≠ 0) : ma_u m c k x c j ≠ 0 := by
  rw [mu_at]
  split
  · exact hx
  · exact h
theorem mu_back {j : Nat} (hj : j ≠ k) (h : ma_u m c k x c j ≠ 0) : m c j ≠ 0 := by
  rw [mu_ne hj] at h
  exact h
theorem zcl_mono {s : Nat} (hx : x ≠ 0) (h : zcl (m c) kr kd wd s i) : zcl (ma_u m c k x c) kr kd wd s i := h.elim Or.inl (fun z => Or.inr (mu_mono hx z))
theorem CL_push (h : zCL (m c) kr kd ws wd (ms d) z cur i) (hx : x ≠ 0) (hz : 0 ≤ z.toInt) (hv : v.toNatClampNeg = k) (hy : y.toInt = z.toInt + 1) : zCL (ma_u m c k x c) kr kd ws wd (ma_u ms d z.toNatClampNeg v d) y cur i := by
  obtain ⟨h1, h2, h3⟩ := h
  have hzn : z.toNatClampNeg = z.toInt.toNat := rfl
  refine ⟨fun j hj => ?_, fun hc => mu_mono hx (h2 hc), fun s hs hk => ?_⟩
  · by_cases e : j = z.toNatClampNeg
    · rw [e, mu_self, hv, mu_self]; exact hx
    · rw [mu_ne e]; exact mu_mono hx (h1 j (by omega))
  · by_cases e : s = k
    · exact Or.inl ⟨z.toNatClampNeg, by omega, by rw [mu_self, hv, e]⟩
    · rcases h3 s hs (mu_back e hk) with ⟨j, hj, hs2⟩ | q | ⟨q1, q2⟩
      · exact Or.inl ⟨j, by omega, by rw [mu_ne (by omega)]; exact hs2⟩
      · exact Or.inr (Or.inl (fun i₉ hi => zcl_mono hx (q i₉ hi)))
      · exact Or.inr (Or.inr ⟨q1, fun i₉ hi => zcl_mono hx (q2 i₉ hi)⟩)
theorem CL_adv {i2 : Nat} (h : zCL kp kr kd ws wd st z cur i) (hr : zcl kp kr kd wd cur i) (e : i2 = i + 1) : zCL kp kr kd ws wd st z cur i2 := by
  subst e
  refine ⟨h.1, h.2.1, fun s hs hk => ?_⟩
  rcases h.2.2 s hs hk with q | q | ⟨q1, q2⟩
  · exact Or.inl q
  · exact Or.inr (Or.inl q)
  · refine Or.inr (Or.inr ⟨q1, fun i₉ hi => ?_⟩)
    by_cases e : i₉ = i
    · rw [e, q1]; exact hr
    · exact q2 i₉ (by omega)
theorem CL_done (h : zCL kp kr kd ws wd st z cur i) (hi : (ws cur).toInt ≤ (i : Int)) : zCL kp kr kd ws wd st z 3100 0 := by
  refine ⟨h.1, fun e => absurd e (by decide), fun s hs hk => ?_⟩
  rcases h.2.2 s hs hk with q | q | ⟨q1, q2⟩
  · exact Or.inl q
  · exact Or.inr (Or.inl q)
  · refine Or.inr (Or.inl (fun i₉ hi₉ => q2 i₉ ?_))
    rw [q1] at hi₉
    omega
theorem CL_pop (h : zCL kp kr kd ws wd st z 3100 i) (hz : 0 < z.toInt) (hy : y.toInt = z.toInt - 1) (hc : cur = (st y.toNatClampNeg).toNatClampNeg) : zCL kp kr kd ws wd st y cur 0 := by
  have hyn : y.toNatClampNeg = y.toInt.toNat := rfl
  refine ⟨fun j hj => h.1 j (by omega), fun _ => by rw [hc]; exact h.1 _ (by omega), fun s hs hk => ?_⟩
  rcases h.2.2 s hs hk with ⟨j, hj, hs2⟩ | q | ⟨q1, q2⟩
  · by_cases e : j = y.toNatClampNeg
    · refine Or.inr (Or.inr ⟨?_, fun i₉ hi => absurd hi (Nat.not_lt_zero _)⟩)
      rw [hc, ← e, hs2]
    · exact Or.inl ⟨j, by omega, hs2⟩
  · exact Or.inr (Or.inl q)
  · omega
theorem CL_none (h : ∀ s, s < 3100 → kp s = 0) (hz : z.toInt = 0) : zCL kp kr kd ws wd st z 3100 0 :=
  ⟨fun j hj => by omega, fun e => absurd e (by decide), fun s hs hk => absurd (h s hs) hk⟩
theorem zle_rfl : zle kp kp := fun _ _ h => h
theorem zle_push {r : Nat → Int32} (h : zle r (m c)) (hx : x ≠ 0) : zle r (ma_u m c k x c) := fun j hj q => mu_mono hx (h j hj q)
theorem zle_tr {r r₉ : Nat → Int32} (h : zle r r₉) (h₉ : zle r₉ kp) : zle r kp := fun j hj q => h₉ j hj (h j hj q)
theorem cov_push {n : Int} (h : zcov (m c) rt n) (hx : x ≠ 0) : zcov (ma_u m c k x c) rt n := fun j hj => (h j hj).elim Or.inl (fun q => Or.inr (mu_mono hx q))
theorem cov_le {n : Int} {kp₉ : Nat → Int32} (h : zcov kp rt n) (hl : zle kp kp₉) (hb : ∀ j : Nat, (j : Int) < n → (rt j).toInt ≤ 3099) : zcov kp₉ rt n := by
  intro j hj
  rcases h j hj with q | q
  · exact Or.inl q
  · refine Or.inr (hl _ ?_ q)
    have := hb j hj
    rw [tn_eq]; omega
theorem cov_one {n n2 : Int} {j : Int32} (h : zcov kp rt n) (hj : j.toInt = n) (hn : n2 = n + 1) (h0 : 0 ≤ n) (hk : (rt j.toNatClampNeg).toInt < 0 ∨ kp (rt j.toNatClampNeg).toNatClampNeg ≠ 0) : zcov kp rt n2 := by
  intro q hq
  have hjn : j.toNatClampNeg = j.toInt.toNat := rfl
  by_cases e : q = j.toNatClampNeg
  · rw [e]; exact hk
  · exact h q (by omega)
theorem cov_0 {n : Int} (h : n ≤ 0) : zcov kp rt n := fun q hq => by omega
theorem cov_cut {n n2 : Int} (h : zcov kp rt n) (hn : n2 ≤ n) : zcov kp rt n2 := fun q hq => h q (by omega)
theorem KU_push (h : zKU po us (m c)) (hu : (po.toInt = 2 ∨ po.toInt = 3) → us k ≠ 0) : zKU po us (ma_u m c k x c) := by
  intro hp s hs hk
  by_cases e : s = k
  · rw [e]; exact hu hp
  · exact h hp s hs (mu_back e hk)
/-- what a kept one refers to is in use -/
theorem KU_ref (h : zKU po us kp) (hD : zDX po us rt wk wi wm kr kd ws wd) (hcur : cur < 3100) (hk : kp cur ≠ 0) (hi : (i : Int) < (ws cur).toInt) (hv : v = zrf kr kd wd cur i) (h0 : 0 ≤ v.toInt) (hp : po.toInt = 2 ∨ po.toInt = 3) : us v.toNatClampNeg ≠ 0 := by
  have := (hD hp).2.2.2 cur hcur (h hp cur hcur hk) i hi
  rw [hv]
  rw [hv] at h0
  exact this.elim (fun q => by omega) id
theorem KU_root {n : Int} (hD : zcov us rt n) {j : Int32} (hj : j.toInt < n) (h0j : 0 ≤ j.toInt) (hv : v = rt j.toNatClampNeg) (h0 : 0 ≤ v.toInt) : us v.toNatClampNeg ≠ 0 := by
  have hjn : j.toNatClampNeg = j.toInt.toNat := rfl
  have := hD j.toNatClampNeg (by omega)
  rw [hv]
  rw [hv] at h0
  exact this.elim (fun q => by omega) id
theorem KU_none (h : ∀ s, s < 3100 → kp s = 0) : zKU po us kp := fun _ s hs hk => absurd (h s hs) hk
end CL1

/-! from 94.400 -/
/-! the reference (written by wip/tools/gen94m.py) -/
set_option maxRecDepth 100000 in
theorem hm_168 : ma_md 168 = some (12, yX12_four, cX12_four, 3, none) := rfl
theorem s_94 : zs 94 = some (12, 85) := rfl
theorem s_95 : zs 95 = some (21, 100) := rfl
theorem r_94_1 : zfi 94 1 = some 95 := rfl
theorem f_12_13_12 : ma_fld 12 13 12 = some 1 := by decide +kernel
theorem f_12_107_12 : ma_fld 12 107 12 = some 3 := by decide +kernel
theorem p_12_107_12 : ma_pk 12 107 12 3 = true := by decide +kernel
theorem dX12_four_0 : decode cX12_four 0 = .ok (.bipush 24, 2) := by decide +kernel
theorem dX12_four_2 : decode cX12_four 2 = .ok (.istore_n 2, 1) := by decide +kernel
theorem dX12_four_3 : decode cX12_four 3 = .ok (.iload_n 2, 1) := by decide +kernel
theorem dX12_four_36 : decode cX12_four 36 = .ok (.return_, 1) := by decide +kernel
theorem dX12_four_7 : decode cX12_four 7 = .ok (.aload_n 0, 1) := by decide +kernel
theorem dX12_four_11 : decode cX12_four 11 = .ok (.aload_n 0, 1) := by decide +kernel
theorem dX12_four_15 : decode cX12_four 15 = .ok (.iload_n 1, 1) := by decide +kernel
theorem dX12_four_16 : decode cX12_four 16 = .ok (.iload_n 2, 1) := by decide +kernel
theorem dX12_four_17 : decode cX12_four 17 = .ok (.ishr, 1) := by decide +kernel
theorem dX12_four_18 : decode cX12_four 18 = .ok (.i2b, 1) := by decide +kernel
theorem dX12_four_20 : decode cX12_four 20 = .ok (.aload_n 0, 1) := by decide +kernel
theorem dX12_four_21 : decode cX12_four 21 = .ok (.dup, 1) := by decide +kernel
theorem dX12_four_25 : decode cX12_four 25 = .ok (.iconst 1, 1) := by decide +kernel
theorem dX12_four_26 : decode cX12_four 26 = .ok (.iadd, 1) := by decide +kernel
theorem dX12_four_30 : decode cX12_four 30 = .ok (.iinc 2 (-8), 3) := by decide +kernel
theorem dX12_four_33 : decode cX12_four 33 = .ok (.goto (-30), 3) := by decide +kernel
theorem dX12_four_27 : decode cX12_four 27 = .ok (.putfield 107, 3) := by decide +kernel
theorem dX12_four_22 : decode cX12_four 22 = .ok (.getfield 107, 3) := by decide +kernel
theorem dX12_four_19 : decode cX12_four 19 = .ok (.bastore, 1) := by decide +kernel
theorem dX12_four_12 : decode cX12_four 12 = .ok (.getfield 107, 3) := by decide +kernel
theorem dX12_four_8 : decode cX12_four 8 = .ok (.getfield 13, 3) := by decide +kernel
theorem dX12_four_4 : decode cX12_four 4 = .ok (.ifCond .lt 32, 3) := by decide +kernel
def wr_168 (c k : Nat) : Bool := Nat.beq c 95 || (Nat.beq c 94 && (Nat.beq k 3))
theorem g_168_0 {X : Nat × (Nat → Int32)} {m : Nat → Nat → Int32} {P : Option ma_V → (Nat → Nat → Int32) → Prop} (a : Int32) (h : zm X 0 0 168 3 [(0, .inr (.inr (some 94))), (1, .inl a), (2, .inl (24 : Int32))] m P) : zm X 0 0 168 0 [(0, .inr (.inr (some 94))), (1, .inl a)] m P := by
  intro d w S Q hd hw hS hm HQ
  subst hm
  refine zw_push hm_168 dX12_four_0 (v := .inl (24 : Int32)) rfl ?_
  refine zw_sto hm_168 dX12_four_2 [(2, .inl (24 : Int32)), (0, .inr (.inr (some 94))), (1, .inl a)] rfl rfl rfl ?_
  exact zw_sub (ma_nd_of (ks := [0, 1, 2]) rfl (by decide)) (ma_nd_of (ks := [2, 0, 1]) rfl (by decide)) (ma_le_cons rfl (ma_le_cons rfl (ma_le_cons rfl (ma_le_nil _)))) (h d w _ Q (by omega) (by omega) hS rfl HQ)
theorem g_168_3 {X : Nat × (Nat → Int32)} {m : Nat → Nat → Int32} {P : Option ma_V → (Nat → Nat → Int32) → Prop} (l1 : Int32) (l2 : Int32) (h : if l2 < 0 then (P none m) else ((0 ≤ (m 94 3) ∧ (m 94 3).toNatClampNeg < 100) ∧ (zm X 0 0 168 3 [(0, .inr (.inr (some 94))), (1, .inl l1), (2, .inl (l2 + (-8 : Int32)))] (ma_u (ma_u m 95 (m 94 3).toNatClampNeg (vp_nar .byte ((l1 >>> (l2 &&& 31)).toInt8.toInt32))) 94 3 ((m 94 3) + (1 : Int32))) P))) : zm X 0 0 168 3 [(0, .inr (.inr (some 94))), (1, .inl l1), (2, .inl l2)] m P := by
  intro d w S Q hd hw hS hm HQ
  subst hm
  refine zw_push hm_168 dX12_four_3 (v := .inl l2) rfl ?_
  refine zw_if0 hm_168 dX12_four_4 (t := 36) rfl zc0_lt ?_ ?_
  · intro hc
    rw [if_pos hc] at h
    exact zw_vret hm_168 dX12_four_36 (HQ _ _ h)
  · intro hc
    rw [if_neg hc] at h
    refine zw_push hm_168 dX12_four_7 (v := .inr (.inr (some 94))) rfl ?_
    refine zw_gf hm_168 dX12_four_8 (v := .inr (.inr (some 95))) (zT_is hS s_94) (zT_t hS s_94) rfl f_12_13_12 (zT_f hS r_94_1) ?_
    refine zw_push hm_168 dX12_four_11 (v := .inr (.inr (some 94))) rfl ?_
    refine zw_gf hm_168 dX12_four_12 (v := .inl ((mI S) 94 3)) (zT_is hS s_94) (zT_t hS s_94) rfl f_12_107_12 rfl ?_
    refine zw_push hm_168 dX12_four_15 (v := .inl l1) rfl ?_
    refine zw_push hm_168 dX12_four_16 (v := .inl l2) rfl ?_
    refine zw_stk hm_168 dX12_four_17 (st₉ := [.inl (l1 >>> (l2 &&& 31)), .inl ((mI S) 94 3), .inr (.inr (some 95))]) rfl rfl ?_
    refine zw_stk hm_168 dX12_four_18 (st₉ := [.inl ((l1 >>> (l2 &&& 31)).toInt8.toInt32), .inl ((mI S) 94 3), .inr (.inr (some 95))]) rfl rfl ?_
    obtain ⟨hg, h⟩ := h
    refine zw_bas21 hm_168 dX12_four_19 (zT_is hS s_95) (zT_h hS s_95) rfl hg ?_
    refine zw_push hm_168 dX12_four_20 (v := .inr (.inr (some 94))) rfl ?_
    refine zw_stk hm_168 dX12_four_21 (st₉ := [.inr (.inr (some 94)), .inr (.inr (some 94))]) rfl rfl ?_
    refine zw_gf hm_168 dX12_four_22 (v := .inl ((mI S) 94 3)) (zT_is (zT_pi hS) s_94) (zT_t (zT_pi hS) s_94) rfl f_12_107_12 rfl ?_
    refine zw_push hm_168 dX12_four_25 (v := .inl (1 : Int32)) rfl ?_
    refine zw_stk hm_168 dX12_four_26 (st₉ := [.inl (((mI S) 94 3) + (1 : Int32)), .inr (.inr (some 94))]) rfl rfl ?_
    refine zw_pf hm_168 dX12_four_27 (zT_is (zT_pi hS) s_94) (zT_t (zT_pi hS) s_94) p_12_107_12 zk_int ?_
    refine zw_sto hm_168 dX12_four_30 [(2, .inl (l2 + (-8 : Int32))), (0, .inr (.inr (some 94))), (1, .inl l1)] rfl rfl rfl ?_
    refine zw_goto hm_168 dX12_four_33 (t := 3) rfl ?_
    exact zw_sub (ma_nd_of (ks := [0, 1, 2]) rfl (by decide)) (ma_nd_of (ks := [2, 0, 1]) rfl (by decide)) (ma_le_cons rfl (ma_le_cons rfl (ma_le_cons rfl (ma_le_nil _)))) (h d w _ Q (by omega) (by omega) (zT_pi (zT_pi hS)) rfl HQ)
theorem lp_168_3 {X : Nat × (Nat → Int32)} {P : Option ma_V → (Nat → Nat → Int32) → Prop} {a : Int32} {m0 : Nat → Nat → Int32} (h0 : zV m0) (K : ∀ m₉, zF wr_168 m0 m₉ → zV m₉ → ((m₉ 94 3).toInt = (m0 94 3).toInt + 4) → P none m₉) : ∀ (n : Nat) (m : Nat → Nat → Int32) (l1 : Int32) (l2 : Int32), (l2.toInt + 8).toNat = n → zF wr_168 m0 m → zV m → ((l2.toInt = 24 ∧ (m 94 3).toInt = (m0 94 3).toInt + 0) ∨ (l2.toInt = 16 ∧ (m 94 3).toInt = (m0 94 3).toInt + 1) ∨ (l2.toInt = 8 ∧ (m 94 3).toInt = (m0 94 3).toInt + 2) ∨ (l2.toInt = 0 ∧ (m 94 3).toInt = (m0 94 3).toInt + 3) ∨ (l2.toInt = -8 ∧ (m 94 3).toInt = (m0 94 3).toInt + 4)) → ((m0 94 3).toInt ≤ 96) → zm X 0 0 168 3 [(0, .inr (.inr (some 94))), (1, .inl l1), (2, .inl l2)] m P := by
  intro n
  induction n using Nat.strongRecOn with
  | _ n IH =>
    intro m l1 l2 hmu hF hV hi0 hi1
    refine g_168_3 l1 l2 ?_
    have f1 : 0 ≤ (m 94 3).toInt ∧ (m 94 3).toInt ≤ 100 := rs_94_3 (m := m) hV
    have f2 : 0 ≤ (m0 94 3).toInt ∧ (m0 94 3).toInt ≤ 100 := rs_94_3 (m := m0) h0
    have b3 := i_bd l2
    have li4 : (0 : Int32).toInt = 0 := rfl
    refine zd (fun (h5 : l2 < (0 : Int32)) => ?_) (fun (h5 : ¬ l2 < (0 : Int32)) => ?_)
    · skip
      have g6 := i_lt h5
      exact K _ hF hV (show (m 94 3).toInt = (m0 94 3).toInt + 4 from by omega)
    · skip
      have g7 := i_nlt h5
      have hg8 : (0 ≤ (m 94 3) ∧ (m 94 3).toNatClampNeg < 100) := i_ix (by omega) (by omega)
      refine ⟨hg8, ?_⟩
      have hV9 : zV (ma_u m 95 (m 94 3).toNatClampNeg (vp_nar .byte ((l1 >>> (l2 &&& 31)).toInt8.toInt32))) := ua_95 hV
      first | have e11 : ((m 94 3) + (1 : Int32)).toInt = (m 94 3).toInt + (1) := i_addk rfl (by omega) (by omega) | have b12 := i_bd ((m 94 3) + (1 : Int32))
      have hV10 : zV (ma_u (ma_u m 95 (m 94 3).toNatClampNeg (vp_nar .byte ((l1 >>> (l2 &&& 31)).toInt8.toInt32))) 94 3 ((m 94 3) + (1 : Int32))) := us_94_3 hV9 (by omega) (by omega)
      first | have e13 : (l2 + (-8 : Int32)).toInt = l2.toInt + (-8) := i_addk rfl (by omega) (by omega) | have b14 := i_bd (l2 + (-8 : Int32))
      exact IH ((l2 + (-8 : Int32)).toInt + 8).toNat (by omega) _ (l1) ((l2 + (-8 : Int32))) rfl (zF_u (zF_u hF rfl) rfl) hV10 (show ((l2 + (-8 : Int32)).toInt = 24 ∧ ((m 94 3) + (1 : Int32)).toInt = (m0 94 3).toInt + 0) ∨ ((l2 + (-8 : Int32)).toInt = 16 ∧ ((m 94 3) + (1 : Int32)).toInt = (m0 94 3).toInt + 1) ∨ ((l2 + (-8 : Int32)).toInt = 8 ∧ ((m 94 3) + (1 : Int32)).toInt = (m0 94 3).toInt + 2) ∨ ((l2 + (-8 : Int32)).toInt = 0 ∧ ((m 94 3) + (1 : Int32)).toInt = (m0 94 3).toInt + 3) ∨ ((l2 + (-8 : Int32)).toInt = -8 ∧ ((m 94 3) + (1 : Int32)).toInt = (m0 94 3).toInt + 4) from by omega) (show (m0 94 3).toInt ≤ 96 from by omega)
theorem sp_168 {X : Nat × (Nat → Int32)} {P : Option ma_V → (Nat → Nat → Int32) → Prop} {m : Nat → Nat → Int32} (a : Int32) (hV : zV m) (hpre0 : (m 94 3).toInt ≤ 96) (KZ : ∀ m₉, zV (zov wr_168 m m₉) → ((m₉ 94 3).toInt = (m 94 3).toInt + 4) → P none (zov wr_168 m m₉)) : zm X 0 0 168 0 [(0, .inr (.inr (some 94))), (1, .inl a)] m P := by
  have K : ∀ m₉, zF wr_168 m m₉ → zV m₉ → ((m₉ 94 3).toInt = (m 94 3).toInt + 4) → P none m₉ := by
    intro m₉ hf z q0
    have e := zov_eq hf
    rw [e] at z ⊢
    try rw [e] at q0
    exact KZ m₉ z q0
  refine g_168_0 a ?_
  have f1 : 0 ≤ (m 94 3).toInt ∧ (m 94 3).toInt ≤ 100 := rs_94_3 (m := m) hV
  have li2 : (24 : Int32).toInt = 24 := rfl
  exact lp_168_3 (a := a) hV K _ _ (a) ((24 : Int32)) rfl zF_rfl hV (show ((24 : Int32).toInt = 24 ∧ (m 94 3).toInt = (m 94 3).toInt + 0) ∨ ((24 : Int32).toInt = 16 ∧ (m 94 3).toInt = (m 94 3).toInt + 1) ∨ ((24 : Int32).toInt = 8 ∧ (m 94 3).toInt = (m 94 3).toInt + 2) ∨ ((24 : Int32).toInt = 0 ∧ (m 94 3).toInt = (m 94 3).toInt + 3) ∨ ((24 : Int32).toInt = -8 ∧ (m 94 3).toInt = (m 94 3).toInt + 4) from by omega) (show (m 94 3).toInt ≤ 96 from by omega)

/-! from 94.401 -/
/-! the reference (written by wip/tools/gen94m.py) -/
set_option maxRecDepth 100000 in
theorem hm_173 : ma_md 173 = some (12, yX12_token, cX12_token, 1, (some (FieldType.boolean))) := rfl
theorem s_96 : zs 96 = some (21, 100) := rfl
theorem r_94_2 : zfi 94 2 = some 96 := rfl
theorem f_12_17_12 : ma_fld 12 17 12 = some 2 := by decide +kernel
theorem f_12_121_12 : ma_fld 12 121 12 = some 67 := by decide +kernel
theorem f_12_124_12 : ma_fld 12 124 12 = some 4 := by decide +kernel
theorem f_12_127_12 : ma_fld 12 127 12 = some 68 := by decide +kernel
theorem f_12_130_12 : ma_fld 12 130 12 = some 69 := by decide +kernel
theorem p_12_121_12 : ma_pk 12 121 12 67 = true := by decide +kernel
theorem p_12_127_12 : ma_pk 12 127 12 68 = true := by decide +kernel
theorem p_12_130_12 : ma_pk 12 130 12 69 = true := by decide +kernel
theorem dX12_token_0 : decode cX12_token 0 = .ok (.aload_n 0, 1) := by decide +kernel
theorem dX12_token_4 : decode cX12_token 4 = .ok (.aload_n 0, 1) := by decide +kernel
theorem dX12_token_38 : decode cX12_token 38 = .ok (.aload_n 0, 1) := by decide +kernel
theorem dX12_token_39 : decode cX12_token 39 = .ok (.aload_n 0, 1) := by decide +kernel
theorem dX12_token_43 : decode cX12_token 43 = .ok (.putfield 127, 3) := by decide +kernel
theorem dX12_token_40 : decode cX12_token 40 = .ok (.getfield 121, 3) := by decide +kernel
theorem dX12_token_11 : decode cX12_token 11 = .ok (.aload_n 0, 1) := by decide +kernel
theorem dX12_token_15 : decode cX12_token 15 = .ok (.aload_n 0, 1) := by decide +kernel
theorem dX12_token_20 : decode cX12_token 20 = .ok (.bipush 32, 2) := by decide +kernel
theorem dX12_token_25 : decode cX12_token 25 = .ok (.aload_n 0, 1) := by decide +kernel
theorem dX12_token_26 : decode cX12_token 26 = .ok (.dup, 1) := by decide +kernel
theorem dX12_token_30 : decode cX12_token 30 = .ok (.iconst 1, 1) := by decide +kernel
theorem dX12_token_31 : decode cX12_token 31 = .ok (.iadd, 1) := by decide +kernel
theorem dX12_token_35 : decode cX12_token 35 = .ok (.goto (-35), 3) := by decide +kernel
theorem dX12_token_32 : decode cX12_token 32 = .ok (.putfield 121, 3) := by decide +kernel
theorem dX12_token_27 : decode cX12_token 27 = .ok (.getfield 121, 3) := by decide +kernel
theorem dX12_token_22 : decode cX12_token 22 = .ok (.if_icmp .ne 16, 3) := by decide +kernel
theorem dX12_token_19 : decode cX12_token 19 = .ok (.baload, 1) := by decide +kernel
theorem dX12_token_16 : decode cX12_token 16 = .ok (.getfield 121, 3) := by decide +kernel
theorem dX12_token_12 : decode cX12_token 12 = .ok (.getfield 17, 3) := by decide +kernel
theorem dX12_token_8 : decode cX12_token 8 = .ok (.if_icmp .ge 30, 3) := by decide +kernel
theorem dX12_token_5 : decode cX12_token 5 = .ok (.getfield 124, 3) := by decide +kernel
theorem dX12_token_1 : decode cX12_token 1 = .ok (.getfield 121, 3) := by decide +kernel
theorem dX12_token_46 : decode cX12_token 46 = .ok (.aload_n 0, 1) := by decide +kernel
theorem dX12_token_50 : decode cX12_token 50 = .ok (.aload_n 0, 1) := by decide +kernel
theorem dX12_token_84 : decode cX12_token 84 = .ok (.aload_n 0, 1) := by decide +kernel
theorem dX12_token_85 : decode cX12_token 85 = .ok (.aload_n 0, 1) := by decide +kernel
theorem dX12_token_89 : decode cX12_token 89 = .ok (.aload_n 0, 1) := by decide +kernel
theorem dX12_token_93 : decode cX12_token 93 = .ok (.isub, 1) := by decide +kernel
theorem dX12_token_97 : decode cX12_token 97 = .ok (.aload_n 0, 1) := by decide +kernel
theorem dX12_token_108 : decode cX12_token 108 = .ok (.iconst 0, 1) := by decide +kernel
theorem dX12_token_109 : decode cX12_token 109 = .ok (.ireturn, 1) := by decide +kernel
theorem dX12_token_104 : decode cX12_token 104 = .ok (.iconst 1, 1) := by decide +kernel
theorem dX12_token_105 : decode cX12_token 105 = .ok (.goto 4, 3) := by decide +kernel
theorem dX12_token_101 : decode cX12_token 101 = .ok (.ifCond .le 7, 3) := by decide +kernel
theorem dX12_token_98 : decode cX12_token 98 = .ok (.getfield 130, 3) := by decide +kernel
theorem dX12_token_94 : decode cX12_token 94 = .ok (.putfield 130, 3) := by decide +kernel
theorem dX12_token_90 : decode cX12_token 90 = .ok (.getfield 127, 3) := by decide +kernel
theorem dX12_token_86 : decode cX12_token 86 = .ok (.getfield 121, 3) := by decide +kernel
theorem dX12_token_57 : decode cX12_token 57 = .ok (.aload_n 0, 1) := by decide +kernel
theorem dX12_token_61 : decode cX12_token 61 = .ok (.aload_n 0, 1) := by decide +kernel
theorem dX12_token_66 : decode cX12_token 66 = .ok (.bipush 32, 2) := by decide +kernel
theorem dX12_token_71 : decode cX12_token 71 = .ok (.aload_n 0, 1) := by decide +kernel
theorem dX12_token_72 : decode cX12_token 72 = .ok (.dup, 1) := by decide +kernel
theorem dX12_token_76 : decode cX12_token 76 = .ok (.iconst 1, 1) := by decide +kernel
theorem dX12_token_77 : decode cX12_token 77 = .ok (.iadd, 1) := by decide +kernel
theorem dX12_token_81 : decode cX12_token 81 = .ok (.goto (-35), 3) := by decide +kernel
theorem dX12_token_78 : decode cX12_token 78 = .ok (.putfield 121, 3) := by decide +kernel
theorem dX12_token_73 : decode cX12_token 73 = .ok (.getfield 121, 3) := by decide +kernel
theorem dX12_token_68 : decode cX12_token 68 = .ok (.if_icmp .eq 16, 3) := by decide +kernel
theorem dX12_token_65 : decode cX12_token 65 = .ok (.baload, 1) := by decide +kernel
theorem dX12_token_62 : decode cX12_token 62 = .ok (.getfield 121, 3) := by decide +kernel
theorem dX12_token_58 : decode cX12_token 58 = .ok (.getfield 17, 3) := by decide +kernel
theorem dX12_token_54 : decode cX12_token 54 = .ok (.if_icmp .ge 30, 3) := by decide +kernel
theorem dX12_token_51 : decode cX12_token 51 = .ok (.getfield 124, 3) := by decide +kernel
theorem dX12_token_47 : decode cX12_token 47 = .ok (.getfield 121, 3) := by decide +kernel
def wr_173 (c k : Nat) : Bool := (Nat.beq c 94 && (Nat.beq k 67 || Nat.beq k 68 || Nat.beq k 69))
theorem g_173_0 {X : Nat × (Nat → Int32)} {m : Nat → Nat → Int32} {P : Option ma_V → (Nat → Nat → Int32) → Prop}  (h : if (m 94 4) ≤ (m 94 67) then (zm X 0 0 173 46 [(0, .inr (.inr (some 94)))] (ma_u m 94 68 (m 94 67)) P) else ((0 ≤ (m 94 67) ∧ (m 94 67).toNatClampNeg < 100) ∧ (if (m 96 (m 94 67).toNatClampNeg) = (32 : Int32) then (zm X 0 0 173 0 [(0, .inr (.inr (some 94)))] (ma_u m 94 67 ((m 94 67) + (1 : Int32))) P) else (zm X 0 0 173 46 [(0, .inr (.inr (some 94)))] (ma_u m 94 68 (m 94 67)) P)))) : zm X 0 0 173 0 [(0, .inr (.inr (some 94)))] m P := by
  intro d w S Q hd hw hS hm HQ
  subst hm
  refine zw_push hm_173 dX12_token_0 (v := .inr (.inr (some 94))) rfl ?_
  refine zw_gf hm_173 dX12_token_1 (v := .inl ((mI S) 94 67)) (zT_is hS s_94) (zT_t hS s_94) rfl f_12_121_12 rfl ?_
  refine zw_push hm_173 dX12_token_4 (v := .inr (.inr (some 94))) rfl ?_
  refine zw_gf hm_173 dX12_token_5 (v := .inl ((mI S) 94 4)) (zT_is hS s_94) (zT_t hS s_94) rfl f_12_124_12 rfl ?_
  refine zw_if2 hm_173 dX12_token_8 (t := 38) rfl zc2_ge ?_ ?_
  · intro hc
    rw [if_pos hc] at h
    refine zw_push hm_173 dX12_token_38 (v := .inr (.inr (some 94))) rfl ?_
    refine zw_push hm_173 dX12_token_39 (v := .inr (.inr (some 94))) rfl ?_
    refine zw_gf hm_173 dX12_token_40 (v := .inl ((mI S) 94 67)) (zT_is hS s_94) (zT_t hS s_94) rfl f_12_121_12 rfl ?_
    refine zw_pf hm_173 dX12_token_43 (zT_is hS s_94) (zT_t hS s_94) p_12_127_12 zk_int ?_
    exact (h d w _ Q (by omega) (by omega) (zT_pi hS) rfl HQ)
  · intro hc
    rw [if_neg hc] at h
    refine zw_push hm_173 dX12_token_11 (v := .inr (.inr (some 94))) rfl ?_
    refine zw_gf hm_173 dX12_token_12 (v := .inr (.inr (some 96))) (zT_is hS s_94) (zT_t hS s_94) rfl f_12_17_12 (zT_f hS r_94_2) ?_
    refine zw_push hm_173 dX12_token_15 (v := .inr (.inr (some 94))) rfl ?_
    refine zw_gf hm_173 dX12_token_16 (v := .inl ((mI S) 94 67)) (zT_is hS s_94) (zT_t hS s_94) rfl f_12_121_12 rfl ?_
    obtain ⟨hg, h⟩ := h
    refine zw_ba hm_173 dX12_token_19 (zT_is hS s_96) (zT_h hS s_96) rfl rfl hg ?_
    show ma_wp X d w 173 20 [(0, .inr (.inr (some 94)))] [.inl ((mI S) 96 ((mI S) 94 67).toNatClampNeg)] S _
    refine zw_push hm_173 dX12_token_20 (v := .inl (32 : Int32)) rfl ?_
    refine zw_if2 hm_173 dX12_token_22 (t := 38) rfl zc2_ne ?_ ?_
    · intro hc
      rw [if_neg hc] at h
      refine zw_push hm_173 dX12_token_38 (v := .inr (.inr (some 94))) rfl ?_
      refine zw_push hm_173 dX12_token_39 (v := .inr (.inr (some 94))) rfl ?_
      refine zw_gf hm_173 dX12_token_40 (v := .inl ((mI S) 94 67)) (zT_is hS s_94) (zT_t hS s_94) rfl f_12_121_12 rfl ?_
      refine zw_pf hm_173 dX12_token_43 (zT_is hS s_94) (zT_t hS s_94) p_12_127_12 zk_int ?_
      exact (h d w _ Q (by omega) (by omega) (zT_pi hS) rfl HQ)
    · intro hc
      rw [if_pos (Classical.not_not.mp hc)] at h
      refine zw_push hm_173 dX12_token_25 (v := .inr (.inr (some 94))) rfl ?_
      refine zw_stk hm_173 dX12_token_26 (st₉ := [.inr (.inr (some 94)), .inr (.inr (some 94))]) rfl rfl ?_
      refine zw_gf hm_173 dX12_token_27 (v := .inl ((mI S) 94 67)) (zT_is hS s_94) (zT_t hS s_94) rfl f_12_121_12 rfl ?_
      refine zw_push hm_173 dX12_token_30 (v := .inl (1 : Int32)) rfl ?_
      refine zw_stk hm_173 dX12_token_31 (st₉ := [.inl (((mI S) 94 67) + (1 : Int32)), .inr (.inr (some 94))]) rfl rfl ?_
      refine zw_pf hm_173 dX12_token_32 (zT_is hS s_94) (zT_t hS s_94) p_12_121_12 zk_int ?_
      refine zw_goto hm_173 dX12_token_35 (t := 0) rfl ?_
      exact (h d w _ Q (by omega) (by omega) (zT_pi hS) rfl HQ)
theorem g_173_46 {X : Nat × (Nat → Int32)} {m : Nat → Nat → Int32} {P : Option ma_V → (Nat → Nat → Int32) → Prop}  (h : if (m 94 4) ≤ (m 94 67) then (if ((m 94 67) - (m 94 68)) ≤ 0 then (P (some (.inl (0 : Int32))) (ma_u m 94 69 ((m 94 67) - (m 94 68)))) else (P (some (.inl (1 : Int32))) (ma_u m 94 69 ((m 94 67) - (m 94 68))))) else ((0 ≤ (m 94 67) ∧ (m 94 67).toNatClampNeg < 100) ∧ (if (m 96 (m 94 67).toNatClampNeg) = (32 : Int32) then (if ((m 94 67) - (m 94 68)) ≤ 0 then (P (some (.inl (0 : Int32))) (ma_u m 94 69 ((m 94 67) - (m 94 68)))) else (P (some (.inl (1 : Int32))) (ma_u m 94 69 ((m 94 67) - (m 94 68))))) else (zm X 0 0 173 46 [(0, .inr (.inr (some 94)))] (ma_u m 94 67 ((m 94 67) + (1 : Int32))) P)))) : zm X 0 0 173 46 [(0, .inr (.inr (some 94)))] m P := by
  intro d w S Q hd hw hS hm HQ
  subst hm
  refine zw_push hm_173 dX12_token_46 (v := .inr (.inr (some 94))) rfl ?_
  refine zw_gf hm_173 dX12_token_47 (v := .inl ((mI S) 94 67)) (zT_is hS s_94) (zT_t hS s_94) rfl f_12_121_12 rfl ?_
  refine zw_push hm_173 dX12_token_50 (v := .inr (.inr (some 94))) rfl ?_
  refine zw_gf hm_173 dX12_token_51 (v := .inl ((mI S) 94 4)) (zT_is hS s_94) (zT_t hS s_94) rfl f_12_124_12 rfl ?_
  refine zw_if2 hm_173 dX12_token_54 (t := 84) rfl zc2_ge ?_ ?_
  · intro hc
    rw [if_pos hc] at h
    refine zw_push hm_173 dX12_token_84 (v := .inr (.inr (some 94))) rfl ?_
    refine zw_push hm_173 dX12_token_85 (v := .inr (.inr (some 94))) rfl ?_
    refine zw_gf hm_173 dX12_token_86 (v := .inl ((mI S) 94 67)) (zT_is hS s_94) (zT_t hS s_94) rfl f_12_121_12 rfl ?_
    refine zw_push hm_173 dX12_token_89 (v := .inr (.inr (some 94))) rfl ?_
    refine zw_gf hm_173 dX12_token_90 (v := .inl ((mI S) 94 68)) (zT_is hS s_94) (zT_t hS s_94) rfl f_12_127_12 rfl ?_
    refine zw_stk hm_173 dX12_token_93 (st₉ := [.inl (((mI S) 94 67) - ((mI S) 94 68)), .inr (.inr (some 94))]) rfl rfl ?_
    refine zw_pf hm_173 dX12_token_94 (zT_is hS s_94) (zT_t hS s_94) p_12_130_12 zk_int ?_
    refine zw_push hm_173 dX12_token_97 (v := .inr (.inr (some 94))) rfl ?_
    refine zw_gf hm_173 dX12_token_98 (v := .inl (((mI S) 94 67) - ((mI S) 94 68))) (zT_is (zT_pi hS) s_94) (zT_t (zT_pi hS) s_94) rfl f_12_130_12 rfl ?_
    refine zw_if0 hm_173 dX12_token_101 (t := 108) rfl zc0_le ?_ ?_
    · intro hc
      rw [if_pos hc] at h
      refine zw_push hm_173 dX12_token_108 (v := .inl (0 : Int32)) rfl ?_
      exact zw_bret hm_173 dX12_token_109 (by decide) (HQ _ _ h)
    · intro hc
      rw [if_neg hc] at h
      refine zw_push hm_173 dX12_token_104 (v := .inl (1 : Int32)) rfl ?_
      refine zw_goto hm_173 dX12_token_105 (t := 109) rfl ?_
      exact zw_bret hm_173 dX12_token_109 (by decide) (HQ _ _ h)
  · intro hc
    rw [if_neg hc] at h
    refine zw_push hm_173 dX12_token_57 (v := .inr (.inr (some 94))) rfl ?_
    refine zw_gf hm_173 dX12_token_58 (v := .inr (.inr (some 96))) (zT_is hS s_94) (zT_t hS s_94) rfl f_12_17_12 (zT_f hS r_94_2) ?_
    refine zw_push hm_173 dX12_token_61 (v := .inr (.inr (some 94))) rfl ?_
    refine zw_gf hm_173 dX12_token_62 (v := .inl ((mI S) 94 67)) (zT_is hS s_94) (zT_t hS s_94) rfl f_12_121_12 rfl ?_
    obtain ⟨hg, h⟩ := h
    refine zw_ba hm_173 dX12_token_65 (zT_is hS s_96) (zT_h hS s_96) rfl rfl hg ?_
    show ma_wp X d w 173 66 [(0, .inr (.inr (some 94)))] [.inl ((mI S) 96 ((mI S) 94 67).toNatClampNeg)] S _
    refine zw_push hm_173 dX12_token_66 (v := .inl (32 : Int32)) rfl ?_
    refine zw_if2 hm_173 dX12_token_68 (t := 84) rfl zc2_eq ?_ ?_
    · intro hc
      rw [if_pos hc] at h
      refine zw_push hm_173 dX12_token_84 (v := .inr (.inr (some 94))) rfl ?_
      refine zw_push hm_173 dX12_token_85 (v := .inr (.inr (some 94))) rfl ?_
      refine zw_gf hm_173 dX12_token_86 (v := .inl ((mI S) 94 67)) (zT_is hS s_94) (zT_t hS s_94) rfl f_12_121_12 rfl ?_
      refine zw_push hm_173 dX12_token_89 (v := .inr (.inr (some 94))) rfl ?_
      refine zw_gf hm_173 dX12_token_90 (v := .inl ((mI S) 94 68)) (zT_is hS s_94) (zT_t hS s_94) rfl f_12_127_12 rfl ?_
      refine zw_stk hm_173 dX12_token_93 (st₉ := [.inl (((mI S) 94 67) - ((mI S) 94 68)), .inr (.inr (some 94))]) rfl rfl ?_
      refine zw_pf hm_173 dX12_token_94 (zT_is hS s_94) (zT_t hS s_94) p_12_130_12 zk_int ?_
      refine zw_push hm_173 dX12_token_97 (v := .inr (.inr (some 94))) rfl ?_
      refine zw_gf hm_173 dX12_token_98 (v := .inl (((mI S) 94 67) - ((mI S) 94 68))) (zT_is (zT_pi hS) s_94) (zT_t (zT_pi hS) s_94) rfl f_12_130_12 rfl ?_
      refine zw_if0 hm_173 dX12_token_101 (t := 108) rfl zc0_le ?_ ?_
      · intro hc
        rw [if_pos hc] at h
        refine zw_push hm_173 dX12_token_108 (v := .inl (0 : Int32)) rfl ?_
        exact zw_bret hm_173 dX12_token_109 (by decide) (HQ _ _ h)
      · intro hc
        rw [if_neg hc] at h
        refine zw_push hm_173 dX12_token_104 (v := .inl (1 : Int32)) rfl ?_
        refine zw_goto hm_173 dX12_token_105 (t := 109) rfl ?_
        exact zw_bret hm_173 dX12_token_109 (by decide) (HQ _ _ h)
    · intro hc
      rw [if_neg hc] at h
      refine zw_push hm_173 dX12_token_71 (v := .inr (.inr (some 94))) rfl ?_
      refine zw_stk hm_173 dX12_token_72 (st₉ := [.inr (.inr (some 94)), .inr (.inr (some 94))]) rfl rfl ?_
      refine zw_gf hm_173 dX12_token_73 (v := .inl ((mI S) 94 67)) (zT_is hS s_94) (zT_t hS s_94) rfl f_12_121_12 rfl ?_
      refine zw_push hm_173 dX12_token_76 (v := .inl (1 : Int32)) rfl ?_
      refine zw_stk hm_173 dX12_token_77 (st₉ := [.inl (((mI S) 94 67) + (1 : Int32)), .inr (.inr (some 94))]) rfl rfl ?_
      refine zw_pf hm_173 dX12_token_78 (zT_is hS s_94) (zT_t hS s_94) p_12_121_12 zk_int ?_
      refine zw_goto hm_173 dX12_token_81 (t := 46) rfl ?_
      exact (h d w _ Q (by omega) (by omega) (zT_pi hS) rfl HQ)
/-! from 94.402 -/
/-! the reference (written by wip/tools/gen94m.py) -/
set_option maxRecDepth 100000 in
theorem hm_175 : ma_md 175 = some (12, yX12_is, cX12_is, 9, (some (FieldType.boolean))) := rfl
set_option maxRecDepth 100000 in
theorem hm_176 : ma_md 176 = some (12, yX12_byteIs, cX12_byteIs, 3, (some (FieldType.boolean))) := rfl
theorem v_12_136_12 : ma_vl 12 136 12 = some (1, 176, 2) := by decide +kernel
theorem dX12_is_0 : decode cX12_is 0 = .ok (.iload 5, 2) := by decide +kernel
theorem dX12_is_9 : decode cX12_is 9 = .ok (.iload 6, 2) := by decide +kernel
theorem dX12_is_18 : decode cX12_is 18 = .ok (.iload 7, 2) := by decide +kernel
theorem dX12_is_28 : decode cX12_is 28 = .ok (.bipush 7, 2) := by decide +kernel
theorem dX12_is_30 : decode cX12_is 30 = .ok (.istore 8, 2) := by decide +kernel
theorem dX12_is_32 : decode cX12_is 32 = .ok (.aload_n 0, 1) := by decide +kernel
theorem dX12_is_36 : decode cX12_is 36 = .ok (.iload 8, 2) := by decide +kernel
theorem dX12_is_43 : decode cX12_is 43 = .ok (.aload_n 0, 1) := by decide +kernel
theorem dX12_is_44 : decode cX12_is 44 = .ok (.iconst 0, 1) := by decide +kernel
theorem dX12_is_45 : decode cX12_is 45 = .ok (.iload_n 1, 1) := by decide +kernel
theorem dX12_is_46 : decode cX12_is 46 = .ok (.invokevirtual 136, 3) := by decide +kernel
theorem dX12_byteIs_0 : decode cX12_byteIs 0 = .ok (.aload_n 0, 1) := by decide +kernel
theorem dX12_byteIs_4 : decode cX12_byteIs 4 = .ok (.aload_n 0, 1) := by decide +kernel
theorem dX12_byteIs_8 : decode cX12_byteIs 8 = .ok (.iload_n 1, 1) := by decide +kernel
theorem dX12_byteIs_9 : decode cX12_byteIs 9 = .ok (.iadd, 1) := by decide +kernel
theorem dX12_byteIs_11 : decode cX12_byteIs 11 = .ok (.iload_n 2, 1) := by decide +kernel
theorem dX12_byteIs_19 : decode cX12_byteIs 19 = .ok (.iconst 0, 1) := by decide +kernel
theorem dX12_is_49 : decode cX12_is 49 = .ok (.ifCond .eq 86, 3) := by decide +kernel
theorem dX12_is_135 : decode cX12_is 135 = .ok (.iconst 0, 1) := by decide +kernel
theorem dX12_is_136 : decode cX12_is 136 = .ok (.ireturn, 1) := by decide +kernel
theorem dX12_byteIs_20 : decode cX12_byteIs 20 = .ok (.ireturn, 1) := by decide +kernel
theorem dX12_byteIs_15 : decode cX12_byteIs 15 = .ok (.iconst 1, 1) := by decide +kernel
theorem dX12_byteIs_16 : decode cX12_byteIs 16 = .ok (.goto 4, 3) := by decide +kernel
theorem dX12_is_52 : decode cX12_is 52 = .ok (.aload_n 0, 1) := by decide +kernel
theorem dX12_is_53 : decode cX12_is 53 = .ok (.iconst 1, 1) := by decide +kernel
theorem dX12_is_54 : decode cX12_is 54 = .ok (.iload_n 2, 1) := by decide +kernel
theorem dX12_is_55 : decode cX12_is 55 = .ok (.invokevirtual 136, 3) := by decide +kernel
theorem dX12_is_58 : decode cX12_is 58 = .ok (.ifCond .eq 77, 3) := by decide +kernel
theorem dX12_is_61 : decode cX12_is 61 = .ok (.aload_n 0, 1) := by decide +kernel
theorem dX12_is_62 : decode cX12_is 62 = .ok (.iconst 2, 1) := by decide +kernel
theorem dX12_is_63 : decode cX12_is 63 = .ok (.iload_n 3, 1) := by decide +kernel
theorem dX12_is_64 : decode cX12_is 64 = .ok (.invokevirtual 136, 3) := by decide +kernel
theorem dX12_is_67 : decode cX12_is 67 = .ok (.ifCond .eq 68, 3) := by decide +kernel
theorem dX12_is_70 : decode cX12_is 70 = .ok (.aload_n 0, 1) := by decide +kernel
theorem dX12_is_71 : decode cX12_is 71 = .ok (.iconst 3, 1) := by decide +kernel
theorem dX12_is_72 : decode cX12_is 72 = .ok (.iload 4, 2) := by decide +kernel
theorem dX12_is_74 : decode cX12_is 74 = .ok (.invokevirtual 136, 3) := by decide +kernel
theorem dX12_is_77 : decode cX12_is 77 = .ok (.ifCond .eq 58, 3) := by decide +kernel
theorem dX12_is_80 : decode cX12_is 80 = .ok (.iload 8, 2) := by decide +kernel
theorem dX12_is_82 : decode cX12_is 82 = .ok (.iconst 5, 1) := by decide +kernel
theorem dX12_is_83 : decode cX12_is 83 = .ok (.if_icmp .lt 13, 3) := by decide +kernel
theorem dX12_is_86 : decode cX12_is 86 = .ok (.aload_n 0, 1) := by decide +kernel
theorem dX12_is_87 : decode cX12_is 87 = .ok (.iconst 4, 1) := by decide +kernel
theorem dX12_is_88 : decode cX12_is 88 = .ok (.iload 5, 2) := by decide +kernel
theorem dX12_is_90 : decode cX12_is 90 = .ok (.invokevirtual 136, 3) := by decide +kernel
theorem dX12_is_93 : decode cX12_is 93 = .ok (.ifCond .eq 42, 3) := by decide +kernel
theorem dX12_is_96 : decode cX12_is 96 = .ok (.iload 8, 2) := by decide +kernel
theorem dX12_is_98 : decode cX12_is 98 = .ok (.bipush 6, 2) := by decide +kernel
theorem dX12_is_100 : decode cX12_is 100 = .ok (.if_icmp .lt 13, 3) := by decide +kernel
theorem dX12_is_103 : decode cX12_is 103 = .ok (.aload_n 0, 1) := by decide +kernel
theorem dX12_is_104 : decode cX12_is 104 = .ok (.iconst 5, 1) := by decide +kernel
theorem dX12_is_105 : decode cX12_is 105 = .ok (.iload 6, 2) := by decide +kernel
theorem dX12_is_107 : decode cX12_is 107 = .ok (.invokevirtual 136, 3) := by decide +kernel
theorem dX12_is_110 : decode cX12_is 110 = .ok (.ifCond .eq 25, 3) := by decide +kernel
theorem dX12_is_113 : decode cX12_is 113 = .ok (.iload 8, 2) := by decide +kernel
theorem dX12_is_115 : decode cX12_is 115 = .ok (.bipush 7, 2) := by decide +kernel
theorem dX12_is_117 : decode cX12_is 117 = .ok (.if_icmp .lt 14, 3) := by decide +kernel
theorem dX12_is_120 : decode cX12_is 120 = .ok (.aload_n 0, 1) := by decide +kernel
theorem dX12_is_121 : decode cX12_is 121 = .ok (.bipush 6, 2) := by decide +kernel
theorem dX12_is_123 : decode cX12_is 123 = .ok (.iload 7, 2) := by decide +kernel
theorem dX12_is_125 : decode cX12_is 125 = .ok (.invokevirtual 136, 3) := by decide +kernel
theorem dX12_is_128 : decode cX12_is 128 = .ok (.ifCond .eq 7, 3) := by decide +kernel
theorem dX12_is_131 : decode cX12_is 131 = .ok (.iconst 1, 1) := by decide +kernel
theorem dX12_is_132 : decode cX12_is 132 = .ok (.goto 4, 3) := by decide +kernel
theorem dX12_byteIs_12 : decode cX12_byteIs 12 = .ok (.if_icmp .ne 7, 3) := by decide +kernel
theorem dX12_byteIs_10 : decode cX12_byteIs 10 = .ok (.baload, 1) := by decide +kernel
theorem dX12_byteIs_5 : decode cX12_byteIs 5 = .ok (.getfield 127, 3) := by decide +kernel
theorem dX12_byteIs_1 : decode cX12_byteIs 1 = .ok (.getfield 17, 3) := by decide +kernel
theorem dX12_is_41 : decode cX12_is 41 = .ok (.iconst 0, 1) := by decide +kernel
theorem dX12_is_42 : decode cX12_is 42 = .ok (.ireturn, 1) := by decide +kernel
theorem dX12_is_38 : decode cX12_is 38 = .ok (.if_icmp .eq 5, 3) := by decide +kernel
theorem dX12_is_33 : decode cX12_is 33 = .ok (.getfield 130, 3) := by decide +kernel
theorem dX12_is_23 : decode cX12_is 23 = .ok (.bipush 6, 2) := by decide +kernel
theorem dX12_is_25 : decode cX12_is 25 = .ok (.goto 5, 3) := by decide +kernel
theorem dX12_is_20 : decode cX12_is 20 = .ok (.ifCond .ne 8, 3) := by decide +kernel
theorem dX12_is_14 : decode cX12_is 14 = .ok (.iconst 5, 1) := by decide +kernel
theorem dX12_is_15 : decode cX12_is 15 = .ok (.goto 15, 3) := by decide +kernel
theorem dX12_is_11 : decode cX12_is 11 = .ok (.ifCond .ne 7, 3) := by decide +kernel
theorem dX12_is_5 : decode cX12_is 5 = .ok (.iconst 4, 1) := by decide +kernel
theorem dX12_is_6 : decode cX12_is 6 = .ok (.goto 24, 3) := by decide +kernel
theorem dX12_is_2 : decode cX12_is 2 = .ok (.ifCond .ne 7, 3) := by decide +kernel
def wr_175 (_ _ : Nat) : Bool := false
theorem g_175_0 {X : Nat × (Nat → Int32)} {m : Nat → Nat → Int32} {P : Option ma_V → (Nat → Nat → Int32) → Prop} (xa : Int32) (xb : Int32) (xc : Int32) (xd : Int32) (xe : Int32) (xf : Int32) (xg : Int32) (h : if xe = 0 then (if (m 94 69) = (4 : Int32) then ((0 ≤ ((m 94 68) + (0 : Int32)) ∧ ((m 94 68) + (0 : Int32)).toNatClampNeg < 100) ∧ (if (m 96 ((m 94 68) + (0 : Int32)).toNatClampNeg) = xa then ((0 ≤ ((m 94 68) + (1 : Int32)) ∧ ((m 94 68) + (1 : Int32)).toNatClampNeg < 100) ∧ (if (m 96 ((m 94 68) + (1 : Int32)).toNatClampNeg) = xb then ((0 ≤ ((m 94 68) + (2 : Int32)) ∧ ((m 94 68) + (2 : Int32)).toNatClampNeg < 100) ∧ (if (m 96 ((m 94 68) + (2 : Int32)).toNatClampNeg) = xc then ((0 ≤ ((m 94 68) + (3 : Int32)) ∧ ((m 94 68) + (3 : Int32)).toNatClampNeg < 100) ∧ (if (m 96 ((m 94 68) + (3 : Int32)).toNatClampNeg) = xd then (P (some (.inl (1 : Int32))) m) else (P (some (.inl (0 : Int32))) m))) else (P (some (.inl (0 : Int32))) m))) else (P (some (.inl (0 : Int32))) m))) else (P (some (.inl (0 : Int32))) m))) else (P (some (.inl (0 : Int32))) m)) else (if xf = 0 then (if (m 94 69) = (5 : Int32) then ((0 ≤ ((m 94 68) + (0 : Int32)) ∧ ((m 94 68) + (0 : Int32)).toNatClampNeg < 100) ∧ (if (m 96 ((m 94 68) + (0 : Int32)).toNatClampNeg) = xa then ((0 ≤ ((m 94 68) + (1 : Int32)) ∧ ((m 94 68) + (1 : Int32)).toNatClampNeg < 100) ∧ (if (m 96 ((m 94 68) + (1 : Int32)).toNatClampNeg) = xb then ((0 ≤ ((m 94 68) + (2 : Int32)) ∧ ((m 94 68) + (2 : Int32)).toNatClampNeg < 100) ∧ (if (m 96 ((m 94 68) + (2 : Int32)).toNatClampNeg) = xc then ((0 ≤ ((m 94 68) + (3 : Int32)) ∧ ((m 94 68) + (3 : Int32)).toNatClampNeg < 100) ∧ (if (m 96 ((m 94 68) + (3 : Int32)).toNatClampNeg) = xd then ((0 ≤ ((m 94 68) + (4 : Int32)) ∧ ((m 94 68) + (4 : Int32)).toNatClampNeg < 100) ∧ (if (m 96 ((m 94 68) + (4 : Int32)).toNatClampNeg) = xe then (P (some (.inl (1 : Int32))) m) else (P (some (.inl (0 : Int32))) m))) else (P (some (.inl (0 : Int32))) m))) else (P (some (.inl (0 : Int32))) m))) else (P (some (.inl (0 : Int32))) m))) else (P (some (.inl (0 : Int32))) m))) else (P (some (.inl (0 : Int32))) m)) else (if xg = 0 then (if (m 94 69) = (6 : Int32) then ((0 ≤ ((m 94 68) + (0 : Int32)) ∧ ((m 94 68) + (0 : Int32)).toNatClampNeg < 100) ∧ (if (m 96 ((m 94 68) + (0 : Int32)).toNatClampNeg) = xa then ((0 ≤ ((m 94 68) + (1 : Int32)) ∧ ((m 94 68) + (1 : Int32)).toNatClampNeg < 100) ∧ (if (m 96 ((m 94 68) + (1 : Int32)).toNatClampNeg) = xb then ((0 ≤ ((m 94 68) + (2 : Int32)) ∧ ((m 94 68) + (2 : Int32)).toNatClampNeg < 100) ∧ (if (m 96 ((m 94 68) + (2 : Int32)).toNatClampNeg) = xc then ((0 ≤ ((m 94 68) + (3 : Int32)) ∧ ((m 94 68) + (3 : Int32)).toNatClampNeg < 100) ∧ (if (m 96 ((m 94 68) + (3 : Int32)).toNatClampNeg) = xd then ((0 ≤ ((m 94 68) + (4 : Int32)) ∧ ((m 94 68) + (4 : Int32)).toNatClampNeg < 100) ∧ (if (m 96 ((m 94 68) + (4 : Int32)).toNatClampNeg) = xe then ((0 ≤ ((m 94 68) + (5 : Int32)) ∧ ((m 94 68) + (5 : Int32)).toNatClampNeg < 100) ∧ (if (m 96 ((m 94 68) + (5 : Int32)).toNatClampNeg) = xf then (P (some (.inl (1 : Int32))) m) else (P (some (.inl (0 : Int32))) m))) else (P (some (.inl (0 : Int32))) m))) else (P (some (.inl (0 : Int32))) m))) else (P (some (.inl (0 : Int32))) m))) else (P (some (.inl (0 : Int32))) m))) else (P (some (.inl (0 : Int32))) m))) else (P (some (.inl (0 : Int32))) m)) else (if (m 94 69) = (7 : Int32) then ((0 ≤ ((m 94 68) + (0 : Int32)) ∧ ((m 94 68) + (0 : Int32)).toNatClampNeg < 100) ∧ (if (m 96 ((m 94 68) + (0 : Int32)).toNatClampNeg) = xa then ((0 ≤ ((m 94 68) + (1 : Int32)) ∧ ((m 94 68) + (1 : Int32)).toNatClampNeg < 100) ∧ (if (m 96 ((m 94 68) + (1 : Int32)).toNatClampNeg) = xb then ((0 ≤ ((m 94 68) + (2 : Int32)) ∧ ((m 94 68) + (2 : Int32)).toNatClampNeg < 100) ∧ (if (m 96 ((m 94 68) + (2 : Int32)).toNatClampNeg) = xc then ((0 ≤ ((m 94 68) + (3 : Int32)) ∧ ((m 94 68) + (3 : Int32)).toNatClampNeg < 100) ∧ (if (m 96 ((m 94 68) + (3 : Int32)).toNatClampNeg) = xd then ((0 ≤ ((m 94 68) + (4 : Int32)) ∧ ((m 94 68) + (4 : Int32)).toNatClampNeg < 100) ∧ (if (m 96 ((m 94 68) + (4 : Int32)).toNatClampNeg) = xe then ((0 ≤ ((m 94 68) + (5 : Int32)) ∧ ((m 94 68) + (5 : Int32)).toNatClampNeg < 100) ∧ (if (m 96 ((m 94 68) + (5 : Int32)).toNatClampNeg) = xf then ((0 ≤ ((m 94 68) + (6 : Int32)) ∧ ((m 94 68) + (6 : Int32)).toNatClampNeg < 100) ∧ (if (m 96 ((m 94 68) + (6 : Int32)).toNatClampNeg) = xg then (P (some (.inl (1 : Int32))) m) else (P (some (.inl (0 : Int32))) m))) else (P (some (.inl (0 : Int32))) m))) else (P (some (.inl (0 : Int32))) m))) else (P (some (.inl (0 : Int32))) m))) else (P (some (.inl (0 : Int32))) m))) else (P (some (.inl (0 : Int32))) m))) else (P (some (.inl (0 : Int32))) m))) else (P (some (.inl (0 : Int32))) m))))) : zm X 1 22 175 0 [(0, .inr (.inr (some 94))), (1, .inl xa), (2, .inl xb), (3, .inl xc), (4, .inl xd), (5, .inl xe), (6, .inl xf), (7, .inl xg)] m P := by
  intro d w S Q hd hw hS hm HQ
  subst hm
  refine zw_push hm_175 dX12_is_0 (v := .inl xe) rfl ?_
  refine zw_if0 hm_175 dX12_is_2 (t := 9) rfl zc0_ne ?_ ?_
  · intro hc
    rw [if_neg hc] at h
    refine zw_push hm_175 dX12_is_9 (v := .inl xf) rfl ?_
    refine zw_if0 hm_175 dX12_is_11 (t := 18) rfl zc0_ne ?_ ?_
    · intro hc
      rw [if_neg hc] at h
      refine zw_push hm_175 dX12_is_18 (v := .inl xg) rfl ?_
      refine zw_if0 hm_175 dX12_is_20 (t := 28) rfl zc0_ne ?_ ?_
      · intro hc
        rw [if_neg hc] at h
        refine zw_push hm_175 dX12_is_28 (v := .inl (7 : Int32)) rfl ?_
        refine zw_sto hm_175 dX12_is_30 [(8, .inl (7 : Int32)), (0, .inr (.inr (some 94))), (1, .inl xa), (2, .inl xb), (3, .inl xc), (4, .inl xd), (5, .inl xe), (6, .inl xf), (7, .inl xg)] rfl rfl rfl ?_
        refine zw_push hm_175 dX12_is_32 (v := .inr (.inr (some 94))) rfl ?_
        refine zw_gf hm_175 dX12_is_33 (v := .inl ((mI S) 94 69)) (zT_is hS s_94) (zT_t hS s_94) rfl f_12_130_12 rfl ?_
        refine zw_push hm_175 dX12_is_36 (v := .inl (7 : Int32)) rfl ?_
        refine zw_if2 hm_175 dX12_is_38 (t := 43) rfl zc2_eq ?_ ?_
        · intro hc
          rw [if_pos hc] at h
          refine zw_push hm_175 dX12_is_43 (v := .inr (.inr (some 94))) rfl ?_
          refine zw_push hm_175 dX12_is_44 (v := .inl (0 : Int32)) rfl ?_
          refine zw_push hm_175 dX12_is_45 (v := .inl xa) rfl ?_
          refine zw_cv hm_175 dX12_is_46 v_12_136_12 hm_176 [.inl xa, .inl (0 : Int32)] [] rfl (zT_rt hS s_94 rfl) ⟨by omega, by omega⟩ rfl ?_
          show ma_wp X (d - 1) (w - 22) 176 0 [(0, .inr (.inr (some 94))), (1, .inl (0 : Int32)), (2, .inl xa)] [] S _
          refine zw_push hm_176 dX12_byteIs_0 (v := .inr (.inr (some 94))) rfl ?_
          refine zw_gf hm_176 dX12_byteIs_1 (v := .inr (.inr (some 96))) (zT_is hS s_94) (zT_t hS s_94) rfl f_12_17_12 (zT_f hS r_94_2) ?_
          refine zw_push hm_176 dX12_byteIs_4 (v := .inr (.inr (some 94))) rfl ?_
          refine zw_gf hm_176 dX12_byteIs_5 (v := .inl ((mI S) 94 68)) (zT_is hS s_94) (zT_t hS s_94) rfl f_12_127_12 rfl ?_
          refine zw_push hm_176 dX12_byteIs_8 (v := .inl (0 : Int32)) rfl ?_
          refine zw_stk hm_176 dX12_byteIs_9 (st₉ := [.inl (((mI S) 94 68) + (0 : Int32)), .inr (.inr (some 96))]) rfl rfl ?_
          obtain ⟨hg, h⟩ := h
          refine zw_ba hm_176 dX12_byteIs_10 (zT_is hS s_96) (zT_h hS s_96) rfl rfl hg ?_
          show ma_wp X (d - 1) (w - 22) 176 11 [(0, .inr (.inr (some 94))), (1, .inl (0 : Int32)), (2, .inl xa)] [.inl ((mI S) 96 (((mI S) 94 68) + (0 : Int32)).toNatClampNeg)] S _
          refine zw_push hm_176 dX12_byteIs_11 (v := .inl xa) rfl ?_
          refine zw_if2 hm_176 dX12_byteIs_12 (t := 19) rfl zc2_ne ?_ ?_
          · intro hc
            rw [if_neg hc] at h
            refine zw_push hm_176 dX12_byteIs_19 (v := .inl (0 : Int32)) rfl ?_
            refine zw_bret hm_176 dX12_byteIs_20 (by decide) ?_
            show ma_wp X d w 175 49 [(8, .inl (7 : Int32)), (0, .inr (.inr (some 94))), (1, .inl xa), (2, .inl xb), (3, .inl xc), (4, .inl xd), (5, .inl xe), (6, .inl xf), (7, .inl xg)] [.inl (0 : Int32)] S _
            refine zw_if0 hm_175 dX12_is_49 (t := 135) rfl zc0_eq (fun _ => ?_) (fun hc => absurd (by decide) hc)
            refine zw_push hm_175 dX12_is_135 (v := .inl (0 : Int32)) rfl ?_
            exact zw_bret hm_175 dX12_is_136 (by decide) (HQ _ _ h)
          · intro hc
            rw [if_pos (Classical.not_not.mp hc)] at h
            refine zw_push hm_176 dX12_byteIs_15 (v := .inl (1 : Int32)) rfl ?_
            refine zw_goto hm_176 dX12_byteIs_16 (t := 20) rfl ?_
            refine zw_bret hm_176 dX12_byteIs_20 (by decide) ?_
            show ma_wp X d w 175 49 [(8, .inl (7 : Int32)), (0, .inr (.inr (some 94))), (1, .inl xa), (2, .inl xb), (3, .inl xc), (4, .inl xd), (5, .inl xe), (6, .inl xf), (7, .inl xg)] [.inl (1 : Int32)] S _
            refine zw_if0 hm_175 dX12_is_49 (t := 135) rfl zc0_eq (fun hc => absurd hc (by decide)) (fun _ => ?_)
            refine zw_push hm_175 dX12_is_52 (v := .inr (.inr (some 94))) rfl ?_
            refine zw_push hm_175 dX12_is_53 (v := .inl (1 : Int32)) rfl ?_
            refine zw_push hm_175 dX12_is_54 (v := .inl xb) rfl ?_
            refine zw_cv hm_175 dX12_is_55 v_12_136_12 hm_176 [.inl xb, .inl (1 : Int32)] [] rfl (zT_rt hS s_94 rfl) ⟨by omega, by omega⟩ rfl ?_
            show ma_wp X (d - 1) (w - 22) 176 0 [(0, .inr (.inr (some 94))), (1, .inl (1 : Int32)), (2, .inl xb)] [] S _
            refine zw_push hm_176 dX12_byteIs_0 (v := .inr (.inr (some 94))) rfl ?_
            refine zw_gf hm_176 dX12_byteIs_1 (v := .inr (.inr (some 96))) (zT_is hS s_94) (zT_t hS s_94) rfl f_12_17_12 (zT_f hS r_94_2) ?_
            refine zw_push hm_176 dX12_byteIs_4 (v := .inr (.inr (some 94))) rfl ?_
            refine zw_gf hm_176 dX12_byteIs_5 (v := .inl ((mI S) 94 68)) (zT_is hS s_94) (zT_t hS s_94) rfl f_12_127_12 rfl ?_
            refine zw_push hm_176 dX12_byteIs_8 (v := .inl (1 : Int32)) rfl ?_
            refine zw_stk hm_176 dX12_byteIs_9 (st₉ := [.inl (((mI S) 94 68) + (1 : Int32)), .inr (.inr (some 96))]) rfl rfl ?_
            obtain ⟨hg, h⟩ := h
            refine zw_ba hm_176 dX12_byteIs_10 (zT_is hS s_96) (zT_h hS s_96) rfl rfl hg ?_
            show ma_wp X (d - 1) (w - 22) 176 11 [(0, .inr (.inr (some 94))), (1, .inl (1 : Int32)), (2, .inl xb)] [.inl ((mI S) 96 (((mI S) 94 68) + (1 : Int32)).toNatClampNeg)] S _
            refine zw_push hm_176 dX12_byteIs_11 (v := .inl xb) rfl ?_
            refine zw_if2 hm_176 dX12_byteIs_12 (t := 19) rfl zc2_ne ?_ ?_
            · intro hc
              rw [if_neg hc] at h
              refine zw_push hm_176 dX12_byteIs_19 (v := .inl (0 : Int32)) rfl ?_
              refine zw_bret hm_176 dX12_byteIs_20 (by decide) ?_
              show ma_wp X d w 175 58 [(8, .inl (7 : Int32)), (0, .inr (.inr (some 94))), (1, .inl xa), (2, .inl xb), (3, .inl xc), (4, .inl xd), (5, .inl xe), (6, .inl xf), (7, .inl xg)] [.inl (0 : Int32)] S _
              refine zw_if0 hm_175 dX12_is_58 (t := 135) rfl zc0_eq (fun _ => ?_) (fun hc => absurd (by decide) hc)
              refine zw_push hm_175 dX12_is_135 (v := .inl (0 : Int32)) rfl ?_
              exact zw_bret hm_175 dX12_is_136 (by decide) (HQ _ _ h)
            · intro hc
              rw [if_pos (Classical.not_not.mp hc)] at h
              refine zw_push hm_176 dX12_byteIs_15 (v := .inl (1 : Int32)) rfl ?_
              refine zw_goto hm_176 dX12_byteIs_16 (t := 20) rfl ?_
              refine zw_bret hm_176 dX12_byteIs_20 (by decide) ?_
              show ma_wp X d w 175 58 [(8, .inl (7 : Int32)), (0, .inr (.inr (some 94))), (1, .inl xa), (2, .inl xb), (3, .inl xc), (4, .inl xd), (5, .inl xe), (6, .inl xf), (7, .inl xg)] [.inl (1 : Int32)] S _
              refine zw_if0 hm_175 dX12_is_58 (t := 135) rfl zc0_eq (fun hc => absurd hc (by decide)) (fun _ => ?_)
              refine zw_push hm_175 dX12_is_61 (v := .inr (.inr (some 94))) rfl ?_
              refine zw_push hm_175 dX12_is_62 (v := .inl (2 : Int32)) rfl ?_
              refine zw_push hm_175 dX12_is_63 (v := .inl xc) rfl ?_
              refine zw_cv hm_175 dX12_is_64 v_12_136_12 hm_176 [.inl xc, .inl (2 : Int32)] [] rfl (zT_rt hS s_94 rfl) ⟨by omega, by omega⟩ rfl ?_
              show ma_wp X (d - 1) (w - 22) 176 0 [(0, .inr (.inr (some 94))), (1, .inl (2 : Int32)), (2, .inl xc)] [] S _
              refine zw_push hm_176 dX12_byteIs_0 (v := .inr (.inr (some 94))) rfl ?_
              refine zw_gf hm_176 dX12_byteIs_1 (v := .inr (.inr (some 96))) (zT_is hS s_94) (zT_t hS s_94) rfl f_12_17_12 (zT_f hS r_94_2) ?_
              refine zw_push hm_176 dX12_byteIs_4 (v := .inr (.inr (some 94))) rfl ?_
              refine zw_gf hm_176 dX12_byteIs_5 (v := .inl ((mI S) 94 68)) (zT_is hS s_94) (zT_t hS s_94) rfl f_12_127_12 rfl ?_
              refine zw_push hm_176 dX12_byteIs_8 (v := .inl (2 : Int32)) rfl ?_
              refine zw_stk hm_176 dX12_byteIs_9 (st₉ := [.inl (((mI S) 94 68) + (2 : Int32)), .inr (.inr (some 96))]) rfl rfl ?_
              obtain ⟨hg, h⟩ := h
              refine zw_ba hm_176 dX12_byteIs_10 (zT_is hS s_96) (zT_h hS s_96) rfl rfl hg ?_
              show ma_wp X (d - 1) (w - 22) 176 11 [(0, .inr (.inr (some 94))), (1, .inl (2 : Int32)), (2, .inl xc)] [.inl ((mI S) 96 (((mI S) 94 68) + (2 : Int32)).toNatClampNeg)] S _
              refine zw_push hm_176 dX12_byteIs_11 (v := .inl xc) rfl ?_
              refine zw_if2 hm_176 dX12_byteIs_12 (t := 19) rfl zc2_ne ?_ ?_
              · intro hc
                rw [if_neg hc] at h
                refine zw_push hm_176 dX12_byteIs_19 (v := .inl (0 : Int32)) rfl ?_
                refine zw_bret hm_176 dX12_byteIs_20 (by decide) ?_
                show ma_wp X d w 175 67 [(8, .inl (7 : Int32)), (0, .inr (.inr (some 94))), (1, .inl xa), (2, .inl xb), (3, .inl xc), (4, .inl xd), (5, .inl xe), (6, .inl xf), (7, .inl xg)] [.inl (0 : Int32)] S _
                refine zw_if0 hm_175 dX12_is_67 (t := 135) rfl zc0_eq (fun _ => ?_) (fun hc => absurd (by decide) hc)
                refine zw_push hm_175 dX12_is_135 (v := .inl (0 : Int32)) rfl ?_
                exact zw_bret hm_175 dX12_is_136 (by decide) (HQ _ _ h)
              · intro hc
                rw [if_pos (Classical.not_not.mp hc)] at h
                refine zw_push hm_176 dX12_byteIs_15 (v := .inl (1 : Int32)) rfl ?_
                refine zw_goto hm_176 dX12_byteIs_16 (t := 20) rfl ?_
                refine zw_bret hm_176 dX12_byteIs_20 (by decide) ?_
                show ma_wp X d w 175 67 [(8, .inl (7 : Int32)), (0, .inr (.inr (some 94))), (1, .inl xa), (2, .inl xb), (3, .inl xc), (4, .inl xd), (5, .inl xe), (6, .inl xf), (7, .inl xg)] [.inl (1 : Int32)] S _
                refine zw_if0 hm_175 dX12_is_67 (t := 135) rfl zc0_eq (fun hc => absurd hc (by decide)) (fun _ => ?_)
                refine zw_push hm_175 dX12_is_70 (v := .inr (.inr (some 94))) rfl ?_
                refine zw_push hm_175 dX12_is_71 (v := .inl (3 : Int32)) rfl ?_
                refine zw_push hm_175 dX12_is_72 (v := .inl xd) rfl ?_
                refine zw_cv hm_175 dX12_is_74 v_12_136_12 hm_176 [.inl xd, .inl (3 : Int32)] [] rfl (zT_rt hS s_94 rfl) ⟨by omega, by omega⟩ rfl ?_
                show ma_wp X (d - 1) (w - 22) 176 0 [(0, .inr (.inr (some 94))), (1, .inl (3 : Int32)), (2, .inl xd)] [] S _
                refine zw_push hm_176 dX12_byteIs_0 (v := .inr (.inr (some 94))) rfl ?_
                refine zw_gf hm_176 dX12_byteIs_1 (v := .inr (.inr (some 96))) (zT_is hS s_94) (zT_t hS s_94) rfl f_12_17_12 (zT_f hS r_94_2) ?_
                refine zw_push hm_176 dX12_byteIs_4 (v := .inr (.inr (some 94))) rfl ?_
                refine zw_gf hm_176 dX12_byteIs_5 (v := .inl ((mI S) 94 68)) (zT_is hS s_94) (zT_t hS s_94) rfl f_12_127_12 rfl ?_
                refine zw_push hm_176 dX12_byteIs_8 (v := .inl (3 : Int32)) rfl ?_
                refine zw_stk hm_176 dX12_byteIs_9 (st₉ := [.inl (((mI S) 94 68) + (3 : Int32)), .inr (.inr (some 96))]) rfl rfl ?_
                obtain ⟨hg, h⟩ := h
                refine zw_ba hm_176 dX12_byteIs_10 (zT_is hS s_96) (zT_h hS s_96) rfl rfl hg ?_
                show ma_wp X (d - 1) (w - 22) 176 11 [(0, .inr (.inr (some 94))), (1, .inl (3 : Int32)), (2, .inl xd)] [.inl ((mI S) 96 (((mI S) 94 68) + (3 : Int32)).toNatClampNeg)] S _
                refine zw_push hm_176 dX12_byteIs_11 (v := .inl xd) rfl ?_
                refine zw_if2 hm_176 dX12_byteIs_12 (t := 19) rfl zc2_ne ?_ ?_
                · intro hc
                  rw [if_neg hc] at h
                  refine zw_push hm_176 dX12_byteIs_19 (v := .inl (0 : Int32)) rfl ?_
                  refine zw_bret hm_176 dX12_byteIs_20 (by decide) ?_
                  show ma_wp X d w 175 77 [(8, .inl (7 : Int32)), (0, .inr (.inr (some 94))), (1, .inl xa), (2, .inl xb), (3, .inl xc), (4, .inl xd), (5, .inl xe), (6, .inl xf), (7, .inl xg)] [.inl (0 : Int32)] S _
                  refine zw_if0 hm_175 dX12_is_77 (t := 135) rfl zc0_eq (fun _ => ?_) (fun hc => absurd (by decide) hc)
                  refine zw_push hm_175 dX12_is_135 (v := .inl (0 : Int32)) rfl ?_
                  exact zw_bret hm_175 dX12_is_136 (by decide) (HQ _ _ h)
                · intro hc
                  rw [if_pos (Classical.not_not.mp hc)] at h
                  refine zw_push hm_176 dX12_byteIs_15 (v := .inl (1 : Int32)) rfl ?_
                  refine zw_goto hm_176 dX12_byteIs_16 (t := 20) rfl ?_
                  refine zw_bret hm_176 dX12_byteIs_20 (by decide) ?_
                  show ma_wp X d w 175 77 [(8, .inl (7 : Int32)), (0, .inr (.inr (some 94))), (1, .inl xa), (2, .inl xb), (3, .inl xc), (4, .inl xd), (5, .inl xe), (6, .inl xf), (7, .inl xg)] [.inl (1 : Int32)] S _
                  refine zw_if0 hm_175 dX12_is_77 (t := 135) rfl zc0_eq (fun hc => absurd hc (by decide)) (fun _ => ?_)
                  refine zw_push hm_175 dX12_is_80 (v := .inl (7 : Int32)) rfl ?_
                  refine zw_push hm_175 dX12_is_82 (v := .inl (5 : Int32)) rfl ?_
                  refine zw_if2 hm_175 dX12_is_83 (t := 96) rfl zc2_lt (fun hc => absurd hc (by decide)) (fun _ => ?_)
                  refine zw_push hm_175 dX12_is_86 (v := .inr (.inr (some 94))) rfl ?_
                  refine zw_push hm_175 dX12_is_87 (v := .inl (4 : Int32)) rfl ?_
                  refine zw_push hm_175 dX12_is_88 (v := .inl xe) rfl ?_
                  refine zw_cv hm_175 dX12_is_90 v_12_136_12 hm_176 [.inl xe, .inl (4 : Int32)] [] rfl (zT_rt hS s_94 rfl) ⟨by omega, by omega⟩ rfl ?_
                  show ma_wp X (d - 1) (w - 22) 176 0 [(0, .inr (.inr (some 94))), (1, .inl (4 : Int32)), (2, .inl xe)] [] S _
                  refine zw_push hm_176 dX12_byteIs_0 (v := .inr (.inr (some 94))) rfl ?_
                  refine zw_gf hm_176 dX12_byteIs_1 (v := .inr (.inr (some 96))) (zT_is hS s_94) (zT_t hS s_94) rfl f_12_17_12 (zT_f hS r_94_2) ?_
                  refine zw_push hm_176 dX12_byteIs_4 (v := .inr (.inr (some 94))) rfl ?_
                  refine zw_gf hm_176 dX12_byteIs_5 (v := .inl ((mI S) 94 68)) (zT_is hS s_94) (zT_t hS s_94) rfl f_12_127_12 rfl ?_
                  refine zw_push hm_176 dX12_byteIs_8 (v := .inl (4 : Int32)) rfl ?_
                  refine zw_stk hm_176 dX12_byteIs_9 (st₉ := [.inl (((mI S) 94 68) + (4 : Int32)), .inr (.inr (some 96))]) rfl rfl ?_
                  obtain ⟨hg, h⟩ := h
                  refine zw_ba hm_176 dX12_byteIs_10 (zT_is hS s_96) (zT_h hS s_96) rfl rfl hg ?_
                  show ma_wp X (d - 1) (w - 22) 176 11 [(0, .inr (.inr (some 94))), (1, .inl (4 : Int32)), (2, .inl xe)] [.inl ((mI S) 96 (((mI S) 94 68) + (4 : Int32)).toNatClampNeg)] S _
                  refine zw_push hm_176 dX12_byteIs_11 (v := .inl xe) rfl ?_
                  refine zw_if2 hm_176 dX12_byteIs_12 (t := 19) rfl zc2_ne ?_ ?_
                  · intro hc
                    rw [if_neg hc] at h
                    refine zw_push hm_176 dX12_byteIs_19 (v := .inl (0 : Int32)) rfl ?_
                    refine zw_bret hm_176 dX12_byteIs_20 (by decide) ?_
                    show ma_wp X d w 175 93 [(8, .inl (7 : Int32)), (0, .inr (.inr (some 94))), (1, .inl xa), (2, .inl xb), (3, .inl xc), (4, .inl xd), (5, .inl xe), (6, .inl xf), (7, .inl xg)] [.inl (0 : Int32)] S _
                    refine zw_if0 hm_175 dX12_is_93 (t := 135) rfl zc0_eq (fun _ => ?_) (fun hc => absurd (by decide) hc)
                    refine zw_push hm_175 dX12_is_135 (v := .inl (0 : Int32)) rfl ?_
                    exact zw_bret hm_175 dX12_is_136 (by decide) (HQ _ _ h)
                  · intro hc
                    rw [if_pos (Classical.not_not.mp hc)] at h
                    refine zw_push hm_176 dX12_byteIs_15 (v := .inl (1 : Int32)) rfl ?_
                    refine zw_goto hm_176 dX12_byteIs_16 (t := 20) rfl ?_
                    refine zw_bret hm_176 dX12_byteIs_20 (by decide) ?_
                    show ma_wp X d w 175 93 [(8, .inl (7 : Int32)), (0, .inr (.inr (some 94))), (1, .inl xa), (2, .inl xb), (3, .inl xc), (4, .inl xd), (5, .inl xe), (6, .inl xf), (7, .inl xg)] [.inl (1 : Int32)] S _
                    refine zw_if0 hm_175 dX12_is_93 (t := 135) rfl zc0_eq (fun hc => absurd hc (by decide)) (fun _ => ?_)
                    refine zw_push hm_175 dX12_is_96 (v := .inl (7 : Int32)) rfl ?_
                    refine zw_push hm_175 dX12_is_98 (v := .inl (6 : Int32)) rfl ?_
                    refine zw_if2 hm_175 dX12_is_100 (t := 113) rfl zc2_lt (fun hc => absurd hc (by decide)) (fun _ => ?_)
                    refine zw_push hm_175 dX12_is_103 (v := .inr (.inr (some 94))) rfl ?_
                    refine zw_push hm_175 dX12_is_104 (v := .inl (5 : Int32)) rfl ?_
                    refine zw_push hm_175 dX12_is_105 (v := .inl xf) rfl ?_
                    refine zw_cv hm_175 dX12_is_107 v_12_136_12 hm_176 [.inl xf, .inl (5 : Int32)] [] rfl (zT_rt hS s_94 rfl) ⟨by omega, by omega⟩ rfl ?_
                    show ma_wp X (d - 1) (w - 22) 176 0 [(0, .inr (.inr (some 94))), (1, .inl (5 : Int32)), (2, .inl xf)] [] S _
                    refine zw_push hm_176 dX12_byteIs_0 (v := .inr (.inr (some 94))) rfl ?_
                    refine zw_gf hm_176 dX12_byteIs_1 (v := .inr (.inr (some 96))) (zT_is hS s_94) (zT_t hS s_94) rfl f_12_17_12 (zT_f hS r_94_2) ?_
                    refine zw_push hm_176 dX12_byteIs_4 (v := .inr (.inr (some 94))) rfl ?_
                    refine zw_gf hm_176 dX12_byteIs_5 (v := .inl ((mI S) 94 68)) (zT_is hS s_94) (zT_t hS s_94) rfl f_12_127_12 rfl ?_
                    refine zw_push hm_176 dX12_byteIs_8 (v := .inl (5 : Int32)) rfl ?_
                    refine zw_stk hm_176 dX12_byteIs_9 (st₉ := [.inl (((mI S) 94 68) + (5 : Int32)), .inr (.inr (some 96))]) rfl rfl ?_
                    obtain ⟨hg, h⟩ := h
                    refine zw_ba hm_176 dX12_byteIs_10 (zT_is hS s_96) (zT_h hS s_96) rfl rfl hg ?_
                    show ma_wp X (d - 1) (w - 22) 176 11 [(0, .inr (.inr (some 94))), (1, .inl (5 : Int32)), (2, .inl xf)] [.inl ((mI S) 96 (((mI S) 94 68) + (5 : Int32)).toNatClampNeg)] S _
                    refine zw_push hm_176 dX12_byteIs_11 (v := .inl xf) rfl ?_
                    refine zw_if2 hm_176 dX12_byteIs_12 (t := 19) rfl zc2_ne ?_ ?_
                    · intro hc
                      rw [if_neg hc] at h
                      refine zw_push hm_176 dX12_byteIs_19 (v := .inl (0 : Int32)) rfl ?_
                      refine zw_bret hm_176 dX12_byteIs_20 (by decide) ?_
                      show ma_wp X d w 175 110 [(8, .inl (7 : Int32)), (0, .inr (.inr (some 94))), (1, .inl xa), (2, .inl xb), (3, .inl xc), (4, .inl xd), (5, .inl xe), (6, .inl xf), (7, .inl xg)] [.inl (0 : Int32)] S _
                      refine zw_if0 hm_175 dX12_is_110 (t := 135) rfl zc0_eq (fun _ => ?_) (fun hc => absurd (by decide) hc)
                      refine zw_push hm_175 dX12_is_135 (v := .inl (0 : Int32)) rfl ?_
                      exact zw_bret hm_175 dX12_is_136 (by decide) (HQ _ _ h)
                    · intro hc
                      rw [if_pos (Classical.not_not.mp hc)] at h
                      refine zw_push hm_176 dX12_byteIs_15 (v := .inl (1 : Int32)) rfl ?_
                      refine zw_goto hm_176 dX12_byteIs_16 (t := 20) rfl ?_
                      refine zw_bret hm_176 dX12_byteIs_20 (by decide) ?_
                      show ma_wp X d w 175 110 [(8, .inl (7 : Int32)), (0, .inr (.inr (some 94))), (1, .inl xa), (2, .inl xb), (3, .inl xc), (4, .inl xd), (5, .inl xe), (6, .inl xf), (7, .inl xg)] [.inl (1 : Int32)] S _
                      refine zw_if0 hm_175 dX12_is_110 (t := 135) rfl zc0_eq (fun hc => absurd hc (by decide)) (fun _ => ?_)
                      refine zw_push hm_175 dX12_is_113 (v := .inl (7 : Int32)) rfl ?_
                      refine zw_push hm_175 dX12_is_115 (v := .inl (7 : Int32)) rfl ?_
                      refine zw_if2 hm_175 dX12_is_117 (t := 131) rfl zc2_lt (fun hc => absurd hc (by decide)) (fun _ => ?_)
                      refine zw_push hm_175 dX12_is_120 (v := .inr (.inr (some 94))) rfl ?_
                      refine zw_push hm_175 dX12_is_121 (v := .inl (6 : Int32)) rfl ?_
                      refine zw_push hm_175 dX12_is_123 (v := .inl xg) rfl ?_
                      refine zw_cv hm_175 dX12_is_125 v_12_136_12 hm_176 [.inl xg, .inl (6 : Int32)] [] rfl (zT_rt hS s_94 rfl) ⟨by omega, by omega⟩ rfl ?_
                      show ma_wp X (d - 1) (w - 22) 176 0 [(0, .inr (.inr (some 94))), (1, .inl (6 : Int32)), (2, .inl xg)] [] S _
                      refine zw_push hm_176 dX12_byteIs_0 (v := .inr (.inr (some 94))) rfl ?_
                      refine zw_gf hm_176 dX12_byteIs_1 (v := .inr (.inr (some 96))) (zT_is hS s_94) (zT_t hS s_94) rfl f_12_17_12 (zT_f hS r_94_2) ?_
                      refine zw_push hm_176 dX12_byteIs_4 (v := .inr (.inr (some 94))) rfl ?_
                      refine zw_gf hm_176 dX12_byteIs_5 (v := .inl ((mI S) 94 68)) (zT_is hS s_94) (zT_t hS s_94) rfl f_12_127_12 rfl ?_
                      refine zw_push hm_176 dX12_byteIs_8 (v := .inl (6 : Int32)) rfl ?_
                      refine zw_stk hm_176 dX12_byteIs_9 (st₉ := [.inl (((mI S) 94 68) + (6 : Int32)), .inr (.inr (some 96))]) rfl rfl ?_
                      obtain ⟨hg, h⟩ := h
                      refine zw_ba hm_176 dX12_byteIs_10 (zT_is hS s_96) (zT_h hS s_96) rfl rfl hg ?_
                      show ma_wp X (d - 1) (w - 22) 176 11 [(0, .inr (.inr (some 94))), (1, .inl (6 : Int32)), (2, .inl xg)] [.inl ((mI S) 96 (((mI S) 94 68) + (6 : Int32)).toNatClampNeg)] S _
                      refine zw_push hm_176 dX12_byteIs_11 (v := .inl xg) rfl ?_
                      refine zw_if2 hm_176 dX12_byteIs_12 (t := 19) rfl zc2_ne ?_ ?_
                      · intro hc
                        rw [if_neg hc] at h
                        refine zw_push hm_176 dX12_byteIs_19 (v := .inl (0 : Int32)) rfl ?_
                        refine zw_bret hm_176 dX12_byteIs_20 (by decide) ?_
                        show ma_wp X d w 175 128 [(8, .inl (7 : Int32)), (0, .inr (.inr (some 94))), (1, .inl xa), (2, .inl xb), (3, .inl xc), (4, .inl xd), (5, .inl xe), (6, .inl xf), (7, .inl xg)] [.inl (0 : Int32)] S _
                        refine zw_if0 hm_175 dX12_is_128 (t := 135) rfl zc0_eq (fun _ => ?_) (fun hc => absurd (by decide) hc)
                        refine zw_push hm_175 dX12_is_135 (v := .inl (0 : Int32)) rfl ?_
                        exact zw_bret hm_175 dX12_is_136 (by decide) (HQ _ _ h)
                      · intro hc
                        rw [if_pos (Classical.not_not.mp hc)] at h
                        refine zw_push hm_176 dX12_byteIs_15 (v := .inl (1 : Int32)) rfl ?_
                        refine zw_goto hm_176 dX12_byteIs_16 (t := 20) rfl ?_
                        refine zw_bret hm_176 dX12_byteIs_20 (by decide) ?_
                        show ma_wp X d w 175 128 [(8, .inl (7 : Int32)), (0, .inr (.inr (some 94))), (1, .inl xa), (2, .inl xb), (3, .inl xc), (4, .inl xd), (5, .inl xe), (6, .inl xf), (7, .inl xg)] [.inl (1 : Int32)] S _
                        refine zw_if0 hm_175 dX12_is_128 (t := 135) rfl zc0_eq (fun hc => absurd hc (by decide)) (fun _ => ?_)
                        refine zw_push hm_175 dX12_is_131 (v := .inl (1 : Int32)) rfl ?_
                        refine zw_goto hm_175 dX12_is_132 (t := 136) rfl ?_
                        exact zw_bret hm_175 dX12_is_136 (by decide) (HQ _ _ h)
        · intro hc
          rw [if_neg hc] at h
          refine zw_push hm_175 dX12_is_41 (v := .inl (0 : Int32)) rfl ?_
          exact zw_bret hm_175 dX12_is_42 (by decide) (HQ _ _ h)
      · intro hc
        rw [if_pos (Classical.not_not.mp hc)] at h
        refine zw_push hm_175 dX12_is_23 (v := .inl (6 : Int32)) rfl ?_
        refine zw_goto hm_175 dX12_is_25 (t := 30) rfl ?_
        refine zw_sto hm_175 dX12_is_30 [(8, .inl (6 : Int32)), (0, .inr (.inr (some 94))), (1, .inl xa), (2, .inl xb), (3, .inl xc), (4, .inl xd), (5, .inl xe), (6, .inl xf), (7, .inl xg)] rfl rfl rfl ?_
        refine zw_push hm_175 dX12_is_32 (v := .inr (.inr (some 94))) rfl ?_
        refine zw_gf hm_175 dX12_is_33 (v := .inl ((mI S) 94 69)) (zT_is hS s_94) (zT_t hS s_94) rfl f_12_130_12 rfl ?_
        refine zw_push hm_175 dX12_is_36 (v := .inl (6 : Int32)) rfl ?_
        refine zw_if2 hm_175 dX12_is_38 (t := 43) rfl zc2_eq ?_ ?_
        · intro hc
          rw [if_pos hc] at h
          refine zw_push hm_175 dX12_is_43 (v := .inr (.inr (some 94))) rfl ?_
          refine zw_push hm_175 dX12_is_44 (v := .inl (0 : Int32)) rfl ?_
          refine zw_push hm_175 dX12_is_45 (v := .inl xa) rfl ?_
          refine zw_cv hm_175 dX12_is_46 v_12_136_12 hm_176 [.inl xa, .inl (0 : Int32)] [] rfl (zT_rt hS s_94 rfl) ⟨by omega, by omega⟩ rfl ?_
          show ma_wp X (d - 1) (w - 22) 176 0 [(0, .inr (.inr (some 94))), (1, .inl (0 : Int32)), (2, .inl xa)] [] S _
          refine zw_push hm_176 dX12_byteIs_0 (v := .inr (.inr (some 94))) rfl ?_
          refine zw_gf hm_176 dX12_byteIs_1 (v := .inr (.inr (some 96))) (zT_is hS s_94) (zT_t hS s_94) rfl f_12_17_12 (zT_f hS r_94_2) ?_
          refine zw_push hm_176 dX12_byteIs_4 (v := .inr (.inr (some 94))) rfl ?_
          refine zw_gf hm_176 dX12_byteIs_5 (v := .inl ((mI S) 94 68)) (zT_is hS s_94) (zT_t hS s_94) rfl f_12_127_12 rfl ?_
          refine zw_push hm_176 dX12_byteIs_8 (v := .inl (0 : Int32)) rfl ?_
          refine zw_stk hm_176 dX12_byteIs_9 (st₉ := [.inl (((mI S) 94 68) + (0 : Int32)), .inr (.inr (some 96))]) rfl rfl ?_
          obtain ⟨hg, h⟩ := h
          refine zw_ba hm_176 dX12_byteIs_10 (zT_is hS s_96) (zT_h hS s_96) rfl rfl hg ?_
          show ma_wp X (d - 1) (w - 22) 176 11 [(0, .inr (.inr (some 94))), (1, .inl (0 : Int32)), (2, .inl xa)] [.inl ((mI S) 96 (((mI S) 94 68) + (0 : Int32)).toNatClampNeg)] S _
          refine zw_push hm_176 dX12_byteIs_11 (v := .inl xa) rfl ?_
          refine zw_if2 hm_176 dX12_byteIs_12 (t := 19) rfl zc2_ne ?_ ?_
          · intro hc
            rw [if_neg hc] at h
            refine zw_push hm_176 dX12_byteIs_19 (v := .inl (0 : Int32)) rfl ?_
            refine zw_bret hm_176 dX12_byteIs_20 (by decide) ?_
            show ma_wp X d w 175 49 [(8, .inl (6 : Int32)), (0, .inr (.inr (some 94))), (1, .inl xa), (2, .inl xb), (3, .inl xc), (4, .inl xd), (5, .inl xe), (6, .inl xf), (7, .inl xg)] [.inl (0 : Int32)] S _
            refine zw_if0 hm_175 dX12_is_49 (t := 135) rfl zc0_eq (fun _ => ?_) (fun hc => absurd (by decide) hc)
            refine zw_push hm_175 dX12_is_135 (v := .inl (0 : Int32)) rfl ?_
            exact zw_bret hm_175 dX12_is_136 (by decide) (HQ _ _ h)
          · intro hc
            rw [if_pos (Classical.not_not.mp hc)] at h
            refine zw_push hm_176 dX12_byteIs_15 (v := .inl (1 : Int32)) rfl ?_
            refine zw_goto hm_176 dX12_byteIs_16 (t := 20) rfl ?_
            refine zw_bret hm_176 dX12_byteIs_20 (by decide) ?_
            show ma_wp X d w 175 49 [(8, .inl (6 : Int32)), (0, .inr (.inr (some 94))), (1, .inl xa), (2, .inl xb), (3, .inl xc), (4, .inl xd), (5, .inl xe), (6, .inl xf), (7, .inl xg)] [.inl (1 : Int32)] S _
            refine zw_if0 hm_175 dX12_is_49 (t := 135) rfl zc0_eq (fun hc => absurd hc (by decide)) (fun _ => ?_)
            refine zw_push hm_175 dX12_is_52 (v := .inr (.inr (some 94))) rfl ?_
            refine zw_push hm_175 dX12_is_53 (v := .inl (1 : Int32)) rfl ?_
            refine zw_push hm_175 dX12_is_54 (v := .inl xb) rfl ?_
            refine zw_cv hm_175 dX12_is_55 v_12_136_12 hm_176 [.inl xb, .inl (1 : Int32)] [] rfl (zT_rt hS s_94 rfl) ⟨by omega, by omega⟩ rfl ?_
            show ma_wp X (d - 1) (w - 22) 176 0 [(0, .inr (.inr (some 94))), (1, .inl (1 : Int32)), (2, .inl xb)] [] S _
            refine zw_push hm_176 dX12_byteIs_0 (v := .inr (.inr (some 94))) rfl ?_
            refine zw_gf hm_176 dX12_byteIs_1 (v := .inr (.inr (some 96))) (zT_is hS s_94) (zT_t hS s_94) rfl f_12_17_12 (zT_f hS r_94_2) ?_
            refine zw_push hm_176 dX12_byteIs_4 (v := .inr (.inr (some 94))) rfl ?_
            refine zw_gf hm_176 dX12_byteIs_5 (v := .inl ((mI S) 94 68)) (zT_is hS s_94) (zT_t hS s_94) rfl f_12_127_12 rfl ?_
            refine zw_push hm_176 dX12_byteIs_8 (v := .inl (1 : Int32)) rfl ?_
            refine zw_stk hm_176 dX12_byteIs_9 (st₉ := [.inl (((mI S) 94 68) + (1 : Int32)), .inr (.inr (some 96))]) rfl rfl ?_
            obtain ⟨hg, h⟩ := h
            refine zw_ba hm_176 dX12_byteIs_10 (zT_is hS s_96) (zT_h hS s_96) rfl rfl hg ?_
            show ma_wp X (d - 1) (w - 22) 176 11 [(0, .inr (.inr (some 94))), (1, .inl (1 : Int32)), (2, .inl xb)] [.inl ((mI S) 96 (((mI S) 94 68) + (1 : Int32)).toNatClampNeg)] S _
            refine zw_push hm_176 dX12_byteIs_11 (v := .inl xb) rfl ?_
            refine zw_if2 hm_176 dX12_byteIs_12 (t := 19) rfl zc2_ne ?_ ?_
            · intro hc
              rw [if_neg hc] at h
              refine zw_push hm_176 dX12_byteIs_19 (v := .inl (0 : Int32)) rfl ?_
              refine zw_bret hm_176 dX12_byteIs_20 (by decide) ?_
              show ma_wp X d w 175 58 [(8, .inl (6 : Int32)), (0, .inr (.inr (some 94))), (1, .inl xa), (2, .inl xb), (3, .inl xc), (4, .inl xd), (5, .inl xe), (6, .inl xf), (7, .inl xg)] [.inl (0 : Int32)] S _
              refine zw_if0 hm_175 dX12_is_58 (t := 135) rfl zc0_eq (fun _ => ?_) (fun hc => absurd (by decide) hc)
              refine zw_push hm_175 dX12_is_135 (v := .inl (0 : Int32)) rfl ?_
              exact zw_bret hm_175 dX12_is_136 (by decide) (HQ _ _ h)
            · intro hc
              rw [if_pos (Classical.not_not.mp hc)] at h
              refine zw_push hm_176 dX12_byteIs_15 (v := .inl (1 : Int32)) rfl ?_
              refine zw_goto hm_176 dX12_byteIs_16 (t := 20) rfl ?_
              refine zw_bret hm_176 dX12_byteIs_20 (by decide) ?_
              show ma_wp X d w 175 58 [(8, .inl (6 : Int32)), (0, .inr (.inr (some 94))), (1, .inl xa), (2, .inl xb), (3, .inl xc), (4, .inl xd), (5, .inl xe), (6, .inl xf), (7, .inl xg)] [.inl (1 : Int32)] S _
              refine zw_if0 hm_175 dX12_is_58 (t := 135) rfl zc0_eq (fun hc => absurd hc (by decide)) (fun _ => ?_)
              refine zw_push hm_175 dX12_is_61 (v := .inr (.inr (some 94))) rfl ?_
              refine zw_push hm_175 dX12_is_62 (v := .inl (2 : Int32)) rfl ?_
              refine zw_push hm_175 dX12_is_63 (v := .inl xc) rfl ?_
              refine zw_cv hm_175 dX12_is_64 v_12_136_12 hm_176 [.inl xc, .inl (2 : Int32)] [] rfl (zT_rt hS s_94 rfl) ⟨by omega, by omega⟩ rfl ?_
              show ma_wp X (d - 1) (w - 22) 176 0 [(0, .inr (.inr (some 94))), (1, .inl (2 : Int32)), (2, .inl xc)] [] S _
              refine zw_push hm_176 dX12_byteIs_0 (v := .inr (.inr (some 94))) rfl ?_
              refine zw_gf hm_176 dX12_byteIs_1 (v := .inr (.inr (some 96))) (zT_is hS s_94) (zT_t hS s_94) rfl f_12_17_12 (zT_f hS r_94_2) ?_
              refine zw_push hm_176 dX12_byteIs_4 (v := .inr (.inr (some 94))) rfl ?_
              refine zw_gf hm_176 dX12_byteIs_5 (v := .inl ((mI S) 94 68)) (zT_is hS s_94) (zT_t hS s_94) rfl f_12_127_12 rfl ?_
              refine zw_push hm_176 dX12_byteIs_8 (v := .inl (2 : Int32)) rfl ?_
              refine zw_stk hm_176 dX12_byteIs_9 (st₉ := [.inl (((mI S) 94 68) + (2 : Int32)), .inr (.inr (some 96))]) rfl rfl ?_
              obtain ⟨hg, h⟩ := h
              refine zw_ba hm_176 dX12_byteIs_10 (zT_is hS s_96) (zT_h hS s_96) rfl rfl hg ?_
              show ma_wp X (d - 1) (w - 22) 176 11 [(0, .inr (.inr (some 94))), (1, .inl (2 : Int32)), (2, .inl xc)] [.inl ((mI S) 96 (((mI S) 94 68) + (2 : Int32)).toNatClampNeg)] S _
              refine zw_push hm_176 dX12_byteIs_11 (v := .inl xc) rfl ?_
              refine zw_if2 hm_176 dX12_byteIs_12 (t := 19) rfl zc2_ne ?_ ?_
              · intro hc
                rw [if_neg hc] at h
                refine zw_push hm_176 dX12_byteIs_19 (v := .inl (0 : Int32)) rfl ?_
                refine zw_bret hm_176 dX12_byteIs_20 (by decide) ?_
                show ma_wp X d w 175 67 [(8, .inl (6 : Int32)), (0, .inr (.inr (some 94))), (1, .inl xa), (2, .inl xb), (3, .inl xc), (4, .inl xd), (5, .inl xe), (6, .inl xf), (7, .inl xg)] [.inl (0 : Int32)] S _
                refine zw_if0 hm_175 dX12_is_67 (t := 135) rfl zc0_eq (fun _ => ?_) (fun hc => absurd (by decide) hc)
                refine zw_push hm_175 dX12_is_135 (v := .inl (0 : Int32)) rfl ?_
                exact zw_bret hm_175 dX12_is_136 (by decide) (HQ _ _ h)
              · intro hc
                rw [if_pos (Classical.not_not.mp hc)] at h
                refine zw_push hm_176 dX12_byteIs_15 (v := .inl (1 : Int32)) rfl ?_
                refine zw_goto hm_176 dX12_byteIs_16 (t := 20) rfl ?_
                refine zw_bret hm_176 dX12_byteIs_20 (by decide) ?_
                show ma_wp X d w 175 67 [(8, .inl (6 : Int32)), (0, .inr (.inr (some 94))), (1, .inl xa), (2, .inl xb), (3, .inl xc), (4, .inl xd), (5, .inl xe), (6, .inl xf), (7, .inl xg)] [.inl (1 : Int32)] S _
                refine zw_if0 hm_175 dX12_is_67 (t := 135) rfl zc0_eq (fun hc => absurd hc (by decide)) (fun _ => ?_)
                refine zw_push hm_175 dX12_is_70 (v := .inr (.inr (some 94))) rfl ?_
                refine zw_push hm_175 dX12_is_71 (v := .inl (3 : Int32)) rfl ?_
                refine zw_push hm_175 dX12_is_72 (v := .inl xd) rfl ?_
                refine zw_cv hm_175 dX12_is_74 v_12_136_12 hm_176 [.inl xd, .inl (3 : Int32)] [] rfl (zT_rt hS s_94 rfl) ⟨by omega, by omega⟩ rfl ?_
                show ma_wp X (d - 1) (w - 22) 176 0 [(0, .inr (.inr (some 94))), (1, .inl (3 : Int32)), (2, .inl xd)] [] S _
                refine zw_push hm_176 dX12_byteIs_0 (v := .inr (.inr (some 94))) rfl ?_
                refine zw_gf hm_176 dX12_byteIs_1 (v := .inr (.inr (some 96))) (zT_is hS s_94) (zT_t hS s_94) rfl f_12_17_12 (zT_f hS r_94_2) ?_
                refine zw_push hm_176 dX12_byteIs_4 (v := .inr (.inr (some 94))) rfl ?_
                refine zw_gf hm_176 dX12_byteIs_5 (v := .inl ((mI S) 94 68)) (zT_is hS s_94) (zT_t hS s_94) rfl f_12_127_12 rfl ?_
                refine zw_push hm_176 dX12_byteIs_8 (v := .inl (3 : Int32)) rfl ?_
                refine zw_stk hm_176 dX12_byteIs_9 (st₉ := [.inl (((mI S) 94 68) + (3 : Int32)), .inr (.inr (some 96))]) rfl rfl ?_
                obtain ⟨hg, h⟩ := h
                refine zw_ba hm_176 dX12_byteIs_10 (zT_is hS s_96) (zT_h hS s_96) rfl rfl hg ?_
                show ma_wp X (d - 1) (w - 22) 176 11 [(0, .inr (.inr (some 94))), (1, .inl (3 : Int32)), (2, .inl xd)] [.inl ((mI S) 96 (((mI S) 94 68) + (3 : Int32)).toNatClampNeg)] S _
                refine zw_push hm_176 dX12_byteIs_11 (v := .inl xd) rfl ?_
                refine zw_if2 hm_176 dX12_byteIs_12 (t := 19) rfl zc2_ne ?_ ?_
                · intro hc
                  rw [if_neg hc] at h
                  refine zw_push hm_176 dX12_byteIs_19 (v := .inl (0 : Int32)) rfl ?_
                  refine zw_bret hm_176 dX12_byteIs_20 (by decide) ?_
                  show ma_wp X d w 175 77 [(8, .inl (6 : Int32)), (0, .inr (.inr (some 94))), (1, .inl xa), (2, .inl xb), (3, .inl xc), (4, .inl xd), (5, .inl xe), (6, .inl xf), (7, .inl xg)] [.inl (0 : Int32)] S _
                  refine zw_if0 hm_175 dX12_is_77 (t := 135) rfl zc0_eq (fun _ => ?_) (fun hc => absurd (by decide) hc)
                  refine zw_push hm_175 dX12_is_135 (v := .inl (0 : Int32)) rfl ?_
                  exact zw_bret hm_175 dX12_is_136 (by decide) (HQ _ _ h)
                · intro hc
                  rw [if_pos (Classical.not_not.mp hc)] at h
                  refine zw_push hm_176 dX12_byteIs_15 (v := .inl (1 : Int32)) rfl ?_
                  refine zw_goto hm_176 dX12_byteIs_16 (t := 20) rfl ?_
                  refine zw_bret hm_176 dX12_byteIs_20 (by decide) ?_
                  show ma_wp X d w 175 77 [(8, .inl (6 : Int32)), (0, .inr (.inr (some 94))), (1, .inl xa), (2, .inl xb), (3, .inl xc), (4, .inl xd), (5, .inl xe), (6, .inl xf), (7, .inl xg)] [.inl (1 : Int32)] S _
                  refine zw_if0 hm_175 dX12_is_77 (t := 135) rfl zc0_eq (fun hc => absurd hc (by decide)) (fun _ => ?_)
                  refine zw_push hm_175 dX12_is_80 (v := .inl (6 : Int32)) rfl ?_
                  refine zw_push hm_175 dX12_is_82 (v := .inl (5 : Int32)) rfl ?_
                  refine zw_if2 hm_175 dX12_is_83 (t := 96) rfl zc2_lt (fun hc => absurd hc (by decide)) (fun _ => ?_)
                  refine zw_push hm_175 dX12_is_86 (v := .inr (.inr (some 94))) rfl ?_
                  refine zw_push hm_175 dX12_is_87 (v := .inl (4 : Int32)) rfl ?_
                  refine zw_push hm_175 dX12_is_88 (v := .inl xe) rfl ?_
                  refine zw_cv hm_175 dX12_is_90 v_12_136_12 hm_176 [.inl xe, .inl (4 : Int32)] [] rfl (zT_rt hS s_94 rfl) ⟨by omega, by omega⟩ rfl ?_
                  show ma_wp X (d - 1) (w - 22) 176 0 [(0, .inr (.inr (some 94))), (1, .inl (4 : Int32)), (2, .inl xe)] [] S _
                  refine zw_push hm_176 dX12_byteIs_0 (v := .inr (.inr (some 94))) rfl ?_
                  refine zw_gf hm_176 dX12_byteIs_1 (v := .inr (.inr (some 96))) (zT_is hS s_94) (zT_t hS s_94) rfl f_12_17_12 (zT_f hS r_94_2) ?_
                  refine zw_push hm_176 dX12_byteIs_4 (v := .inr (.inr (some 94))) rfl ?_
                  refine zw_gf hm_176 dX12_byteIs_5 (v := .inl ((mI S) 94 68)) (zT_is hS s_94) (zT_t hS s_94) rfl f_12_127_12 rfl ?_
                  refine zw_push hm_176 dX12_byteIs_8 (v := .inl (4 : Int32)) rfl ?_
                  refine zw_stk hm_176 dX12_byteIs_9 (st₉ := [.inl (((mI S) 94 68) + (4 : Int32)), .inr (.inr (some 96))]) rfl rfl ?_
                  obtain ⟨hg, h⟩ := h
                  refine zw_ba hm_176 dX12_byteIs_10 (zT_is hS s_96) (zT_h hS s_96) rfl rfl hg ?_
                  show ma_wp X (d - 1) (w - 22) 176 11 [(0, .inr (.inr (some 94))), (1, .inl (4 : Int32)), (2, .inl xe)] [.inl ((mI S) 96 (((mI S) 94 68) + (4 : Int32)).toNatClampNeg)] S _
                  refine zw_push hm_176 dX12_byteIs_11 (v := .inl xe) rfl ?_
                  refine zw_if2 hm_176 dX12_byteIs_12 (t := 19) rfl zc2_ne ?_ ?_
                  · intro hc
                    rw [if_neg hc] at h
                    refine zw_push hm_176 dX12_byteIs_19 (v := .inl (0 : Int32)) rfl ?_
                    refine zw_bret hm_176 dX12_byteIs_20 (by decide) ?_
                    show ma_wp X d w 175 93 [(8, .inl (6 : Int32)), (0, .inr (.inr (some 94))), (1, .inl xa), (2, .inl xb), (3, .inl xc), (4, .inl xd), (5, .inl xe), (6, .inl xf), (7, .inl xg)] [.inl (0 : Int32)] S _
                    refine zw_if0 hm_175 dX12_is_93 (t := 135) rfl zc0_eq (fun _ => ?_) (fun hc => absurd (by decide) hc)
                    refine zw_push hm_175 dX12_is_135 (v := .inl (0 : Int32)) rfl ?_
                    exact zw_bret hm_175 dX12_is_136 (by decide) (HQ _ _ h)
                  · intro hc
                    rw [if_pos (Classical.not_not.mp hc)] at h
                    refine zw_push hm_176 dX12_byteIs_15 (v := .inl (1 : Int32)) rfl ?_
                    refine zw_goto hm_176 dX12_byteIs_16 (t := 20) rfl ?_
                    refine zw_bret hm_176 dX12_byteIs_20 (by decide) ?_
                    show ma_wp X d w 175 93 [(8, .inl (6 : Int32)), (0, .inr (.inr (some 94))), (1, .inl xa), (2, .inl xb), (3, .inl xc), (4, .inl xd), (5, .inl xe), (6, .inl xf), (7, .inl xg)] [.inl (1 : Int32)] S _
                    refine zw_if0 hm_175 dX12_is_93 (t := 135) rfl zc0_eq (fun hc => absurd hc (by decide)) (fun _ => ?_)
                    refine zw_push hm_175 dX12_is_96 (v := .inl (6 : Int32)) rfl ?_
                    refine zw_push hm_175 dX12_is_98 (v := .inl (6 : Int32)) rfl ?_
                    refine zw_if2 hm_175 dX12_is_100 (t := 113) rfl zc2_lt (fun hc => absurd hc (by decide)) (fun _ => ?_)
                    refine zw_push hm_175 dX12_is_103 (v := .inr (.inr (some 94))) rfl ?_
                    refine zw_push hm_175 dX12_is_104 (v := .inl (5 : Int32)) rfl ?_
                    refine zw_push hm_175 dX12_is_105 (v := .inl xf) rfl ?_
                    refine zw_cv hm_175 dX12_is_107 v_12_136_12 hm_176 [.inl xf, .inl (5 : Int32)] [] rfl (zT_rt hS s_94 rfl) ⟨by omega, by omega⟩ rfl ?_
                    show ma_wp X (d - 1) (w - 22) 176 0 [(0, .inr (.inr (some 94))), (1, .inl (5 : Int32)), (2, .inl xf)] [] S _
                    refine zw_push hm_176 dX12_byteIs_0 (v := .inr (.inr (some 94))) rfl ?_
                    refine zw_gf hm_176 dX12_byteIs_1 (v := .inr (.inr (some 96))) (zT_is hS s_94) (zT_t hS s_94) rfl f_12_17_12 (zT_f hS r_94_2) ?_
                    refine zw_push hm_176 dX12_byteIs_4 (v := .inr (.inr (some 94))) rfl ?_
                    refine zw_gf hm_176 dX12_byteIs_5 (v := .inl ((mI S) 94 68)) (zT_is hS s_94) (zT_t hS s_94) rfl f_12_127_12 rfl ?_
                    refine zw_push hm_176 dX12_byteIs_8 (v := .inl (5 : Int32)) rfl ?_
                    refine zw_stk hm_176 dX12_byteIs_9 (st₉ := [.inl (((mI S) 94 68) + (5 : Int32)), .inr (.inr (some 96))]) rfl rfl ?_
                    obtain ⟨hg, h⟩ := h
                    refine zw_ba hm_176 dX12_byteIs_10 (zT_is hS s_96) (zT_h hS s_96) rfl rfl hg ?_
                    show ma_wp X (d - 1) (w - 22) 176 11 [(0, .inr (.inr (some 94))), (1, .inl (5 : Int32)), (2, .inl xf)] [.inl ((mI S) 96 (((mI S) 94 68) + (5 : Int32)).toNatClampNeg)] S _
                    refine zw_push hm_176 dX12_byteIs_11 (v := .inl xf) rfl ?_
                    refine zw_if2 hm_176 dX12_byteIs_12 (t := 19) rfl zc2_ne ?_ ?_
                    · intro hc
                      rw [if_neg hc] at h
                      refine zw_push hm_176 dX12_byteIs_19 (v := .inl (0 : Int32)) rfl ?_
                      refine zw_bret hm_176 dX12_byteIs_20 (by decide) ?_
                      show ma_wp X d w 175 110 [(8, .inl (6 : Int32)), (0, .inr (.inr (some 94))), (1, .inl xa), (2, .inl xb), (3, .inl xc), (4, .inl xd), (5, .inl xe), (6, .inl xf), (7, .inl xg)] [.inl (0 : Int32)] S _
                      refine zw_if0 hm_175 dX12_is_110 (t := 135) rfl zc0_eq (fun _ => ?_) (fun hc => absurd (by decide) hc)
                      refine zw_push hm_175 dX12_is_135 (v := .inl (0 : Int32)) rfl ?_
                      exact zw_bret hm_175 dX12_is_136 (by decide) (HQ _ _ h)
                    · intro hc
                      rw [if_pos (Classical.not_not.mp hc)] at h
                      refine zw_push hm_176 dX12_byteIs_15 (v := .inl (1 : Int32)) rfl ?_
                      refine zw_goto hm_176 dX12_byteIs_16 (t := 20) rfl ?_
                      refine zw_bret hm_176 dX12_byteIs_20 (by decide) ?_
                      show ma_wp X d w 175 110 [(8, .inl (6 : Int32)), (0, .inr (.inr (some 94))), (1, .inl xa), (2, .inl xb), (3, .inl xc), (4, .inl xd), (5, .inl xe), (6, .inl xf), (7, .inl xg)] [.inl (1 : Int32)] S _
                      refine zw_if0 hm_175 dX12_is_110 (t := 135) rfl zc0_eq (fun hc => absurd hc (by decide)) (fun _ => ?_)
                      refine zw_push hm_175 dX12_is_113 (v := .inl (6 : Int32)) rfl ?_
                      refine zw_push hm_175 dX12_is_115 (v := .inl (7 : Int32)) rfl ?_
                      refine zw_if2 hm_175 dX12_is_117 (t := 131) rfl zc2_lt (fun _ => ?_) (fun hc => absurd (by decide) hc)
                      refine zw_push hm_175 dX12_is_131 (v := .inl (1 : Int32)) rfl ?_
                      refine zw_goto hm_175 dX12_is_132 (t := 136) rfl ?_
                      exact zw_bret hm_175 dX12_is_136 (by decide) (HQ _ _ h)
        · intro hc
          rw [if_neg hc] at h
          refine zw_push hm_175 dX12_is_41 (v := .inl (0 : Int32)) rfl ?_
          exact zw_bret hm_175 dX12_is_42 (by decide) (HQ _ _ h)
    · intro hc
      rw [if_pos (Classical.not_not.mp hc)] at h
      refine zw_push hm_175 dX12_is_14 (v := .inl (5 : Int32)) rfl ?_
      refine zw_goto hm_175 dX12_is_15 (t := 30) rfl ?_
      refine zw_sto hm_175 dX12_is_30 [(8, .inl (5 : Int32)), (0, .inr (.inr (some 94))), (1, .inl xa), (2, .inl xb), (3, .inl xc), (4, .inl xd), (5, .inl xe), (6, .inl xf), (7, .inl xg)] rfl rfl rfl ?_
      refine zw_push hm_175 dX12_is_32 (v := .inr (.inr (some 94))) rfl ?_
      refine zw_gf hm_175 dX12_is_33 (v := .inl ((mI S) 94 69)) (zT_is hS s_94) (zT_t hS s_94) rfl f_12_130_12 rfl ?_
      refine zw_push hm_175 dX12_is_36 (v := .inl (5 : Int32)) rfl ?_
      refine zw_if2 hm_175 dX12_is_38 (t := 43) rfl zc2_eq ?_ ?_
      · intro hc
        rw [if_pos hc] at h
        refine zw_push hm_175 dX12_is_43 (v := .inr (.inr (some 94))) rfl ?_
        refine zw_push hm_175 dX12_is_44 (v := .inl (0 : Int32)) rfl ?_
        refine zw_push hm_175 dX12_is_45 (v := .inl xa) rfl ?_
        refine zw_cv hm_175 dX12_is_46 v_12_136_12 hm_176 [.inl xa, .inl (0 : Int32)] [] rfl (zT_rt hS s_94 rfl) ⟨by omega, by omega⟩ rfl ?_
        show ma_wp X (d - 1) (w - 22) 176 0 [(0, .inr (.inr (some 94))), (1, .inl (0 : Int32)), (2, .inl xa)] [] S _
        refine zw_push hm_176 dX12_byteIs_0 (v := .inr (.inr (some 94))) rfl ?_
        refine zw_gf hm_176 dX12_byteIs_1 (v := .inr (.inr (some 96))) (zT_is hS s_94) (zT_t hS s_94) rfl f_12_17_12 (zT_f hS r_94_2) ?_
        refine zw_push hm_176 dX12_byteIs_4 (v := .inr (.inr (some 94))) rfl ?_
        refine zw_gf hm_176 dX12_byteIs_5 (v := .inl ((mI S) 94 68)) (zT_is hS s_94) (zT_t hS s_94) rfl f_12_127_12 rfl ?_
        refine zw_push hm_176 dX12_byteIs_8 (v := .inl (0 : Int32)) rfl ?_
        refine zw_stk hm_176 dX12_byteIs_9 (st₉ := [.inl (((mI S) 94 68) + (0 : Int32)), .inr (.inr (some 96))]) rfl rfl ?_
        obtain ⟨hg, h⟩ := h
        refine zw_ba hm_176 dX12_byteIs_10 (zT_is hS s_96) (zT_h hS s_96) rfl rfl hg ?_
        show ma_wp X (d - 1) (w - 22) 176 11 [(0, .inr (.inr (some 94))), (1, .inl (0 : Int32)), (2, .inl xa)] [.inl ((mI S) 96 (((mI S) 94 68) + (0 : Int32)).toNatClampNeg)] S _
        refine zw_push hm_176 dX12_byteIs_11 (v := .inl xa) rfl ?_
        refine zw_if2 hm_176 dX12_byteIs_12 (t := 19) rfl zc2_ne ?_ ?_
        · intro hc
          rw [if_neg hc] at h
          refine zw_push hm_176 dX12_byteIs_19 (v := .inl (0 : Int32)) rfl ?_
          refine zw_bret hm_176 dX12_byteIs_20 (by decide) ?_
          show ma_wp X d w 175 49 [(8, .inl (5 : Int32)), (0, .inr (.inr (some 94))), (1, .inl xa), (2, .inl xb), (3, .inl xc), (4, .inl xd), (5, .inl xe), (6, .inl xf), (7, .inl xg)] [.inl (0 : Int32)] S _
          refine zw_if0 hm_175 dX12_is_49 (t := 135) rfl zc0_eq (fun _ => ?_) (fun hc => absurd (by decide) hc)
          refine zw_push hm_175 dX12_is_135 (v := .inl (0 : Int32)) rfl ?_
          exact zw_bret hm_175 dX12_is_136 (by decide) (HQ _ _ h)
        · intro hc
          rw [if_pos (Classical.not_not.mp hc)] at h
          refine zw_push hm_176 dX12_byteIs_15 (v := .inl (1 : Int32)) rfl ?_
          refine zw_goto hm_176 dX12_byteIs_16 (t := 20) rfl ?_
          refine zw_bret hm_176 dX12_byteIs_20 (by decide) ?_
          show ma_wp X d w 175 49 [(8, .inl (5 : Int32)), (0, .inr (.inr (some 94))), (1, .inl xa), (2, .inl xb), (3, .inl xc), (4, .inl xd), (5, .inl xe), (6, .inl xf), (7, .inl xg)] [.inl (1 : Int32)] S _
          refine zw_if0 hm_175 dX12_is_49 (t := 135) rfl zc0_eq (fun hc => absurd hc (by decide)) (fun _ => ?_)
          refine zw_push hm_175 dX12_is_52 (v := .inr (.inr (some 94))) rfl ?_
          refine zw_push hm_175 dX12_is_53 (v := .inl (1 : Int32)) rfl ?_
          refine zw_push hm_175 dX12_is_54 (v := .inl xb) rfl ?_
          refine zw_cv hm_175 dX12_is_55 v_12_136_12 hm_176 [.inl xb, .inl (1 : Int32)] [] rfl (zT_rt hS s_94 rfl) ⟨by omega, by omega⟩ rfl ?_
          show ma_wp X (d - 1) (w - 22) 176 0 [(0, .inr (.inr (some 94))), (1, .inl (1 : Int32)), (2, .inl xb)] [] S _
          refine zw_push hm_176 dX12_byteIs_0 (v := .inr (.inr (some 94))) rfl ?_
          refine zw_gf hm_176 dX12_byteIs_1 (v := .inr (.inr (some 96))) (zT_is hS s_94) (zT_t hS s_94) rfl f_12_17_12 (zT_f hS r_94_2) ?_
          refine zw_push hm_176 dX12_byteIs_4 (v := .inr (.inr (some 94))) rfl ?_
          refine zw_gf hm_176 dX12_byteIs_5 (v := .inl ((mI S) 94 68)) (zT_is hS s_94) (zT_t hS s_94) rfl f_12_127_12 rfl ?_
          refine zw_push hm_176 dX12_byteIs_8 (v := .inl (1 : Int32)) rfl ?_
          refine zw_stk hm_176 dX12_byteIs_9 (st₉ := [.inl (((mI S) 94 68) + (1 : Int32)), .inr (.inr (some 96))]) rfl rfl ?_
          obtain ⟨hg, h⟩ := h
          refine zw_ba hm_176 dX12_byteIs_10 (zT_is hS s_96) (zT_h hS s_96) rfl rfl hg ?_
          show ma_wp X (d - 1) (w - 22) 176 11 [(0, .inr (.inr (some 94))), (1, .inl (1 : Int32)), (2, .inl xb)] [.inl ((mI S) 96 (((mI S) 94 68) + (1 : Int32)).toNatClampNeg)] S _
          refine zw_push hm_176 dX12_byteIs_11 (v := .inl xb) rfl ?_
          refine zw_if2 hm_176 dX12_byteIs_12 (t := 19) rfl zc2_ne ?_ ?_
          · intro hc
            rw [if_neg hc] at h
            refine zw_push hm_176 dX12_byteIs_19 (v := .inl (0 : Int32)) rfl ?_
            refine zw_bret hm_176 dX12_byteIs_20 (by decide) ?_
            show ma_wp X d w 175 58 [(8, .inl (5 : Int32)), (0, .inr (.inr (some 94))), (1, .inl xa), (2, .inl xb), (3, .inl xc), (4, .inl xd), (5, .inl xe), (6, .inl xf), (7, .inl xg)] [.inl (0 : Int32)] S _
            refine zw_if0 hm_175 dX12_is_58 (t := 135) rfl zc0_eq (fun _ => ?_) (fun hc => absurd (by decide) hc)
            refine zw_push hm_175 dX12_is_135 (v := .inl (0 : Int32)) rfl ?_
            exact zw_bret hm_175 dX12_is_136 (by decide) (HQ _ _ h)
          · intro hc
            rw [if_pos (Classical.not_not.mp hc)] at h
            refine zw_push hm_176 dX12_byteIs_15 (v := .inl (1 : Int32)) rfl ?_
            refine zw_goto hm_176 dX12_byteIs_16 (t := 20) rfl ?_
            refine zw_bret hm_176 dX12_byteIs_20 (by decide) ?_
            show ma_wp X d w 175 58 [(8, .inl (5 : Int32)), (0, .inr (.inr (some 94))), (1, .inl xa), (2, .inl xb), (3, .inl xc), (4, .inl xd), (5, .inl xe), (6, .inl xf), (7, .inl xg)] [.inl (1 : Int32)] S _
            refine zw_if0 hm_175 dX12_is_58 (t := 135) rfl zc0_eq (fun hc => absurd hc (by decide)) (fun _ => ?_)
            refine zw_push hm_175 dX12_is_61 (v := .inr (.inr (some 94))) rfl ?_
            refine zw_push hm_175 dX12_is_62 (v := .inl (2 : Int32)) rfl ?_
            refine zw_push hm_175 dX12_is_63 (v := .inl xc) rfl ?_
            refine zw_cv hm_175 dX12_is_64 v_12_136_12 hm_176 [.inl xc, .inl (2 : Int32)] [] rfl (zT_rt hS s_94 rfl) ⟨by omega, by omega⟩ rfl ?_
            show ma_wp X (d - 1) (w - 22) 176 0 [(0, .inr (.inr (some 94))), (1, .inl (2 : Int32)), (2, .inl xc)] [] S _
            refine zw_push hm_176 dX12_byteIs_0 (v := .inr (.inr (some 94))) rfl ?_
            refine zw_gf hm_176 dX12_byteIs_1 (v := .inr (.inr (some 96))) (zT_is hS s_94) (zT_t hS s_94) rfl f_12_17_12 (zT_f hS r_94_2) ?_
            refine zw_push hm_176 dX12_byteIs_4 (v := .inr (.inr (some 94))) rfl ?_
            refine zw_gf hm_176 dX12_byteIs_5 (v := .inl ((mI S) 94 68)) (zT_is hS s_94) (zT_t hS s_94) rfl f_12_127_12 rfl ?_
            refine zw_push hm_176 dX12_byteIs_8 (v := .inl (2 : Int32)) rfl ?_
            refine zw_stk hm_176 dX12_byteIs_9 (st₉ := [.inl (((mI S) 94 68) + (2 : Int32)), .inr (.inr (some 96))]) rfl rfl ?_
            obtain ⟨hg, h⟩ := h
            refine zw_ba hm_176 dX12_byteIs_10 (zT_is hS s_96) (zT_h hS s_96) rfl rfl hg ?_
            show ma_wp X (d - 1) (w - 22) 176 11 [(0, .inr (.inr (some 94))), (1, .inl (2 : Int32)), (2, .inl xc)] [.inl ((mI S) 96 (((mI S) 94 68) + (2 : Int32)).toNatClampNeg)] S _
            refine zw_push hm_176 dX12_byteIs_11 (v := .inl xc) rfl ?_
            refine zw_if2 hm_176 dX12_byteIs_12 (t := 19) rfl zc2_ne ?_ ?_
            · intro hc
              rw [if_neg hc] at h
              refine zw_push hm_176 dX12_byteIs_19 (v := .inl (0 : Int32)) rfl ?_
              refine zw_bret hm_176 dX12_byteIs_20 (by decide) ?_
              show ma_wp X d w 175 67 [(8, .inl (5 : Int32)), (0, .inr (.inr (some 94))), (1, .inl xa), (2, .inl xb), (3, .inl xc), (4, .inl xd), (5, .inl xe), (6, .inl xf), (7, .inl xg)] [.inl (0 : Int32)] S _
              refine zw_if0 hm_175 dX12_is_67 (t := 135) rfl zc0_eq (fun _ => ?_) (fun hc => absurd (by decide) hc)
              refine zw_push hm_175 dX12_is_135 (v := .inl (0 : Int32)) rfl ?_
              exact zw_bret hm_175 dX12_is_136 (by decide) (HQ _ _ h)
            · intro hc
              rw [if_pos (Classical.not_not.mp hc)] at h
              refine zw_push hm_176 dX12_byteIs_15 (v := .inl (1 : Int32)) rfl ?_
              refine zw_goto hm_176 dX12_byteIs_16 (t := 20) rfl ?_
              refine zw_bret hm_176 dX12_byteIs_20 (by decide) ?_
              show ma_wp X d w 175 67 [(8, .inl (5 : Int32)), (0, .inr (.inr (some 94))), (1, .inl xa), (2, .inl xb), (3, .inl xc), (4, .inl xd), (5, .inl xe), (6, .inl xf), (7, .inl xg)] [.inl (1 : Int32)] S _
              refine zw_if0 hm_175 dX12_is_67 (t := 135) rfl zc0_eq (fun hc => absurd hc (by decide)) (fun _ => ?_)
              refine zw_push hm_175 dX12_is_70 (v := .inr (.inr (some 94))) rfl ?_
              refine zw_push hm_175 dX12_is_71 (v := .inl (3 : Int32)) rfl ?_
              refine zw_push hm_175 dX12_is_72 (v := .inl xd) rfl ?_
              refine zw_cv hm_175 dX12_is_74 v_12_136_12 hm_176 [.inl xd, .inl (3 : Int32)] [] rfl (zT_rt hS s_94 rfl) ⟨by omega, by omega⟩ rfl ?_
              show ma_wp X (d - 1) (w - 22) 176 0 [(0, .inr (.inr (some 94))), (1, .inl (3 : Int32)), (2, .inl xd)] [] S _
              refine zw_push hm_176 dX12_byteIs_0 (v := .inr (.inr (some 94))) rfl ?_
              refine zw_gf hm_176 dX12_byteIs_1 (v := .inr (.inr (some 96))) (zT_is hS s_94) (zT_t hS s_94) rfl f_12_17_12 (zT_f hS r_94_2) ?_
              refine zw_push hm_176 dX12_byteIs_4 (v := .inr (.inr (some 94))) rfl ?_
              refine zw_gf hm_176 dX12_byteIs_5 (v := .inl ((mI S) 94 68)) (zT_is hS s_94) (zT_t hS s_94) rfl f_12_127_12 rfl ?_
              refine zw_push hm_176 dX12_byteIs_8 (v := .inl (3 : Int32)) rfl ?_
              refine zw_stk hm_176 dX12_byteIs_9 (st₉ := [.inl (((mI S) 94 68) + (3 : Int32)), .inr (.inr (some 96))]) rfl rfl ?_
              obtain ⟨hg, h⟩ := h
              refine zw_ba hm_176 dX12_byteIs_10 (zT_is hS s_96) (zT_h hS s_96) rfl rfl hg ?_
              show ma_wp X (d - 1) (w - 22) 176 11 [(0, .inr (.inr (some 94))), (1, .inl (3 : Int32)), (2, .inl xd)] [.inl ((mI S) 96 (((mI S) 94 68) + (3 : Int32)).toNatClampNeg)] S _
              refine zw_push hm_176 dX12_byteIs_11 (v := .inl xd) rfl ?_
              refine zw_if2 hm_176 dX12_byteIs_12 (t := 19) rfl zc2_ne ?_ ?_
              · intro hc
                rw [if_neg hc] at h
                refine zw_push hm_176 dX12_byteIs_19 (v := .inl (0 : Int32)) rfl ?_
                refine zw_bret hm_176 dX12_byteIs_20 (by decide) ?_
                show ma_wp X d w 175 77 [(8, .inl (5 : Int32)), (0, .inr (.inr (some 94))), (1, .inl xa), (2, .inl xb), (3, .inl xc), (4, .inl xd), (5, .inl xe), (6, .inl xf), (7, .inl xg)] [.inl (0 : Int32)] S _
                refine zw_if0 hm_175 dX12_is_77 (t := 135) rfl zc0_eq (fun _ => ?_) (fun hc => absurd (by decide) hc)
                refine zw_push hm_175 dX12_is_135 (v := .inl (0 : Int32)) rfl ?_
                exact zw_bret hm_175 dX12_is_136 (by decide) (HQ _ _ h)
              · intro hc
                rw [if_pos (Classical.not_not.mp hc)] at h
                refine zw_push hm_176 dX12_byteIs_15 (v := .inl (1 : Int32)) rfl ?_
                refine zw_goto hm_176 dX12_byteIs_16 (t := 20) rfl ?_
                refine zw_bret hm_176 dX12_byteIs_20 (by decide) ?_
                show ma_wp X d w 175 77 [(8, .inl (5 : Int32)), (0, .inr (.inr (some 94))), (1, .inl xa), (2, .inl xb), (3, .inl xc), (4, .inl xd), (5, .inl xe), (6, .inl xf), (7, .inl xg)] [.inl (1 : Int32)] S _
                refine zw_if0 hm_175 dX12_is_77 (t := 135) rfl zc0_eq (fun hc => absurd hc (by decide)) (fun _ => ?_)
                refine zw_push hm_175 dX12_is_80 (v := .inl (5 : Int32)) rfl ?_
                refine zw_push hm_175 dX12_is_82 (v := .inl (5 : Int32)) rfl ?_
                refine zw_if2 hm_175 dX12_is_83 (t := 96) rfl zc2_lt (fun hc => absurd hc (by decide)) (fun _ => ?_)
                refine zw_push hm_175 dX12_is_86 (v := .inr (.inr (some 94))) rfl ?_
                refine zw_push hm_175 dX12_is_87 (v := .inl (4 : Int32)) rfl ?_
                refine zw_push hm_175 dX12_is_88 (v := .inl xe) rfl ?_
                refine zw_cv hm_175 dX12_is_90 v_12_136_12 hm_176 [.inl xe, .inl (4 : Int32)] [] rfl (zT_rt hS s_94 rfl) ⟨by omega, by omega⟩ rfl ?_
                show ma_wp X (d - 1) (w - 22) 176 0 [(0, .inr (.inr (some 94))), (1, .inl (4 : Int32)), (2, .inl xe)] [] S _
                refine zw_push hm_176 dX12_byteIs_0 (v := .inr (.inr (some 94))) rfl ?_
                refine zw_gf hm_176 dX12_byteIs_1 (v := .inr (.inr (some 96))) (zT_is hS s_94) (zT_t hS s_94) rfl f_12_17_12 (zT_f hS r_94_2) ?_
                refine zw_push hm_176 dX12_byteIs_4 (v := .inr (.inr (some 94))) rfl ?_
                refine zw_gf hm_176 dX12_byteIs_5 (v := .inl ((mI S) 94 68)) (zT_is hS s_94) (zT_t hS s_94) rfl f_12_127_12 rfl ?_
                refine zw_push hm_176 dX12_byteIs_8 (v := .inl (4 : Int32)) rfl ?_
                refine zw_stk hm_176 dX12_byteIs_9 (st₉ := [.inl (((mI S) 94 68) + (4 : Int32)), .inr (.inr (some 96))]) rfl rfl ?_
                obtain ⟨hg, h⟩ := h
                refine zw_ba hm_176 dX12_byteIs_10 (zT_is hS s_96) (zT_h hS s_96) rfl rfl hg ?_
                show ma_wp X (d - 1) (w - 22) 176 11 [(0, .inr (.inr (some 94))), (1, .inl (4 : Int32)), (2, .inl xe)] [.inl ((mI S) 96 (((mI S) 94 68) + (4 : Int32)).toNatClampNeg)] S _
                refine zw_push hm_176 dX12_byteIs_11 (v := .inl xe) rfl ?_
                refine zw_if2 hm_176 dX12_byteIs_12 (t := 19) rfl zc2_ne ?_ ?_
                · intro hc
                  rw [if_neg hc] at h
                  refine zw_push hm_176 dX12_byteIs_19 (v := .inl (0 : Int32)) rfl ?_
                  refine zw_bret hm_176 dX12_byteIs_20 (by decide) ?_
                  show ma_wp X d w 175 93 [(8, .inl (5 : Int32)), (0, .inr (.inr (some 94))), (1, .inl xa), (2, .inl xb), (3, .inl xc), (4, .inl xd), (5, .inl xe), (6, .inl xf), (7, .inl xg)] [.inl (0 : Int32)] S _
                  refine zw_if0 hm_175 dX12_is_93 (t := 135) rfl zc0_eq (fun _ => ?_) (fun hc => absurd (by decide) hc)
                  refine zw_push hm_175 dX12_is_135 (v := .inl (0 : Int32)) rfl ?_
                  exact zw_bret hm_175 dX12_is_136 (by decide) (HQ _ _ h)
                · intro hc
                  rw [if_pos (Classical.not_not.mp hc)] at h
                  refine zw_push hm_176 dX12_byteIs_15 (v := .inl (1 : Int32)) rfl ?_
                  refine zw_goto hm_176 dX12_byteIs_16 (t := 20) rfl ?_
                  refine zw_bret hm_176 dX12_byteIs_20 (by decide) ?_
                  show ma_wp X d w 175 93 [(8, .inl (5 : Int32)), (0, .inr (.inr (some 94))), (1, .inl xa), (2, .inl xb), (3, .inl xc), (4, .inl xd), (5, .inl xe), (6, .inl xf), (7, .inl xg)] [.inl (1 : Int32)] S _
                  refine zw_if0 hm_175 dX12_is_93 (t := 135) rfl zc0_eq (fun hc => absurd hc (by decide)) (fun _ => ?_)
                  refine zw_push hm_175 dX12_is_96 (v := .inl (5 : Int32)) rfl ?_
                  refine zw_push hm_175 dX12_is_98 (v := .inl (6 : Int32)) rfl ?_
                  refine zw_if2 hm_175 dX12_is_100 (t := 113) rfl zc2_lt (fun _ => ?_) (fun hc => absurd (by decide) hc)
                  refine zw_push hm_175 dX12_is_113 (v := .inl (5 : Int32)) rfl ?_
                  refine zw_push hm_175 dX12_is_115 (v := .inl (7 : Int32)) rfl ?_
                  refine zw_if2 hm_175 dX12_is_117 (t := 131) rfl zc2_lt (fun _ => ?_) (fun hc => absurd (by decide) hc)
                  refine zw_push hm_175 dX12_is_131 (v := .inl (1 : Int32)) rfl ?_
                  refine zw_goto hm_175 dX12_is_132 (t := 136) rfl ?_
                  exact zw_bret hm_175 dX12_is_136 (by decide) (HQ _ _ h)
      · intro hc
        rw [if_neg hc] at h
        refine zw_push hm_175 dX12_is_41 (v := .inl (0 : Int32)) rfl ?_
        exact zw_bret hm_175 dX12_is_42 (by decide) (HQ _ _ h)
  · intro hc
    rw [if_pos (Classical.not_not.mp hc)] at h
    refine zw_push hm_175 dX12_is_5 (v := .inl (4 : Int32)) rfl ?_
    refine zw_goto hm_175 dX12_is_6 (t := 30) rfl ?_
    refine zw_sto hm_175 dX12_is_30 [(8, .inl (4 : Int32)), (0, .inr (.inr (some 94))), (1, .inl xa), (2, .inl xb), (3, .inl xc), (4, .inl xd), (5, .inl xe), (6, .inl xf), (7, .inl xg)] rfl rfl rfl ?_
    refine zw_push hm_175 dX12_is_32 (v := .inr (.inr (some 94))) rfl ?_
    refine zw_gf hm_175 dX12_is_33 (v := .inl ((mI S) 94 69)) (zT_is hS s_94) (zT_t hS s_94) rfl f_12_130_12 rfl ?_
    refine zw_push hm_175 dX12_is_36 (v := .inl (4 : Int32)) rfl ?_
    refine zw_if2 hm_175 dX12_is_38 (t := 43) rfl zc2_eq ?_ ?_
    · intro hc
      rw [if_pos hc] at h
      refine zw_push hm_175 dX12_is_43 (v := .inr (.inr (some 94))) rfl ?_
      refine zw_push hm_175 dX12_is_44 (v := .inl (0 : Int32)) rfl ?_
      refine zw_push hm_175 dX12_is_45 (v := .inl xa) rfl ?_
      refine zw_cv hm_175 dX12_is_46 v_12_136_12 hm_176 [.inl xa, .inl (0 : Int32)] [] rfl (zT_rt hS s_94 rfl) ⟨by omega, by omega⟩ rfl ?_
      show ma_wp X (d - 1) (w - 22) 176 0 [(0, .inr (.inr (some 94))), (1, .inl (0 : Int32)), (2, .inl xa)] [] S _
      refine zw_push hm_176 dX12_byteIs_0 (v := .inr (.inr (some 94))) rfl ?_
      refine zw_gf hm_176 dX12_byteIs_1 (v := .inr (.inr (some 96))) (zT_is hS s_94) (zT_t hS s_94) rfl f_12_17_12 (zT_f hS r_94_2) ?_
      refine zw_push hm_176 dX12_byteIs_4 (v := .inr (.inr (some 94))) rfl ?_
      refine zw_gf hm_176 dX12_byteIs_5 (v := .inl ((mI S) 94 68)) (zT_is hS s_94) (zT_t hS s_94) rfl f_12_127_12 rfl ?_
      refine zw_push hm_176 dX12_byteIs_8 (v := .inl (0 : Int32)) rfl ?_
      refine zw_stk hm_176 dX12_byteIs_9 (st₉ := [.inl (((mI S) 94 68) + (0 : Int32)), .inr (.inr (some 96))]) rfl rfl ?_
      obtain ⟨hg, h⟩ := h
      refine zw_ba hm_176 dX12_byteIs_10 (zT_is hS s_96) (zT_h hS s_96) rfl rfl hg ?_
      show ma_wp X (d - 1) (w - 22) 176 11 [(0, .inr (.inr (some 94))), (1, .inl (0 : Int32)), (2, .inl xa)] [.inl ((mI S) 96 (((mI S) 94 68) + (0 : Int32)).toNatClampNeg)] S _
      refine zw_push hm_176 dX12_byteIs_11 (v := .inl xa) rfl ?_
      refine zw_if2 hm_176 dX12_byteIs_12 (t := 19) rfl zc2_ne ?_ ?_
      · intro hc
        rw [if_neg hc] at h
        refine zw_push hm_176 dX12_byteIs_19 (v := .inl (0 : Int32)) rfl ?_
        refine zw_bret hm_176 dX12_byteIs_20 (by decide) ?_
        show ma_wp X d w 175 49 [(8, .inl (4 : Int32)), (0, .inr (.inr (some 94))), (1, .inl xa), (2, .inl xb), (3, .inl xc), (4, .inl xd), (5, .inl xe), (6, .inl xf), (7, .inl xg)] [.inl (0 : Int32)] S _
        refine zw_if0 hm_175 dX12_is_49 (t := 135) rfl zc0_eq (fun _ => ?_) (fun hc => absurd (by decide) hc)
        refine zw_push hm_175 dX12_is_135 (v := .inl (0 : Int32)) rfl ?_
        exact zw_bret hm_175 dX12_is_136 (by decide) (HQ _ _ h)
      · intro hc
        rw [if_pos (Classical.not_not.mp hc)] at h
        refine zw_push hm_176 dX12_byteIs_15 (v := .inl (1 : Int32)) rfl ?_
        refine zw_goto hm_176 dX12_byteIs_16 (t := 20) rfl ?_
        refine zw_bret hm_176 dX12_byteIs_20 (by decide) ?_
        show ma_wp X d w 175 49 [(8, .inl (4 : Int32)), (0, .inr (.inr (some 94))), (1, .inl xa), (2, .inl xb), (3, .inl xc), (4, .inl xd), (5, .inl xe), (6, .inl xf), (7, .inl xg)] [.inl (1 : Int32)] S _
        refine zw_if0 hm_175 dX12_is_49 (t := 135) rfl zc0_eq (fun hc => absurd hc (by decide)) (fun _ => ?_)
        refine zw_push hm_175 dX12_is_52 (v := .inr (.inr (some 94))) rfl ?_
        refine zw_push hm_175 dX12_is_53 (v := .inl (1 : Int32)) rfl ?_
        refine zw_push hm_175 dX12_is_54 (v := .inl xb) rfl ?_
        refine zw_cv hm_175 dX12_is_55 v_12_136_12 hm_176 [.inl xb, .inl (1 : Int32)] [] rfl (zT_rt hS s_94 rfl) ⟨by omega, by omega⟩ rfl ?_
        show ma_wp X (d - 1) (w - 22) 176 0 [(0, .inr (.inr (some 94))), (1, .inl (1 : Int32)), (2, .inl xb)] [] S _
        refine zw_push hm_176 dX12_byteIs_0 (v := .inr (.inr (some 94))) rfl ?_
        refine zw_gf hm_176 dX12_byteIs_1 (v := .inr (.inr (some 96))) (zT_is hS s_94) (zT_t hS s_94) rfl f_12_17_12 (zT_f hS r_94_2) ?_
        refine zw_push hm_176 dX12_byteIs_4 (v := .inr (.inr (some 94))) rfl ?_
        refine zw_gf hm_176 dX12_byteIs_5 (v := .inl ((mI S) 94 68)) (zT_is hS s_94) (zT_t hS s_94) rfl f_12_127_12 rfl ?_
        refine zw_push hm_176 dX12_byteIs_8 (v := .inl (1 : Int32)) rfl ?_
        refine zw_stk hm_176 dX12_byteIs_9 (st₉ := [.inl (((mI S) 94 68) + (1 : Int32)), .inr (.inr (some 96))]) rfl rfl ?_
        obtain ⟨hg, h⟩ := h
        refine zw_ba hm_176 dX12_byteIs_10 (zT_is hS s_96) (zT_h hS s_96) rfl rfl hg ?_
        show ma_wp X (d - 1) (w - 22) 176 11 [(0, .inr (.inr (some 94))), (1, .inl (1 : Int32)), (2, .inl xb)] [.inl ((mI S) 96 (((mI S) 94 68) + (1 : Int32)).toNatClampNeg)] S _
        refine zw_push hm_176 dX12_byteIs_11 (v := .inl xb) rfl ?_
        refine zw_if2 hm_176 dX12_byteIs_12 (t := 19) rfl zc2_ne ?_ ?_
        · intro hc
          rw [if_neg hc] at h
          refine zw_push hm_176 dX12_byteIs_19 (v := .inl (0 : Int32)) rfl ?_
          refine zw_bret hm_176 dX12_byteIs_20 (by decide) ?_
          show ma_wp X d w 175 58 [(8, .inl (4 : Int32)), (0, .inr (.inr (some 94))), (1, .inl xa), (2, .inl xb), (3, .inl xc), (4, .inl xd), (5, .inl xe), (6, .inl xf), (7, .inl xg)] [.inl (0 : Int32)] S _
          refine zw_if0 hm_175 dX12_is_58 (t := 135) rfl zc0_eq (fun _ => ?_) (fun hc => absurd (by decide) hc)
          refine zw_push hm_175 dX12_is_135 (v := .inl (0 : Int32)) rfl ?_
          exact zw_bret hm_175 dX12_is_136 (by decide) (HQ _ _ h)
        · intro hc
          rw [if_pos (Classical.not_not.mp hc)] at h
          refine zw_push hm_176 dX12_byteIs_15 (v := .inl (1 : Int32)) rfl ?_
          refine zw_goto hm_176 dX12_byteIs_16 (t := 20) rfl ?_
          refine zw_bret hm_176 dX12_byteIs_20 (by decide) ?_
          show ma_wp X d w 175 58 [(8, .inl (4 : Int32)), (0, .inr (.inr (some 94))), (1, .inl xa), (2, .inl xb), (3, .inl xc), (4, .inl xd), (5, .inl xe), (6, .inl xf), (7, .inl xg)] [.inl (1 : Int32)] S _
          refine zw_if0 hm_175 dX12_is_58 (t := 135) rfl zc0_eq (fun hc => absurd hc (by decide)) (fun _ => ?_)
          refine zw_push hm_175 dX12_is_61 (v := .inr (.inr (some 94))) rfl ?_
          refine zw_push hm_175 dX12_is_62 (v := .inl (2 : Int32)) rfl ?_
          refine zw_push hm_175 dX12_is_63 (v := .inl xc) rfl ?_
          refine zw_cv hm_175 dX12_is_64 v_12_136_12 hm_176 [.inl xc, .inl (2 : Int32)] [] rfl (zT_rt hS s_94 rfl) ⟨by omega, by omega⟩ rfl ?_
          show ma_wp X (d - 1) (w - 22) 176 0 [(0, .inr (.inr (some 94))), (1, .inl (2 : Int32)), (2, .inl xc)] [] S _
          refine zw_push hm_176 dX12_byteIs_0 (v := .inr (.inr (some 94))) rfl ?_
          refine zw_gf hm_176 dX12_byteIs_1 (v := .inr (.inr (some 96))) (zT_is hS s_94) (zT_t hS s_94) rfl f_12_17_12 (zT_f hS r_94_2) ?_
          refine zw_push hm_176 dX12_byteIs_4 (v := .inr (.inr (some 94))) rfl ?_
          refine zw_gf hm_176 dX12_byteIs_5 (v := .inl ((mI S) 94 68)) (zT_is hS s_94) (zT_t hS s_94) rfl f_12_127_12 rfl ?_
          refine zw_push hm_176 dX12_byteIs_8 (v := .inl (2 : Int32)) rfl ?_
          refine zw_stk hm_176 dX12_byteIs_9 (st₉ := [.inl (((mI S) 94 68) + (2 : Int32)), .inr (.inr (some 96))]) rfl rfl ?_
          obtain ⟨hg, h⟩ := h
          refine zw_ba hm_176 dX12_byteIs_10 (zT_is hS s_96) (zT_h hS s_96) rfl rfl hg ?_
          show ma_wp X (d - 1) (w - 22) 176 11 [(0, .inr (.inr (some 94))), (1, .inl (2 : Int32)), (2, .inl xc)] [.inl ((mI S) 96 (((mI S) 94 68) + (2 : Int32)).toNatClampNeg)] S _
          refine zw_push hm_176 dX12_byteIs_11 (v := .inl xc) rfl ?_
          refine zw_if2 hm_176 dX12_byteIs_12 (t := 19) rfl zc2_ne ?_ ?_
          · intro hc
            rw [if_neg hc] at h
            refine zw_push hm_176 dX12_byteIs_19 (v := .inl (0 : Int32)) rfl ?_
            refine zw_bret hm_176 dX12_byteIs_20 (by decide) ?_
            show ma_wp X d w 175 67 [(8, .inl (4 : Int32)), (0, .inr (.inr (some 94))), (1, .inl xa), (2, .inl xb), (3, .inl xc), (4, .inl xd), (5, .inl xe), (6, .inl xf), (7, .inl xg)] [.inl (0 : Int32)] S _
            refine zw_if0 hm_175 dX12_is_67 (t := 135) rfl zc0_eq (fun _ => ?_) (fun hc => absurd (by decide) hc)
            refine zw_push hm_175 dX12_is_135 (v := .inl (0 : Int32)) rfl ?_
            exact zw_bret hm_175 dX12_is_136 (by decide) (HQ _ _ h)
          · intro hc
            rw [if_pos (Classical.not_not.mp hc)] at h
            refine zw_push hm_176 dX12_byteIs_15 (v := .inl (1 : Int32)) rfl ?_
            refine zw_goto hm_176 dX12_byteIs_16 (t := 20) rfl ?_
            refine zw_bret hm_176 dX12_byteIs_20 (by decide) ?_
            show ma_wp X d w 175 67 [(8, .inl (4 : Int32)), (0, .inr (.inr (some 94))), (1, .inl xa), (2, .inl xb), (3, .inl xc), (4, .inl xd), (5, .inl xe), (6, .inl xf), (7, .inl xg)] [.inl (1 : Int32)] S _
            refine zw_if0 hm_175 dX12_is_67 (t := 135) rfl zc0_eq (fun hc => absurd hc (by decide)) (fun _ => ?_)
            refine zw_push hm_175 dX12_is_70 (v := .inr (.inr (some 94))) rfl ?_
            refine zw_push hm_175 dX12_is_71 (v := .inl (3 : Int32)) rfl ?_
            refine zw_push hm_175 dX12_is_72 (v := .inl xd) rfl ?_
            refine zw_cv hm_175 dX12_is_74 v_12_136_12 hm_176 [.inl xd, .inl (3 : Int32)] [] rfl (zT_rt hS s_94 rfl) ⟨by omega, by omega⟩ rfl ?_
            show ma_wp X (d - 1) (w - 22) 176 0 [(0, .inr (.inr (some 94))), (1, .inl (3 : Int32)), (2, .inl xd)] [] S _
            refine zw_push hm_176 dX12_byteIs_0 (v := .inr (.inr (some 94))) rfl ?_
            refine zw_gf hm_176 dX12_byteIs_1 (v := .inr (.inr (some 96))) (zT_is hS s_94) (zT_t hS s_94) rfl f_12_17_12 (zT_f hS r_94_2) ?_
            refine zw_push hm_176 dX12_byteIs_4 (v := .inr (.inr (some 94))) rfl ?_
            refine zw_gf hm_176 dX12_byteIs_5 (v := .inl ((mI S) 94 68)) (zT_is hS s_94) (zT_t hS s_94) rfl f_12_127_12 rfl ?_
            refine zw_push hm_176 dX12_byteIs_8 (v := .inl (3 : Int32)) rfl ?_
            refine zw_stk hm_176 dX12_byteIs_9 (st₉ := [.inl (((mI S) 94 68) + (3 : Int32)), .inr (.inr (some 96))]) rfl rfl ?_
            obtain ⟨hg, h⟩ := h
            refine zw_ba hm_176 dX12_byteIs_10 (zT_is hS s_96) (zT_h hS s_96) rfl rfl hg ?_
            show ma_wp X (d - 1) (w - 22) 176 11 [(0, .inr (.inr (some 94))), (1, .inl (3 : Int32)), (2, .inl xd)] [.inl ((mI S) 96 (((mI S) 94 68) + (3 : Int32)).toNatClampNeg)] S _
            refine zw_push hm_176 dX12_byteIs_11 (v := .inl xd) rfl ?_
            refine zw_if2 hm_176 dX12_byteIs_12 (t := 19) rfl zc2_ne ?_ ?_
            · intro hc
              rw [if_neg hc] at h
              refine zw_push hm_176 dX12_byteIs_19 (v := .inl (0 : Int32)) rfl ?_
              refine zw_bret hm_176 dX12_byteIs_20 (by decide) ?_
              show ma_wp X d w 175 77 [(8, .inl (4 : Int32)), (0, .inr (.inr (some 94))), (1, .inl xa), (2, .inl xb), (3, .inl xc), (4, .inl xd), (5, .inl xe), (6, .inl xf), (7, .inl xg)] [.inl (0 : Int32)] S _
              refine zw_if0 hm_175 dX12_is_77 (t := 135) rfl zc0_eq (fun _ => ?_) (fun hc => absurd (by decide) hc)
              refine zw_push hm_175 dX12_is_135 (v := .inl (0 : Int32)) rfl ?_
              exact zw_bret hm_175 dX12_is_136 (by decide) (HQ _ _ h)
            · intro hc
              rw [if_pos (Classical.not_not.mp hc)] at h
              refine zw_push hm_176 dX12_byteIs_15 (v := .inl (1 : Int32)) rfl ?_
              refine zw_goto hm_176 dX12_byteIs_16 (t := 20) rfl ?_
              refine zw_bret hm_176 dX12_byteIs_20 (by decide) ?_
              show ma_wp X d w 175 77 [(8, .inl (4 : Int32)), (0, .inr (.inr (some 94))), (1, .inl xa), (2, .inl xb), (3, .inl xc), (4, .inl xd), (5, .inl xe), (6, .inl xf), (7, .inl xg)] [.inl (1 : Int32)] S _
              refine zw_if0 hm_175 dX12_is_77 (t := 135) rfl zc0_eq (fun hc => absurd hc (by decide)) (fun _ => ?_)
              refine zw_push hm_175 dX12_is_80 (v := .inl (4 : Int32)) rfl ?_
              refine zw_push hm_175 dX12_is_82 (v := .inl (5 : Int32)) rfl ?_
              refine zw_if2 hm_175 dX12_is_83 (t := 96) rfl zc2_lt (fun _ => ?_) (fun hc => absurd (by decide) hc)
              refine zw_push hm_175 dX12_is_96 (v := .inl (4 : Int32)) rfl ?_
              refine zw_push hm_175 dX12_is_98 (v := .inl (6 : Int32)) rfl ?_
              refine zw_if2 hm_175 dX12_is_100 (t := 113) rfl zc2_lt (fun _ => ?_) (fun hc => absurd (by decide) hc)
              refine zw_push hm_175 dX12_is_113 (v := .inl (4 : Int32)) rfl ?_
              refine zw_push hm_175 dX12_is_115 (v := .inl (7 : Int32)) rfl ?_
              refine zw_if2 hm_175 dX12_is_117 (t := 131) rfl zc2_lt (fun _ => ?_) (fun hc => absurd (by decide) hc)
              refine zw_push hm_175 dX12_is_131 (v := .inl (1 : Int32)) rfl ?_
              refine zw_goto hm_175 dX12_is_132 (t := 136) rfl ?_
              exact zw_bret hm_175 dX12_is_136 (by decide) (HQ _ _ h)
    · intro hc
      rw [if_neg hc] at h
      refine zw_push hm_175 dX12_is_41 (v := .inl (0 : Int32)) rfl ?_
      exact zw_bret hm_175 dX12_is_42 (by decide) (HQ _ _ h)
/-! from 94.403 -/
/-! the reference (written by wip/tools/gen94m.py) -/
set_option maxRecDepth 100000 in
theorem hm_174 : ma_md 174 = some (12, yX12_wrong, cX12_wrong, 2, (some (FieldType.boolean))) := rfl
set_option maxRecDepth 100000 in
theorem hm_177 : ma_md 177 = some (12, yX12_number, cX12_number, 7, (some (FieldType.boolean))) := rfl
theorem p_12_133_12 : ma_pk 12 133 12 70 = true := by decide +kernel
theorem p_12_147_12 : ma_pk 12 147 12 71 = true := by decide +kernel
theorem v_12_140_12 : ma_vl 12 140 12 = some (1, 173, 0) := by decide +kernel
theorem v_12_144_12 : ma_vl 12 144 12 = some (1, 174, 1) := by decide +kernel
theorem dX12_number_0 : decode cX12_number 0 = .ok (.aload_n 0, 1) := by decide +kernel
theorem dX12_number_1 : decode cX12_number 1 = .ok (.invokevirtual 140, 3) := by decide +kernel
theorem dX12_number_16 : decode cX12_number 16 = .ok (.aload_n 0, 1) := by decide +kernel
theorem dX12_number_20 : decode cX12_number 20 = .ok (.iconst 5, 1) := by decide +kernel
theorem dX12_number_28 : decode cX12_number 28 = .ok (.iconst 0, 1) := by decide +kernel
theorem dX12_number_29 : decode cX12_number 29 = .ok (.istore_n 3, 1) := by decide +kernel
theorem dX12_number_30 : decode cX12_number 30 = .ok (.iconst 0, 1) := by decide +kernel
theorem dX12_number_31 : decode cX12_number 31 = .ok (.istore 4, 2) := by decide +kernel
theorem dX12_number_33 : decode cX12_number 33 = .ok (.iconst 0, 1) := by decide +kernel
theorem dX12_number_34 : decode cX12_number 34 = .ok (.istore 5, 2) := by decide +kernel
theorem dX12_number_24 : decode cX12_number 24 = .ok (.iconst 1, 1) := by decide +kernel
theorem dX12_number_25 : decode cX12_number 25 = .ok (.goto 4, 3) := by decide +kernel
theorem dX12_number_21 : decode cX12_number 21 = .ok (.if_icmp .gt 7, 3) := by decide +kernel
theorem dX12_number_17 : decode cX12_number 17 = .ok (.getfield 130, 3) := by decide +kernel
theorem dX12_number_7 : decode cX12_number 7 = .ok (.aload_n 0, 1) := by decide +kernel
theorem dX12_number_8 : decode cX12_number 8 = .ok (.aload_n 0, 1) := by decide +kernel
theorem dX12_number_12 : decode cX12_number 12 = .ok (.invokevirtual 144, 3) := by decide +kernel
theorem dX12_wrong_0 : decode cX12_wrong 0 = .ok (.aload_n 0, 1) := by decide +kernel
theorem dX12_wrong_1 : decode cX12_wrong 1 = .ok (.iload_n 1, 1) := by decide +kernel
theorem dX12_wrong_5 : decode cX12_wrong 5 = .ok (.iconst 0, 1) := by decide +kernel
theorem dX12_number_15 : decode cX12_number 15 = .ok (.ireturn, 1) := by decide +kernel
theorem dX12_wrong_6 : decode cX12_wrong 6 = .ok (.ireturn, 1) := by decide +kernel
theorem dX12_wrong_2 : decode cX12_wrong 2 = .ok (.putfield 133, 3) := by decide +kernel
theorem dX12_number_9 : decode cX12_number 9 = .ok (.getfield 124, 3) := by decide +kernel
theorem dX12_number_4 : decode cX12_number 4 = .ok (.ifCond .ne 12, 3) := by decide +kernel
theorem dX12_number_36 : decode cX12_number 36 = .ok (.iload 5, 2) := by decide +kernel
theorem dX12_number_38 : decode cX12_number 38 = .ok (.aload_n 0, 1) := by decide +kernel
theorem dX12_number_102 : decode cX12_number 102 = .ok (.aload_n 0, 1) := by decide +kernel
theorem dX12_number_103 : decode cX12_number 103 = .ok (.iload 4, 2) := by decide +kernel
theorem dX12_number_108 : decode cX12_number 108 = .ok (.iload_n 3, 1) := by decide +kernel
theorem dX12_number_124 : decode cX12_number 124 = .ok (.aload_n 0, 1) := by decide +kernel
theorem dX12_number_125 : decode cX12_number 125 = .ok (.aload_n 0, 1) := by decide +kernel
theorem dX12_number_129 : decode cX12_number 129 = .ok (.invokevirtual 144, 3) := by decide +kernel
theorem dX12_number_132 : decode cX12_number 132 = .ok (.ifCond .eq 7, 3) := by decide +kernel
theorem dX12_number_139 : decode cX12_number 139 = .ok (.iconst 0, 1) := by decide +kernel
theorem dX12_number_140 : decode cX12_number 140 = .ok (.ireturn, 1) := by decide +kernel
theorem dX12_number_126 : decode cX12_number 126 = .ok (.getfield 127, 3) := by decide +kernel
theorem dX12_number_112 : decode cX12_number 112 = .ok (.iload 4, 2) := by decide +kernel
theorem dX12_number_114 : decode cX12_number 114 = .ok (.iload_n 1, 1) := by decide +kernel
theorem dX12_number_118 : decode cX12_number 118 = .ok (.iload 4, 2) := by decide +kernel
theorem dX12_number_120 : decode cX12_number 120 = .ok (.iload_n 2, 1) := by decide +kernel
theorem dX12_number_135 : decode cX12_number 135 = .ok (.iconst 1, 1) := by decide +kernel
theorem dX12_number_136 : decode cX12_number 136 = .ok (.goto 4, 3) := by decide +kernel
theorem dX12_number_121 : decode cX12_number 121 = .ok (.if_icmp .le 14, 3) := by decide +kernel
theorem dX12_number_115 : decode cX12_number 115 = .ok (.if_icmp .lt 9, 3) := by decide +kernel
theorem dX12_number_109 : decode cX12_number 109 = .ok (.ifCond .eq 15, 3) := by decide +kernel
theorem dX12_number_105 : decode cX12_number 105 = .ok (.putfield 147, 3) := by decide +kernel
theorem dX12_number_45 : decode cX12_number 45 = .ok (.iload_n 3, 1) := by decide +kernel
theorem dX12_number_49 : decode cX12_number 49 = .ok (.aload_n 0, 1) := by decide +kernel
theorem dX12_number_53 : decode cX12_number 53 = .ok (.aload_n 0, 1) := by decide +kernel
theorem dX12_number_57 : decode cX12_number 57 = .ok (.iload 5, 2) := by decide +kernel
theorem dX12_number_59 : decode cX12_number 59 = .ok (.iadd, 1) := by decide +kernel
theorem dX12_number_61 : decode cX12_number 61 = .ok (.istore 6, 2) := by decide +kernel
theorem dX12_number_63 : decode cX12_number 63 = .ok (.iload 6, 2) := by decide +kernel
theorem dX12_number_65 : decode cX12_number 65 = .ok (.bipush 48, 2) := by decide +kernel
theorem dX12_number_81 : decode cX12_number 81 = .ok (.iconst 0, 1) := by decide +kernel
theorem dX12_number_82 : decode cX12_number 82 = .ok (.istore_n 3, 1) := by decide +kernel
theorem dX12_number_83 : decode cX12_number 83 = .ok (.bipush 10, 2) := by decide +kernel
theorem dX12_number_85 : decode cX12_number 85 = .ok (.iload 4, 2) := by decide +kernel
theorem dX12_number_87 : decode cX12_number 87 = .ok (.imul, 1) := by decide +kernel
theorem dX12_number_88 : decode cX12_number 88 = .ok (.iload 6, 2) := by decide +kernel
theorem dX12_number_90 : decode cX12_number 90 = .ok (.iadd, 1) := by decide +kernel
theorem dX12_number_91 : decode cX12_number 91 = .ok (.bipush 48, 2) := by decide +kernel
theorem dX12_number_93 : decode cX12_number 93 = .ok (.isub, 1) := by decide +kernel
theorem dX12_number_94 : decode cX12_number 94 = .ok (.istore 4, 2) := by decide +kernel
theorem dX12_number_96 : decode cX12_number 96 = .ok (.iinc 5 1, 3) := by decide +kernel
theorem dX12_number_99 : decode cX12_number 99 = .ok (.goto (-63), 3) := by decide +kernel
theorem dX12_number_70 : decode cX12_number 70 = .ok (.iload 6, 2) := by decide +kernel
theorem dX12_number_72 : decode cX12_number 72 = .ok (.bipush 57, 2) := by decide +kernel
theorem dX12_number_77 : decode cX12_number 77 = .ok (.iconst 1, 1) := by decide +kernel
theorem dX12_number_78 : decode cX12_number 78 = .ok (.goto 4, 3) := by decide +kernel
theorem dX12_number_74 : decode cX12_number 74 = .ok (.if_icmp .gt 7, 3) := by decide +kernel
theorem dX12_number_67 : decode cX12_number 67 = .ok (.if_icmp .lt 14, 3) := by decide +kernel
theorem dX12_number_60 : decode cX12_number 60 = .ok (.baload, 1) := by decide +kernel
theorem dX12_number_54 : decode cX12_number 54 = .ok (.getfield 127, 3) := by decide +kernel
theorem dX12_number_50 : decode cX12_number 50 = .ok (.getfield 17, 3) := by decide +kernel
theorem dX12_number_46 : decode cX12_number 46 = .ok (.ifCond .eq 56, 3) := by decide +kernel
theorem dX12_number_42 : decode cX12_number 42 = .ok (.if_icmp .ge 60, 3) := by decide +kernel
theorem dX12_number_39 : decode cX12_number 39 = .ok (.getfield 130, 3) := by decide +kernel
def wr_177 (c k : Nat) : Bool := (Nat.beq c 94 && (Nat.beq k 67 || Nat.beq k 68 || Nat.beq k 69 || Nat.beq k 70 || Nat.beq k 71))
theorem ws_173_177 : ∀ c k, wr_173 c k = true → wr_177 c k = true := by
  intro c k h
  simp only [wr_173, Bool.or_eq_true, Bool.and_eq_true, Nat.beq_eq] at h
  rcases h with ⟨rfl, ((rfl | rfl) | rfl)⟩ <;> rfl
theorem g_177_0 {X : Nat × (Nat → Int32)} {m : Nat → Nat → Int32} {P : Option ma_V → (Nat → Nat → Int32) → Prop} (lo : Int32) (hi : Int32) (h : zm X 0 0 173 0 [(0, .inr (.inr (some 94)))] m (zmi (fun v2 m1 => if v2 = 0 then (P (some (.inl (0 : Int32))) (ma_u m1 94 70 (m1 94 4))) else (if (5 : Int32) < (m1 94 69) then (zm X 1 21 177 36 [(0, .inr (.inr (some 94))), (1, .inl lo), (2, .inl hi), (3, .inl (0 : Int32)), (4, .inl (0 : Int32)), (5, .inl (0 : Int32))] m1 P) else (zm X 1 21 177 36 [(0, .inr (.inr (some 94))), (1, .inl lo), (2, .inl hi), (3, .inl (1 : Int32)), (4, .inl (0 : Int32)), (5, .inl (0 : Int32))] m1 P))))) : zm X 1 21 177 0 [(0, .inr (.inr (some 94))), (1, .inl lo), (2, .inl hi)] m P := by
  intro d w S Q hd hw hS hm HQ
  subst hm
  refine zw_push hm_177 dX12_number_0 (v := .inr (.inr (some 94))) rfl ?_
  refine zw_cv hm_177 dX12_number_1 v_12_140_12 hm_173 [] [] rfl (zT_rt hS s_94 rfl) ⟨by omega, by omega⟩ rfl (h _ _ S _ (by omega) (by omega) hS rfl (fun o9 m1 hv => ?_))
  obtain ⟨v2, rfl, h⟩ := zmi_of hv
  show ma_wp X d w 177 4 [(0, .inr (.inr (some 94))), (1, .inl lo), (2, .inl hi)] [.inl v2] (zst S m1) _
  refine zw_if0 hm_177 dX12_number_4 (t := 16) rfl zc0_ne ?_ ?_
  · intro hc
    rw [if_neg hc] at h
    refine zw_push hm_177 dX12_number_16 (v := .inr (.inr (some 94))) rfl ?_
    refine zw_gf hm_177 dX12_number_17 (v := .inl (m1 94 69)) (zT_is (zT_zst hS m1) s_94) (zT_t (zT_zst hS m1) s_94) rfl f_12_130_12 rfl ?_
    refine zw_push hm_177 dX12_number_20 (v := .inl (5 : Int32)) rfl ?_
    refine zw_if2 hm_177 dX12_number_21 (t := 28) rfl zc2_gt ?_ ?_
    · intro hc
      rw [if_pos hc] at h
      refine zw_push hm_177 dX12_number_28 (v := .inl (0 : Int32)) rfl ?_
      refine zw_sto hm_177 dX12_number_29 [(3, .inl (0 : Int32)), (0, .inr (.inr (some 94))), (1, .inl lo), (2, .inl hi)] rfl rfl rfl ?_
      refine zw_push hm_177 dX12_number_30 (v := .inl (0 : Int32)) rfl ?_
      refine zw_sto hm_177 dX12_number_31 [(4, .inl (0 : Int32)), (3, .inl (0 : Int32)), (0, .inr (.inr (some 94))), (1, .inl lo), (2, .inl hi)] rfl rfl rfl ?_
      refine zw_push hm_177 dX12_number_33 (v := .inl (0 : Int32)) rfl ?_
      refine zw_sto hm_177 dX12_number_34 [(5, .inl (0 : Int32)), (4, .inl (0 : Int32)), (3, .inl (0 : Int32)), (0, .inr (.inr (some 94))), (1, .inl lo), (2, .inl hi)] rfl rfl rfl ?_
      exact zw_sub (ma_nd_of (ks := [0, 1, 2, 3, 4, 5]) rfl (by decide)) (ma_nd_of (ks := [5, 4, 3, 0, 1, 2]) rfl (by decide)) (ma_le_cons rfl (ma_le_cons rfl (ma_le_cons rfl (ma_le_cons rfl (ma_le_cons rfl (ma_le_cons rfl (ma_le_nil _))))))) (h d w _ Q (by omega) (by omega) (zT_zst hS m1) rfl HQ)
    · intro hc
      rw [if_neg hc] at h
      refine zw_push hm_177 dX12_number_24 (v := .inl (1 : Int32)) rfl ?_
      refine zw_goto hm_177 dX12_number_25 (t := 29) rfl ?_
      refine zw_sto hm_177 dX12_number_29 [(3, .inl (1 : Int32)), (0, .inr (.inr (some 94))), (1, .inl lo), (2, .inl hi)] rfl rfl rfl ?_
      refine zw_push hm_177 dX12_number_30 (v := .inl (0 : Int32)) rfl ?_
      refine zw_sto hm_177 dX12_number_31 [(4, .inl (0 : Int32)), (3, .inl (1 : Int32)), (0, .inr (.inr (some 94))), (1, .inl lo), (2, .inl hi)] rfl rfl rfl ?_
      refine zw_push hm_177 dX12_number_33 (v := .inl (0 : Int32)) rfl ?_
      refine zw_sto hm_177 dX12_number_34 [(5, .inl (0 : Int32)), (4, .inl (0 : Int32)), (3, .inl (1 : Int32)), (0, .inr (.inr (some 94))), (1, .inl lo), (2, .inl hi)] rfl rfl rfl ?_
      exact zw_sub (ma_nd_of (ks := [0, 1, 2, 3, 4, 5]) rfl (by decide)) (ma_nd_of (ks := [5, 4, 3, 0, 1, 2]) rfl (by decide)) (ma_le_cons rfl (ma_le_cons rfl (ma_le_cons rfl (ma_le_cons rfl (ma_le_cons rfl (ma_le_cons rfl (ma_le_nil _))))))) (h d w _ Q (by omega) (by omega) (zT_zst hS m1) rfl HQ)
  · intro hc
    rw [if_pos (Classical.not_not.mp hc)] at h
    refine zw_push hm_177 dX12_number_7 (v := .inr (.inr (some 94))) rfl ?_
    refine zw_push hm_177 dX12_number_8 (v := .inr (.inr (some 94))) rfl ?_
    refine zw_gf hm_177 dX12_number_9 (v := .inl (m1 94 4)) (zT_is (zT_zst hS m1) s_94) (zT_t (zT_zst hS m1) s_94) rfl f_12_124_12 rfl ?_
    refine zw_cv hm_177 dX12_number_12 v_12_144_12 hm_174 [.inl (m1 94 4)] [] rfl (zT_rt (zT_zst hS m1) s_94 rfl) ⟨by omega, by omega⟩ rfl ?_
    show ma_wp X (d - 1) (w - 21) 174 0 [(0, .inr (.inr (some 94))), (1, .inl (m1 94 4))] [] (zst S m1) _
    refine zw_push hm_174 dX12_wrong_0 (v := .inr (.inr (some 94))) rfl ?_
    refine zw_push hm_174 dX12_wrong_1 (v := .inl (m1 94 4)) rfl ?_
    refine zw_pf hm_174 dX12_wrong_2 (zT_is (zT_zst hS m1) s_94) (zT_t (zT_zst hS m1) s_94) p_12_133_12 zk_int ?_
    refine zw_push hm_174 dX12_wrong_5 (v := .inl (0 : Int32)) rfl ?_
    refine zw_bret hm_174 dX12_wrong_6 (by decide) ?_
    show ma_wp X d w 177 15 [(0, .inr (.inr (some 94))), (1, .inl lo), (2, .inl hi)] [.inl (0 : Int32)] (ma_put (zst S m1) 94 70 (.inl (m1 94 4))) _
    exact zw_bret hm_177 dX12_number_15 (by decide) (HQ _ _ h)
theorem g_177_36 {X : Nat × (Nat → Int32)} {m : Nat → Nat → Int32} {P : Option ma_V → (Nat → Nat → Int32) → Prop} (l1 : Int32) (l2 : Int32) (l3 : Int32) (l4 : Int32) (l5 : Int32) (h : if (m 94 69) ≤ l5 then (if l3 = 0 then (P (some (.inl (0 : Int32))) (ma_u (ma_u m 94 71 l4) 94 70 (m 94 68))) else (if l4 < l1 then (P (some (.inl (0 : Int32))) (ma_u (ma_u m 94 71 l4) 94 70 (m 94 68))) else (if l4 ≤ l2 then (P (some (.inl (1 : Int32))) (ma_u m 94 71 l4)) else (P (some (.inl (0 : Int32))) (ma_u (ma_u m 94 71 l4) 94 70 (m 94 68)))))) else (if l3 = 0 then (if l3 = 0 then (P (some (.inl (0 : Int32))) (ma_u (ma_u m 94 71 l4) 94 70 (m 94 68))) else (if l4 < l1 then (P (some (.inl (0 : Int32))) (ma_u (ma_u m 94 71 l4) 94 70 (m 94 68))) else (if l4 ≤ l2 then (P (some (.inl (1 : Int32))) (ma_u m 94 71 l4)) else (P (some (.inl (0 : Int32))) (ma_u (ma_u m 94 71 l4) 94 70 (m 94 68)))))) else ((0 ≤ ((m 94 68) + l5) ∧ ((m 94 68) + l5).toNatClampNeg < 100) ∧ (if (m 96 ((m 94 68) + l5).toNatClampNeg) < (48 : Int32) then (zm X 1 21 177 36 [(0, .inr (.inr (some 94))), (1, .inl l1), (2, .inl l2), (3, .inl (0 : Int32)), (4, .inl ((((10 : Int32) * l4) + (m 96 ((m 94 68) + l5).toNatClampNeg)) - (48 : Int32))), (5, .inl (l5 + (1 : Int32)))] m P) else (if (57 : Int32) < (m 96 ((m 94 68) + l5).toNatClampNeg) then (zm X 1 21 177 36 [(0, .inr (.inr (some 94))), (1, .inl l1), (2, .inl l2), (3, .inl (0 : Int32)), (4, .inl ((((10 : Int32) * l4) + (m 96 ((m 94 68) + l5).toNatClampNeg)) - (48 : Int32))), (5, .inl (l5 + (1 : Int32)))] m P) else (zm X 1 21 177 36 [(0, .inr (.inr (some 94))), (1, .inl l1), (2, .inl l2), (3, .inl (1 : Int32)), (4, .inl ((((10 : Int32) * l4) + (m 96 ((m 94 68) + l5).toNatClampNeg)) - (48 : Int32))), (5, .inl (l5 + (1 : Int32)))] m P)))))) : zm X 1 21 177 36 [(0, .inr (.inr (some 94))), (1, .inl l1), (2, .inl l2), (3, .inl l3), (4, .inl l4), (5, .inl l5)] m P := by
  intro d w S Q hd hw hS hm HQ
  subst hm
  refine zw_push hm_177 dX12_number_36 (v := .inl l5) rfl ?_
  refine zw_push hm_177 dX12_number_38 (v := .inr (.inr (some 94))) rfl ?_
  refine zw_gf hm_177 dX12_number_39 (v := .inl ((mI S) 94 69)) (zT_is hS s_94) (zT_t hS s_94) rfl f_12_130_12 rfl ?_
  refine zw_if2 hm_177 dX12_number_42 (t := 102) rfl zc2_ge ?_ ?_
  · intro hc
    rw [if_pos hc] at h
    refine zw_push hm_177 dX12_number_102 (v := .inr (.inr (some 94))) rfl ?_
    refine zw_push hm_177 dX12_number_103 (v := .inl l4) rfl ?_
    refine zw_pf hm_177 dX12_number_105 (zT_is hS s_94) (zT_t hS s_94) p_12_147_12 zk_int ?_
    refine zw_push hm_177 dX12_number_108 (v := .inl l3) rfl ?_
    refine zw_if0 hm_177 dX12_number_109 (t := 124) rfl zc0_eq ?_ ?_
    · intro hc
      rw [if_pos hc] at h
      refine zw_push hm_177 dX12_number_124 (v := .inr (.inr (some 94))) rfl ?_
      refine zw_push hm_177 dX12_number_125 (v := .inr (.inr (some 94))) rfl ?_
      refine zw_gf hm_177 dX12_number_126 (v := .inl ((mI S) 94 68)) (zT_is (zT_pi hS) s_94) (zT_t (zT_pi hS) s_94) rfl f_12_127_12 rfl ?_
      refine zw_cv hm_177 dX12_number_129 v_12_144_12 hm_174 [.inl ((mI S) 94 68)] [] rfl (zT_rt (zT_pi hS) s_94 rfl) ⟨by omega, by omega⟩ rfl ?_
      show ma_wp X (d - 1) (w - 21) 174 0 [(0, .inr (.inr (some 94))), (1, .inl ((mI S) 94 68))] [] (ma_put S 94 71 (.inl l4)) _
      refine zw_push hm_174 dX12_wrong_0 (v := .inr (.inr (some 94))) rfl ?_
      refine zw_push hm_174 dX12_wrong_1 (v := .inl ((mI S) 94 68)) rfl ?_
      refine zw_pf hm_174 dX12_wrong_2 (zT_is (zT_pi hS) s_94) (zT_t (zT_pi hS) s_94) p_12_133_12 zk_int ?_
      refine zw_push hm_174 dX12_wrong_5 (v := .inl (0 : Int32)) rfl ?_
      refine zw_bret hm_174 dX12_wrong_6 (by decide) ?_
      show ma_wp X d w 177 132 [(0, .inr (.inr (some 94))), (1, .inl l1), (2, .inl l2), (3, .inl l3), (4, .inl l4), (5, .inl l5)] [.inl (0 : Int32)] (ma_put (ma_put S 94 71 (.inl l4)) 94 70 (.inl ((mI S) 94 68))) _
      refine zw_if0 hm_177 dX12_number_132 (t := 139) rfl zc0_eq (fun _ => ?_) (fun hc => absurd (by decide) hc)
      refine zw_push hm_177 dX12_number_139 (v := .inl (0 : Int32)) rfl ?_
      exact zw_bret hm_177 dX12_number_140 (by decide) (HQ _ _ h)
    · intro hc
      rw [if_neg hc] at h
      refine zw_push hm_177 dX12_number_112 (v := .inl l4) rfl ?_
      refine zw_push hm_177 dX12_number_114 (v := .inl l1) rfl ?_
      refine zw_if2 hm_177 dX12_number_115 (t := 124) rfl zc2_lt ?_ ?_
      · intro hc
        rw [if_pos hc] at h
        refine zw_push hm_177 dX12_number_124 (v := .inr (.inr (some 94))) rfl ?_
        refine zw_push hm_177 dX12_number_125 (v := .inr (.inr (some 94))) rfl ?_
        refine zw_gf hm_177 dX12_number_126 (v := .inl ((mI S) 94 68)) (zT_is (zT_pi hS) s_94) (zT_t (zT_pi hS) s_94) rfl f_12_127_12 rfl ?_
        refine zw_cv hm_177 dX12_number_129 v_12_144_12 hm_174 [.inl ((mI S) 94 68)] [] rfl (zT_rt (zT_pi hS) s_94 rfl) ⟨by omega, by omega⟩ rfl ?_
        show ma_wp X (d - 1) (w - 21) 174 0 [(0, .inr (.inr (some 94))), (1, .inl ((mI S) 94 68))] [] (ma_put S 94 71 (.inl l4)) _
        refine zw_push hm_174 dX12_wrong_0 (v := .inr (.inr (some 94))) rfl ?_
        refine zw_push hm_174 dX12_wrong_1 (v := .inl ((mI S) 94 68)) rfl ?_
        refine zw_pf hm_174 dX12_wrong_2 (zT_is (zT_pi hS) s_94) (zT_t (zT_pi hS) s_94) p_12_133_12 zk_int ?_
        refine zw_push hm_174 dX12_wrong_5 (v := .inl (0 : Int32)) rfl ?_
        refine zw_bret hm_174 dX12_wrong_6 (by decide) ?_
        show ma_wp X d w 177 132 [(0, .inr (.inr (some 94))), (1, .inl l1), (2, .inl l2), (3, .inl l3), (4, .inl l4), (5, .inl l5)] [.inl (0 : Int32)] (ma_put (ma_put S 94 71 (.inl l4)) 94 70 (.inl ((mI S) 94 68))) _
        refine zw_if0 hm_177 dX12_number_132 (t := 139) rfl zc0_eq (fun _ => ?_) (fun hc => absurd (by decide) hc)
        refine zw_push hm_177 dX12_number_139 (v := .inl (0 : Int32)) rfl ?_
        exact zw_bret hm_177 dX12_number_140 (by decide) (HQ _ _ h)
      · intro hc
        rw [if_neg hc] at h
        refine zw_push hm_177 dX12_number_118 (v := .inl l4) rfl ?_
        refine zw_push hm_177 dX12_number_120 (v := .inl l2) rfl ?_
        refine zw_if2 hm_177 dX12_number_121 (t := 135) rfl zc2_le ?_ ?_
        · intro hc
          rw [if_pos hc] at h
          refine zw_push hm_177 dX12_number_135 (v := .inl (1 : Int32)) rfl ?_
          refine zw_goto hm_177 dX12_number_136 (t := 140) rfl ?_
          exact zw_bret hm_177 dX12_number_140 (by decide) (HQ _ _ h)
        · intro hc
          rw [if_neg hc] at h
          refine zw_push hm_177 dX12_number_124 (v := .inr (.inr (some 94))) rfl ?_
          refine zw_push hm_177 dX12_number_125 (v := .inr (.inr (some 94))) rfl ?_
          refine zw_gf hm_177 dX12_number_126 (v := .inl ((mI S) 94 68)) (zT_is (zT_pi hS) s_94) (zT_t (zT_pi hS) s_94) rfl f_12_127_12 rfl ?_
          refine zw_cv hm_177 dX12_number_129 v_12_144_12 hm_174 [.inl ((mI S) 94 68)] [] rfl (zT_rt (zT_pi hS) s_94 rfl) ⟨by omega, by omega⟩ rfl ?_
          show ma_wp X (d - 1) (w - 21) 174 0 [(0, .inr (.inr (some 94))), (1, .inl ((mI S) 94 68))] [] (ma_put S 94 71 (.inl l4)) _
          refine zw_push hm_174 dX12_wrong_0 (v := .inr (.inr (some 94))) rfl ?_
          refine zw_push hm_174 dX12_wrong_1 (v := .inl ((mI S) 94 68)) rfl ?_
          refine zw_pf hm_174 dX12_wrong_2 (zT_is (zT_pi hS) s_94) (zT_t (zT_pi hS) s_94) p_12_133_12 zk_int ?_
          refine zw_push hm_174 dX12_wrong_5 (v := .inl (0 : Int32)) rfl ?_
          refine zw_bret hm_174 dX12_wrong_6 (by decide) ?_
          show ma_wp X d w 177 132 [(0, .inr (.inr (some 94))), (1, .inl l1), (2, .inl l2), (3, .inl l3), (4, .inl l4), (5, .inl l5)] [.inl (0 : Int32)] (ma_put (ma_put S 94 71 (.inl l4)) 94 70 (.inl ((mI S) 94 68))) _
          refine zw_if0 hm_177 dX12_number_132 (t := 139) rfl zc0_eq (fun _ => ?_) (fun hc => absurd (by decide) hc)
          refine zw_push hm_177 dX12_number_139 (v := .inl (0 : Int32)) rfl ?_
          exact zw_bret hm_177 dX12_number_140 (by decide) (HQ _ _ h)
  · intro hc
    rw [if_neg hc] at h
    refine zw_push hm_177 dX12_number_45 (v := .inl l3) rfl ?_
    refine zw_if0 hm_177 dX12_number_46 (t := 102) rfl zc0_eq ?_ ?_
    · intro hc
      rw [if_pos hc] at h
      refine zw_push hm_177 dX12_number_102 (v := .inr (.inr (some 94))) rfl ?_
      refine zw_push hm_177 dX12_number_103 (v := .inl l4) rfl ?_
      refine zw_pf hm_177 dX12_number_105 (zT_is hS s_94) (zT_t hS s_94) p_12_147_12 zk_int ?_
      refine zw_push hm_177 dX12_number_108 (v := .inl l3) rfl ?_
      refine zw_if0 hm_177 dX12_number_109 (t := 124) rfl zc0_eq ?_ ?_
      · intro hc
        rw [if_pos hc] at h
        refine zw_push hm_177 dX12_number_124 (v := .inr (.inr (some 94))) rfl ?_
        refine zw_push hm_177 dX12_number_125 (v := .inr (.inr (some 94))) rfl ?_
        refine zw_gf hm_177 dX12_number_126 (v := .inl ((mI S) 94 68)) (zT_is (zT_pi hS) s_94) (zT_t (zT_pi hS) s_94) rfl f_12_127_12 rfl ?_
        refine zw_cv hm_177 dX12_number_129 v_12_144_12 hm_174 [.inl ((mI S) 94 68)] [] rfl (zT_rt (zT_pi hS) s_94 rfl) ⟨by omega, by omega⟩ rfl ?_
        show ma_wp X (d - 1) (w - 21) 174 0 [(0, .inr (.inr (some 94))), (1, .inl ((mI S) 94 68))] [] (ma_put S 94 71 (.inl l4)) _
        refine zw_push hm_174 dX12_wrong_0 (v := .inr (.inr (some 94))) rfl ?_
        refine zw_push hm_174 dX12_wrong_1 (v := .inl ((mI S) 94 68)) rfl ?_
        refine zw_pf hm_174 dX12_wrong_2 (zT_is (zT_pi hS) s_94) (zT_t (zT_pi hS) s_94) p_12_133_12 zk_int ?_
        refine zw_push hm_174 dX12_wrong_5 (v := .inl (0 : Int32)) rfl ?_
        refine zw_bret hm_174 dX12_wrong_6 (by decide) ?_
        show ma_wp X d w 177 132 [(0, .inr (.inr (some 94))), (1, .inl l1), (2, .inl l2), (3, .inl l3), (4, .inl l4), (5, .inl l5)] [.inl (0 : Int32)] (ma_put (ma_put S 94 71 (.inl l4)) 94 70 (.inl ((mI S) 94 68))) _
        refine zw_if0 hm_177 dX12_number_132 (t := 139) rfl zc0_eq (fun _ => ?_) (fun hc => absurd (by decide) hc)
        refine zw_push hm_177 dX12_number_139 (v := .inl (0 : Int32)) rfl ?_
        exact zw_bret hm_177 dX12_number_140 (by decide) (HQ _ _ h)
      · intro hc
        rw [if_neg hc] at h
        refine zw_push hm_177 dX12_number_112 (v := .inl l4) rfl ?_
        refine zw_push hm_177 dX12_number_114 (v := .inl l1) rfl ?_
        refine zw_if2 hm_177 dX12_number_115 (t := 124) rfl zc2_lt ?_ ?_
        · intro hc
          rw [if_pos hc] at h
          refine zw_push hm_177 dX12_number_124 (v := .inr (.inr (some 94))) rfl ?_
          refine zw_push hm_177 dX12_number_125 (v := .inr (.inr (some 94))) rfl ?_
          refine zw_gf hm_177 dX12_number_126 (v := .inl ((mI S) 94 68)) (zT_is (zT_pi hS) s_94) (zT_t (zT_pi hS) s_94) rfl f_12_127_12 rfl ?_
          refine zw_cv hm_177 dX12_number_129 v_12_144_12 hm_174 [.inl ((mI S) 94 68)] [] rfl (zT_rt (zT_pi hS) s_94 rfl) ⟨by omega, by omega⟩ rfl ?_
          show ma_wp X (d - 1) (w - 21) 174 0 [(0, .inr (.inr (some 94))), (1, .inl ((mI S) 94 68))] [] (ma_put S 94 71 (.inl l4)) _
          refine zw_push hm_174 dX12_wrong_0 (v := .inr (.inr (some 94))) rfl ?_
          refine zw_push hm_174 dX12_wrong_1 (v := .inl ((mI S) 94 68)) rfl ?_
          refine zw_pf hm_174 dX12_wrong_2 (zT_is (zT_pi hS) s_94) (zT_t (zT_pi hS) s_94) p_12_133_12 zk_int ?_
          refine zw_push hm_174 dX12_wrong_5 (v := .inl (0 : Int32)) rfl ?_
          refine zw_bret hm_174 dX12_wrong_6 (by decide) ?_
          show ma_wp X d w 177 132 [(0, .inr (.inr (some 94))), (1, .inl l1), (2, .inl l2), (3, .inl l3), (4, .inl l4), (5, .inl l5)] [.inl (0 : Int32)] (ma_put (ma_put S 94 71 (.inl l4)) 94 70 (.inl ((mI S) 94 68))) _
          refine zw_if0 hm_177 dX12_number_132 (t := 139) rfl zc0_eq (fun _ => ?_) (fun hc => absurd (by decide) hc)
          refine zw_push hm_177 dX12_number_139 (v := .inl (0 : Int32)) rfl ?_
          exact zw_bret hm_177 dX12_number_140 (by decide) (HQ _ _ h)
        · intro hc
          rw [if_neg hc] at h
          refine zw_push hm_177 dX12_number_118 (v := .inl l4) rfl ?_
          refine zw_push hm_177 dX12_number_120 (v := .inl l2) rfl ?_
          refine zw_if2 hm_177 dX12_number_121 (t := 135) rfl zc2_le ?_ ?_
          · intro hc
            rw [if_pos hc] at h
            refine zw_push hm_177 dX12_number_135 (v := .inl (1 : Int32)) rfl ?_
            refine zw_goto hm_177 dX12_number_136 (t := 140) rfl ?_
            exact zw_bret hm_177 dX12_number_140 (by decide) (HQ _ _ h)
          · intro hc
            rw [if_neg hc] at h
            refine zw_push hm_177 dX12_number_124 (v := .inr (.inr (some 94))) rfl ?_
            refine zw_push hm_177 dX12_number_125 (v := .inr (.inr (some 94))) rfl ?_
            refine zw_gf hm_177 dX12_number_126 (v := .inl ((mI S) 94 68)) (zT_is (zT_pi hS) s_94) (zT_t (zT_pi hS) s_94) rfl f_12_127_12 rfl ?_
            refine zw_cv hm_177 dX12_number_129 v_12_144_12 hm_174 [.inl ((mI S) 94 68)] [] rfl (zT_rt (zT_pi hS) s_94 rfl) ⟨by omega, by omega⟩ rfl ?_
            show ma_wp X (d - 1) (w - 21) 174 0 [(0, .inr (.inr (some 94))), (1, .inl ((mI S) 94 68))] [] (ma_put S 94 71 (.inl l4)) _
            refine zw_push hm_174 dX12_wrong_0 (v := .inr (.inr (some 94))) rfl ?_
            refine zw_push hm_174 dX12_wrong_1 (v := .inl ((mI S) 94 68)) rfl ?_
            refine zw_pf hm_174 dX12_wrong_2 (zT_is (zT_pi hS) s_94) (zT_t (zT_pi hS) s_94) p_12_133_12 zk_int ?_
            refine zw_push hm_174 dX12_wrong_5 (v := .inl (0 : Int32)) rfl ?_
            refine zw_bret hm_174 dX12_wrong_6 (by decide) ?_
            show ma_wp X d w 177 132 [(0, .inr (.inr (some 94))), (1, .inl l1), (2, .inl l2), (3, .inl l3), (4, .inl l4), (5, .inl l5)] [.inl (0 : Int32)] (ma_put (ma_put S 94 71 (.inl l4)) 94 70 (.inl ((mI S) 94 68))) _
            refine zw_if0 hm_177 dX12_number_132 (t := 139) rfl zc0_eq (fun _ => ?_) (fun hc => absurd (by decide) hc)
            refine zw_push hm_177 dX12_number_139 (v := .inl (0 : Int32)) rfl ?_
            exact zw_bret hm_177 dX12_number_140 (by decide) (HQ _ _ h)
    · intro hc
      rw [if_neg hc] at h
      refine zw_push hm_177 dX12_number_49 (v := .inr (.inr (some 94))) rfl ?_
      refine zw_gf hm_177 dX12_number_50 (v := .inr (.inr (some 96))) (zT_is hS s_94) (zT_t hS s_94) rfl f_12_17_12 (zT_f hS r_94_2) ?_
      refine zw_push hm_177 dX12_number_53 (v := .inr (.inr (some 94))) rfl ?_
      refine zw_gf hm_177 dX12_number_54 (v := .inl ((mI S) 94 68)) (zT_is hS s_94) (zT_t hS s_94) rfl f_12_127_12 rfl ?_
      refine zw_push hm_177 dX12_number_57 (v := .inl l5) rfl ?_
      refine zw_stk hm_177 dX12_number_59 (st₉ := [.inl (((mI S) 94 68) + l5), .inr (.inr (some 96))]) rfl rfl ?_
      obtain ⟨hg, h⟩ := h
      refine zw_ba hm_177 dX12_number_60 (zT_is hS s_96) (zT_h hS s_96) rfl rfl hg ?_
      show ma_wp X d w 177 61 [(0, .inr (.inr (some 94))), (1, .inl l1), (2, .inl l2), (3, .inl l3), (4, .inl l4), (5, .inl l5)] [.inl ((mI S) 96 (((mI S) 94 68) + l5).toNatClampNeg)] S _
      refine zw_sto hm_177 dX12_number_61 [(6, .inl ((mI S) 96 (((mI S) 94 68) + l5).toNatClampNeg)), (0, .inr (.inr (some 94))), (1, .inl l1), (2, .inl l2), (3, .inl l3), (4, .inl l4), (5, .inl l5)] rfl rfl rfl ?_
      refine zw_push hm_177 dX12_number_63 (v := .inl ((mI S) 96 (((mI S) 94 68) + l5).toNatClampNeg)) rfl ?_
      refine zw_push hm_177 dX12_number_65 (v := .inl (48 : Int32)) rfl ?_
      refine zw_if2 hm_177 dX12_number_67 (t := 81) rfl zc2_lt ?_ ?_
      · intro hc
        rw [if_pos hc] at h
        refine zw_push hm_177 dX12_number_81 (v := .inl (0 : Int32)) rfl ?_
        refine zw_sto hm_177 dX12_number_82 [(3, .inl (0 : Int32)), (6, .inl ((mI S) 96 (((mI S) 94 68) + l5).toNatClampNeg)), (0, .inr (.inr (some 94))), (1, .inl l1), (2, .inl l2), (4, .inl l4), (5, .inl l5)] rfl rfl rfl ?_
        refine zw_push hm_177 dX12_number_83 (v := .inl (10 : Int32)) rfl ?_
        refine zw_push hm_177 dX12_number_85 (v := .inl l4) rfl ?_
        refine zw_stk hm_177 dX12_number_87 (st₉ := [.inl ((10 : Int32) * l4)]) rfl rfl ?_
        refine zw_push hm_177 dX12_number_88 (v := .inl ((mI S) 96 (((mI S) 94 68) + l5).toNatClampNeg)) rfl ?_
        refine zw_stk hm_177 dX12_number_90 (st₉ := [.inl (((10 : Int32) * l4) + ((mI S) 96 (((mI S) 94 68) + l5).toNatClampNeg))]) rfl rfl ?_
        refine zw_push hm_177 dX12_number_91 (v := .inl (48 : Int32)) rfl ?_
        refine zw_stk hm_177 dX12_number_93 (st₉ := [.inl ((((10 : Int32) * l4) + ((mI S) 96 (((mI S) 94 68) + l5).toNatClampNeg)) - (48 : Int32))]) rfl rfl ?_
        refine zw_sto hm_177 dX12_number_94 [(4, .inl ((((10 : Int32) * l4) + ((mI S) 96 (((mI S) 94 68) + l5).toNatClampNeg)) - (48 : Int32))), (3, .inl (0 : Int32)), (6, .inl ((mI S) 96 (((mI S) 94 68) + l5).toNatClampNeg)), (0, .inr (.inr (some 94))), (1, .inl l1), (2, .inl l2), (5, .inl l5)] rfl rfl rfl ?_
        refine zw_sto hm_177 dX12_number_96 [(5, .inl (l5 + (1 : Int32))), (4, .inl ((((10 : Int32) * l4) + ((mI S) 96 (((mI S) 94 68) + l5).toNatClampNeg)) - (48 : Int32))), (3, .inl (0 : Int32)), (6, .inl ((mI S) 96 (((mI S) 94 68) + l5).toNatClampNeg)), (0, .inr (.inr (some 94))), (1, .inl l1), (2, .inl l2)] rfl rfl rfl ?_
        refine zw_goto hm_177 dX12_number_99 (t := 36) rfl ?_
        exact zw_sub (ma_nd_of (ks := [0, 1, 2, 3, 4, 5]) rfl (by decide)) (ma_nd_of (ks := [5, 4, 3, 6, 0, 1, 2]) rfl (by decide)) (ma_le_cons rfl (ma_le_cons rfl (ma_le_cons rfl (ma_le_cons rfl (ma_le_cons rfl (ma_le_cons rfl (ma_le_nil _))))))) (h d w _ Q (by omega) (by omega) hS rfl HQ)
      · intro hc
        rw [if_neg hc] at h
        refine zw_push hm_177 dX12_number_70 (v := .inl ((mI S) 96 (((mI S) 94 68) + l5).toNatClampNeg)) rfl ?_
        refine zw_push hm_177 dX12_number_72 (v := .inl (57 : Int32)) rfl ?_
        refine zw_if2 hm_177 dX12_number_74 (t := 81) rfl zc2_gt ?_ ?_
        · intro hc
          rw [if_pos hc] at h
          refine zw_push hm_177 dX12_number_81 (v := .inl (0 : Int32)) rfl ?_
          refine zw_sto hm_177 dX12_number_82 [(3, .inl (0 : Int32)), (6, .inl ((mI S) 96 (((mI S) 94 68) + l5).toNatClampNeg)), (0, .inr (.inr (some 94))), (1, .inl l1), (2, .inl l2), (4, .inl l4), (5, .inl l5)] rfl rfl rfl ?_
          refine zw_push hm_177 dX12_number_83 (v := .inl (10 : Int32)) rfl ?_
          refine zw_push hm_177 dX12_number_85 (v := .inl l4) rfl ?_
          refine zw_stk hm_177 dX12_number_87 (st₉ := [.inl ((10 : Int32) * l4)]) rfl rfl ?_
          refine zw_push hm_177 dX12_number_88 (v := .inl ((mI S) 96 (((mI S) 94 68) + l5).toNatClampNeg)) rfl ?_
          refine zw_stk hm_177 dX12_number_90 (st₉ := [.inl (((10 : Int32) * l4) + ((mI S) 96 (((mI S) 94 68) + l5).toNatClampNeg))]) rfl rfl ?_
          refine zw_push hm_177 dX12_number_91 (v := .inl (48 : Int32)) rfl ?_
          refine zw_stk hm_177 dX12_number_93 (st₉ := [.inl ((((10 : Int32) * l4) + ((mI S) 96 (((mI S) 94 68) + l5).toNatClampNeg)) - (48 : Int32))]) rfl rfl ?_
          refine zw_sto hm_177 dX12_number_94 [(4, .inl ((((10 : Int32) * l4) + ((mI S) 96 (((mI S) 94 68) + l5).toNatClampNeg)) - (48 : Int32))), (3, .inl (0 : Int32)), (6, .inl ((mI S) 96 (((mI S) 94 68) + l5).toNatClampNeg)), (0, .inr (.inr (some 94))), (1, .inl l1), (2, .inl l2), (5, .inl l5)] rfl rfl rfl ?_
          refine zw_sto hm_177 dX12_number_96 [(5, .inl (l5 + (1 : Int32))), (4, .inl ((((10 : Int32) * l4) + ((mI S) 96 (((mI S) 94 68) + l5).toNatClampNeg)) - (48 : Int32))), (3, .inl (0 : Int32)), (6, .inl ((mI S) 96 (((mI S) 94 68) + l5).toNatClampNeg)), (0, .inr (.inr (some 94))), (1, .inl l1), (2, .inl l2)] rfl rfl rfl ?_
          refine zw_goto hm_177 dX12_number_99 (t := 36) rfl ?_
          exact zw_sub (ma_nd_of (ks := [0, 1, 2, 3, 4, 5]) rfl (by decide)) (ma_nd_of (ks := [5, 4, 3, 6, 0, 1, 2]) rfl (by decide)) (ma_le_cons rfl (ma_le_cons rfl (ma_le_cons rfl (ma_le_cons rfl (ma_le_cons rfl (ma_le_cons rfl (ma_le_nil _))))))) (h d w _ Q (by omega) (by omega) hS rfl HQ)
        · intro hc
          rw [if_neg hc] at h
          refine zw_push hm_177 dX12_number_77 (v := .inl (1 : Int32)) rfl ?_
          refine zw_goto hm_177 dX12_number_78 (t := 82) rfl ?_
          refine zw_sto hm_177 dX12_number_82 [(3, .inl (1 : Int32)), (6, .inl ((mI S) 96 (((mI S) 94 68) + l5).toNatClampNeg)), (0, .inr (.inr (some 94))), (1, .inl l1), (2, .inl l2), (4, .inl l4), (5, .inl l5)] rfl rfl rfl ?_
          refine zw_push hm_177 dX12_number_83 (v := .inl (10 : Int32)) rfl ?_
          refine zw_push hm_177 dX12_number_85 (v := .inl l4) rfl ?_
          refine zw_stk hm_177 dX12_number_87 (st₉ := [.inl ((10 : Int32) * l4)]) rfl rfl ?_
          refine zw_push hm_177 dX12_number_88 (v := .inl ((mI S) 96 (((mI S) 94 68) + l5).toNatClampNeg)) rfl ?_
          refine zw_stk hm_177 dX12_number_90 (st₉ := [.inl (((10 : Int32) * l4) + ((mI S) 96 (((mI S) 94 68) + l5).toNatClampNeg))]) rfl rfl ?_
          refine zw_push hm_177 dX12_number_91 (v := .inl (48 : Int32)) rfl ?_
          refine zw_stk hm_177 dX12_number_93 (st₉ := [.inl ((((10 : Int32) * l4) + ((mI S) 96 (((mI S) 94 68) + l5).toNatClampNeg)) - (48 : Int32))]) rfl rfl ?_
          refine zw_sto hm_177 dX12_number_94 [(4, .inl ((((10 : Int32) * l4) + ((mI S) 96 (((mI S) 94 68) + l5).toNatClampNeg)) - (48 : Int32))), (3, .inl (1 : Int32)), (6, .inl ((mI S) 96 (((mI S) 94 68) + l5).toNatClampNeg)), (0, .inr (.inr (some 94))), (1, .inl l1), (2, .inl l2), (5, .inl l5)] rfl rfl rfl ?_
          refine zw_sto hm_177 dX12_number_96 [(5, .inl (l5 + (1 : Int32))), (4, .inl ((((10 : Int32) * l4) + ((mI S) 96 (((mI S) 94 68) + l5).toNatClampNeg)) - (48 : Int32))), (3, .inl (1 : Int32)), (6, .inl ((mI S) 96 (((mI S) 94 68) + l5).toNatClampNeg)), (0, .inr (.inr (some 94))), (1, .inl l1), (2, .inl l2)] rfl rfl rfl ?_
          refine zw_goto hm_177 dX12_number_99 (t := 36) rfl ?_
          exact zw_sub (ma_nd_of (ks := [0, 1, 2, 3, 4, 5]) rfl (by decide)) (ma_nd_of (ks := [5, 4, 3, 6, 0, 1, 2]) rfl (by decide)) (ma_le_cons rfl (ma_le_cons rfl (ma_le_cons rfl (ma_le_cons rfl (ma_le_cons rfl (ma_le_cons rfl (ma_le_nil _))))))) (h d w _ Q (by omega) (by omega) hS rfl HQ)
/-! from 94.404 -/
/-! the reference (written by wip/tools/gen94m.py) -/
set_option maxRecDepth 100000 in
theorem hm_246 : ma_md 246 = some (12, yX12_placeOf, cX12_placeOf, 3, (some (FieldType.int))) := rfl
theorem s_99 : zs 99 = some (22, 3100) := rfl
theorem s_100 : zs 100 = some (20, 3100) := rfl
theorem r_94_31 : zfi 94 31 = some 99 := rfl
theorem r_94_32 : zfi 94 32 = some 100 := rfl
theorem f_12_27_12 : ma_fld 12 27 12 = some 31 := by decide +kernel
theorem f_12_31_12 : ma_fld 12 31 12 = some 32 := by decide +kernel
theorem dX12_placeOf_0 : decode cX12_placeOf 0 = .ok (.iconst 0, 1) := by decide +kernel
theorem dX12_placeOf_1 : decode cX12_placeOf 1 = .ok (.istore_n 2, 1) := by decide +kernel
theorem dX12_placeOf_2 : decode cX12_placeOf 2 = .ok (.iload_n 2, 1) := by decide +kernel
theorem dX12_placeOf_3 : decode cX12_placeOf 3 = .ok (.sipush 3100, 3) := by decide +kernel
theorem dX12_placeOf_36 : decode cX12_placeOf 36 = .ok (.iconst (-1), 1) := by decide +kernel
theorem dX12_placeOf_37 : decode cX12_placeOf 37 = .ok (.ireturn, 1) := by decide +kernel
theorem dX12_placeOf_9 : decode cX12_placeOf 9 = .ok (.aload_n 0, 1) := by decide +kernel
theorem dX12_placeOf_13 : decode cX12_placeOf 13 = .ok (.iload_n 2, 1) := by decide +kernel
theorem dX12_placeOf_30 : decode cX12_placeOf 30 = .ok (.iinc 2 1, 3) := by decide +kernel
theorem dX12_placeOf_33 : decode cX12_placeOf 33 = .ok (.goto (-31), 3) := by decide +kernel
theorem dX12_placeOf_18 : decode cX12_placeOf 18 = .ok (.aload_n 0, 1) := by decide +kernel
theorem dX12_placeOf_22 : decode cX12_placeOf 22 = .ok (.iload_n 2, 1) := by decide +kernel
theorem dX12_placeOf_24 : decode cX12_placeOf 24 = .ok (.iload_n 1, 1) := by decide +kernel
theorem dX12_placeOf_28 : decode cX12_placeOf 28 = .ok (.iload_n 2, 1) := by decide +kernel
theorem dX12_placeOf_29 : decode cX12_placeOf 29 = .ok (.ireturn, 1) := by decide +kernel
theorem dX12_placeOf_25 : decode cX12_placeOf 25 = .ok (.if_icmp .ne 5, 3) := by decide +kernel
theorem dX12_placeOf_23 : decode cX12_placeOf 23 = .ok (.iaload, 1) := by decide +kernel
theorem dX12_placeOf_19 : decode cX12_placeOf 19 = .ok (.getfield 31, 3) := by decide +kernel
theorem dX12_placeOf_15 : decode cX12_placeOf 15 = .ok (.ifCond .eq 15, 3) := by decide +kernel
theorem dX12_placeOf_14 : decode cX12_placeOf 14 = .ok (.baload, 1) := by decide +kernel
theorem dX12_placeOf_10 : decode cX12_placeOf 10 = .ok (.getfield 27, 3) := by decide +kernel
theorem dX12_placeOf_6 : decode cX12_placeOf 6 = .ok (.if_icmp .ge 30, 3) := by decide +kernel
def wr_246 (_ _ : Nat) : Bool := false
theorem g_246_0 {X : Nat × (Nat → Int32)} {m : Nat → Nat → Int32} {P : Option ma_V → (Nat → Nat → Int32) → Prop} (n : Int32) (h : zm X 0 0 246 2 [(0, .inr (.inr (some 94))), (1, .inl n), (2, .inl (0 : Int32))] m P) : zm X 0 0 246 0 [(0, .inr (.inr (some 94))), (1, .inl n)] m P := by
  intro d w S Q hd hw hS hm HQ
  subst hm
  refine zw_push hm_246 dX12_placeOf_0 (v := .inl (0 : Int32)) rfl ?_
  refine zw_sto hm_246 dX12_placeOf_1 [(2, .inl (0 : Int32)), (0, .inr (.inr (some 94))), (1, .inl n)] rfl rfl rfl ?_
  exact zw_sub (ma_nd_of (ks := [0, 1, 2]) rfl (by decide)) (ma_nd_of (ks := [2, 0, 1]) rfl (by decide)) (ma_le_cons rfl (ma_le_cons rfl (ma_le_cons rfl (ma_le_nil _)))) (h d w _ Q (by omega) (by omega) hS rfl HQ)
theorem g_246_2 {X : Nat × (Nat → Int32)} {m : Nat → Nat → Int32} {P : Option ma_V → (Nat → Nat → Int32) → Prop} (l1 : Int32) (l2 : Int32) (h : if (3100 : Int32) ≤ l2 then (P (some (.inl (-1 : Int32))) m) else ((0 ≤ l2 ∧ l2.toNatClampNeg < 3100) ∧ (if (m 99 l2.toNatClampNeg) = 0 then (zm X 0 0 246 2 [(0, .inr (.inr (some 94))), (1, .inl l1), (2, .inl (l2 + (1 : Int32)))] m P) else ((0 ≤ l2 ∧ l2.toNatClampNeg < 3100) ∧ (if (m 100 l2.toNatClampNeg) = l1 then (P (some (.inl l2)) m) else (zm X 0 0 246 2 [(0, .inr (.inr (some 94))), (1, .inl l1), (2, .inl (l2 + (1 : Int32)))] m P)))))) : zm X 0 0 246 2 [(0, .inr (.inr (some 94))), (1, .inl l1), (2, .inl l2)] m P := by
  intro d w S Q hd hw hS hm HQ
  subst hm
  refine zw_push hm_246 dX12_placeOf_2 (v := .inl l2) rfl ?_
  refine zw_push hm_246 dX12_placeOf_3 (v := .inl (3100 : Int32)) rfl ?_
  refine zw_if2 hm_246 dX12_placeOf_6 (t := 36) rfl zc2_ge ?_ ?_
  · intro hc
    rw [if_pos hc] at h
    refine zw_push hm_246 dX12_placeOf_36 (v := .inl (-1 : Int32)) rfl ?_
    exact zw_iret hm_246 dX12_placeOf_37 (HQ _ _ h)
  · intro hc
    rw [if_neg hc] at h
    refine zw_push hm_246 dX12_placeOf_9 (v := .inr (.inr (some 94))) rfl ?_
    refine zw_gf hm_246 dX12_placeOf_10 (v := .inr (.inr (some 99))) (zT_is hS s_94) (zT_t hS s_94) rfl f_12_27_12 (zT_f hS r_94_31) ?_
    refine zw_push hm_246 dX12_placeOf_13 (v := .inl l2) rfl ?_
    obtain ⟨hg, h⟩ := h
    refine zw_ba hm_246 dX12_placeOf_14 (zT_is hS s_99) (zT_h hS s_99) rfl rfl hg ?_
    show ma_wp X d w 246 15 [(0, .inr (.inr (some 94))), (1, .inl l1), (2, .inl l2)] [.inl ((mI S) 99 l2.toNatClampNeg)] S _
    refine zw_if0 hm_246 dX12_placeOf_15 (t := 30) rfl zc0_eq ?_ ?_
    · intro hc
      rw [if_pos hc] at h
      refine zw_sto hm_246 dX12_placeOf_30 [(2, .inl (l2 + (1 : Int32))), (0, .inr (.inr (some 94))), (1, .inl l1)] rfl rfl rfl ?_
      refine zw_goto hm_246 dX12_placeOf_33 (t := 2) rfl ?_
      exact zw_sub (ma_nd_of (ks := [0, 1, 2]) rfl (by decide)) (ma_nd_of (ks := [2, 0, 1]) rfl (by decide)) (ma_le_cons rfl (ma_le_cons rfl (ma_le_cons rfl (ma_le_nil _)))) (h d w _ Q (by omega) (by omega) hS rfl HQ)
    · intro hc
      rw [if_neg hc] at h
      refine zw_push hm_246 dX12_placeOf_18 (v := .inr (.inr (some 94))) rfl ?_
      refine zw_gf hm_246 dX12_placeOf_19 (v := .inr (.inr (some 100))) (zT_is hS s_94) (zT_t hS s_94) rfl f_12_31_12 (zT_f hS r_94_32) ?_
      refine zw_push hm_246 dX12_placeOf_22 (v := .inl l2) rfl ?_
      obtain ⟨hg, h⟩ := h
      refine zw_ia hm_246 dX12_placeOf_23 (zT_is hS s_100) (zT_h hS s_100) rfl hg ?_
      show ma_wp X d w 246 24 [(0, .inr (.inr (some 94))), (1, .inl l1), (2, .inl l2)] [.inl ((mI S) 100 l2.toNatClampNeg)] S _
      refine zw_push hm_246 dX12_placeOf_24 (v := .inl l1) rfl ?_
      refine zw_if2 hm_246 dX12_placeOf_25 (t := 30) rfl zc2_ne ?_ ?_
      · intro hc
        rw [if_neg hc] at h
        refine zw_sto hm_246 dX12_placeOf_30 [(2, .inl (l2 + (1 : Int32))), (0, .inr (.inr (some 94))), (1, .inl l1)] rfl rfl rfl ?_
        refine zw_goto hm_246 dX12_placeOf_33 (t := 2) rfl ?_
        exact zw_sub (ma_nd_of (ks := [0, 1, 2]) rfl (by decide)) (ma_nd_of (ks := [2, 0, 1]) rfl (by decide)) (ma_le_cons rfl (ma_le_cons rfl (ma_le_cons rfl (ma_le_nil _)))) (h d w _ Q (by omega) (by omega) hS rfl HQ)
      · intro hc
        rw [if_pos (Classical.not_not.mp hc)] at h
        refine zw_push hm_246 dX12_placeOf_28 (v := .inl l2) rfl ?_
        exact zw_iret hm_246 dX12_placeOf_29 (HQ _ _ h)
set_option maxRecDepth 100000 in
theorem hm_189 : ma_md 189 = some (12, yX12_keepNone, cX12_keepNone, 2, none) := rfl
theorem s_110 : zs 110 = some (22, 3100) := rfl
theorem r_94_42 : zfi 94 42 = some 110 := rfl
theorem f_12_62_12 : ma_fld 12 62 12 = some 42 := by decide +kernel
theorem dX12_keepNone_0 : decode cX12_keepNone 0 = .ok (.iconst 0, 1) := by decide +kernel
theorem dX12_keepNone_1 : decode cX12_keepNone 1 = .ok (.istore_n 1, 1) := by decide +kernel
theorem dX12_keepNone_2 : decode cX12_keepNone 2 = .ok (.iload_n 1, 1) := by decide +kernel
theorem dX12_keepNone_3 : decode cX12_keepNone 3 = .ok (.sipush 3100, 3) := by decide +kernel
theorem dX12_keepNone_22 : decode cX12_keepNone 22 = .ok (.return_, 1) := by decide +kernel
theorem dX12_keepNone_9 : decode cX12_keepNone 9 = .ok (.aload_n 0, 1) := by decide +kernel
theorem dX12_keepNone_13 : decode cX12_keepNone 13 = .ok (.iload_n 1, 1) := by decide +kernel
theorem dX12_keepNone_14 : decode cX12_keepNone 14 = .ok (.iconst 0, 1) := by decide +kernel
theorem dX12_keepNone_16 : decode cX12_keepNone 16 = .ok (.iinc 1 1, 3) := by decide +kernel
theorem dX12_keepNone_19 : decode cX12_keepNone 19 = .ok (.goto (-17), 3) := by decide +kernel
theorem dX12_keepNone_15 : decode cX12_keepNone 15 = .ok (.bastore, 1) := by decide +kernel
theorem dX12_keepNone_10 : decode cX12_keepNone 10 = .ok (.getfield 62, 3) := by decide +kernel
theorem dX12_keepNone_6 : decode cX12_keepNone 6 = .ok (.if_icmp .ge 16, 3) := by decide +kernel
def wr_189 (c _ : Nat) : Bool := Nat.beq c 110
theorem g_189_0 {X : Nat × (Nat → Int32)} {m : Nat → Nat → Int32} {P : Option ma_V → (Nat → Nat → Int32) → Prop}  (h : zm X 0 0 189 2 [(0, .inr (.inr (some 94))), (1, .inl (0 : Int32))] m P) : zm X 0 0 189 0 [(0, .inr (.inr (some 94)))] m P := by
  intro d w S Q hd hw hS hm HQ
  subst hm
  refine zw_push hm_189 dX12_keepNone_0 (v := .inl (0 : Int32)) rfl ?_
  refine zw_sto hm_189 dX12_keepNone_1 [(1, .inl (0 : Int32)), (0, .inr (.inr (some 94)))] rfl rfl rfl ?_
  exact zw_sub (ma_nd_of (ks := [0, 1]) rfl (by decide)) (ma_nd_of (ks := [1, 0]) rfl (by decide)) (ma_le_cons rfl (ma_le_cons rfl (ma_le_nil _))) (h d w _ Q (by omega) (by omega) hS rfl HQ)
theorem g_189_2 {X : Nat × (Nat → Int32)} {m : Nat → Nat → Int32} {P : Option ma_V → (Nat → Nat → Int32) → Prop} (l1 : Int32) (h : if (3100 : Int32) ≤ l1 then (P none m) else ((0 ≤ l1 ∧ l1.toNatClampNeg < 3100) ∧ (zm X 0 0 189 2 [(0, .inr (.inr (some 94))), (1, .inl (l1 + (1 : Int32)))] (ma_u m 110 l1.toNatClampNeg (0 : Int32)) P))) : zm X 0 0 189 2 [(0, .inr (.inr (some 94))), (1, .inl l1)] m P := by
  intro d w S Q hd hw hS hm HQ
  subst hm
  refine zw_push hm_189 dX12_keepNone_2 (v := .inl l1) rfl ?_
  refine zw_push hm_189 dX12_keepNone_3 (v := .inl (3100 : Int32)) rfl ?_
  refine zw_if2 hm_189 dX12_keepNone_6 (t := 22) rfl zc2_ge ?_ ?_
  · intro hc
    rw [if_pos hc] at h
    exact zw_vret hm_189 dX12_keepNone_22 (HQ _ _ h)
  · intro hc
    rw [if_neg hc] at h
    refine zw_push hm_189 dX12_keepNone_9 (v := .inr (.inr (some 94))) rfl ?_
    refine zw_gf hm_189 dX12_keepNone_10 (v := .inr (.inr (some 110))) (zT_is hS s_94) (zT_t hS s_94) rfl f_12_62_12 (zT_f hS r_94_42) ?_
    refine zw_push hm_189 dX12_keepNone_13 (v := .inl l1) rfl ?_
    refine zw_push hm_189 dX12_keepNone_14 (v := .inl (0 : Int32)) rfl ?_
    obtain ⟨hg, h⟩ := h
    refine zw_bas22l hm_189 dX12_keepNone_15 (hx := by decide) (yv := (0 : Int32)) (zT_is hS s_110) (zT_h hS s_110) rfl hg ?_
    refine zw_sto hm_189 dX12_keepNone_16 [(1, .inl (l1 + (1 : Int32))), (0, .inr (.inr (some 94)))] rfl rfl rfl ?_
    refine zw_goto hm_189 dX12_keepNone_19 (t := 2) rfl ?_
    exact zw_sub (ma_nd_of (ks := [0, 1]) rfl (by decide)) (ma_nd_of (ks := [1, 0]) rfl (by decide)) (ma_le_cons rfl (ma_le_cons rfl (ma_le_nil _))) (h d w _ Q (by omega) (by omega) (zT_pi hS) rfl HQ)
theorem lp_189_2 {X : Nat × (Nat → Int32)} {P : Option ma_V → (Nat → Nat → Int32) → Prop} {m0 : Nat → Nat → Int32} (h0 : zV m0) (K : ∀ m₉, zF wr_189 m0 m₉ → zV m₉ → (∀ s : Nat, s < 3100 → (m₉ 110) s = 0) → P none m₉) : ∀ (n : Nat) (m : Nat → Nat → Int32) (l1 : Int32), (3100 - l1.toInt).toNat = n → zF wr_189 m0 m → zV m → (0 ≤ l1.toInt) → (∀ s : Nat, (s : Int) < l1.toInt → (m 110) s = 0) → zm X 0 0 189 2 [(0, .inr (.inr (some 94))), (1, .inl l1)] m P := by
  intro n
  induction n using Nat.strongRecOn with
  | _ n IH =>
    intro m l1 hmu hF hV hi0 r_KZ0
    refine g_189_2 l1 ?_
    have li1 : (3100 : Int32).toInt = 3100 := rfl
    have b2 := i_bd l1
    refine zd (fun (h3 : (3100 : Int32) ≤ l1) => ?_) (fun (h3 : ¬ (3100 : Int32) ≤ l1) => ?_)
    · skip
      have g4 := i_le h3
      exact K _ hF hV (show ∀ s : Nat, s < 3100 → (m 110) s = 0 from by first | (exact z0_all r_KZ0 (by omega)) | (exfalso; omega; done) | (exfalso; contradiction; done))
    · skip
      have g5 := i_nle h3
      have hg6 : (0 ≤ l1 ∧ l1.toNatClampNeg < 3100) := i_ix (by omega) (by omega)
      refine ⟨hg6, ?_⟩
      have li8 : (0 : Int32).toInt = 0 := rfl
      have hV7 : zV (ma_u m 110 l1.toNatClampNeg (0 : Int32)) := ua_110 hV (by omega) (by omega)
      first | have e9 : (l1 + (1 : Int32)).toInt = l1.toInt + (1) := i_addk rfl (by omega) (by omega) | have b10 := i_bd (l1 + (1 : Int32))
      exact IH (3100 - (l1 + (1 : Int32)).toInt).toNat (by omega) _ ((l1 + (1 : Int32))) rfl (zF_u hF rfl) hV7 (by omega) (show ∀ s : Nat, (s : Int) < (l1 + (1 : Int32)).toInt → ((ma_u m 110 l1.toNatClampNeg (0 : Int32)) 110) s = 0 from by first | (exact z0_step r_KZ0 (by omega) (by omega)) | (intro s hs; omega; done) | (exfalso; omega; done) | (exfalso; contradiction; done))
theorem sp_189 {X : Nat × (Nat → Int32)} {P : Option ma_V → (Nat → Nat → Int32) → Prop} {m : Nat → Nat → Int32}  (hV : zV m)  (KZ : ∀ m₉, zV (zov wr_189 m m₉) → (∀ s : Nat, s < 3100 → (m₉ 110) s = 0) → P none (zov wr_189 m m₉)) : zm X 0 0 189 0 [(0, .inr (.inr (some 94)))] m P := by
  have K : ∀ m₉, zF wr_189 m m₉ → zV m₉ → (∀ s : Nat, s < 3100 → (m₉ 110) s = 0) → P none m₉ := by
    intro m₉ hf z q0
    have e := zov_eq hf
    rw [e] at z ⊢
    try rw [e] at q0
    exact KZ m₉ z q0
  refine g_189_0  ?_
  have li1 : (0 : Int32).toInt = 0 := rfl
  exact lp_189_2 hV K _ _ ((0 : Int32)) rfl zF_rfl hV (by omega) (show ∀ s : Nat, (s : Int) < (0 : Int32).toInt → (m 110) s = 0 from by first | (intro s hs; omega; done) | (exfalso; omega; done) | (exfalso; contradiction; done))

/-! from 94.405 -/
/-! the reference (written by wip/tools/gen94m.py) -/
set_option maxRecDepth 100000 in
theorem hm_201 : ma_md 201 = some (12, yX12_sizeOf, cX12_sizeOf, 2, (some (FieldType.int))) := rfl
set_option maxRecDepth 100000 in
theorem hm_226 : ma_md 226 = some (12, yX12_blockFrom, cX12_blockFrom, 5, (some (FieldType.int))) := rfl
theorem s_102 : zs 102 = some (20, 3100) := rfl
theorem s_111 : zs 111 = some (20, 4600) := rfl
theorem r_94_34 : zfi 94 34 = some 102 := rfl
theorem r_94_43 : zfi 94 43 = some 111 := rfl
theorem f_12_37_12 : ma_fld 12 37 12 = some 34 := by decide +kernel
theorem f_12_65_12 : ma_fld 12 65 12 = some 43 := by decide +kernel
theorem p_12_420_12 : ma_pk 12 420 12 84 = true := by decide +kernel
theorem v_12_327_12 : ma_vl 12 327 12 = some (1, 201, 1) := by decide +kernel
theorem dX12_blockFrom_0 : decode cX12_blockFrom 0 = .ok (.iload_n 1, 1) := by decide +kernel
theorem dX12_blockFrom_1 : decode cX12_blockFrom 1 = .ok (.istore_n 3, 1) := by decide +kernel
theorem dX12_blockFrom_2 : decode cX12_blockFrom 2 = .ok (.iload_n 3, 1) := by decide +kernel
theorem dX12_blockFrom_3 : decode cX12_blockFrom 3 = .ok (.iload_n 2, 1) := by decide +kernel
theorem dX12_blockFrom_32 : decode cX12_blockFrom 32 = .ok (.iload_n 3, 1) := by decide +kernel
theorem dX12_blockFrom_33 : decode cX12_blockFrom 33 = .ok (.iload_n 2, 1) := by decide +kernel
theorem dX12_blockFrom_39 : decode cX12_blockFrom 39 = .ok (.iload_n 3, 1) := by decide +kernel
theorem dX12_blockFrom_40 : decode cX12_blockFrom 40 = .ok (.istore 4, 2) := by decide +kernel
theorem dX12_blockFrom_37 : decode cX12_blockFrom 37 = .ok (.iconst (-1), 1) := by decide +kernel
theorem dX12_blockFrom_38 : decode cX12_blockFrom 38 = .ok (.ireturn, 1) := by decide +kernel
theorem dX12_blockFrom_34 : decode cX12_blockFrom 34 = .ok (.if_icmp .lt 5, 3) := by decide +kernel
theorem dX12_blockFrom_7 : decode cX12_blockFrom 7 = .ok (.aload_n 0, 1) := by decide +kernel
theorem dX12_blockFrom_11 : decode cX12_blockFrom 11 = .ok (.iload_n 3, 1) := by decide +kernel
theorem dX12_blockFrom_16 : decode cX12_blockFrom 16 = .ok (.iload_n 3, 1) := by decide +kernel
theorem dX12_blockFrom_17 : decode cX12_blockFrom 17 = .ok (.aload_n 0, 1) := by decide +kernel
theorem dX12_blockFrom_18 : decode cX12_blockFrom 18 = .ok (.aload_n 0, 1) := by decide +kernel
theorem dX12_blockFrom_22 : decode cX12_blockFrom 22 = .ok (.iload_n 3, 1) := by decide +kernel
theorem dX12_blockFrom_24 : decode cX12_blockFrom 24 = .ok (.invokevirtual 327, 3) := by decide +kernel
theorem dX12_sizeOf_0 : decode cX12_sizeOf 0 = .ok (.aload_n 0, 1) := by decide +kernel
theorem dX12_sizeOf_4 : decode cX12_sizeOf 4 = .ok (.iload_n 1, 1) := by decide +kernel
theorem dX12_sizeOf_6 : decode cX12_sizeOf 6 = .ok (.iconst 1, 1) := by decide +kernel
theorem dX12_sizeOf_7 : decode cX12_sizeOf 7 = .ok (.iadd, 1) := by decide +kernel
theorem dX12_blockFrom_27 : decode cX12_blockFrom 27 = .ok (.iadd, 1) := by decide +kernel
theorem dX12_blockFrom_28 : decode cX12_blockFrom 28 = .ok (.istore_n 3, 1) := by decide +kernel
theorem dX12_blockFrom_29 : decode cX12_blockFrom 29 = .ok (.goto (-27), 3) := by decide +kernel
theorem dX12_sizeOf_8 : decode cX12_sizeOf 8 = .ok (.ireturn, 1) := by decide +kernel
theorem dX12_sizeOf_5 : decode cX12_sizeOf 5 = .ok (.iaload, 1) := by decide +kernel
theorem dX12_sizeOf_1 : decode cX12_sizeOf 1 = .ok (.getfield 37, 3) := by decide +kernel
theorem dX12_blockFrom_23 : decode cX12_blockFrom 23 = .ok (.iaload, 1) := by decide +kernel
theorem dX12_blockFrom_19 : decode cX12_blockFrom 19 = .ok (.getfield 65, 3) := by decide +kernel
theorem dX12_blockFrom_13 : decode cX12_blockFrom 13 = .ok (.ifCond .lt 19, 3) := by decide +kernel
theorem dX12_blockFrom_12 : decode cX12_blockFrom 12 = .ok (.iaload, 1) := by decide +kernel
theorem dX12_blockFrom_8 : decode cX12_blockFrom 8 = .ok (.getfield 65, 3) := by decide +kernel
theorem dX12_blockFrom_4 : decode cX12_blockFrom 4 = .ok (.if_icmp .ge 28, 3) := by decide +kernel
theorem dX12_blockFrom_42 : decode cX12_blockFrom 42 = .ok (.iload 4, 2) := by decide +kernel
theorem dX12_blockFrom_44 : decode cX12_blockFrom 44 = .ok (.iload_n 2, 1) := by decide +kernel
theorem dX12_blockFrom_64 : decode cX12_blockFrom 64 = .ok (.aload_n 0, 1) := by decide +kernel
theorem dX12_blockFrom_65 : decode cX12_blockFrom 65 = .ok (.iload 4, 2) := by decide +kernel
theorem dX12_blockFrom_67 : decode cX12_blockFrom 67 = .ok (.iload_n 3, 1) := by decide +kernel
theorem dX12_blockFrom_68 : decode cX12_blockFrom 68 = .ok (.isub, 1) := by decide +kernel
theorem dX12_blockFrom_72 : decode cX12_blockFrom 72 = .ok (.iload_n 3, 1) := by decide +kernel
theorem dX12_blockFrom_73 : decode cX12_blockFrom 73 = .ok (.ireturn, 1) := by decide +kernel
theorem dX12_blockFrom_69 : decode cX12_blockFrom 69 = .ok (.putfield 420, 3) := by decide +kernel
theorem dX12_blockFrom_48 : decode cX12_blockFrom 48 = .ok (.aload_n 0, 1) := by decide +kernel
theorem dX12_blockFrom_52 : decode cX12_blockFrom 52 = .ok (.iload 4, 2) := by decide +kernel
theorem dX12_blockFrom_58 : decode cX12_blockFrom 58 = .ok (.iinc 4 1, 3) := by decide +kernel
theorem dX12_blockFrom_61 : decode cX12_blockFrom 61 = .ok (.goto (-19), 3) := by decide +kernel
theorem dX12_blockFrom_55 : decode cX12_blockFrom 55 = .ok (.ifCond .ge 9, 3) := by decide +kernel
theorem dX12_blockFrom_54 : decode cX12_blockFrom 54 = .ok (.iaload, 1) := by decide +kernel
theorem dX12_blockFrom_49 : decode cX12_blockFrom 49 = .ok (.getfield 65, 3) := by decide +kernel
theorem dX12_blockFrom_45 : decode cX12_blockFrom 45 = .ok (.if_icmp .ge 19, 3) := by decide +kernel
def wr_226 (c k : Nat) : Bool := (Nat.beq c 94 && (Nat.beq k 84))
theorem g_226_0 {X : Nat × (Nat → Int32)} {m : Nat → Nat → Int32} {P : Option ma_V → (Nat → Nat → Int32) → Prop} (f : Int32) (e : Int32) (h : zm X 1 21 226 2 [(0, .inr (.inr (some 94))), (2, .inl e), (3, .inl f)] m P) : zm X 1 21 226 0 [(0, .inr (.inr (some 94))), (1, .inl f), (2, .inl e)] m P := by
  intro d w S Q hd hw hS hm HQ
  subst hm
  refine zw_push hm_226 dX12_blockFrom_0 (v := .inl f) rfl ?_
  refine zw_sto hm_226 dX12_blockFrom_1 [(3, .inl f), (0, .inr (.inr (some 94))), (1, .inl f), (2, .inl e)] rfl rfl rfl ?_
  exact zw_sub (ma_nd_of (ks := [0, 2, 3]) rfl (by decide)) (ma_nd_of (ks := [3, 0, 1, 2]) rfl (by decide)) (ma_le_cons rfl (ma_le_cons rfl (ma_le_cons rfl (ma_le_nil _)))) (h d w _ Q (by omega) (by omega) hS rfl HQ)
theorem g_226_2 {X : Nat × (Nat → Int32)} {m : Nat → Nat → Int32} {P : Option ma_V → (Nat → Nat → Int32) → Prop} (l2 : Int32) (l3 : Int32) (h : if l2 ≤ l3 then (if l3 < l2 then (zm X 1 21 226 42 [(0, .inr (.inr (some 94))), (2, .inl l2), (3, .inl l3), (4, .inl l3)] m P) else (P (some (.inl (-1 : Int32))) m)) else ((0 ≤ l3 ∧ l3.toNatClampNeg < 4600) ∧ (if (m 111 l3.toNatClampNeg) < 0 then (if l3 < l2 then (zm X 1 21 226 42 [(0, .inr (.inr (some 94))), (2, .inl l2), (3, .inl l3), (4, .inl l3)] m P) else (P (some (.inl (-1 : Int32))) m)) else ((0 ≤ l3 ∧ l3.toNatClampNeg < 4600) ∧ ((0 ≤ (m 111 l3.toNatClampNeg) ∧ (m 111 l3.toNatClampNeg).toNatClampNeg < 3100) ∧ (zm X 1 21 226 2 [(0, .inr (.inr (some 94))), (2, .inl l2), (3, .inl (l3 + ((m 102 (m 111 l3.toNatClampNeg).toNatClampNeg) + (1 : Int32))))] m P)))))) : zm X 1 21 226 2 [(0, .inr (.inr (some 94))), (2, .inl l2), (3, .inl l3)] m P := by
  intro d w S Q hd hw hS hm HQ
  subst hm
  refine zw_push hm_226 dX12_blockFrom_2 (v := .inl l3) rfl ?_
  refine zw_push hm_226 dX12_blockFrom_3 (v := .inl l2) rfl ?_
  refine zw_if2 hm_226 dX12_blockFrom_4 (t := 32) rfl zc2_ge ?_ ?_
  · intro hc
    rw [if_pos hc] at h
    refine zw_push hm_226 dX12_blockFrom_32 (v := .inl l3) rfl ?_
    refine zw_push hm_226 dX12_blockFrom_33 (v := .inl l2) rfl ?_
    refine zw_if2 hm_226 dX12_blockFrom_34 (t := 39) rfl zc2_lt ?_ ?_
    · intro hc
      rw [if_pos hc] at h
      refine zw_push hm_226 dX12_blockFrom_39 (v := .inl l3) rfl ?_
      refine zw_sto hm_226 dX12_blockFrom_40 [(4, .inl l3), (0, .inr (.inr (some 94))), (2, .inl l2), (3, .inl l3)] rfl rfl rfl ?_
      exact zw_sub (ma_nd_of (ks := [0, 2, 3, 4]) rfl (by decide)) (ma_nd_of (ks := [4, 0, 2, 3]) rfl (by decide)) (ma_le_cons rfl (ma_le_cons rfl (ma_le_cons rfl (ma_le_cons rfl (ma_le_nil _))))) (h d w _ Q (by omega) (by omega) hS rfl HQ)
    · intro hc
      rw [if_neg hc] at h
      refine zw_push hm_226 dX12_blockFrom_37 (v := .inl (-1 : Int32)) rfl ?_
      exact zw_iret hm_226 dX12_blockFrom_38 (HQ _ _ h)
  · intro hc
    rw [if_neg hc] at h
    refine zw_push hm_226 dX12_blockFrom_7 (v := .inr (.inr (some 94))) rfl ?_
    refine zw_gf hm_226 dX12_blockFrom_8 (v := .inr (.inr (some 111))) (zT_is hS s_94) (zT_t hS s_94) rfl f_12_65_12 (zT_f hS r_94_43) ?_
    refine zw_push hm_226 dX12_blockFrom_11 (v := .inl l3) rfl ?_
    obtain ⟨hg, h⟩ := h
    refine zw_ia hm_226 dX12_blockFrom_12 (zT_is hS s_111) (zT_h hS s_111) rfl hg ?_
    show ma_wp X d w 226 13 [(0, .inr (.inr (some 94))), (2, .inl l2), (3, .inl l3)] [.inl ((mI S) 111 l3.toNatClampNeg)] S _
    refine zw_if0 hm_226 dX12_blockFrom_13 (t := 32) rfl zc0_lt ?_ ?_
    · intro hc
      rw [if_pos hc] at h
      refine zw_push hm_226 dX12_blockFrom_32 (v := .inl l3) rfl ?_
      refine zw_push hm_226 dX12_blockFrom_33 (v := .inl l2) rfl ?_
      refine zw_if2 hm_226 dX12_blockFrom_34 (t := 39) rfl zc2_lt ?_ ?_
      · intro hc
        rw [if_pos hc] at h
        refine zw_push hm_226 dX12_blockFrom_39 (v := .inl l3) rfl ?_
        refine zw_sto hm_226 dX12_blockFrom_40 [(4, .inl l3), (0, .inr (.inr (some 94))), (2, .inl l2), (3, .inl l3)] rfl rfl rfl ?_
        exact zw_sub (ma_nd_of (ks := [0, 2, 3, 4]) rfl (by decide)) (ma_nd_of (ks := [4, 0, 2, 3]) rfl (by decide)) (ma_le_cons rfl (ma_le_cons rfl (ma_le_cons rfl (ma_le_cons rfl (ma_le_nil _))))) (h d w _ Q (by omega) (by omega) hS rfl HQ)
      · intro hc
        rw [if_neg hc] at h
        refine zw_push hm_226 dX12_blockFrom_37 (v := .inl (-1 : Int32)) rfl ?_
        exact zw_iret hm_226 dX12_blockFrom_38 (HQ _ _ h)
    · intro hc
      rw [if_neg hc] at h
      refine zw_push hm_226 dX12_blockFrom_16 (v := .inl l3) rfl ?_
      refine zw_push hm_226 dX12_blockFrom_17 (v := .inr (.inr (some 94))) rfl ?_
      refine zw_push hm_226 dX12_blockFrom_18 (v := .inr (.inr (some 94))) rfl ?_
      refine zw_gf hm_226 dX12_blockFrom_19 (v := .inr (.inr (some 111))) (zT_is hS s_94) (zT_t hS s_94) rfl f_12_65_12 (zT_f hS r_94_43) ?_
      refine zw_push hm_226 dX12_blockFrom_22 (v := .inl l3) rfl ?_
      obtain ⟨hg, h⟩ := h
      refine zw_ia hm_226 dX12_blockFrom_23 (zT_is hS s_111) (zT_h hS s_111) rfl hg ?_
      show ma_wp X d w 226 24 [(0, .inr (.inr (some 94))), (2, .inl l2), (3, .inl l3)] [.inl ((mI S) 111 l3.toNatClampNeg), .inr (.inr (some 94)), .inl l3] S _
      refine zw_cv hm_226 dX12_blockFrom_24 v_12_327_12 hm_201 [.inl ((mI S) 111 l3.toNatClampNeg)] [.inl l3] rfl (zT_rt hS s_94 rfl) ⟨by omega, by omega⟩ rfl ?_
      show ma_wp X (d - 1) (w - 21) 201 0 [(0, .inr (.inr (some 94))), (1, .inl ((mI S) 111 l3.toNatClampNeg))] [] S _
      refine zw_push hm_201 dX12_sizeOf_0 (v := .inr (.inr (some 94))) rfl ?_
      refine zw_gf hm_201 dX12_sizeOf_1 (v := .inr (.inr (some 102))) (zT_is hS s_94) (zT_t hS s_94) rfl f_12_37_12 (zT_f hS r_94_34) ?_
      refine zw_push hm_201 dX12_sizeOf_4 (v := .inl ((mI S) 111 l3.toNatClampNeg)) rfl ?_
      obtain ⟨hg, h⟩ := h
      refine zw_ia hm_201 dX12_sizeOf_5 (zT_is hS s_102) (zT_h hS s_102) rfl hg ?_
      show ma_wp X (d - 1) (w - 21) 201 6 [(0, .inr (.inr (some 94))), (1, .inl ((mI S) 111 l3.toNatClampNeg))] [.inl ((mI S) 102 ((mI S) 111 l3.toNatClampNeg).toNatClampNeg)] S _
      refine zw_push hm_201 dX12_sizeOf_6 (v := .inl (1 : Int32)) rfl ?_
      refine zw_stk hm_201 dX12_sizeOf_7 (st₉ := [.inl (((mI S) 102 ((mI S) 111 l3.toNatClampNeg).toNatClampNeg) + (1 : Int32))]) rfl rfl ?_
      refine zw_iret hm_201 dX12_sizeOf_8 ?_
      show ma_wp X d w 226 27 [(0, .inr (.inr (some 94))), (2, .inl l2), (3, .inl l3)] [.inl (((mI S) 102 ((mI S) 111 l3.toNatClampNeg).toNatClampNeg) + (1 : Int32)), .inl l3] S _
      refine zw_stk hm_226 dX12_blockFrom_27 (st₉ := [.inl (l3 + (((mI S) 102 ((mI S) 111 l3.toNatClampNeg).toNatClampNeg) + (1 : Int32)))]) rfl rfl ?_
      refine zw_sto hm_226 dX12_blockFrom_28 [(3, .inl (l3 + (((mI S) 102 ((mI S) 111 l3.toNatClampNeg).toNatClampNeg) + (1 : Int32)))), (0, .inr (.inr (some 94))), (2, .inl l2)] rfl rfl rfl ?_
      refine zw_goto hm_226 dX12_blockFrom_29 (t := 2) rfl ?_
      exact zw_sub (ma_nd_of (ks := [0, 2, 3]) rfl (by decide)) (ma_nd_of (ks := [3, 0, 2]) rfl (by decide)) (ma_le_cons rfl (ma_le_cons rfl (ma_le_cons rfl (ma_le_nil _)))) (h d w _ Q (by omega) (by omega) hS rfl HQ)
theorem g_226_42 {X : Nat × (Nat → Int32)} {m : Nat → Nat → Int32} {P : Option ma_V → (Nat → Nat → Int32) → Prop} (l2 : Int32) (l3 : Int32) (l4 : Int32) (h : if l2 ≤ l4 then (P (some (.inl l3)) (ma_u m 94 84 (l4 - l3))) else ((0 ≤ l4 ∧ l4.toNatClampNeg < 4600) ∧ (if 0 ≤ (m 111 l4.toNatClampNeg) then (P (some (.inl l3)) (ma_u m 94 84 (l4 - l3))) else (zm X 1 21 226 42 [(0, .inr (.inr (some 94))), (2, .inl l2), (3, .inl l3), (4, .inl (l4 + (1 : Int32)))] m P)))) : zm X 1 21 226 42 [(0, .inr (.inr (some 94))), (2, .inl l2), (3, .inl l3), (4, .inl l4)] m P := by
  intro d w S Q hd hw hS hm HQ
  subst hm
  refine zw_push hm_226 dX12_blockFrom_42 (v := .inl l4) rfl ?_
  refine zw_push hm_226 dX12_blockFrom_44 (v := .inl l2) rfl ?_
  refine zw_if2 hm_226 dX12_blockFrom_45 (t := 64) rfl zc2_ge ?_ ?_
  · intro hc
    rw [if_pos hc] at h
    refine zw_push hm_226 dX12_blockFrom_64 (v := .inr (.inr (some 94))) rfl ?_
    refine zw_push hm_226 dX12_blockFrom_65 (v := .inl l4) rfl ?_
    refine zw_push hm_226 dX12_blockFrom_67 (v := .inl l3) rfl ?_
    refine zw_stk hm_226 dX12_blockFrom_68 (st₉ := [.inl (l4 - l3), .inr (.inr (some 94))]) rfl rfl ?_
    refine zw_pf hm_226 dX12_blockFrom_69 (zT_is hS s_94) (zT_t hS s_94) p_12_420_12 zk_int ?_
    refine zw_push hm_226 dX12_blockFrom_72 (v := .inl l3) rfl ?_
    exact zw_iret hm_226 dX12_blockFrom_73 (HQ _ _ h)
  · intro hc
    rw [if_neg hc] at h
    refine zw_push hm_226 dX12_blockFrom_48 (v := .inr (.inr (some 94))) rfl ?_
    refine zw_gf hm_226 dX12_blockFrom_49 (v := .inr (.inr (some 111))) (zT_is hS s_94) (zT_t hS s_94) rfl f_12_65_12 (zT_f hS r_94_43) ?_
    refine zw_push hm_226 dX12_blockFrom_52 (v := .inl l4) rfl ?_
    obtain ⟨hg, h⟩ := h
    refine zw_ia hm_226 dX12_blockFrom_54 (zT_is hS s_111) (zT_h hS s_111) rfl hg ?_
    show ma_wp X d w 226 55 [(0, .inr (.inr (some 94))), (2, .inl l2), (3, .inl l3), (4, .inl l4)] [.inl ((mI S) 111 l4.toNatClampNeg)] S _
    refine zw_if0 hm_226 dX12_blockFrom_55 (t := 64) rfl zc0_ge ?_ ?_
    · intro hc
      rw [if_pos hc] at h
      refine zw_push hm_226 dX12_blockFrom_64 (v := .inr (.inr (some 94))) rfl ?_
      refine zw_push hm_226 dX12_blockFrom_65 (v := .inl l4) rfl ?_
      refine zw_push hm_226 dX12_blockFrom_67 (v := .inl l3) rfl ?_
      refine zw_stk hm_226 dX12_blockFrom_68 (st₉ := [.inl (l4 - l3), .inr (.inr (some 94))]) rfl rfl ?_
      refine zw_pf hm_226 dX12_blockFrom_69 (zT_is hS s_94) (zT_t hS s_94) p_12_420_12 zk_int ?_
      refine zw_push hm_226 dX12_blockFrom_72 (v := .inl l3) rfl ?_
      exact zw_iret hm_226 dX12_blockFrom_73 (HQ _ _ h)
    · intro hc
      rw [if_neg hc] at h
      refine zw_sto hm_226 dX12_blockFrom_58 [(4, .inl (l4 + (1 : Int32))), (0, .inr (.inr (some 94))), (2, .inl l2), (3, .inl l3)] rfl rfl rfl ?_
      refine zw_goto hm_226 dX12_blockFrom_61 (t := 42) rfl ?_
      exact zw_sub (ma_nd_of (ks := [0, 2, 3, 4]) rfl (by decide)) (ma_nd_of (ks := [4, 0, 2, 3]) rfl (by decide)) (ma_le_cons rfl (ma_le_cons rfl (ma_le_cons rfl (ma_le_cons rfl (ma_le_nil _))))) (h d w _ Q (by omega) (by omega) hS rfl HQ)
theorem lp_226_42 {X : Nat × (Nat → Int32)} {P : Option ma_V → (Nat → Nat → Int32) → Prop} {f : Int32} {e : Int32} {m0 : Nat → Nat → Int32} (h0 : zV m0) (K : ∀ v m₉, zF wr_226 m0 m₉ → zV m₉ → (v.toInt = -1 ∨ (f.toInt ≤ v.toInt ∧ v.toInt < e.toInt ∧ 1 ≤ (m₉ 94 84).toInt ∧ v.toInt + (m₉ 94 84).toInt ≤ e.toInt)) → P (some (.inl v)) m₉) : ∀ (n : Nat) (m : Nat → Nat → Int32) (l2 : Int32) (l3 : Int32) (l4 : Int32), (l2.toInt - l4.toInt).toNat = n → zF wr_226 m0 m → zV m → (0 ≤ l3.toInt) → (l3.toInt < l2.toInt) → (l3.toInt ≤ l4.toInt) → (l4.toInt ≤ l2.toInt) → (l2.toInt ≤ 4600) → (l2.toInt = e.toInt) → (f.toInt ≤ l3.toInt) → (l3.toInt < l4.toInt ∨ (l4 = l3 ∧ ((m 111) l3.toNatClampNeg).toInt < 0)) → zm X 1 21 226 42 [(0, .inr (.inr (some 94))), (2, .inl l2), (3, .inl l3), (4, .inl l4)] m P := by
  intro n
  induction n using Nat.strongRecOn with
  | _ n IH =>
    intro m l2 l3 l4 hmu hF hV hi0 hi1 hi2 hi3 hi4 hi5 hi6 r_BQ
    refine g_226_42 l2 l3 l4 ?_
    have b1 := i_bd l2
    have b2 := i_bd l4
    refine zd (fun (h3 : l2 ≤ l4) => ?_) (fun (h3 : ¬ l2 ≤ l4) => ?_)
    · skip
      have g4 := i_le h3
      try have gq : l3.toInt < l4.toInt := r_BQ.elim id (fun z => absurd z.2 (by rw [← z.1]; omega))
      have b6 := i_bd l3
      first | have e7 : (l4 - l3).toInt = l4.toInt - l3.toInt := i_sub (by omega) (by omega) | have b8 := i_bd (l4 - l3)
      have hV5 : zV (ma_u m 94 84 (l4 - l3)) := us_94_84 hV (by omega) (by omega)
      exact K (l3) _ (zF_u hF rfl) hV5 (show l3.toInt = -1 ∨ (f.toInt ≤ l3.toInt ∧ l3.toInt < e.toInt ∧ 1 ≤ (l4 - l3).toInt ∧ l3.toInt + (l4 - l3).toInt ≤ e.toInt) from by omega)
    · skip
      have g9 := i_nle h3
      have hg10 : (0 ≤ l4 ∧ l4.toNatClampNeg < 4600) := i_ix (by omega) (by omega)
      refine ⟨hg10, ?_⟩
      have li11 : (0 : Int32).toInt = 0 := rfl
      first | have f12 : -1 ≤ (m 111 l4.toNatClampNeg).toInt ∧ (m 111 l4.toNatClampNeg).toInt ≤ 3099 := ra_111 (m := m) hV (k := l4.toNatClampNeg) (i_ix (n := 4600) (by omega) (by omega)).2 | have b13 := i_bd (m 111 l4.toNatClampNeg)
      refine zd (fun (h14 : (0 : Int32) ≤ (m 111 l4.toNatClampNeg)) => ?_) (fun (h14 : ¬ (0 : Int32) ≤ (m 111 l4.toNatClampNeg)) => ?_)
      · skip
        have g15 := i_le h14
        try have gq : l3.toInt < l4.toInt := r_BQ.elim id (fun z => absurd z.2 (by rw [← z.1]; omega))
        have b17 := i_bd l3
        first | have e18 : (l4 - l3).toInt = l4.toInt - l3.toInt := i_sub (by omega) (by omega) | have b19 := i_bd (l4 - l3)
        have hV16 : zV (ma_u m 94 84 (l4 - l3)) := us_94_84 hV (by omega) (by omega)
        exact K (l3) _ (zF_u hF rfl) hV16 (show l3.toInt = -1 ∨ (f.toInt ≤ l3.toInt ∧ l3.toInt < e.toInt ∧ 1 ≤ (l4 - l3).toInt ∧ l3.toInt + (l4 - l3).toInt ≤ e.toInt) from by omega)
      · skip
        have g20 := i_nle h14
        try have gq : l3.toInt < l4.toInt := r_BQ.elim id (fun z => absurd z.2 (by rw [← z.1]; omega))
        have b21 := i_bd l3
        first | have e22 : (l4 + (1 : Int32)).toInt = l4.toInt + (1) := i_addk rfl (by omega) (by omega) | have b23 := i_bd (l4 + (1 : Int32))
        exact IH (l2.toInt - (l4 + (1 : Int32)).toInt).toNat (by omega) _ (l2) (l3) ((l4 + (1 : Int32))) rfl hF hV (by omega) (by omega) (by omega) (by omega) (by omega) (by omega) (by omega) (show l3.toInt < (l4 + (1 : Int32)).toInt ∨ ((l4 + (1 : Int32)) = l3 ∧ ((m 111) l3.toNatClampNeg).toInt < 0) from by first | (exact Or.inl (by omega)) | (exact Or.inr ⟨rfl, by omega⟩) | (exfalso; omega; done) | (exfalso; contradiction; done))
theorem lp_226_2 {X : Nat × (Nat → Int32)} {P : Option ma_V → (Nat → Nat → Int32) → Prop} {f : Int32} {e : Int32} {m0 : Nat → Nat → Int32} (h0 : zV m0) (K : ∀ v m₉, zF wr_226 m0 m₉ → zV m₉ → (v.toInt = -1 ∨ (f.toInt ≤ v.toInt ∧ v.toInt < e.toInt ∧ 1 ≤ (m₉ 94 84).toInt ∧ v.toInt + (m₉ 94 84).toInt ≤ e.toInt)) → P (some (.inl v)) m₉) : ∀ (n : Nat) (m : Nat → Nat → Int32) (l2 : Int32) (l3 : Int32), (l2.toInt - l3.toInt).toNat = n → zF wr_226 m0 m → zV m → (0 ≤ l3.toInt) → (l3.toInt ≤ 6000) → (l2.toInt ≤ 4600) → (l2.toInt = e.toInt) → (f.toInt ≤ l3.toInt) → zm X 1 21 226 2 [(0, .inr (.inr (some 94))), (2, .inl l2), (3, .inl l3)] m P := by
  intro n
  induction n using Nat.strongRecOn with
  | _ n IH =>
    intro m l2 l3 hmu hF hV hi0 hi1 hi2 hi3 hi4
    refine g_226_2 l2 l3 ?_
    have b1 := i_bd l2
    have b2 := i_bd l3
    refine zd (fun (h3 : l2 ≤ l3) => ?_) (fun (h3 : ¬ l2 ≤ l3) => ?_)
    · skip
      have g4 := i_le h3
      refine zd (fun (h5 : l3 < l2) => ?_) (fun (h5 : ¬ l3 < l2) => ?_)
      · skip
        have g6 := i_lt h5
        exact lp_226_42 (f := f) (e := e) h0 K _ _ (l2) (l3) (l3) rfl hF hV (by omega) (by omega) (by omega) (by omega) (by omega) (by omega) (by omega) (show l3.toInt < l3.toInt ∨ (l3 = l3 ∧ ((m 111) l3.toNatClampNeg).toInt < 0) from by first | (exact Or.inl (by omega)) | (exact Or.inr ⟨rfl, by omega⟩) | (exfalso; omega; done) | (exfalso; contradiction; done))
      · skip
        have g7 := i_nlt h5
        have li8 : (-1 : Int32).toInt = -1 := rfl
        have f9 : 0 ≤ (m 94 84).toInt ∧ (m 94 84).toInt ≤ 4600 := rs_94_84 (m := m) hV
        exact K ((-1 : Int32)) _ hF hV (show (-1 : Int32).toInt = -1 ∨ (f.toInt ≤ (-1 : Int32).toInt ∧ (-1 : Int32).toInt < e.toInt ∧ 1 ≤ (m 94 84).toInt ∧ (-1 : Int32).toInt + (m 94 84).toInt ≤ e.toInt) from by omega)
    · skip
      have g10 := i_nle h3
      have hg11 : (0 ≤ l3 ∧ l3.toNatClampNeg < 4600) := i_ix (by omega) (by omega)
      refine ⟨hg11, ?_⟩
      first | have f12 : -1 ≤ (m 111 l3.toNatClampNeg).toInt ∧ (m 111 l3.toNatClampNeg).toInt ≤ 3099 := ra_111 (m := m) hV (k := l3.toNatClampNeg) (i_ix (n := 4600) (by omega) (by omega)).2 | have b13 := i_bd (m 111 l3.toNatClampNeg)
      have li14 : (0 : Int32).toInt = 0 := rfl
      refine zd (fun (h15 : (m 111 l3.toNatClampNeg) < (0 : Int32)) => ?_) (fun (h15 : ¬ (m 111 l3.toNatClampNeg) < (0 : Int32)) => ?_)
      · skip
        have g16 := i_lt h15
        refine zd (fun (h17 : l3 < l2) => ?_) (fun (h17 : ¬ l3 < l2) => ?_)
        · skip
          have g18 := i_lt h17
          exact lp_226_42 (f := f) (e := e) h0 K _ _ (l2) (l3) (l3) rfl hF hV (by omega) (by omega) (by omega) (by omega) (by omega) (by omega) (by omega) (show l3.toInt < l3.toInt ∨ (l3 = l3 ∧ ((m 111) l3.toNatClampNeg).toInt < 0) from by first | (exact Or.inl (by omega)) | (exact Or.inr ⟨rfl, by omega⟩) | (exfalso; omega; done) | (exfalso; contradiction; done))
        · skip
          have g19 := i_nlt h17
          have li20 : (-1 : Int32).toInt = -1 := rfl
          have f21 : 0 ≤ (m 94 84).toInt ∧ (m 94 84).toInt ≤ 4600 := rs_94_84 (m := m) hV
          exact K ((-1 : Int32)) _ hF hV (show (-1 : Int32).toInt = -1 ∨ (f.toInt ≤ (-1 : Int32).toInt ∧ (-1 : Int32).toInt < e.toInt ∧ 1 ≤ (m 94 84).toInt ∧ (-1 : Int32).toInt + (m 94 84).toInt ≤ e.toInt) from by omega)
      · skip
        have g22 := i_nlt h15
        have hg23 : (0 ≤ l3 ∧ l3.toNatClampNeg < 4600) := i_ix (by omega) (by omega)
        refine ⟨hg23, ?_⟩
        have hg24 : (0 ≤ (m 111 l3.toNatClampNeg) ∧ (m 111 l3.toNatClampNeg).toNatClampNeg < 3100) := i_ix (by omega) (by omega)
        refine ⟨hg24, ?_⟩
        first | have f25 : 0 ≤ (m 102 (m 111 l3.toNatClampNeg).toNatClampNeg).toInt ∧ (m 102 (m 111 l3.toNatClampNeg).toNatClampNeg).toInt ≤ 60 := ra_102 (m := m) hV (k := (m 111 l3.toNatClampNeg).toNatClampNeg) (i_ix (n := 3100) (by omega) (by omega)).2 | have b26 := i_bd (m 102 (m 111 l3.toNatClampNeg).toNatClampNeg)
        first | have e27 : ((m 102 (m 111 l3.toNatClampNeg).toNatClampNeg) + (1 : Int32)).toInt = (m 102 (m 111 l3.toNatClampNeg).toNatClampNeg).toInt + (1) := i_addk rfl (by omega) (by omega) | have b28 := i_bd ((m 102 (m 111 l3.toNatClampNeg).toNatClampNeg) + (1 : Int32))
        first | have e29 : (l3 + ((m 102 (m 111 l3.toNatClampNeg).toNatClampNeg) + (1 : Int32))).toInt = l3.toInt + ((m 102 (m 111 l3.toNatClampNeg).toNatClampNeg) + (1 : Int32)).toInt := i_add (by omega) (by omega) | have b30 := i_bd (l3 + ((m 102 (m 111 l3.toNatClampNeg).toNatClampNeg) + (1 : Int32)))
        exact IH (l2.toInt - (l3 + ((m 102 (m 111 l3.toNatClampNeg).toNatClampNeg) + (1 : Int32))).toInt).toNat (by omega) _ (l2) ((l3 + ((m 102 (m 111 l3.toNatClampNeg).toNatClampNeg) + (1 : Int32)))) rfl hF hV (by omega) (by omega) (by omega) (by omega) (by omega)
theorem sp_226 {X : Nat × (Nat → Int32)} {P : Option ma_V → (Nat → Nat → Int32) → Prop} {m : Nat → Nat → Int32} (f : Int32) (e : Int32) (hV : zV m) (hpre0 : 0 ≤ f.toInt) (hpre1 : f.toInt ≤ 5000) (hpre2 : e.toInt ≤ 4600) (KZ : ∀ v m₉, zV (zov wr_226 m m₉) → (v.toInt = -1 ∨ (f.toInt ≤ v.toInt ∧ v.toInt < e.toInt ∧ 1 ≤ (m₉ 94 84).toInt ∧ v.toInt + (m₉ 94 84).toInt ≤ e.toInt)) → P (some (.inl v)) (zov wr_226 m m₉)) : zm X 1 21 226 0 [(0, .inr (.inr (some 94))), (1, .inl f), (2, .inl e)] m P := by
  have K : ∀ v m₉, zF wr_226 m m₉ → zV m₉ → (v.toInt = -1 ∨ (f.toInt ≤ v.toInt ∧ v.toInt < e.toInt ∧ 1 ≤ (m₉ 94 84).toInt ∧ v.toInt + (m₉ 94 84).toInt ≤ e.toInt)) → P (some (.inl v)) m₉ := by
    intro v m₉ hf z q0
    have e := zov_eq hf
    rw [e] at z ⊢
    try rw [e] at q0
    exact KZ v m₉ z q0
  refine g_226_0 f e ?_
  have b1 := i_bd e
  have b2 := i_bd f
  exact lp_226_2 (f := f) (e := e) hV K _ _ (e) (f) rfl zF_rfl hV (by omega) (by omega) (by omega) (by omega) (by omega)

/-! from 94.406 -/
/-! the reference (written by wip/tools/gen94m.py) -/
set_option maxRecDepth 100000 in
theorem hm_225 : ma_md 225 = some (12, yX12_firstFit, cX12_firstFit, 5, (some (FieldType.int))) := rfl
theorem f_12_258_12 : ma_fld 12 258 12 = some 50 := by decide +kernel
theorem f_12_420_12 : ma_fld 12 420 12 = some 84 := by decide +kernel
theorem p_12_258_12 : ma_pk 12 258 12 50 = true := by decide +kernel
theorem v_12_423_12 : ma_vl 12 423 12 = some (1, 226, 2) := by decide +kernel
theorem dX12_firstFit_0 : decode cX12_firstFit 0 = .ok (.aload_n 0, 1) := by decide +kernel
theorem dX12_firstFit_1 : decode cX12_firstFit 1 = .ok (.iload_n 2, 1) := by decide +kernel
theorem dX12_firstFit_2 : decode cX12_firstFit 2 = .ok (.iload_n 3, 1) := by decide +kernel
theorem dX12_firstFit_3 : decode cX12_firstFit 3 = .ok (.invokevirtual 423, 3) := by decide +kernel
theorem dX12_firstFit_6 : decode cX12_firstFit 6 = .ok (.istore 4, 2) := by decide +kernel
theorem dX12_firstFit_8 : decode cX12_firstFit 8 = .ok (.iload 4, 2) := by decide +kernel
theorem dX12_firstFit_51 : decode cX12_firstFit 51 = .ok (.iconst (-1), 1) := by decide +kernel
theorem dX12_firstFit_52 : decode cX12_firstFit 52 = .ok (.ireturn, 1) := by decide +kernel
theorem dX12_firstFit_13 : decode cX12_firstFit 13 = .ok (.aload_n 0, 1) := by decide +kernel
theorem dX12_firstFit_14 : decode cX12_firstFit 14 = .ok (.dup, 1) := by decide +kernel
theorem dX12_firstFit_18 : decode cX12_firstFit 18 = .ok (.iconst 1, 1) := by decide +kernel
theorem dX12_firstFit_19 : decode cX12_firstFit 19 = .ok (.iadd, 1) := by decide +kernel
theorem dX12_firstFit_23 : decode cX12_firstFit 23 = .ok (.aload_n 0, 1) := by decide +kernel
theorem dX12_firstFit_27 : decode cX12_firstFit 27 = .ok (.iload_n 1, 1) := by decide +kernel
theorem dX12_firstFit_34 : decode cX12_firstFit 34 = .ok (.aload_n 0, 1) := by decide +kernel
theorem dX12_firstFit_35 : decode cX12_firstFit 35 = .ok (.iload 4, 2) := by decide +kernel
theorem dX12_firstFit_37 : decode cX12_firstFit 37 = .ok (.aload_n 0, 1) := by decide +kernel
theorem dX12_firstFit_41 : decode cX12_firstFit 41 = .ok (.iadd, 1) := by decide +kernel
theorem dX12_firstFit_42 : decode cX12_firstFit 42 = .ok (.iload_n 3, 1) := by decide +kernel
theorem dX12_firstFit_43 : decode cX12_firstFit 43 = .ok (.invokevirtual 423, 3) := by decide +kernel
theorem dX12_firstFit_46 : decode cX12_firstFit 46 = .ok (.istore 4, 2) := by decide +kernel
theorem dX12_firstFit_48 : decode cX12_firstFit 48 = .ok (.goto (-40), 3) := by decide +kernel
theorem dX12_firstFit_38 : decode cX12_firstFit 38 = .ok (.getfield 420, 3) := by decide +kernel
theorem dX12_firstFit_31 : decode cX12_firstFit 31 = .ok (.iload 4, 2) := by decide +kernel
theorem dX12_firstFit_33 : decode cX12_firstFit 33 = .ok (.ireturn, 1) := by decide +kernel
theorem dX12_firstFit_28 : decode cX12_firstFit 28 = .ok (.if_icmp .lt 6, 3) := by decide +kernel
theorem dX12_firstFit_24 : decode cX12_firstFit 24 = .ok (.getfield 420, 3) := by decide +kernel
theorem dX12_firstFit_20 : decode cX12_firstFit 20 = .ok (.putfield 258, 3) := by decide +kernel
theorem dX12_firstFit_15 : decode cX12_firstFit 15 = .ok (.getfield 258, 3) := by decide +kernel
theorem dX12_firstFit_10 : decode cX12_firstFit 10 = .ok (.ifCond .lt 41, 3) := by decide +kernel
def wr_225 (c k : Nat) : Bool := (Nat.beq c 94 && (Nat.beq k 50 || Nat.beq k 84))
theorem ws_226_225 : ∀ c k, wr_226 c k = true → wr_225 c k = true := by
  intro c k h
  simp only [wr_226, Bool.or_eq_true, Bool.and_eq_true, Nat.beq_eq] at h
  rcases h with ⟨rfl, rfl⟩ <;> rfl
theorem g_225_0 {X : Nat × (Nat → Int32)} {m : Nat → Nat → Int32} {P : Option ma_V → (Nat → Nat → Int32) → Prop} (n : Int32) (f : Int32) (e : Int32) (h : zm X 1 21 226 0 [(0, .inr (.inr (some 94))), (1, .inl f), (2, .inl e)] m (zmi (fun v2 m1 => zm X 2 45 225 8 [(0, .inr (.inr (some 94))), (1, .inl n), (3, .inl e), (4, .inl v2)] m1 P))) : zm X 2 45 225 0 [(0, .inr (.inr (some 94))), (1, .inl n), (2, .inl f), (3, .inl e)] m P := by
  intro d w S Q hd hw hS hm HQ
  subst hm
  refine zw_push hm_225 dX12_firstFit_0 (v := .inr (.inr (some 94))) rfl ?_
  refine zw_push hm_225 dX12_firstFit_1 (v := .inl f) rfl ?_
  refine zw_push hm_225 dX12_firstFit_2 (v := .inl e) rfl ?_
  refine zw_cv hm_225 dX12_firstFit_3 v_12_423_12 hm_226 [.inl e, .inl f] [] rfl (zT_rt hS s_94 rfl) ⟨by omega, by omega⟩ rfl (h _ _ S _ (by omega) (by omega) hS rfl (fun o9 m1 hv => ?_))
  obtain ⟨v2, rfl, h⟩ := zmi_of hv
  show ma_wp X d w 225 6 [(0, .inr (.inr (some 94))), (1, .inl n), (2, .inl f), (3, .inl e)] [.inl v2] (zst S m1) _
  refine zw_sto hm_225 dX12_firstFit_6 [(4, .inl v2), (0, .inr (.inr (some 94))), (1, .inl n), (2, .inl f), (3, .inl e)] rfl rfl rfl ?_
  exact zw_sub (ma_nd_of (ks := [0, 1, 3, 4]) rfl (by decide)) (ma_nd_of (ks := [4, 0, 1, 2, 3]) rfl (by decide)) (ma_le_cons rfl (ma_le_cons rfl (ma_le_cons rfl (ma_le_cons rfl (ma_le_nil _))))) (h d w _ Q (by omega) (by omega) (zT_zst hS m1) rfl HQ)
theorem g_225_8 {X : Nat × (Nat → Int32)} {m : Nat → Nat → Int32} {P : Option ma_V → (Nat → Nat → Int32) → Prop} (l1 : Int32) (l3 : Int32) (l4 : Int32) (h : if l4 < 0 then (P (some (.inl (-1 : Int32))) m) else (if (m 94 84) < l1 then (zm X 1 21 226 0 [(0, .inr (.inr (some 94))), (1, .inl (l4 + (m 94 84))), (2, .inl l3)] (ma_u m 94 50 ((m 94 50) + (1 : Int32))) (zmi (fun v2 m1 => zm X 2 45 225 8 [(0, .inr (.inr (some 94))), (1, .inl l1), (3, .inl l3), (4, .inl v2)] m1 P))) else (P (some (.inl l4)) (ma_u m 94 50 ((m 94 50) + (1 : Int32)))))) : zm X 2 45 225 8 [(0, .inr (.inr (some 94))), (1, .inl l1), (3, .inl l3), (4, .inl l4)] m P := by
  intro d w S Q hd hw hS hm HQ
  subst hm
  refine zw_push hm_225 dX12_firstFit_8 (v := .inl l4) rfl ?_
  refine zw_if0 hm_225 dX12_firstFit_10 (t := 51) rfl zc0_lt ?_ ?_
  · intro hc
    rw [if_pos hc] at h
    refine zw_push hm_225 dX12_firstFit_51 (v := .inl (-1 : Int32)) rfl ?_
    exact zw_iret hm_225 dX12_firstFit_52 (HQ _ _ h)
  · intro hc
    rw [if_neg hc] at h
    refine zw_push hm_225 dX12_firstFit_13 (v := .inr (.inr (some 94))) rfl ?_
    refine zw_stk hm_225 dX12_firstFit_14 (st₉ := [.inr (.inr (some 94)), .inr (.inr (some 94))]) rfl rfl ?_
    refine zw_gf hm_225 dX12_firstFit_15 (v := .inl ((mI S) 94 50)) (zT_is hS s_94) (zT_t hS s_94) rfl f_12_258_12 rfl ?_
    refine zw_push hm_225 dX12_firstFit_18 (v := .inl (1 : Int32)) rfl ?_
    refine zw_stk hm_225 dX12_firstFit_19 (st₉ := [.inl (((mI S) 94 50) + (1 : Int32)), .inr (.inr (some 94))]) rfl rfl ?_
    refine zw_pf hm_225 dX12_firstFit_20 (zT_is hS s_94) (zT_t hS s_94) p_12_258_12 zk_int ?_
    refine zw_push hm_225 dX12_firstFit_23 (v := .inr (.inr (some 94))) rfl ?_
    refine zw_gf hm_225 dX12_firstFit_24 (v := .inl ((mI S) 94 84)) (zT_is (zT_pi hS) s_94) (zT_t (zT_pi hS) s_94) rfl f_12_420_12 rfl ?_
    refine zw_push hm_225 dX12_firstFit_27 (v := .inl l1) rfl ?_
    refine zw_if2 hm_225 dX12_firstFit_28 (t := 34) rfl zc2_lt ?_ ?_
    · intro hc
      rw [if_pos hc] at h
      refine zw_push hm_225 dX12_firstFit_34 (v := .inr (.inr (some 94))) rfl ?_
      refine zw_push hm_225 dX12_firstFit_35 (v := .inl l4) rfl ?_
      refine zw_push hm_225 dX12_firstFit_37 (v := .inr (.inr (some 94))) rfl ?_
      refine zw_gf hm_225 dX12_firstFit_38 (v := .inl ((mI S) 94 84)) (zT_is (zT_pi hS) s_94) (zT_t (zT_pi hS) s_94) rfl f_12_420_12 rfl ?_
      refine zw_stk hm_225 dX12_firstFit_41 (st₉ := [.inl (l4 + ((mI S) 94 84)), .inr (.inr (some 94))]) rfl rfl ?_
      refine zw_push hm_225 dX12_firstFit_42 (v := .inl l3) rfl ?_
      refine zw_cv hm_225 dX12_firstFit_43 v_12_423_12 hm_226 [.inl l3, .inl (l4 + ((mI S) 94 84))] [] rfl (zT_rt (zT_pi hS) s_94 rfl) ⟨by omega, by omega⟩ rfl (h _ _ (ma_put S 94 50 (.inl (((mI S) 94 50) + (1 : Int32)))) _ (by omega) (by omega) (zT_pi hS) rfl (fun o9 m1 hv => ?_))
      obtain ⟨v2, rfl, h⟩ := zmi_of hv
      show ma_wp X d w 225 46 [(0, .inr (.inr (some 94))), (1, .inl l1), (3, .inl l3), (4, .inl l4)] [.inl v2] (zst S m1) _
      refine zw_sto hm_225 dX12_firstFit_46 [(4, .inl v2), (0, .inr (.inr (some 94))), (1, .inl l1), (3, .inl l3)] rfl rfl rfl ?_
      refine zw_goto hm_225 dX12_firstFit_48 (t := 8) rfl ?_
      exact zw_sub (ma_nd_of (ks := [0, 1, 3, 4]) rfl (by decide)) (ma_nd_of (ks := [4, 0, 1, 3]) rfl (by decide)) (ma_le_cons rfl (ma_le_cons rfl (ma_le_cons rfl (ma_le_cons rfl (ma_le_nil _))))) (h d w _ Q (by omega) (by omega) (zT_zst hS m1) rfl HQ)
    · intro hc
      rw [if_neg hc] at h
      refine zw_push hm_225 dX12_firstFit_31 (v := .inl l4) rfl ?_
      exact zw_iret hm_225 dX12_firstFit_33 (HQ _ _ h)
theorem lp_225_8 {X : Nat × (Nat → Int32)} {P : Option ma_V → (Nat → Nat → Int32) → Prop} {n : Int32} {f : Int32} {e : Int32} {m0 : Nat → Nat → Int32} (h0 : zV m0) (K : ∀ v m₉, zF wr_225 m0 m₉ → zV m₉ → (-1 ≤ v.toInt ∧ v.toInt ≤ 1500) → P (some (.inl v)) m₉) : ∀ (n : Nat) (m : Nat → Nat → Int32) (l1 : Int32) (l3 : Int32) (l4 : Int32), (4700 - l4.toInt % 4701).toNat = n → zF wr_225 m0 m → zV m → (l3.toInt ≤ 1500) → (l4.toInt = -1 ∨ (0 ≤ l4.toInt ∧ l4.toInt < l3.toInt ∧ 1 ≤ (m 94 84).toInt ∧ l4.toInt + (m 94 84).toInt ≤ l3.toInt)) → zm X 2 45 225 8 [(0, .inr (.inr (some 94))), (1, .inl l1), (3, .inl l3), (4, .inl l4)] m P := by
  intro n
  induction n using Nat.strongRecOn with
  | _ n IH =>
    intro m l1 l3 l4 hmu hF hV hi0 hi1
    refine g_225_8 l1 l3 l4 ?_
    have f1 : 0 ≤ (m 94 84).toInt ∧ (m 94 84).toInt ≤ 4600 := rs_94_84 (m := m) hV
    have b2 := i_bd l4
    have li3 : (0 : Int32).toInt = 0 := rfl
    refine zd (fun (h4 : l4 < (0 : Int32)) => ?_) (fun (h4 : ¬ l4 < (0 : Int32)) => ?_)
    · skip
      have g5 := i_lt h4
      have li6 : (-1 : Int32).toInt = -1 := rfl
      exact K ((-1 : Int32)) _ hF hV (show -1 ≤ (-1 : Int32).toInt ∧ (-1 : Int32).toInt ≤ 1500 from by omega)
    · skip
      have g7 := i_nlt h4
      have b8 := i_bd l1
      refine zd (fun (h9 : (m 94 84) < l1) => ?_) (fun (h9 : ¬ (m 94 84) < l1) => ?_)
      · skip
        have g10 := i_lt h9
        first | have e11 : (l4 + (m 94 84)).toInt = l4.toInt + (m 94 84).toInt := i_add (by omega) (by omega) | have b12 := i_bd (l4 + (m 94 84))
        have b13 := i_bd l3
        have hV14 : zV (ma_u m 94 50 ((m 94 50) + (1 : Int32))) := uf_94_50 hV
        refine sp_226 ((l4 + (m 94 84))) (l3) hV14 (by omega) (by omega) (by omega) (fun v2 m1 hV_m1 p0_m1 => zmi_n ?_)
        have p0_m1 : v2.toInt = -1 ∨ ((l4 + (m 94 84)).toInt ≤ v2.toInt ∧ v2.toInt < l3.toInt ∧ 1 ≤ (m1 94 84).toInt ∧ v2.toInt + (m1 94 84).toInt ≤ l3.toInt) := p0_m1
        have f15 : 0 ≤ (m1 94 84).toInt ∧ (m1 94 84).toInt ≤ 4600 := rs_94_84 (m := (zov wr_226 (ma_u m 94 50 ((m 94 50) + (1 : Int32))) m1)) hV_m1
        have b16 := i_bd v2
        exact IH (4700 - v2.toInt % 4701).toNat (by omega) _ (l1) (l3) (v2) rfl (zF_zov (zF_u hF rfl) ws_226_225) hV_m1 (by omega) (show v2.toInt = -1 ∨ (0 ≤ v2.toInt ∧ v2.toInt < l3.toInt ∧ 1 ≤ (m1 94 84).toInt ∧ v2.toInt + (m1 94 84).toInt ≤ l3.toInt) from by omega)
      · skip
        have g17 := i_nlt h9
        have hV18 : zV (ma_u m 94 50 ((m 94 50) + (1 : Int32))) := uf_94_50 hV
        exact K (l4) _ (zF_u hF rfl) hV18 (show -1 ≤ l4.toInt ∧ l4.toInt ≤ 1500 from by omega)
theorem sp_225 {X : Nat × (Nat → Int32)} {P : Option ma_V → (Nat → Nat → Int32) → Prop} {m : Nat → Nat → Int32} (n : Int32) (f : Int32) (e : Int32) (hV : zV m) (hpre0 : 0 ≤ f.toInt) (hpre1 : f.toInt ≤ 5000) (hpre2 : e.toInt ≤ 1500) (KZ : ∀ v m₉, zV (zov wr_225 m m₉) → (-1 ≤ v.toInt ∧ v.toInt ≤ 1500) → P (some (.inl v)) (zov wr_225 m m₉)) : zm X 2 45 225 0 [(0, .inr (.inr (some 94))), (1, .inl n), (2, .inl f), (3, .inl e)] m P := by
  have K : ∀ v m₉, zF wr_225 m m₉ → zV m₉ → (-1 ≤ v.toInt ∧ v.toInt ≤ 1500) → P (some (.inl v)) m₉ := by
    intro v m₉ hf z q0
    have e := zov_eq hf
    rw [e] at z ⊢
    try rw [e] at q0
    exact KZ v m₉ z q0
  refine g_225_0 n f e ?_
  have b1 := i_bd f
  have b2 := i_bd e
  refine sp_226 (f) (e) hV (by omega) (by omega) (by omega) (fun v2 m1 hV_m1 p0_m1 => zmi_n ?_)
  have p0_m1 : v2.toInt = -1 ∨ (f.toInt ≤ v2.toInt ∧ v2.toInt < e.toInt ∧ 1 ≤ (m1 94 84).toInt ∧ v2.toInt + (m1 94 84).toInt ≤ e.toInt) := p0_m1
  have f3 : 0 ≤ (m1 94 84).toInt ∧ (m1 94 84).toInt ≤ 4600 := rs_94_84 (m := (zov wr_226 m m1)) hV_m1
  have b4 := i_bd n
  have b5 := i_bd v2
  exact lp_225_8 (n := n) (f := f) (e := e) hV K _ _ (n) (e) (v2) rfl (zF_zov zF_rfl ws_226_225) hV_m1 (by omega) (show v2.toInt = -1 ∨ (0 ≤ v2.toInt ∧ v2.toInt < e.toInt ∧ 1 ≤ (m1 94 84).toInt ∧ v2.toInt + (m1 94 84).toInt ≤ e.toInt) from by omega)
set_option maxRecDepth 100000 in
theorem hm_228 : ma_md 228 = some (12, yX12_firstFitAhead, cX12_firstFitAhead, 4, (some (FieldType.int))) := rfl
theorem f_12_202_12 : ma_fld 12 202 12 = some 11 := by decide +kernel
theorem dX12_firstFitAhead_0 : decode cX12_firstFitAhead 0 = .ok (.aload_n 0, 1) := by decide +kernel
theorem dX12_firstFitAhead_1 : decode cX12_firstFitAhead 1 = .ok (.iconst 0, 1) := by decide +kernel
theorem dX12_firstFitAhead_2 : decode cX12_firstFitAhead 2 = .ok (.aload_n 0, 1) := by decide +kernel
theorem dX12_firstFitAhead_6 : decode cX12_firstFitAhead 6 = .ok (.invokevirtual 423, 3) := by decide +kernel
theorem dX12_firstFitAhead_9 : decode cX12_firstFitAhead 9 = .ok (.istore_n 3, 1) := by decide +kernel
theorem dX12_firstFitAhead_3 : decode cX12_firstFitAhead 3 = .ok (.getfield 202, 3) := by decide +kernel
theorem dX12_firstFitAhead_10 : decode cX12_firstFitAhead 10 = .ok (.iload_n 3, 1) := by decide +kernel
theorem dX12_firstFitAhead_57 : decode cX12_firstFitAhead 57 = .ok (.iconst (-1), 1) := by decide +kernel
theorem dX12_firstFitAhead_58 : decode cX12_firstFitAhead 58 = .ok (.ireturn, 1) := by decide +kernel
theorem dX12_firstFitAhead_14 : decode cX12_firstFitAhead 14 = .ok (.iload_n 3, 1) := by decide +kernel
theorem dX12_firstFitAhead_15 : decode cX12_firstFitAhead 15 = .ok (.iload_n 2, 1) := by decide +kernel
theorem dX12_firstFitAhead_19 : decode cX12_firstFitAhead 19 = .ok (.aload_n 0, 1) := by decide +kernel
theorem dX12_firstFitAhead_20 : decode cX12_firstFitAhead 20 = .ok (.dup, 1) := by decide +kernel
theorem dX12_firstFitAhead_24 : decode cX12_firstFitAhead 24 = .ok (.iconst 1, 1) := by decide +kernel
theorem dX12_firstFitAhead_25 : decode cX12_firstFitAhead 25 = .ok (.iadd, 1) := by decide +kernel
theorem dX12_firstFitAhead_29 : decode cX12_firstFitAhead 29 = .ok (.aload_n 0, 1) := by decide +kernel
theorem dX12_firstFitAhead_33 : decode cX12_firstFitAhead 33 = .ok (.iload_n 1, 1) := by decide +kernel
theorem dX12_firstFitAhead_39 : decode cX12_firstFitAhead 39 = .ok (.aload_n 0, 1) := by decide +kernel
theorem dX12_firstFitAhead_40 : decode cX12_firstFitAhead 40 = .ok (.iload_n 3, 1) := by decide +kernel
theorem dX12_firstFitAhead_41 : decode cX12_firstFitAhead 41 = .ok (.aload_n 0, 1) := by decide +kernel
theorem dX12_firstFitAhead_45 : decode cX12_firstFitAhead 45 = .ok (.iadd, 1) := by decide +kernel
theorem dX12_firstFitAhead_46 : decode cX12_firstFitAhead 46 = .ok (.aload_n 0, 1) := by decide +kernel
theorem dX12_firstFitAhead_50 : decode cX12_firstFitAhead 50 = .ok (.invokevirtual 423, 3) := by decide +kernel
theorem dX12_firstFitAhead_53 : decode cX12_firstFitAhead 53 = .ok (.istore_n 3, 1) := by decide +kernel
theorem dX12_firstFitAhead_54 : decode cX12_firstFitAhead 54 = .ok (.goto (-44), 3) := by decide +kernel
theorem dX12_firstFitAhead_47 : decode cX12_firstFitAhead 47 = .ok (.getfield 202, 3) := by decide +kernel
theorem dX12_firstFitAhead_42 : decode cX12_firstFitAhead 42 = .ok (.getfield 420, 3) := by decide +kernel
theorem dX12_firstFitAhead_37 : decode cX12_firstFitAhead 37 = .ok (.iload_n 3, 1) := by decide +kernel
theorem dX12_firstFitAhead_38 : decode cX12_firstFitAhead 38 = .ok (.ireturn, 1) := by decide +kernel
theorem dX12_firstFitAhead_34 : decode cX12_firstFitAhead 34 = .ok (.if_icmp .lt 5, 3) := by decide +kernel
theorem dX12_firstFitAhead_30 : decode cX12_firstFitAhead 30 = .ok (.getfield 420, 3) := by decide +kernel
theorem dX12_firstFitAhead_26 : decode cX12_firstFitAhead 26 = .ok (.putfield 258, 3) := by decide +kernel
theorem dX12_firstFitAhead_21 : decode cX12_firstFitAhead 21 = .ok (.getfield 258, 3) := by decide +kernel
theorem dX12_firstFitAhead_16 : decode cX12_firstFitAhead 16 = .ok (.if_icmp .ge 41, 3) := by decide +kernel
theorem dX12_firstFitAhead_11 : decode cX12_firstFitAhead 11 = .ok (.ifCond .lt 46, 3) := by decide +kernel
def wr_228 (c k : Nat) : Bool := (Nat.beq c 94 && (Nat.beq k 50 || Nat.beq k 84))
theorem ws_226_228 : ∀ c k, wr_226 c k = true → wr_228 c k = true := by
  intro c k h
  simp only [wr_226, Bool.or_eq_true, Bool.and_eq_true, Nat.beq_eq] at h
  rcases h with ⟨rfl, rfl⟩ <;> rfl
theorem g_228_0 {X : Nat × (Nat → Int32)} {m : Nat → Nat → Int32} {P : Option ma_V → (Nat → Nat → Int32) → Prop} (n : Int32) (e : Int32) (h : zm X 1 21 226 0 [(0, .inr (.inr (some 94))), (1, .inl (0 : Int32)), (2, .inl (m 94 11))] m (zmi (fun v2 m1 => zm X 2 45 228 10 [(0, .inr (.inr (some 94))), (1, .inl n), (2, .inl e), (3, .inl v2)] m1 P))) : zm X 2 45 228 0 [(0, .inr (.inr (some 94))), (1, .inl n), (2, .inl e)] m P := by
  intro d w S Q hd hw hS hm HQ
  subst hm
  refine zw_push hm_228 dX12_firstFitAhead_0 (v := .inr (.inr (some 94))) rfl ?_
  refine zw_push hm_228 dX12_firstFitAhead_1 (v := .inl (0 : Int32)) rfl ?_
  refine zw_push hm_228 dX12_firstFitAhead_2 (v := .inr (.inr (some 94))) rfl ?_
  refine zw_gf hm_228 dX12_firstFitAhead_3 (v := .inl ((mI S) 94 11)) (zT_is hS s_94) (zT_t hS s_94) rfl f_12_202_12 rfl ?_
  refine zw_cv hm_228 dX12_firstFitAhead_6 v_12_423_12 hm_226 [.inl ((mI S) 94 11), .inl (0 : Int32)] [] rfl (zT_rt hS s_94 rfl) ⟨by omega, by omega⟩ rfl (h _ _ S _ (by omega) (by omega) hS rfl (fun o9 m1 hv => ?_))
  obtain ⟨v2, rfl, h⟩ := zmi_of hv
  show ma_wp X d w 228 9 [(0, .inr (.inr (some 94))), (1, .inl n), (2, .inl e)] [.inl v2] (zst S m1) _
  refine zw_sto hm_228 dX12_firstFitAhead_9 [(3, .inl v2), (0, .inr (.inr (some 94))), (1, .inl n), (2, .inl e)] rfl rfl rfl ?_
  exact zw_sub (ma_nd_of (ks := [0, 1, 2, 3]) rfl (by decide)) (ma_nd_of (ks := [3, 0, 1, 2]) rfl (by decide)) (ma_le_cons rfl (ma_le_cons rfl (ma_le_cons rfl (ma_le_cons rfl (ma_le_nil _))))) (h d w _ Q (by omega) (by omega) (zT_zst hS m1) rfl HQ)
theorem g_228_10 {X : Nat × (Nat → Int32)} {m : Nat → Nat → Int32} {P : Option ma_V → (Nat → Nat → Int32) → Prop} (l1 : Int32) (l2 : Int32) (l3 : Int32) (h : if l3 < 0 then (P (some (.inl (-1 : Int32))) m) else (if l2 ≤ l3 then (P (some (.inl (-1 : Int32))) m) else (if (m 94 84) < l1 then (zm X 1 21 226 0 [(0, .inr (.inr (some 94))), (1, .inl (l3 + (m 94 84))), (2, .inl (m 94 11))] (ma_u m 94 50 ((m 94 50) + (1 : Int32))) (zmi (fun v2 m1 => zm X 2 45 228 10 [(0, .inr (.inr (some 94))), (1, .inl l1), (2, .inl l2), (3, .inl v2)] m1 P))) else (P (some (.inl l3)) (ma_u m 94 50 ((m 94 50) + (1 : Int32))))))) : zm X 2 45 228 10 [(0, .inr (.inr (some 94))), (1, .inl l1), (2, .inl l2), (3, .inl l3)] m P := by
  intro d w S Q hd hw hS hm HQ
  subst hm
  refine zw_push hm_228 dX12_firstFitAhead_10 (v := .inl l3) rfl ?_
  refine zw_if0 hm_228 dX12_firstFitAhead_11 (t := 57) rfl zc0_lt ?_ ?_
  · intro hc
    rw [if_pos hc] at h
    refine zw_push hm_228 dX12_firstFitAhead_57 (v := .inl (-1 : Int32)) rfl ?_
    exact zw_iret hm_228 dX12_firstFitAhead_58 (HQ _ _ h)
  · intro hc
    rw [if_neg hc] at h
    refine zw_push hm_228 dX12_firstFitAhead_14 (v := .inl l3) rfl ?_
    refine zw_push hm_228 dX12_firstFitAhead_15 (v := .inl l2) rfl ?_
    refine zw_if2 hm_228 dX12_firstFitAhead_16 (t := 57) rfl zc2_ge ?_ ?_
    · intro hc
      rw [if_pos hc] at h
      refine zw_push hm_228 dX12_firstFitAhead_57 (v := .inl (-1 : Int32)) rfl ?_
      exact zw_iret hm_228 dX12_firstFitAhead_58 (HQ _ _ h)
    · intro hc
      rw [if_neg hc] at h
      refine zw_push hm_228 dX12_firstFitAhead_19 (v := .inr (.inr (some 94))) rfl ?_
      refine zw_stk hm_228 dX12_firstFitAhead_20 (st₉ := [.inr (.inr (some 94)), .inr (.inr (some 94))]) rfl rfl ?_
      refine zw_gf hm_228 dX12_firstFitAhead_21 (v := .inl ((mI S) 94 50)) (zT_is hS s_94) (zT_t hS s_94) rfl f_12_258_12 rfl ?_
      refine zw_push hm_228 dX12_firstFitAhead_24 (v := .inl (1 : Int32)) rfl ?_
      refine zw_stk hm_228 dX12_firstFitAhead_25 (st₉ := [.inl (((mI S) 94 50) + (1 : Int32)), .inr (.inr (some 94))]) rfl rfl ?_
      refine zw_pf hm_228 dX12_firstFitAhead_26 (zT_is hS s_94) (zT_t hS s_94) p_12_258_12 zk_int ?_
      refine zw_push hm_228 dX12_firstFitAhead_29 (v := .inr (.inr (some 94))) rfl ?_
      refine zw_gf hm_228 dX12_firstFitAhead_30 (v := .inl ((mI S) 94 84)) (zT_is (zT_pi hS) s_94) (zT_t (zT_pi hS) s_94) rfl f_12_420_12 rfl ?_
      refine zw_push hm_228 dX12_firstFitAhead_33 (v := .inl l1) rfl ?_
      refine zw_if2 hm_228 dX12_firstFitAhead_34 (t := 39) rfl zc2_lt ?_ ?_
      · intro hc
        rw [if_pos hc] at h
        refine zw_push hm_228 dX12_firstFitAhead_39 (v := .inr (.inr (some 94))) rfl ?_
        refine zw_push hm_228 dX12_firstFitAhead_40 (v := .inl l3) rfl ?_
        refine zw_push hm_228 dX12_firstFitAhead_41 (v := .inr (.inr (some 94))) rfl ?_
        refine zw_gf hm_228 dX12_firstFitAhead_42 (v := .inl ((mI S) 94 84)) (zT_is (zT_pi hS) s_94) (zT_t (zT_pi hS) s_94) rfl f_12_420_12 rfl ?_
        refine zw_stk hm_228 dX12_firstFitAhead_45 (st₉ := [.inl (l3 + ((mI S) 94 84)), .inr (.inr (some 94))]) rfl rfl ?_
        refine zw_push hm_228 dX12_firstFitAhead_46 (v := .inr (.inr (some 94))) rfl ?_
        refine zw_gf hm_228 dX12_firstFitAhead_47 (v := .inl ((mI S) 94 11)) (zT_is (zT_pi hS) s_94) (zT_t (zT_pi hS) s_94) rfl f_12_202_12 rfl ?_
        refine zw_cv hm_228 dX12_firstFitAhead_50 v_12_423_12 hm_226 [.inl ((mI S) 94 11), .inl (l3 + ((mI S) 94 84))] [] rfl (zT_rt (zT_pi hS) s_94 rfl) ⟨by omega, by omega⟩ rfl (h _ _ (ma_put S 94 50 (.inl (((mI S) 94 50) + (1 : Int32)))) _ (by omega) (by omega) (zT_pi hS) rfl (fun o9 m1 hv => ?_))
        obtain ⟨v2, rfl, h⟩ := zmi_of hv
        show ma_wp X d w 228 53 [(0, .inr (.inr (some 94))), (1, .inl l1), (2, .inl l2), (3, .inl l3)] [.inl v2] (zst S m1) _
        refine zw_sto hm_228 dX12_firstFitAhead_53 [(3, .inl v2), (0, .inr (.inr (some 94))), (1, .inl l1), (2, .inl l2)] rfl rfl rfl ?_
        refine zw_goto hm_228 dX12_firstFitAhead_54 (t := 10) rfl ?_
        exact zw_sub (ma_nd_of (ks := [0, 1, 2, 3]) rfl (by decide)) (ma_nd_of (ks := [3, 0, 1, 2]) rfl (by decide)) (ma_le_cons rfl (ma_le_cons rfl (ma_le_cons rfl (ma_le_cons rfl (ma_le_nil _))))) (h d w _ Q (by omega) (by omega) (zT_zst hS m1) rfl HQ)
      · intro hc
        rw [if_neg hc] at h
        refine zw_push hm_228 dX12_firstFitAhead_37 (v := .inl l3) rfl ?_
        exact zw_iret hm_228 dX12_firstFitAhead_38 (HQ _ _ h)
theorem lp_228_10 {X : Nat × (Nat → Int32)} {P : Option ma_V → (Nat → Nat → Int32) → Prop} {n : Int32} {e : Int32} {m0 : Nat → Nat → Int32} (h0 : zV m0) (K : ∀ v m₉, zF wr_228 m0 m₉ → zV m₉ → (-1 ≤ v.toInt ∧ v.toInt ≤ 1500) → P (some (.inl v)) m₉) : ∀ (n : Nat) (m : Nat → Nat → Int32) (l1 : Int32) (l2 : Int32) (l3 : Int32), (4700 - l3.toInt % 4701).toNat = n → zF wr_228 m0 m → zV m → (l3.toInt = -1 ∨ (0 ≤ l3.toInt ∧ l3.toInt < (m 94 11).toInt ∧ 1 ≤ (m 94 84).toInt ∧ l3.toInt + (m 94 84).toInt ≤ (m 94 11).toInt)) → zm X 2 45 228 10 [(0, .inr (.inr (some 94))), (1, .inl l1), (2, .inl l2), (3, .inl l3)] m P := by
  intro n
  induction n using Nat.strongRecOn with
  | _ n IH =>
    intro m l1 l2 l3 hmu hF hV hi0
    refine g_228_10 l1 l2 l3 ?_
    have f1 : 0 ≤ (m 94 11).toInt ∧ (m 94 11).toInt ≤ 1500 := rs_94_11 (m := m) hV
    have f2 : 0 ≤ (m 94 84).toInt ∧ (m 94 84).toInt ≤ 4600 := rs_94_84 (m := m) hV
    have b3 := i_bd l3
    have li4 : (0 : Int32).toInt = 0 := rfl
    refine zd (fun (h5 : l3 < (0 : Int32)) => ?_) (fun (h5 : ¬ l3 < (0 : Int32)) => ?_)
    · skip
      have g6 := i_lt h5
      have li7 : (-1 : Int32).toInt = -1 := rfl
      exact K ((-1 : Int32)) _ hF hV (show -1 ≤ (-1 : Int32).toInt ∧ (-1 : Int32).toInt ≤ 1500 from by omega)
    · skip
      have g8 := i_nlt h5
      have b9 := i_bd l2
      refine zd (fun (h10 : l2 ≤ l3) => ?_) (fun (h10 : ¬ l2 ≤ l3) => ?_)
      · skip
        have g11 := i_le h10
        have li12 : (-1 : Int32).toInt = -1 := rfl
        exact K ((-1 : Int32)) _ hF hV (show -1 ≤ (-1 : Int32).toInt ∧ (-1 : Int32).toInt ≤ 1500 from by omega)
      · skip
        have g13 := i_nle h10
        have b14 := i_bd l1
        refine zd (fun (h15 : (m 94 84) < l1) => ?_) (fun (h15 : ¬ (m 94 84) < l1) => ?_)
        · skip
          have g16 := i_lt h15
          first | have e17 : (l3 + (m 94 84)).toInt = l3.toInt + (m 94 84).toInt := i_add (by omega) (by omega) | have b18 := i_bd (l3 + (m 94 84))
          have hV19 : zV (ma_u m 94 50 ((m 94 50) + (1 : Int32))) := uf_94_50 hV
          refine sp_226 ((l3 + (m 94 84))) ((m 94 11)) hV19 (by omega) (by omega) (by omega) (fun v2 m1 hV_m1 p0_m1 => zmi_n ?_)
          have p0_m1 : v2.toInt = -1 ∨ ((l3 + (m 94 84)).toInt ≤ v2.toInt ∧ v2.toInt < (m 94 11).toInt ∧ 1 ≤ (m1 94 84).toInt ∧ v2.toInt + (m1 94 84).toInt ≤ (m 94 11).toInt) := p0_m1
          have f20 : 0 ≤ (m1 94 84).toInt ∧ (m1 94 84).toInt ≤ 4600 := rs_94_84 (m := (zov wr_226 (ma_u m 94 50 ((m 94 50) + (1 : Int32))) m1)) hV_m1
          have b21 := i_bd v2
          exact IH (4700 - v2.toInt % 4701).toNat (by omega) _ (l1) (l2) (v2) rfl (zF_zov (zF_u hF rfl) ws_226_228) hV_m1 (show v2.toInt = -1 ∨ (0 ≤ v2.toInt ∧ v2.toInt < (m 94 11).toInt ∧ 1 ≤ (m1 94 84).toInt ∧ v2.toInt + (m1 94 84).toInt ≤ (m 94 11).toInt) from by omega)
        · skip
          have g22 := i_nlt h15
          have hV23 : zV (ma_u m 94 50 ((m 94 50) + (1 : Int32))) := uf_94_50 hV
          exact K (l3) _ (zF_u hF rfl) hV23 (show -1 ≤ l3.toInt ∧ l3.toInt ≤ 1500 from by omega)
theorem sp_228 {X : Nat × (Nat → Int32)} {P : Option ma_V → (Nat → Nat → Int32) → Prop} {m : Nat → Nat → Int32} (n : Int32) (e : Int32) (hV : zV m)  (KZ : ∀ v m₉, zV (zov wr_228 m m₉) → (-1 ≤ v.toInt ∧ v.toInt ≤ 1500) → P (some (.inl v)) (zov wr_228 m m₉)) : zm X 2 45 228 0 [(0, .inr (.inr (some 94))), (1, .inl n), (2, .inl e)] m P := by
  have K : ∀ v m₉, zF wr_228 m m₉ → zV m₉ → (-1 ≤ v.toInt ∧ v.toInt ≤ 1500) → P (some (.inl v)) m₉ := by
    intro v m₉ hf z q0
    have e := zov_eq hf
    rw [e] at z ⊢
    try rw [e] at q0
    exact KZ v m₉ z q0
  refine g_228_0 n e ?_
  have li1 : (0 : Int32).toInt = 0 := rfl
  have f2 : 0 ≤ (m 94 11).toInt ∧ (m 94 11).toInt ≤ 1500 := rs_94_11 (m := m) hV
  refine sp_226 ((0 : Int32)) ((m 94 11)) hV (by omega) (by omega) (by omega) (fun v2 m1 hV_m1 p0_m1 => zmi_n ?_)
  have p0_m1 : v2.toInt = -1 ∨ ((0 : Int32).toInt ≤ v2.toInt ∧ v2.toInt < (m 94 11).toInt ∧ 1 ≤ (m1 94 84).toInt ∧ v2.toInt + (m1 94 84).toInt ≤ (m 94 11).toInt) := p0_m1
  have f3 : 0 ≤ (m1 94 84).toInt ∧ (m1 94 84).toInt ≤ 4600 := rs_94_84 (m := (zov wr_226 m m1)) hV_m1
  have b4 := i_bd n
  have b5 := i_bd e
  have b6 := i_bd v2
  exact lp_228_10 (n := n) (e := e) hV K _ _ (n) (e) (v2) rfl (zF_zov zF_rfl ws_226_228) hV_m1 (show v2.toInt = -1 ∨ (0 ≤ v2.toInt ∧ v2.toInt < (m 94 11).toInt ∧ 1 ≤ (m1 94 84).toInt ∧ v2.toInt + (m1 94 84).toInt ≤ (m 94 11).toInt) from by omega)

/-! from 94.407 -/
/-! the reference (written by wip/tools/gen94m.py) -/
set_option maxRecDepth 100000 in
theorem hm_227 : ma_md 227 = some (12, yX12_startOf, cX12_startOf, 3, (some (FieldType.int))) := rfl
theorem dX12_startOf_0 : decode cX12_startOf 0 = .ok (.iconst 0, 1) := by decide +kernel
theorem dX12_startOf_1 : decode cX12_startOf 1 = .ok (.istore_n 2, 1) := by decide +kernel
theorem dX12_startOf_2 : decode cX12_startOf 2 = .ok (.iload_n 2, 1) := by decide +kernel
theorem dX12_startOf_3 : decode cX12_startOf 3 = .ok (.iload_n 1, 1) := by decide +kernel
theorem dX12_startOf_38 : decode cX12_startOf 38 = .ok (.iload_n 2, 1) := by decide +kernel
theorem dX12_startOf_39 : decode cX12_startOf 39 = .ok (.ireturn, 1) := by decide +kernel
theorem dX12_startOf_7 : decode cX12_startOf 7 = .ok (.aload_n 0, 1) := by decide +kernel
theorem dX12_startOf_11 : decode cX12_startOf 11 = .ok (.iload_n 2, 1) := by decide +kernel
theorem dX12_startOf_31 : decode cX12_startOf 31 = .ok (.iload_n 2, 1) := by decide +kernel
theorem dX12_startOf_32 : decode cX12_startOf 32 = .ok (.iconst 1, 1) := by decide +kernel
theorem dX12_startOf_33 : decode cX12_startOf 33 = .ok (.iadd, 1) := by decide +kernel
theorem dX12_startOf_34 : decode cX12_startOf 34 = .ok (.istore_n 2, 1) := by decide +kernel
theorem dX12_startOf_35 : decode cX12_startOf 35 = .ok (.goto (-33), 3) := by decide +kernel
theorem dX12_startOf_16 : decode cX12_startOf 16 = .ok (.iload_n 2, 1) := by decide +kernel
theorem dX12_startOf_17 : decode cX12_startOf 17 = .ok (.aload_n 0, 1) := by decide +kernel
theorem dX12_startOf_18 : decode cX12_startOf 18 = .ok (.aload_n 0, 1) := by decide +kernel
theorem dX12_startOf_22 : decode cX12_startOf 22 = .ok (.iload_n 2, 1) := by decide +kernel
theorem dX12_startOf_24 : decode cX12_startOf 24 = .ok (.invokevirtual 327, 3) := by decide +kernel
theorem dX12_startOf_27 : decode cX12_startOf 27 = .ok (.iadd, 1) := by decide +kernel
theorem dX12_startOf_28 : decode cX12_startOf 28 = .ok (.goto 6, 3) := by decide +kernel
theorem dX12_startOf_23 : decode cX12_startOf 23 = .ok (.iaload, 1) := by decide +kernel
theorem dX12_startOf_19 : decode cX12_startOf 19 = .ok (.getfield 65, 3) := by decide +kernel
theorem dX12_startOf_13 : decode cX12_startOf 13 = .ok (.ifCond .lt 18, 3) := by decide +kernel
theorem dX12_startOf_12 : decode cX12_startOf 12 = .ok (.iaload, 1) := by decide +kernel
theorem dX12_startOf_8 : decode cX12_startOf 8 = .ok (.getfield 65, 3) := by decide +kernel
theorem dX12_startOf_4 : decode cX12_startOf 4 = .ok (.if_icmp .ge 34, 3) := by decide +kernel
def wr_227 (_ _ : Nat) : Bool := false
theorem g_227_0 {X : Nat × (Nat → Int32)} {m : Nat → Nat → Int32} {P : Option ma_V → (Nat → Nat → Int32) → Prop} (p : Int32) (h : zm X 1 21 227 2 [(0, .inr (.inr (some 94))), (1, .inl p), (2, .inl (0 : Int32))] m P) : zm X 1 21 227 0 [(0, .inr (.inr (some 94))), (1, .inl p)] m P := by
  intro d w S Q hd hw hS hm HQ
  subst hm
  refine zw_push hm_227 dX12_startOf_0 (v := .inl (0 : Int32)) rfl ?_
  refine zw_sto hm_227 dX12_startOf_1 [(2, .inl (0 : Int32)), (0, .inr (.inr (some 94))), (1, .inl p)] rfl rfl rfl ?_
  exact zw_sub (ma_nd_of (ks := [0, 1, 2]) rfl (by decide)) (ma_nd_of (ks := [2, 0, 1]) rfl (by decide)) (ma_le_cons rfl (ma_le_cons rfl (ma_le_cons rfl (ma_le_nil _)))) (h d w _ Q (by omega) (by omega) hS rfl HQ)
theorem g_227_2 {X : Nat × (Nat → Int32)} {m : Nat → Nat → Int32} {P : Option ma_V → (Nat → Nat → Int32) → Prop} (l1 : Int32) (l2 : Int32) (h : if l1 ≤ l2 then (P (some (.inl l2)) m) else ((0 ≤ l2 ∧ l2.toNatClampNeg < 4600) ∧ (if (m 111 l2.toNatClampNeg) < 0 then (zm X 1 21 227 2 [(0, .inr (.inr (some 94))), (1, .inl l1), (2, .inl (l2 + (1 : Int32)))] m P) else ((0 ≤ l2 ∧ l2.toNatClampNeg < 4600) ∧ ((0 ≤ (m 111 l2.toNatClampNeg) ∧ (m 111 l2.toNatClampNeg).toNatClampNeg < 3100) ∧ (zm X 1 21 227 2 [(0, .inr (.inr (some 94))), (1, .inl l1), (2, .inl (l2 + ((m 102 (m 111 l2.toNatClampNeg).toNatClampNeg) + (1 : Int32))))] m P)))))) : zm X 1 21 227 2 [(0, .inr (.inr (some 94))), (1, .inl l1), (2, .inl l2)] m P := by
  intro d w S Q hd hw hS hm HQ
  subst hm
  refine zw_push hm_227 dX12_startOf_2 (v := .inl l2) rfl ?_
  refine zw_push hm_227 dX12_startOf_3 (v := .inl l1) rfl ?_
  refine zw_if2 hm_227 dX12_startOf_4 (t := 38) rfl zc2_ge ?_ ?_
  · intro hc
    rw [if_pos hc] at h
    refine zw_push hm_227 dX12_startOf_38 (v := .inl l2) rfl ?_
    exact zw_iret hm_227 dX12_startOf_39 (HQ _ _ h)
  · intro hc
    rw [if_neg hc] at h
    refine zw_push hm_227 dX12_startOf_7 (v := .inr (.inr (some 94))) rfl ?_
    refine zw_gf hm_227 dX12_startOf_8 (v := .inr (.inr (some 111))) (zT_is hS s_94) (zT_t hS s_94) rfl f_12_65_12 (zT_f hS r_94_43) ?_
    refine zw_push hm_227 dX12_startOf_11 (v := .inl l2) rfl ?_
    obtain ⟨hg, h⟩ := h
    refine zw_ia hm_227 dX12_startOf_12 (zT_is hS s_111) (zT_h hS s_111) rfl hg ?_
    show ma_wp X d w 227 13 [(0, .inr (.inr (some 94))), (1, .inl l1), (2, .inl l2)] [.inl ((mI S) 111 l2.toNatClampNeg)] S _
    refine zw_if0 hm_227 dX12_startOf_13 (t := 31) rfl zc0_lt ?_ ?_
    · intro hc
      rw [if_pos hc] at h
      refine zw_push hm_227 dX12_startOf_31 (v := .inl l2) rfl ?_
      refine zw_push hm_227 dX12_startOf_32 (v := .inl (1 : Int32)) rfl ?_
      refine zw_stk hm_227 dX12_startOf_33 (st₉ := [.inl (l2 + (1 : Int32))]) rfl rfl ?_
      refine zw_sto hm_227 dX12_startOf_34 [(2, .inl (l2 + (1 : Int32))), (0, .inr (.inr (some 94))), (1, .inl l1)] rfl rfl rfl ?_
      refine zw_goto hm_227 dX12_startOf_35 (t := 2) rfl ?_
      exact zw_sub (ma_nd_of (ks := [0, 1, 2]) rfl (by decide)) (ma_nd_of (ks := [2, 0, 1]) rfl (by decide)) (ma_le_cons rfl (ma_le_cons rfl (ma_le_cons rfl (ma_le_nil _)))) (h d w _ Q (by omega) (by omega) hS rfl HQ)
    · intro hc
      rw [if_neg hc] at h
      refine zw_push hm_227 dX12_startOf_16 (v := .inl l2) rfl ?_
      refine zw_push hm_227 dX12_startOf_17 (v := .inr (.inr (some 94))) rfl ?_
      refine zw_push hm_227 dX12_startOf_18 (v := .inr (.inr (some 94))) rfl ?_
      refine zw_gf hm_227 dX12_startOf_19 (v := .inr (.inr (some 111))) (zT_is hS s_94) (zT_t hS s_94) rfl f_12_65_12 (zT_f hS r_94_43) ?_
      refine zw_push hm_227 dX12_startOf_22 (v := .inl l2) rfl ?_
      obtain ⟨hg, h⟩ := h
      refine zw_ia hm_227 dX12_startOf_23 (zT_is hS s_111) (zT_h hS s_111) rfl hg ?_
      show ma_wp X d w 227 24 [(0, .inr (.inr (some 94))), (1, .inl l1), (2, .inl l2)] [.inl ((mI S) 111 l2.toNatClampNeg), .inr (.inr (some 94)), .inl l2] S _
      refine zw_cv hm_227 dX12_startOf_24 v_12_327_12 hm_201 [.inl ((mI S) 111 l2.toNatClampNeg)] [.inl l2] rfl (zT_rt hS s_94 rfl) ⟨by omega, by omega⟩ rfl ?_
      show ma_wp X (d - 1) (w - 21) 201 0 [(0, .inr (.inr (some 94))), (1, .inl ((mI S) 111 l2.toNatClampNeg))] [] S _
      refine zw_push hm_201 dX12_sizeOf_0 (v := .inr (.inr (some 94))) rfl ?_
      refine zw_gf hm_201 dX12_sizeOf_1 (v := .inr (.inr (some 102))) (zT_is hS s_94) (zT_t hS s_94) rfl f_12_37_12 (zT_f hS r_94_34) ?_
      refine zw_push hm_201 dX12_sizeOf_4 (v := .inl ((mI S) 111 l2.toNatClampNeg)) rfl ?_
      obtain ⟨hg, h⟩ := h
      refine zw_ia hm_201 dX12_sizeOf_5 (zT_is hS s_102) (zT_h hS s_102) rfl hg ?_
      show ma_wp X (d - 1) (w - 21) 201 6 [(0, .inr (.inr (some 94))), (1, .inl ((mI S) 111 l2.toNatClampNeg))] [.inl ((mI S) 102 ((mI S) 111 l2.toNatClampNeg).toNatClampNeg)] S _
      refine zw_push hm_201 dX12_sizeOf_6 (v := .inl (1 : Int32)) rfl ?_
      refine zw_stk hm_201 dX12_sizeOf_7 (st₉ := [.inl (((mI S) 102 ((mI S) 111 l2.toNatClampNeg).toNatClampNeg) + (1 : Int32))]) rfl rfl ?_
      refine zw_iret hm_201 dX12_sizeOf_8 ?_
      show ma_wp X d w 227 27 [(0, .inr (.inr (some 94))), (1, .inl l1), (2, .inl l2)] [.inl (((mI S) 102 ((mI S) 111 l2.toNatClampNeg).toNatClampNeg) + (1 : Int32)), .inl l2] S _
      refine zw_stk hm_227 dX12_startOf_27 (st₉ := [.inl (l2 + (((mI S) 102 ((mI S) 111 l2.toNatClampNeg).toNatClampNeg) + (1 : Int32)))]) rfl rfl ?_
      refine zw_goto hm_227 dX12_startOf_28 (t := 34) rfl ?_
      refine zw_sto hm_227 dX12_startOf_34 [(2, .inl (l2 + (((mI S) 102 ((mI S) 111 l2.toNatClampNeg).toNatClampNeg) + (1 : Int32)))), (0, .inr (.inr (some 94))), (1, .inl l1)] rfl rfl rfl ?_
      refine zw_goto hm_227 dX12_startOf_35 (t := 2) rfl ?_
      exact zw_sub (ma_nd_of (ks := [0, 1, 2]) rfl (by decide)) (ma_nd_of (ks := [2, 0, 1]) rfl (by decide)) (ma_le_cons rfl (ma_le_cons rfl (ma_le_cons rfl (ma_le_nil _)))) (h d w _ Q (by omega) (by omega) hS rfl HQ)
theorem lp_227_2 {X : Nat × (Nat → Int32)} {P : Option ma_V → (Nat → Nat → Int32) → Prop} {p : Int32} {m0 : Nat → Nat → Int32} (h0 : zV m0) (K : ∀ v m₉, zF wr_227 m0 m₉ → zV m₉ → (0 ≤ v.toInt ∧ v.toInt ≤ 4700) → P (some (.inl v)) m₉) : ∀ (n : Nat) (m : Nat → Nat → Int32) (l1 : Int32) (l2 : Int32), (4800 - l2.toInt).toNat = n → zF wr_227 m0 m → zV m → (0 ≤ l2.toInt) → (l2.toInt ≤ 4700) → (l1.toInt ≤ 4600) → zm X 1 21 227 2 [(0, .inr (.inr (some 94))), (1, .inl l1), (2, .inl l2)] m P := by
  intro n
  induction n using Nat.strongRecOn with
  | _ n IH =>
    intro m l1 l2 hmu hF hV hi0 hi1 hi2
    refine g_227_2 l1 l2 ?_
    have b1 := i_bd l1
    have b2 := i_bd l2
    refine zd (fun (h3 : l1 ≤ l2) => ?_) (fun (h3 : ¬ l1 ≤ l2) => ?_)
    · skip
      have g4 := i_le h3
      exact K (l2) _ hF hV (show 0 ≤ l2.toInt ∧ l2.toInt ≤ 4700 from by omega)
    · skip
      have g5 := i_nle h3
      have hg6 : (0 ≤ l2 ∧ l2.toNatClampNeg < 4600) := i_ix (by omega) (by omega)
      refine ⟨hg6, ?_⟩
      first | have f7 : -1 ≤ (m 111 l2.toNatClampNeg).toInt ∧ (m 111 l2.toNatClampNeg).toInt ≤ 3099 := ra_111 (m := m) hV (k := l2.toNatClampNeg) (i_ix (n := 4600) (by omega) (by omega)).2 | have b8 := i_bd (m 111 l2.toNatClampNeg)
      have li9 : (0 : Int32).toInt = 0 := rfl
      refine zd (fun (h10 : (m 111 l2.toNatClampNeg) < (0 : Int32)) => ?_) (fun (h10 : ¬ (m 111 l2.toNatClampNeg) < (0 : Int32)) => ?_)
      · skip
        have g11 := i_lt h10
        first | have e12 : (l2 + (1 : Int32)).toInt = l2.toInt + (1) := i_addk rfl (by omega) (by omega) | have b13 := i_bd (l2 + (1 : Int32))
        exact IH (4800 - (l2 + (1 : Int32)).toInt).toNat (by omega) _ (l1) ((l2 + (1 : Int32))) rfl hF hV (by omega) (by omega) (by omega)
      · skip
        have g14 := i_nlt h10
        have hg15 : (0 ≤ l2 ∧ l2.toNatClampNeg < 4600) := i_ix (by omega) (by omega)
        refine ⟨hg15, ?_⟩
        have hg16 : (0 ≤ (m 111 l2.toNatClampNeg) ∧ (m 111 l2.toNatClampNeg).toNatClampNeg < 3100) := i_ix (by omega) (by omega)
        refine ⟨hg16, ?_⟩
        first | have f17 : 0 ≤ (m 102 (m 111 l2.toNatClampNeg).toNatClampNeg).toInt ∧ (m 102 (m 111 l2.toNatClampNeg).toNatClampNeg).toInt ≤ 60 := ra_102 (m := m) hV (k := (m 111 l2.toNatClampNeg).toNatClampNeg) (i_ix (n := 3100) (by omega) (by omega)).2 | have b18 := i_bd (m 102 (m 111 l2.toNatClampNeg).toNatClampNeg)
        first | have e19 : ((m 102 (m 111 l2.toNatClampNeg).toNatClampNeg) + (1 : Int32)).toInt = (m 102 (m 111 l2.toNatClampNeg).toNatClampNeg).toInt + (1) := i_addk rfl (by omega) (by omega) | have b20 := i_bd ((m 102 (m 111 l2.toNatClampNeg).toNatClampNeg) + (1 : Int32))
        first | have e21 : (l2 + ((m 102 (m 111 l2.toNatClampNeg).toNatClampNeg) + (1 : Int32))).toInt = l2.toInt + ((m 102 (m 111 l2.toNatClampNeg).toNatClampNeg) + (1 : Int32)).toInt := i_add (by omega) (by omega) | have b22 := i_bd (l2 + ((m 102 (m 111 l2.toNatClampNeg).toNatClampNeg) + (1 : Int32)))
        exact IH (4800 - (l2 + ((m 102 (m 111 l2.toNatClampNeg).toNatClampNeg) + (1 : Int32))).toInt).toNat (by omega) _ (l1) ((l2 + ((m 102 (m 111 l2.toNatClampNeg).toNatClampNeg) + (1 : Int32)))) rfl hF hV (by omega) (by omega) (by omega)
theorem sp_227 {X : Nat × (Nat → Int32)} {P : Option ma_V → (Nat → Nat → Int32) → Prop} {m : Nat → Nat → Int32} (p : Int32) (hV : zV m) (hpre0 : p.toInt ≤ 4600) (KZ : ∀ v m₉, zV (zov wr_227 m m₉) → (0 ≤ v.toInt ∧ v.toInt ≤ 4700) → P (some (.inl v)) (zov wr_227 m m₉)) : zm X 1 21 227 0 [(0, .inr (.inr (some 94))), (1, .inl p)] m P := by
  have K : ∀ v m₉, zF wr_227 m m₉ → zV m₉ → (0 ≤ v.toInt ∧ v.toInt ≤ 4700) → P (some (.inl v)) m₉ := by
    intro v m₉ hf z q0
    have e := zov_eq hf
    rw [e] at z ⊢
    try rw [e] at q0
    exact KZ v m₉ z q0
  refine g_227_0 p ?_
  have b1 := i_bd p
  have li2 : (0 : Int32).toInt = 0 := rfl
  exact lp_227_2 (p := p) hV K _ _ (p) ((0 : Int32)) rfl zF_rfl hV (by omega) (by omega) (by omega)

