/-! bounds of the reference: fields, rows -/
def zV_s : List (Nat × Nat × Int × Int) := [(94, 3, 0, 100), (94, 4, 0, 100), (94, 7, 0, 16), (94, 8, 0, 1), (94, 9, 0, 1), (94, 10, 0, 6), (94, 11, 0, 1500), (94, 13, 0, 1500), (94, 14, 0, 1500), (94, 16, 0, 64), (94, 18, 0, 256), (94, 20, -1, 6), (94, 21, 0, 1500), (94, 23, 0, 1500), (94, 24, 0, 1500), (94, 26, 0, 64), (94, 28, 0, 256), (94, 30, 0, 1), (94, 46, 0, 100000), (94, 55, 0, 3100), (94, 56, 0, 3100), (94, 57, 0, 3100), (94, 58, 0, 1), (94, 59, 0, 4600), (94, 60, 0, 1600), (94, 61, 0, 1), (94, 62, 0, 4600), (94, 63, 0, 127), (94, 64, 0, 93), (94, 67, 0, 100), (94, 68, 0, 100), (94, 69, 0, 100), (94, 70, 0, 100), (94, 73, 0, 3100), (94, 75, 0, 3100), (94, 76, 0, 3100), (94, 77, 0, 4600), (94, 80, 0, 3100), (94, 84, 0, 4600)]
def zV_a : List (Nat × Nat × Int × Int) := [(97, 16, 0, 8), (98, 16, 0, 255), (99, 3100, 0, 1), (100, 3100, 0, 100000), (101, 3100, 0, 17), (102, 3100, 0, 60), (103, 3100, 0, 4599), (109, 3100, 0, 1), (110, 3100, 0, 1), (111, 4600, -1, 3099), (112, 16, -1, 3099), (113, 16, -1, 3099), (114, 3100, 0, 3099), (115, 3100, 0, 3099), (116, 128, 0, 4600), (117, 512, 0, 1), (118, 3100, 0, 3099), (119, 3100, 0, 3099), (120, 3100, 0, 3099), (121, 3100, 0, 60), (123, 128, 0, 1), (124, 128, 0, 1)]
def zV (m : Nat → Nat → Int32) : Prop := (∀ q ∈ zV_s, q.2.2.1 ≤ (m q.1 q.2.1).toInt ∧ (m q.1 q.2.1).toInt ≤ q.2.2.2) ∧ ∀ q ∈ zV_a, ∀ k, k < q.2.1 → q.2.2.1 ≤ (m q.1 k).toInt ∧ (m q.1 k).toInt ≤ q.2.2.2
section ZV1
variable {m : Nat → Nat → Int32} {c k : Nat} {x : Int32}
theorem zV_u (h : zV m) (h2 : ∀ q ∈ zV_s, q.1 = c → q.2.1 = k → q.2.2.1 ≤ x.toInt ∧ x.toInt ≤ q.2.2.2) (h4 : ∀ q ∈ zV_a, q.1 = c → q.2.2.1 ≤ x.toInt ∧ x.toInt ≤ q.2.2.2) : zV (ma_u m c k x) := by
  have rd : ∀ c' k', ma_u m c k x c' k' = if c' = c ∧ k' = k then x else m c' k' := fun _ _ => rfl
  refine ⟨fun q hq => ?_, fun q hq k' hk => ?_⟩
  · rw [rd]
    split
    · next z => exact h2 q hq z.1 z.2
    · exact h.1 q hq
  · rw [rd]
    split
    · next z => exact h4 q hq z.1
    · exact h.2 q hq k' hk
theorem va_94 : ∀ q ∈ zV_a, q.1 ≠ 94 := by decide
theorem ms_94_3 : (94, 3, 0, 100) ∈ zV_s := by decide
theorem vs_94_3 : ∀ q ∈ zV_s, q.1 = 94 → q.2.1 = 3 → q.2.2.1 = 0 ∧ q.2.2.2 = 100 := by decide
theorem rs_94_3 (h : zV m) : 0 ≤ (m 94 3).toInt ∧ (m 94 3).toInt ≤ 100 := h.1 _ ms_94_3
theorem us_94_3 (h : zV m) (h1 : 0 ≤ x.toInt) (h2 : x.toInt ≤ 100) : zV (ma_u m 94 3 x) := zV_u h (fun q hq g1 g2 => by rw [(vs_94_3 q hq g1 g2).1, (vs_94_3 q hq g1 g2).2]; exact ⟨h1, h2⟩) (fun q hq g => absurd g (va_94 q hq))
theorem ms_94_4 : (94, 4, 0, 100) ∈ zV_s := by decide
theorem vs_94_4 : ∀ q ∈ zV_s, q.1 = 94 → q.2.1 = 4 → q.2.2.1 = 0 ∧ q.2.2.2 = 100 := by decide
theorem rs_94_4 (h : zV m) : 0 ≤ (m 94 4).toInt ∧ (m 94 4).toInt ≤ 100 := h.1 _ ms_94_4
theorem us_94_4 (h : zV m) (h1 : 0 ≤ x.toInt) (h2 : x.toInt ≤ 100) : zV (ma_u m 94 4 x) := zV_u h (fun q hq g1 g2 => by rw [(vs_94_4 q hq g1 g2).1, (vs_94_4 q hq g1 g2).2]; exact ⟨h1, h2⟩) (fun q hq g => absurd g (va_94 q hq))
theorem ms_94_7 : (94, 7, 0, 16) ∈ zV_s := by decide
theorem vs_94_7 : ∀ q ∈ zV_s, q.1 = 94 → q.2.1 = 7 → q.2.2.1 = 0 ∧ q.2.2.2 = 16 := by decide
theorem rs_94_7 (h : zV m) : 0 ≤ (m 94 7).toInt ∧ (m 94 7).toInt ≤ 16 := h.1 _ ms_94_7
theorem us_94_7 (h : zV m) (h1 : 0 ≤ x.toInt) (h2 : x.toInt ≤ 16) : zV (ma_u m 94 7 x) := zV_u h (fun q hq g1 g2 => by rw [(vs_94_7 q hq g1 g2).1, (vs_94_7 q hq g1 g2).2]; exact ⟨h1, h2⟩) (fun q hq g => absurd g (va_94 q hq))
theorem ms_94_8 : (94, 8, 0, 1) ∈ zV_s := by decide
theorem vs_94_8 : ∀ q ∈ zV_s, q.1 = 94 → q.2.1 = 8 → q.2.2.1 = 0 ∧ q.2.2.2 = 1 := by decide
theorem rs_94_8 (h : zV m) : 0 ≤ (m 94 8).toInt ∧ (m 94 8).toInt ≤ 1 := h.1 _ ms_94_8
theorem us_94_8 (h : zV m) (h1 : 0 ≤ x.toInt) (h2 : x.toInt ≤ 1) : zV (ma_u m 94 8 x) := zV_u h (fun q hq g1 g2 => by rw [(vs_94_8 q hq g1 g2).1, (vs_94_8 q hq g1 g2).2]; exact ⟨h1, h2⟩) (fun q hq g => absurd g (va_94 q hq))
theorem ms_94_9 : (94, 9, 0, 1) ∈ zV_s := by decide
theorem vs_94_9 : ∀ q ∈ zV_s, q.1 = 94 → q.2.1 = 9 → q.2.2.1 = 0 ∧ q.2.2.2 = 1 := by decide
theorem rs_94_9 (h : zV m) : 0 ≤ (m 94 9).toInt ∧ (m 94 9).toInt ≤ 1 := h.1 _ ms_94_9
theorem us_94_9 (h : zV m) (h1 : 0 ≤ x.toInt) (h2 : x.toInt ≤ 1) : zV (ma_u m 94 9 x) := zV_u h (fun q hq g1 g2 => by rw [(vs_94_9 q hq g1 g2).1, (vs_94_9 q hq g1 g2).2]; exact ⟨h1, h2⟩) (fun q hq g => absurd g (va_94 q hq))
theorem ms_94_10 : (94, 10, 0, 6) ∈ zV_s := by decide
theorem vs_94_10 : ∀ q ∈ zV_s, q.1 = 94 → q.2.1 = 10 → q.2.2.1 = 0 ∧ q.2.2.2 = 6 := by decide
theorem rs_94_10 (h : zV m) : 0 ≤ (m 94 10).toInt ∧ (m 94 10).toInt ≤ 6 := h.1 _ ms_94_10
theorem us_94_10 (h : zV m) (h1 : 0 ≤ x.toInt) (h2 : x.toInt ≤ 6) : zV (ma_u m 94 10 x) := zV_u h (fun q hq g1 g2 => by rw [(vs_94_10 q hq g1 g2).1, (vs_94_10 q hq g1 g2).2]; exact ⟨h1, h2⟩) (fun q hq g => absurd g (va_94 q hq))
theorem ms_94_11 : (94, 11, 0, 1500) ∈ zV_s := by decide
theorem vs_94_11 : ∀ q ∈ zV_s, q.1 = 94 → q.2.1 = 11 → q.2.2.1 = 0 ∧ q.2.2.2 = 1500 := by decide
theorem rs_94_11 (h : zV m) : 0 ≤ (m 94 11).toInt ∧ (m 94 11).toInt ≤ 1500 := h.1 _ ms_94_11
theorem us_94_11 (h : zV m) (h1 : 0 ≤ x.toInt) (h2 : x.toInt ≤ 1500) : zV (ma_u m 94 11 x) := zV_u h (fun q hq g1 g2 => by rw [(vs_94_11 q hq g1 g2).1, (vs_94_11 q hq g1 g2).2]; exact ⟨h1, h2⟩) (fun q hq g => absurd g (va_94 q hq))
theorem ms_94_13 : (94, 13, 0, 1500) ∈ zV_s := by decide
theorem vs_94_13 : ∀ q ∈ zV_s, q.1 = 94 → q.2.1 = 13 → q.2.2.1 = 0 ∧ q.2.2.2 = 1500 := by decide
theorem rs_94_13 (h : zV m) : 0 ≤ (m 94 13).toInt ∧ (m 94 13).toInt ≤ 1500 := h.1 _ ms_94_13
theorem us_94_13 (h : zV m) (h1 : 0 ≤ x.toInt) (h2 : x.toInt ≤ 1500) : zV (ma_u m 94 13 x) := zV_u h (fun q hq g1 g2 => by rw [(vs_94_13 q hq g1 g2).1, (vs_94_13 q hq g1 g2).2]; exact ⟨h1, h2⟩) (fun q hq g => absurd g (va_94 q hq))
theorem ms_94_14 : (94, 14, 0, 1500) ∈ zV_s := by decide
theorem vs_94_14 : ∀ q ∈ zV_s, q.1 = 94 → q.2.1 = 14 → q.2.2.1 = 0 ∧ q.2.2.2 = 1500 := by decide
theorem rs_94_14 (h : zV m) : 0 ≤ (m 94 14).toInt ∧ (m 94 14).toInt ≤ 1500 := h.1 _ ms_94_14
theorem us_94_14 (h : zV m) (h1 : 0 ≤ x.toInt) (h2 : x.toInt ≤ 1500) : zV (ma_u m 94 14 x) := zV_u h (fun q hq g1 g2 => by rw [(vs_94_14 q hq g1 g2).1, (vs_94_14 q hq g1 g2).2]; exact ⟨h1, h2⟩) (fun q hq g => absurd g (va_94 q hq))
theorem ms_94_16 : (94, 16, 0, 64) ∈ zV_s := by decide
theorem vs_94_16 : ∀ q ∈ zV_s, q.1 = 94 → q.2.1 = 16 → q.2.2.1 = 0 ∧ q.2.2.2 = 64 := by decide
theorem rs_94_16 (h : zV m) : 0 ≤ (m 94 16).toInt ∧ (m 94 16).toInt ≤ 64 := h.1 _ ms_94_16
theorem us_94_16 (h : zV m) (h1 : 0 ≤ x.toInt) (h2 : x.toInt ≤ 64) : zV (ma_u m 94 16 x) := zV_u h (fun q hq g1 g2 => by rw [(vs_94_16 q hq g1 g2).1, (vs_94_16 q hq g1 g2).2]; exact ⟨h1, h2⟩) (fun q hq g => absurd g (va_94 q hq))
theorem ms_94_18 : (94, 18, 0, 256) ∈ zV_s := by decide
theorem vs_94_18 : ∀ q ∈ zV_s, q.1 = 94 → q.2.1 = 18 → q.2.2.1 = 0 ∧ q.2.2.2 = 256 := by decide
theorem rs_94_18 (h : zV m) : 0 ≤ (m 94 18).toInt ∧ (m 94 18).toInt ≤ 256 := h.1 _ ms_94_18
theorem us_94_18 (h : zV m) (h1 : 0 ≤ x.toInt) (h2 : x.toInt ≤ 256) : zV (ma_u m 94 18 x) := zV_u h (fun q hq g1 g2 => by rw [(vs_94_18 q hq g1 g2).1, (vs_94_18 q hq g1 g2).2]; exact ⟨h1, h2⟩) (fun q hq g => absurd g (va_94 q hq))
theorem ms_94_20 : (94, 20, -1, 6) ∈ zV_s := by decide
theorem vs_94_20 : ∀ q ∈ zV_s, q.1 = 94 → q.2.1 = 20 → q.2.2.1 = -1 ∧ q.2.2.2 = 6 := by decide
theorem rs_94_20 (h : zV m) : -1 ≤ (m 94 20).toInt ∧ (m 94 20).toInt ≤ 6 := h.1 _ ms_94_20
theorem us_94_20 (h : zV m) (h1 : -1 ≤ x.toInt) (h2 : x.toInt ≤ 6) : zV (ma_u m 94 20 x) := zV_u h (fun q hq g1 g2 => by rw [(vs_94_20 q hq g1 g2).1, (vs_94_20 q hq g1 g2).2]; exact ⟨h1, h2⟩) (fun q hq g => absurd g (va_94 q hq))
theorem ms_94_21 : (94, 21, 0, 1500) ∈ zV_s := by decide
theorem vs_94_21 : ∀ q ∈ zV_s, q.1 = 94 → q.2.1 = 21 → q.2.2.1 = 0 ∧ q.2.2.2 = 1500 := by decide
theorem rs_94_21 (h : zV m) : 0 ≤ (m 94 21).toInt ∧ (m 94 21).toInt ≤ 1500 := h.1 _ ms_94_21
theorem us_94_21 (h : zV m) (h1 : 0 ≤ x.toInt) (h2 : x.toInt ≤ 1500) : zV (ma_u m 94 21 x) := zV_u h (fun q hq g1 g2 => by rw [(vs_94_21 q hq g1 g2).1, (vs_94_21 q hq g1 g2).2]; exact ⟨h1, h2⟩) (fun q hq g => absurd g (va_94 q hq))
theorem ms_94_23 : (94, 23, 0, 1500) ∈ zV_s := by decide
theorem vs_94_23 : ∀ q ∈ zV_s, q.1 = 94 → q.2.1 = 23 → q.2.2.1 = 0 ∧ q.2.2.2 = 1500 := by decide
theorem rs_94_23 (h : zV m) : 0 ≤ (m 94 23).toInt ∧ (m 94 23).toInt ≤ 1500 := h.1 _ ms_94_23
theorem us_94_23 (h : zV m) (h1 : 0 ≤ x.toInt) (h2 : x.toInt ≤ 1500) : zV (ma_u m 94 23 x) := zV_u h (fun q hq g1 g2 => by rw [(vs_94_23 q hq g1 g2).1, (vs_94_23 q hq g1 g2).2]; exact ⟨h1, h2⟩) (fun q hq g => absurd g (va_94 q hq))
theorem ms_94_24 : (94, 24, 0, 1500) ∈ zV_s := by decide
theorem vs_94_24 : ∀ q ∈ zV_s, q.1 = 94 → q.2.1 = 24 → q.2.2.1 = 0 ∧ q.2.2.2 = 1500 := by decide
theorem rs_94_24 (h : zV m) : 0 ≤ (m 94 24).toInt ∧ (m 94 24).toInt ≤ 1500 := h.1 _ ms_94_24
theorem us_94_24 (h : zV m) (h1 : 0 ≤ x.toInt) (h2 : x.toInt ≤ 1500) : zV (ma_u m 94 24 x) := zV_u h (fun q hq g1 g2 => by rw [(vs_94_24 q hq g1 g2).1, (vs_94_24 q hq g1 g2).2]; exact ⟨h1, h2⟩) (fun q hq g => absurd g (va_94 q hq))
theorem ms_94_26 : (94, 26, 0, 64) ∈ zV_s := by decide
theorem vs_94_26 : ∀ q ∈ zV_s, q.1 = 94 → q.2.1 = 26 → q.2.2.1 = 0 ∧ q.2.2.2 = 64 := by decide
theorem rs_94_26 (h : zV m) : 0 ≤ (m 94 26).toInt ∧ (m 94 26).toInt ≤ 64 := h.1 _ ms_94_26
theorem us_94_26 (h : zV m) (h1 : 0 ≤ x.toInt) (h2 : x.toInt ≤ 64) : zV (ma_u m 94 26 x) := zV_u h (fun q hq g1 g2 => by rw [(vs_94_26 q hq g1 g2).1, (vs_94_26 q hq g1 g2).2]; exact ⟨h1, h2⟩) (fun q hq g => absurd g (va_94 q hq))
theorem ms_94_28 : (94, 28, 0, 256) ∈ zV_s := by decide
theorem vs_94_28 : ∀ q ∈ zV_s, q.1 = 94 → q.2.1 = 28 → q.2.2.1 = 0 ∧ q.2.2.2 = 256 := by decide
theorem rs_94_28 (h : zV m) : 0 ≤ (m 94 28).toInt ∧ (m 94 28).toInt ≤ 256 := h.1 _ ms_94_28
theorem us_94_28 (h : zV m) (h1 : 0 ≤ x.toInt) (h2 : x.toInt ≤ 256) : zV (ma_u m 94 28 x) := zV_u h (fun q hq g1 g2 => by rw [(vs_94_28 q hq g1 g2).1, (vs_94_28 q hq g1 g2).2]; exact ⟨h1, h2⟩) (fun q hq g => absurd g (va_94 q hq))
theorem ms_94_30 : (94, 30, 0, 1) ∈ zV_s := by decide
theorem vs_94_30 : ∀ q ∈ zV_s, q.1 = 94 → q.2.1 = 30 → q.2.2.1 = 0 ∧ q.2.2.2 = 1 := by decide
theorem rs_94_30 (h : zV m) : 0 ≤ (m 94 30).toInt ∧ (m 94 30).toInt ≤ 1 := h.1 _ ms_94_30
theorem us_94_30 (h : zV m) (h1 : 0 ≤ x.toInt) (h2 : x.toInt ≤ 1) : zV (ma_u m 94 30 x) := zV_u h (fun q hq g1 g2 => by rw [(vs_94_30 q hq g1 g2).1, (vs_94_30 q hq g1 g2).2]; exact ⟨h1, h2⟩) (fun q hq g => absurd g (va_94 q hq))
theorem ms_94_46 : (94, 46, 0, 100000) ∈ zV_s := by decide
theorem vs_94_46 : ∀ q ∈ zV_s, q.1 = 94 → q.2.1 = 46 → q.2.2.1 = 0 ∧ q.2.2.2 = 100000 := by decide
theorem rs_94_46 (h : zV m) : 0 ≤ (m 94 46).toInt ∧ (m 94 46).toInt ≤ 100000 := h.1 _ ms_94_46
theorem us_94_46 (h : zV m) (h1 : 0 ≤ x.toInt) (h2 : x.toInt ≤ 100000) : zV (ma_u m 94 46 x) := zV_u h (fun q hq g1 g2 => by rw [(vs_94_46 q hq g1 g2).1, (vs_94_46 q hq g1 g2).2]; exact ⟨h1, h2⟩) (fun q hq g => absurd g (va_94 q hq))
theorem ms_94_55 : (94, 55, 0, 3100) ∈ zV_s := by decide
theorem vs_94_55 : ∀ q ∈ zV_s, q.1 = 94 → q.2.1 = 55 → q.2.2.1 = 0 ∧ q.2.2.2 = 3100 := by decide
theorem rs_94_55 (h : zV m) : 0 ≤ (m 94 55).toInt ∧ (m 94 55).toInt ≤ 3100 := h.1 _ ms_94_55
theorem us_94_55 (h : zV m) (h1 : 0 ≤ x.toInt) (h2 : x.toInt ≤ 3100) : zV (ma_u m 94 55 x) := zV_u h (fun q hq g1 g2 => by rw [(vs_94_55 q hq g1 g2).1, (vs_94_55 q hq g1 g2).2]; exact ⟨h1, h2⟩) (fun q hq g => absurd g (va_94 q hq))
theorem ms_94_56 : (94, 56, 0, 3100) ∈ zV_s := by decide
theorem vs_94_56 : ∀ q ∈ zV_s, q.1 = 94 → q.2.1 = 56 → q.2.2.1 = 0 ∧ q.2.2.2 = 3100 := by decide
theorem rs_94_56 (h : zV m) : 0 ≤ (m 94 56).toInt ∧ (m 94 56).toInt ≤ 3100 := h.1 _ ms_94_56
theorem us_94_56 (h : zV m) (h1 : 0 ≤ x.toInt) (h2 : x.toInt ≤ 3100) : zV (ma_u m 94 56 x) := zV_u h (fun q hq g1 g2 => by rw [(vs_94_56 q hq g1 g2).1, (vs_94_56 q hq g1 g2).2]; exact ⟨h1, h2⟩) (fun q hq g => absurd g (va_94 q hq))
theorem ms_94_57 : (94, 57, 0, 3100) ∈ zV_s := by decide
theorem vs_94_57 : ∀ q ∈ zV_s, q.1 = 94 → q.2.1 = 57 → q.2.2.1 = 0 ∧ q.2.2.2 = 3100 := by decide
theorem rs_94_57 (h : zV m) : 0 ≤ (m 94 57).toInt ∧ (m 94 57).toInt ≤ 3100 := h.1 _ ms_94_57
theorem us_94_57 (h : zV m) (h1 : 0 ≤ x.toInt) (h2 : x.toInt ≤ 3100) : zV (ma_u m 94 57 x) := zV_u h (fun q hq g1 g2 => by rw [(vs_94_57 q hq g1 g2).1, (vs_94_57 q hq g1 g2).2]; exact ⟨h1, h2⟩) (fun q hq g => absurd g (va_94 q hq))
theorem ms_94_58 : (94, 58, 0, 1) ∈ zV_s := by decide
theorem vs_94_58 : ∀ q ∈ zV_s, q.1 = 94 → q.2.1 = 58 → q.2.2.1 = 0 ∧ q.2.2.2 = 1 := by decide
theorem rs_94_58 (h : zV m) : 0 ≤ (m 94 58).toInt ∧ (m 94 58).toInt ≤ 1 := h.1 _ ms_94_58
theorem us_94_58 (h : zV m) (h1 : 0 ≤ x.toInt) (h2 : x.toInt ≤ 1) : zV (ma_u m 94 58 x) := zV_u h (fun q hq g1 g2 => by rw [(vs_94_58 q hq g1 g2).1, (vs_94_58 q hq g1 g2).2]; exact ⟨h1, h2⟩) (fun q hq g => absurd g (va_94 q hq))
theorem ms_94_59 : (94, 59, 0, 4600) ∈ zV_s := by decide
theorem vs_94_59 : ∀ q ∈ zV_s, q.1 = 94 → q.2.1 = 59 → q.2.2.1 = 0 ∧ q.2.2.2 = 4600 := by decide
theorem rs_94_59 (h : zV m) : 0 ≤ (m 94 59).toInt ∧ (m 94 59).toInt ≤ 4600 := h.1 _ ms_94_59
theorem us_94_59 (h : zV m) (h1 : 0 ≤ x.toInt) (h2 : x.toInt ≤ 4600) : zV (ma_u m 94 59 x) := zV_u h (fun q hq g1 g2 => by rw [(vs_94_59 q hq g1 g2).1, (vs_94_59 q hq g1 g2).2]; exact ⟨h1, h2⟩) (fun q hq g => absurd g (va_94 q hq))
theorem ms_94_60 : (94, 60, 0, 1600) ∈ zV_s := by decide
theorem vs_94_60 : ∀ q ∈ zV_s, q.1 = 94 → q.2.1 = 60 → q.2.2.1 = 0 ∧ q.2.2.2 = 1600 := by decide
theorem rs_94_60 (h : zV m) : 0 ≤ (m 94 60).toInt ∧ (m 94 60).toInt ≤ 1600 := h.1 _ ms_94_60
theorem us_94_60 (h : zV m) (h1 : 0 ≤ x.toInt) (h2 : x.toInt ≤ 1600) : zV (ma_u m 94 60 x) := zV_u h (fun q hq g1 g2 => by rw [(vs_94_60 q hq g1 g2).1, (vs_94_60 q hq g1 g2).2]; exact ⟨h1, h2⟩) (fun q hq g => absurd g (va_94 q hq))
theorem ms_94_61 : (94, 61, 0, 1) ∈ zV_s := by decide
theorem vs_94_61 : ∀ q ∈ zV_s, q.1 = 94 → q.2.1 = 61 → q.2.2.1 = 0 ∧ q.2.2.2 = 1 := by decide
theorem rs_94_61 (h : zV m) : 0 ≤ (m 94 61).toInt ∧ (m 94 61).toInt ≤ 1 := h.1 _ ms_94_61
theorem us_94_61 (h : zV m) (h1 : 0 ≤ x.toInt) (h2 : x.toInt ≤ 1) : zV (ma_u m 94 61 x) := zV_u h (fun q hq g1 g2 => by rw [(vs_94_61 q hq g1 g2).1, (vs_94_61 q hq g1 g2).2]; exact ⟨h1, h2⟩) (fun q hq g => absurd g (va_94 q hq))
theorem ms_94_62 : (94, 62, 0, 4600) ∈ zV_s := by decide
theorem vs_94_62 : ∀ q ∈ zV_s, q.1 = 94 → q.2.1 = 62 → q.2.2.1 = 0 ∧ q.2.2.2 = 4600 := by decide
theorem rs_94_62 (h : zV m) : 0 ≤ (m 94 62).toInt ∧ (m 94 62).toInt ≤ 4600 := h.1 _ ms_94_62
theorem us_94_62 (h : zV m) (h1 : 0 ≤ x.toInt) (h2 : x.toInt ≤ 4600) : zV (ma_u m 94 62 x) := zV_u h (fun q hq g1 g2 => by rw [(vs_94_62 q hq g1 g2).1, (vs_94_62 q hq g1 g2).2]; exact ⟨h1, h2⟩) (fun q hq g => absurd g (va_94 q hq))
theorem ms_94_63 : (94, 63, 0, 127) ∈ zV_s := by decide
theorem vs_94_63 : ∀ q ∈ zV_s, q.1 = 94 → q.2.1 = 63 → q.2.2.1 = 0 ∧ q.2.2.2 = 127 := by decide
theorem rs_94_63 (h : zV m) : 0 ≤ (m 94 63).toInt ∧ (m 94 63).toInt ≤ 127 := h.1 _ ms_94_63
theorem us_94_63 (h : zV m) (h1 : 0 ≤ x.toInt) (h2 : x.toInt ≤ 127) : zV (ma_u m 94 63 x) := zV_u h (fun q hq g1 g2 => by rw [(vs_94_63 q hq g1 g2).1, (vs_94_63 q hq g1 g2).2]; exact ⟨h1, h2⟩) (fun q hq g => absurd g (va_94 q hq))
theorem ms_94_64 : (94, 64, 0, 93) ∈ zV_s := by decide
theorem vs_94_64 : ∀ q ∈ zV_s, q.1 = 94 → q.2.1 = 64 → q.2.2.1 = 0 ∧ q.2.2.2 = 93 := by decide
theorem rs_94_64 (h : zV m) : 0 ≤ (m 94 64).toInt ∧ (m 94 64).toInt ≤ 93 := h.1 _ ms_94_64
theorem us_94_64 (h : zV m) (h1 : 0 ≤ x.toInt) (h2 : x.toInt ≤ 93) : zV (ma_u m 94 64 x) := zV_u h (fun q hq g1 g2 => by rw [(vs_94_64 q hq g1 g2).1, (vs_94_64 q hq g1 g2).2]; exact ⟨h1, h2⟩) (fun q hq g => absurd g (va_94 q hq))
theorem ms_94_67 : (94, 67, 0, 100) ∈ zV_s := by decide
theorem vs_94_67 : ∀ q ∈ zV_s, q.1 = 94 → q.2.1 = 67 → q.2.2.1 = 0 ∧ q.2.2.2 = 100 := by decide
theorem rs_94_67 (h : zV m) : 0 ≤ (m 94 67).toInt ∧ (m 94 67).toInt ≤ 100 := h.1 _ ms_94_67
theorem us_94_67 (h : zV m) (h1 : 0 ≤ x.toInt) (h2 : x.toInt ≤ 100) : zV (ma_u m 94 67 x) := zV_u h (fun q hq g1 g2 => by rw [(vs_94_67 q hq g1 g2).1, (vs_94_67 q hq g1 g2).2]; exact ⟨h1, h2⟩) (fun q hq g => absurd g (va_94 q hq))
theorem ms_94_68 : (94, 68, 0, 100) ∈ zV_s := by decide
theorem vs_94_68 : ∀ q ∈ zV_s, q.1 = 94 → q.2.1 = 68 → q.2.2.1 = 0 ∧ q.2.2.2 = 100 := by decide
theorem rs_94_68 (h : zV m) : 0 ≤ (m 94 68).toInt ∧ (m 94 68).toInt ≤ 100 := h.1 _ ms_94_68
theorem us_94_68 (h : zV m) (h1 : 0 ≤ x.toInt) (h2 : x.toInt ≤ 100) : zV (ma_u m 94 68 x) := zV_u h (fun q hq g1 g2 => by rw [(vs_94_68 q hq g1 g2).1, (vs_94_68 q hq g1 g2).2]; exact ⟨h1, h2⟩) (fun q hq g => absurd g (va_94 q hq))
theorem ms_94_69 : (94, 69, 0, 100) ∈ zV_s := by decide
theorem vs_94_69 : ∀ q ∈ zV_s, q.1 = 94 → q.2.1 = 69 → q.2.2.1 = 0 ∧ q.2.2.2 = 100 := by decide
theorem rs_94_69 (h : zV m) : 0 ≤ (m 94 69).toInt ∧ (m 94 69).toInt ≤ 100 := h.1 _ ms_94_69
theorem us_94_69 (h : zV m) (h1 : 0 ≤ x.toInt) (h2 : x.toInt ≤ 100) : zV (ma_u m 94 69 x) := zV_u h (fun q hq g1 g2 => by rw [(vs_94_69 q hq g1 g2).1, (vs_94_69 q hq g1 g2).2]; exact ⟨h1, h2⟩) (fun q hq g => absurd g (va_94 q hq))
theorem ms_94_70 : (94, 70, 0, 100) ∈ zV_s := by decide
theorem vs_94_70 : ∀ q ∈ zV_s, q.1 = 94 → q.2.1 = 70 → q.2.2.1 = 0 ∧ q.2.2.2 = 100 := by decide
theorem rs_94_70 (h : zV m) : 0 ≤ (m 94 70).toInt ∧ (m 94 70).toInt ≤ 100 := h.1 _ ms_94_70
theorem us_94_70 (h : zV m) (h1 : 0 ≤ x.toInt) (h2 : x.toInt ≤ 100) : zV (ma_u m 94 70 x) := zV_u h (fun q hq g1 g2 => by rw [(vs_94_70 q hq g1 g2).1, (vs_94_70 q hq g1 g2).2]; exact ⟨h1, h2⟩) (fun q hq g => absurd g (va_94 q hq))
theorem ms_94_73 : (94, 73, 0, 3100) ∈ zV_s := by decide
theorem vs_94_73 : ∀ q ∈ zV_s, q.1 = 94 → q.2.1 = 73 → q.2.2.1 = 0 ∧ q.2.2.2 = 3100 := by decide
theorem rs_94_73 (h : zV m) : 0 ≤ (m 94 73).toInt ∧ (m 94 73).toInt ≤ 3100 := h.1 _ ms_94_73
theorem us_94_73 (h : zV m) (h1 : 0 ≤ x.toInt) (h2 : x.toInt ≤ 3100) : zV (ma_u m 94 73 x) := zV_u h (fun q hq g1 g2 => by rw [(vs_94_73 q hq g1 g2).1, (vs_94_73 q hq g1 g2).2]; exact ⟨h1, h2⟩) (fun q hq g => absurd g (va_94 q hq))
theorem ms_94_75 : (94, 75, 0, 3100) ∈ zV_s := by decide
theorem vs_94_75 : ∀ q ∈ zV_s, q.1 = 94 → q.2.1 = 75 → q.2.2.1 = 0 ∧ q.2.2.2 = 3100 := by decide
theorem rs_94_75 (h : zV m) : 0 ≤ (m 94 75).toInt ∧ (m 94 75).toInt ≤ 3100 := h.1 _ ms_94_75
theorem us_94_75 (h : zV m) (h1 : 0 ≤ x.toInt) (h2 : x.toInt ≤ 3100) : zV (ma_u m 94 75 x) := zV_u h (fun q hq g1 g2 => by rw [(vs_94_75 q hq g1 g2).1, (vs_94_75 q hq g1 g2).2]; exact ⟨h1, h2⟩) (fun q hq g => absurd g (va_94 q hq))
theorem ms_94_76 : (94, 76, 0, 3100) ∈ zV_s := by decide
theorem vs_94_76 : ∀ q ∈ zV_s, q.1 = 94 → q.2.1 = 76 → q.2.2.1 = 0 ∧ q.2.2.2 = 3100 := by decide
theorem rs_94_76 (h : zV m) : 0 ≤ (m 94 76).toInt ∧ (m 94 76).toInt ≤ 3100 := h.1 _ ms_94_76
theorem us_94_76 (h : zV m) (h1 : 0 ≤ x.toInt) (h2 : x.toInt ≤ 3100) : zV (ma_u m 94 76 x) := zV_u h (fun q hq g1 g2 => by rw [(vs_94_76 q hq g1 g2).1, (vs_94_76 q hq g1 g2).2]; exact ⟨h1, h2⟩) (fun q hq g => absurd g (va_94 q hq))
theorem ms_94_77 : (94, 77, 0, 4600) ∈ zV_s := by decide
theorem vs_94_77 : ∀ q ∈ zV_s, q.1 = 94 → q.2.1 = 77 → q.2.2.1 = 0 ∧ q.2.2.2 = 4600 := by decide
theorem rs_94_77 (h : zV m) : 0 ≤ (m 94 77).toInt ∧ (m 94 77).toInt ≤ 4600 := h.1 _ ms_94_77
theorem us_94_77 (h : zV m) (h1 : 0 ≤ x.toInt) (h2 : x.toInt ≤ 4600) : zV (ma_u m 94 77 x) := zV_u h (fun q hq g1 g2 => by rw [(vs_94_77 q hq g1 g2).1, (vs_94_77 q hq g1 g2).2]; exact ⟨h1, h2⟩) (fun q hq g => absurd g (va_94 q hq))
theorem ms_94_80 : (94, 80, 0, 3100) ∈ zV_s := by decide
theorem vs_94_80 : ∀ q ∈ zV_s, q.1 = 94 → q.2.1 = 80 → q.2.2.1 = 0 ∧ q.2.2.2 = 3100 := by decide
theorem rs_94_80 (h : zV m) : 0 ≤ (m 94 80).toInt ∧ (m 94 80).toInt ≤ 3100 := h.1 _ ms_94_80
theorem us_94_80 (h : zV m) (h1 : 0 ≤ x.toInt) (h2 : x.toInt ≤ 3100) : zV (ma_u m 94 80 x) := zV_u h (fun q hq g1 g2 => by rw [(vs_94_80 q hq g1 g2).1, (vs_94_80 q hq g1 g2).2]; exact ⟨h1, h2⟩) (fun q hq g => absurd g (va_94 q hq))
theorem ms_94_84 : (94, 84, 0, 4600) ∈ zV_s := by decide
theorem vs_94_84 : ∀ q ∈ zV_s, q.1 = 94 → q.2.1 = 84 → q.2.2.1 = 0 ∧ q.2.2.2 = 4600 := by decide
theorem rs_94_84 (h : zV m) : 0 ≤ (m 94 84).toInt ∧ (m 94 84).toInt ≤ 4600 := h.1 _ ms_94_84
theorem us_94_84 (h : zV m) (h1 : 0 ≤ x.toInt) (h2 : x.toInt ≤ 4600) : zV (ma_u m 94 84 x) := zV_u h (fun q hq g1 g2 => by rw [(vs_94_84 q hq g1 g2).1, (vs_94_84 q hq g1 g2).2]; exact ⟨h1, h2⟩) (fun q hq g => absurd g (va_94 q hq))
theorem uf_94_0 (h : zV m) : zV (ma_u m 94 0 x) := zV_u h (fun q hq g1 g2 => absurd g2 ((by decide : ∀ q ∈ zV_s, q.2.1 ≠ 0) q hq)) (fun q hq g => absurd g (va_94 q hq))
theorem uf_94_12 (h : zV m) : zV (ma_u m 94 12 x) := zV_u h (fun q hq g1 g2 => absurd g2 ((by decide : ∀ q ∈ zV_s, q.2.1 ≠ 12) q hq)) (fun q hq g => absurd g (va_94 q hq))
theorem uf_94_15 (h : zV m) : zV (ma_u m 94 15 x) := zV_u h (fun q hq g1 g2 => absurd g2 ((by decide : ∀ q ∈ zV_s, q.2.1 ≠ 15) q hq)) (fun q hq g => absurd g (va_94 q hq))
theorem uf_94_17 (h : zV m) : zV (ma_u m 94 17 x) := zV_u h (fun q hq g1 g2 => absurd g2 ((by decide : ∀ q ∈ zV_s, q.2.1 ≠ 17) q hq)) (fun q hq g => absurd g (va_94 q hq))
theorem uf_94_19 (h : zV m) : zV (ma_u m 94 19 x) := zV_u h (fun q hq g1 g2 => absurd g2 ((by decide : ∀ q ∈ zV_s, q.2.1 ≠ 19) q hq)) (fun q hq g => absurd g (va_94 q hq))
theorem uf_94_22 (h : zV m) : zV (ma_u m 94 22 x) := zV_u h (fun q hq g1 g2 => absurd g2 ((by decide : ∀ q ∈ zV_s, q.2.1 ≠ 22) q hq)) (fun q hq g => absurd g (va_94 q hq))
theorem uf_94_25 (h : zV m) : zV (ma_u m 94 25 x) := zV_u h (fun q hq g1 g2 => absurd g2 ((by decide : ∀ q ∈ zV_s, q.2.1 ≠ 25) q hq)) (fun q hq g => absurd g (va_94 q hq))
theorem uf_94_27 (h : zV m) : zV (ma_u m 94 27 x) := zV_u h (fun q hq g1 g2 => absurd g2 ((by decide : ∀ q ∈ zV_s, q.2.1 ≠ 27) q hq)) (fun q hq g => absurd g (va_94 q hq))
theorem uf_94_29 (h : zV m) : zV (ma_u m 94 29 x) := zV_u h (fun q hq g1 g2 => absurd g2 ((by decide : ∀ q ∈ zV_s, q.2.1 ≠ 29) q hq)) (fun q hq g => absurd g (va_94 q hq))
theorem uf_94_44 (h : zV m) : zV (ma_u m 94 44 x) := zV_u h (fun q hq g1 g2 => absurd g2 ((by decide : ∀ q ∈ zV_s, q.2.1 ≠ 44) q hq)) (fun q hq g => absurd g (va_94 q hq))
theorem uf_94_45 (h : zV m) : zV (ma_u m 94 45 x) := zV_u h (fun q hq g1 g2 => absurd g2 ((by decide : ∀ q ∈ zV_s, q.2.1 ≠ 45) q hq)) (fun q hq g => absurd g (va_94 q hq))
theorem uf_94_47 (h : zV m) : zV (ma_u m 94 47 x) := zV_u h (fun q hq g1 g2 => absurd g2 ((by decide : ∀ q ∈ zV_s, q.2.1 ≠ 47) q hq)) (fun q hq g => absurd g (va_94 q hq))
theorem uf_94_48 (h : zV m) : zV (ma_u m 94 48 x) := zV_u h (fun q hq g1 g2 => absurd g2 ((by decide : ∀ q ∈ zV_s, q.2.1 ≠ 48) q hq)) (fun q hq g => absurd g (va_94 q hq))
theorem uf_94_49 (h : zV m) : zV (ma_u m 94 49 x) := zV_u h (fun q hq g1 g2 => absurd g2 ((by decide : ∀ q ∈ zV_s, q.2.1 ≠ 49) q hq)) (fun q hq g => absurd g (va_94 q hq))
theorem uf_94_50 (h : zV m) : zV (ma_u m 94 50 x) := zV_u h (fun q hq g1 g2 => absurd g2 ((by decide : ∀ q ∈ zV_s, q.2.1 ≠ 50) q hq)) (fun q hq g => absurd g (va_94 q hq))
theorem uf_94_71 (h : zV m) : zV (ma_u m 94 71 x) := zV_u h (fun q hq g1 g2 => absurd g2 ((by decide : ∀ q ∈ zV_s, q.2.1 ≠ 71) q hq)) (fun q hq g => absurd g (va_94 q hq))
theorem vn_s : ∀ q ∈ zV_s, q.1 = 94 := by decide
theorem ua_95 (h : zV m) : zV (ma_u m 95 k x) := zV_u h (fun q hq g1 g2 => by rw [vn_s q hq] at g1; cases g1) (fun q hq g => absurd g ((by decide : ∀ q ∈ zV_a, q.1 ≠ 95) q hq))
theorem ua_96 (h : zV m) : zV (ma_u m 96 k x) := zV_u h (fun q hq g1 g2 => by rw [vn_s q hq] at g1; cases g1) (fun q hq g => absurd g ((by decide : ∀ q ∈ zV_a, q.1 ≠ 96) q hq))
theorem ma_97 : (97, 16, 0, 8) ∈ zV_a := by decide
theorem va_97 : ∀ q ∈ zV_a, q.1 = 97 → q.2.2.1 = 0 ∧ q.2.2.2 = 8 := by decide
theorem ra_97 (h : zV m) (hk : k < 16) : 0 ≤ (m 97 k).toInt ∧ (m 97 k).toInt ≤ 8 := h.2 _ ma_97 k hk
theorem ua_97 (h : zV m) (h1 : 0 ≤ x.toInt) (h2 : x.toInt ≤ 8) : zV (ma_u m 97 k x) := zV_u h (fun q hq g1 g2 => by rw [vn_s q hq] at g1; cases g1) (fun q hq g => by rw [(va_97 q hq g).1, (va_97 q hq g).2]; exact ⟨h1, h2⟩)
theorem ma_98 : (98, 16, 0, 255) ∈ zV_a := by decide
theorem va_98 : ∀ q ∈ zV_a, q.1 = 98 → q.2.2.1 = 0 ∧ q.2.2.2 = 255 := by decide
theorem ra_98 (h : zV m) (hk : k < 16) : 0 ≤ (m 98 k).toInt ∧ (m 98 k).toInt ≤ 255 := h.2 _ ma_98 k hk
theorem ua_98 (h : zV m) (h1 : 0 ≤ x.toInt) (h2 : x.toInt ≤ 255) : zV (ma_u m 98 k x) := zV_u h (fun q hq g1 g2 => by rw [vn_s q hq] at g1; cases g1) (fun q hq g => by rw [(va_98 q hq g).1, (va_98 q hq g).2]; exact ⟨h1, h2⟩)
theorem ma_99 : (99, 3100, 0, 1) ∈ zV_a := by decide
theorem va_99 : ∀ q ∈ zV_a, q.1 = 99 → q.2.2.1 = 0 ∧ q.2.2.2 = 1 := by decide
theorem ra_99 (h : zV m) (hk : k < 3100) : 0 ≤ (m 99 k).toInt ∧ (m 99 k).toInt ≤ 1 := h.2 _ ma_99 k hk
theorem ua_99 (h : zV m) (h1 : 0 ≤ x.toInt) (h2 : x.toInt ≤ 1) : zV (ma_u m 99 k x) := zV_u h (fun q hq g1 g2 => by rw [vn_s q hq] at g1; cases g1) (fun q hq g => by rw [(va_99 q hq g).1, (va_99 q hq g).2]; exact ⟨h1, h2⟩)
theorem ma_100 : (100, 3100, 0, 100000) ∈ zV_a := by decide
theorem va_100 : ∀ q ∈ zV_a, q.1 = 100 → q.2.2.1 = 0 ∧ q.2.2.2 = 100000 := by decide
theorem ra_100 (h : zV m) (hk : k < 3100) : 0 ≤ (m 100 k).toInt ∧ (m 100 k).toInt ≤ 100000 := h.2 _ ma_100 k hk
theorem ua_100 (h : zV m) (h1 : 0 ≤ x.toInt) (h2 : x.toInt ≤ 100000) : zV (ma_u m 100 k x) := zV_u h (fun q hq g1 g2 => by rw [vn_s q hq] at g1; cases g1) (fun q hq g => by rw [(va_100 q hq g).1, (va_100 q hq g).2]; exact ⟨h1, h2⟩)
theorem ma_101 : (101, 3100, 0, 17) ∈ zV_a := by decide
theorem va_101 : ∀ q ∈ zV_a, q.1 = 101 → q.2.2.1 = 0 ∧ q.2.2.2 = 17 := by decide
theorem ra_101 (h : zV m) (hk : k < 3100) : 0 ≤ (m 101 k).toInt ∧ (m 101 k).toInt ≤ 17 := h.2 _ ma_101 k hk
theorem ua_101 (h : zV m) (h1 : 0 ≤ x.toInt) (h2 : x.toInt ≤ 17) : zV (ma_u m 101 k x) := zV_u h (fun q hq g1 g2 => by rw [vn_s q hq] at g1; cases g1) (fun q hq g => by rw [(va_101 q hq g).1, (va_101 q hq g).2]; exact ⟨h1, h2⟩)
theorem ma_102 : (102, 3100, 0, 60) ∈ zV_a := by decide
theorem va_102 : ∀ q ∈ zV_a, q.1 = 102 → q.2.2.1 = 0 ∧ q.2.2.2 = 60 := by decide
theorem ra_102 (h : zV m) (hk : k < 3100) : 0 ≤ (m 102 k).toInt ∧ (m 102 k).toInt ≤ 60 := h.2 _ ma_102 k hk
theorem ua_102 (h : zV m) (h1 : 0 ≤ x.toInt) (h2 : x.toInt ≤ 60) : zV (ma_u m 102 k x) := zV_u h (fun q hq g1 g2 => by rw [vn_s q hq] at g1; cases g1) (fun q hq g => by rw [(va_102 q hq g).1, (va_102 q hq g).2]; exact ⟨h1, h2⟩)
theorem ma_103 : (103, 3100, 0, 4599) ∈ zV_a := by decide
theorem va_103 : ∀ q ∈ zV_a, q.1 = 103 → q.2.2.1 = 0 ∧ q.2.2.2 = 4599 := by decide
theorem ra_103 (h : zV m) (hk : k < 3100) : 0 ≤ (m 103 k).toInt ∧ (m 103 k).toInt ≤ 4599 := h.2 _ ma_103 k hk
theorem ua_103 (h : zV m) (h1 : 0 ≤ x.toInt) (h2 : x.toInt ≤ 4599) : zV (ma_u m 103 k x) := zV_u h (fun q hq g1 g2 => by rw [vn_s q hq] at g1; cases g1) (fun q hq g => by rw [(va_103 q hq g).1, (va_103 q hq g).2]; exact ⟨h1, h2⟩)
theorem ua_104 (h : zV m) : zV (ma_u m 104 k x) := zV_u h (fun q hq g1 g2 => by rw [vn_s q hq] at g1; cases g1) (fun q hq g => absurd g ((by decide : ∀ q ∈ zV_a, q.1 ≠ 104) q hq))
theorem ua_105 (h : zV m) : zV (ma_u m 105 k x) := zV_u h (fun q hq g1 g2 => by rw [vn_s q hq] at g1; cases g1) (fun q hq g => absurd g ((by decide : ∀ q ∈ zV_a, q.1 ≠ 105) q hq))
theorem ua_106 (h : zV m) : zV (ma_u m 106 k x) := zV_u h (fun q hq g1 g2 => by rw [vn_s q hq] at g1; cases g1) (fun q hq g => absurd g ((by decide : ∀ q ∈ zV_a, q.1 ≠ 106) q hq))
theorem ua_107 (h : zV m) : zV (ma_u m 107 k x) := zV_u h (fun q hq g1 g2 => by rw [vn_s q hq] at g1; cases g1) (fun q hq g => absurd g ((by decide : ∀ q ∈ zV_a, q.1 ≠ 107) q hq))
theorem ua_108 (h : zV m) : zV (ma_u m 108 k x) := zV_u h (fun q hq g1 g2 => by rw [vn_s q hq] at g1; cases g1) (fun q hq g => absurd g ((by decide : ∀ q ∈ zV_a, q.1 ≠ 108) q hq))
theorem ma_109 : (109, 3100, 0, 1) ∈ zV_a := by decide
theorem va_109 : ∀ q ∈ zV_a, q.1 = 109 → q.2.2.1 = 0 ∧ q.2.2.2 = 1 := by decide
theorem ra_109 (h : zV m) (hk : k < 3100) : 0 ≤ (m 109 k).toInt ∧ (m 109 k).toInt ≤ 1 := h.2 _ ma_109 k hk
theorem ua_109 (h : zV m) (h1 : 0 ≤ x.toInt) (h2 : x.toInt ≤ 1) : zV (ma_u m 109 k x) := zV_u h (fun q hq g1 g2 => by rw [vn_s q hq] at g1; cases g1) (fun q hq g => by rw [(va_109 q hq g).1, (va_109 q hq g).2]; exact ⟨h1, h2⟩)
theorem ma_110 : (110, 3100, 0, 1) ∈ zV_a := by decide
theorem va_110 : ∀ q ∈ zV_a, q.1 = 110 → q.2.2.1 = 0 ∧ q.2.2.2 = 1 := by decide
theorem ra_110 (h : zV m) (hk : k < 3100) : 0 ≤ (m 110 k).toInt ∧ (m 110 k).toInt ≤ 1 := h.2 _ ma_110 k hk
theorem ua_110 (h : zV m) (h1 : 0 ≤ x.toInt) (h2 : x.toInt ≤ 1) : zV (ma_u m 110 k x) := zV_u h (fun q hq g1 g2 => by rw [vn_s q hq] at g1; cases g1) (fun q hq g => by rw [(va_110 q hq g).1, (va_110 q hq g).2]; exact ⟨h1, h2⟩)
theorem ma_111 : (111, 4600, -1, 3099) ∈ zV_a := by decide
theorem va_111 : ∀ q ∈ zV_a, q.1 = 111 → q.2.2.1 = -1 ∧ q.2.2.2 = 3099 := by decide
theorem ra_111 (h : zV m) (hk : k < 4600) : -1 ≤ (m 111 k).toInt ∧ (m 111 k).toInt ≤ 3099 := h.2 _ ma_111 k hk
theorem ua_111 (h : zV m) (h1 : -1 ≤ x.toInt) (h2 : x.toInt ≤ 3099) : zV (ma_u m 111 k x) := zV_u h (fun q hq g1 g2 => by rw [vn_s q hq] at g1; cases g1) (fun q hq g => by rw [(va_111 q hq g).1, (va_111 q hq g).2]; exact ⟨h1, h2⟩)
theorem ma_112 : (112, 16, -1, 3099) ∈ zV_a := by decide
theorem va_112 : ∀ q ∈ zV_a, q.1 = 112 → q.2.2.1 = -1 ∧ q.2.2.2 = 3099 := by decide
theorem ra_112 (h : zV m) (hk : k < 16) : -1 ≤ (m 112 k).toInt ∧ (m 112 k).toInt ≤ 3099 := h.2 _ ma_112 k hk
theorem ua_112 (h : zV m) (h1 : -1 ≤ x.toInt) (h2 : x.toInt ≤ 3099) : zV (ma_u m 112 k x) := zV_u h (fun q hq g1 g2 => by rw [vn_s q hq] at g1; cases g1) (fun q hq g => by rw [(va_112 q hq g).1, (va_112 q hq g).2]; exact ⟨h1, h2⟩)
theorem ma_113 : (113, 16, -1, 3099) ∈ zV_a := by decide
theorem va_113 : ∀ q ∈ zV_a, q.1 = 113 → q.2.2.1 = -1 ∧ q.2.2.2 = 3099 := by decide
theorem ra_113 (h : zV m) (hk : k < 16) : -1 ≤ (m 113 k).toInt ∧ (m 113 k).toInt ≤ 3099 := h.2 _ ma_113 k hk
theorem ua_113 (h : zV m) (h1 : -1 ≤ x.toInt) (h2 : x.toInt ≤ 3099) : zV (ma_u m 113 k x) := zV_u h (fun q hq g1 g2 => by rw [vn_s q hq] at g1; cases g1) (fun q hq g => by rw [(va_113 q hq g).1, (va_113 q hq g).2]; exact ⟨h1, h2⟩)
theorem ma_114 : (114, 3100, 0, 3099) ∈ zV_a := by decide
theorem va_114 : ∀ q ∈ zV_a, q.1 = 114 → q.2.2.1 = 0 ∧ q.2.2.2 = 3099 := by decide
theorem ra_114 (h : zV m) (hk : k < 3100) : 0 ≤ (m 114 k).toInt ∧ (m 114 k).toInt ≤ 3099 := h.2 _ ma_114 k hk
theorem ua_114 (h : zV m) (h1 : 0 ≤ x.toInt) (h2 : x.toInt ≤ 3099) : zV (ma_u m 114 k x) := zV_u h (fun q hq g1 g2 => by rw [vn_s q hq] at g1; cases g1) (fun q hq g => by rw [(va_114 q hq g).1, (va_114 q hq g).2]; exact ⟨h1, h2⟩)
theorem ma_115 : (115, 3100, 0, 3099) ∈ zV_a := by decide
theorem va_115 : ∀ q ∈ zV_a, q.1 = 115 → q.2.2.1 = 0 ∧ q.2.2.2 = 3099 := by decide
theorem ra_115 (h : zV m) (hk : k < 3100) : 0 ≤ (m 115 k).toInt ∧ (m 115 k).toInt ≤ 3099 := h.2 _ ma_115 k hk
theorem ua_115 (h : zV m) (h1 : 0 ≤ x.toInt) (h2 : x.toInt ≤ 3099) : zV (ma_u m 115 k x) := zV_u h (fun q hq g1 g2 => by rw [vn_s q hq] at g1; cases g1) (fun q hq g => by rw [(va_115 q hq g).1, (va_115 q hq g).2]; exact ⟨h1, h2⟩)
theorem ma_116 : (116, 128, 0, 4600) ∈ zV_a := by decide
theorem va_116 : ∀ q ∈ zV_a, q.1 = 116 → q.2.2.1 = 0 ∧ q.2.2.2 = 4600 := by decide
theorem ra_116 (h : zV m) (hk : k < 128) : 0 ≤ (m 116 k).toInt ∧ (m 116 k).toInt ≤ 4600 := h.2 _ ma_116 k hk
theorem ua_116 (h : zV m) (h1 : 0 ≤ x.toInt) (h2 : x.toInt ≤ 4600) : zV (ma_u m 116 k x) := zV_u h (fun q hq g1 g2 => by rw [vn_s q hq] at g1; cases g1) (fun q hq g => by rw [(va_116 q hq g).1, (va_116 q hq g).2]; exact ⟨h1, h2⟩)
theorem ma_117 : (117, 512, 0, 1) ∈ zV_a := by decide
theorem va_117 : ∀ q ∈ zV_a, q.1 = 117 → q.2.2.1 = 0 ∧ q.2.2.2 = 1 := by decide
theorem ra_117 (h : zV m) (hk : k < 512) : 0 ≤ (m 117 k).toInt ∧ (m 117 k).toInt ≤ 1 := h.2 _ ma_117 k hk
theorem ua_117 (h : zV m) (h1 : 0 ≤ x.toInt) (h2 : x.toInt ≤ 1) : zV (ma_u m 117 k x) := zV_u h (fun q hq g1 g2 => by rw [vn_s q hq] at g1; cases g1) (fun q hq g => by rw [(va_117 q hq g).1, (va_117 q hq g).2]; exact ⟨h1, h2⟩)
theorem ma_118 : (118, 3100, 0, 3099) ∈ zV_a := by decide
theorem va_118 : ∀ q ∈ zV_a, q.1 = 118 → q.2.2.1 = 0 ∧ q.2.2.2 = 3099 := by decide
theorem ra_118 (h : zV m) (hk : k < 3100) : 0 ≤ (m 118 k).toInt ∧ (m 118 k).toInt ≤ 3099 := h.2 _ ma_118 k hk
theorem ua_118 (h : zV m) (h1 : 0 ≤ x.toInt) (h2 : x.toInt ≤ 3099) : zV (ma_u m 118 k x) := zV_u h (fun q hq g1 g2 => by rw [vn_s q hq] at g1; cases g1) (fun q hq g => by rw [(va_118 q hq g).1, (va_118 q hq g).2]; exact ⟨h1, h2⟩)
theorem ma_119 : (119, 3100, 0, 3099) ∈ zV_a := by decide
theorem va_119 : ∀ q ∈ zV_a, q.1 = 119 → q.2.2.1 = 0 ∧ q.2.2.2 = 3099 := by decide
theorem ra_119 (h : zV m) (hk : k < 3100) : 0 ≤ (m 119 k).toInt ∧ (m 119 k).toInt ≤ 3099 := h.2 _ ma_119 k hk
theorem ua_119 (h : zV m) (h1 : 0 ≤ x.toInt) (h2 : x.toInt ≤ 3099) : zV (ma_u m 119 k x) := zV_u h (fun q hq g1 g2 => by rw [vn_s q hq] at g1; cases g1) (fun q hq g => by rw [(va_119 q hq g).1, (va_119 q hq g).2]; exact ⟨h1, h2⟩)
theorem ma_120 : (120, 3100, 0, 3099) ∈ zV_a := by decide
theorem va_120 : ∀ q ∈ zV_a, q.1 = 120 → q.2.2.1 = 0 ∧ q.2.2.2 = 3099 := by decide
theorem ra_120 (h : zV m) (hk : k < 3100) : 0 ≤ (m 120 k).toInt ∧ (m 120 k).toInt ≤ 3099 := h.2 _ ma_120 k hk
theorem ua_120 (h : zV m) (h1 : 0 ≤ x.toInt) (h2 : x.toInt ≤ 3099) : zV (ma_u m 120 k x) := zV_u h (fun q hq g1 g2 => by rw [vn_s q hq] at g1; cases g1) (fun q hq g => by rw [(va_120 q hq g).1, (va_120 q hq g).2]; exact ⟨h1, h2⟩)
theorem ma_121 : (121, 3100, 0, 60) ∈ zV_a := by decide
theorem va_121 : ∀ q ∈ zV_a, q.1 = 121 → q.2.2.1 = 0 ∧ q.2.2.2 = 60 := by decide
theorem ra_121 (h : zV m) (hk : k < 3100) : 0 ≤ (m 121 k).toInt ∧ (m 121 k).toInt ≤ 60 := h.2 _ ma_121 k hk
theorem ua_121 (h : zV m) (h1 : 0 ≤ x.toInt) (h2 : x.toInt ≤ 60) : zV (ma_u m 121 k x) := zV_u h (fun q hq g1 g2 => by rw [vn_s q hq] at g1; cases g1) (fun q hq g => by rw [(va_121 q hq g).1, (va_121 q hq g).2]; exact ⟨h1, h2⟩)
theorem ua_122 (h : zV m) : zV (ma_u m 122 k x) := zV_u h (fun q hq g1 g2 => by rw [vn_s q hq] at g1; cases g1) (fun q hq g => absurd g ((by decide : ∀ q ∈ zV_a, q.1 ≠ 122) q hq))
theorem ma_123 : (123, 128, 0, 1) ∈ zV_a := by decide
theorem va_123 : ∀ q ∈ zV_a, q.1 = 123 → q.2.2.1 = 0 ∧ q.2.2.2 = 1 := by decide
theorem ra_123 (h : zV m) (hk : k < 128) : 0 ≤ (m 123 k).toInt ∧ (m 123 k).toInt ≤ 1 := h.2 _ ma_123 k hk
theorem ua_123 (h : zV m) (h1 : 0 ≤ x.toInt) (h2 : x.toInt ≤ 1) : zV (ma_u m 123 k x) := zV_u h (fun q hq g1 g2 => by rw [vn_s q hq] at g1; cases g1) (fun q hq g => by rw [(va_123 q hq g).1, (va_123 q hq g).2]; exact ⟨h1, h2⟩)
theorem ma_124 : (124, 128, 0, 1) ∈ zV_a := by decide
theorem va_124 : ∀ q ∈ zV_a, q.1 = 124 → q.2.2.1 = 0 ∧ q.2.2.2 = 1 := by decide
theorem ra_124 (h : zV m) (hk : k < 128) : 0 ≤ (m 124 k).toInt ∧ (m 124 k).toInt ≤ 1 := h.2 _ ma_124 k hk
theorem ua_124 (h : zV m) (h1 : 0 ≤ x.toInt) (h2 : x.toInt ≤ 1) : zV (ma_u m 124 k x) := zV_u h (fun q hq g1 g2 => by rw [vn_s q hq] at g1; cases g1) (fun q hq g => by rw [(va_124 q hq g).1, (va_124 q hq g).2]; exact ⟨h1, h2⟩)
end ZV1
