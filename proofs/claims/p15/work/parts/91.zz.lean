/-! INTS as integers, and what store and walk keep -/
theorem zt {c A B : Prop} [Decidable c] (hc : c) (h : A) : if c then A else B := by rw [if_pos hc]; exact h
theorem zf {c A B : Prop} [Decidable c] (hc : ¬ c) (h : B) : if c then A else B := by rw [if_neg hc]; exact h
theorem zd {c A B : Prop} [Decidable c] (h1 : c → A) (h2 : ¬ c → B) : if c then A else B := by
  by_cases hc : c
  · exact zt hc (h1 hc)
  · exact zf hc (h2 hc)
theorem zi_x {K : Int32 → ma_S → Prop} {E : Nat → ma_S → Prop} {x : Nat} {S : ma_S} (h : E x S) : zi K E (.inr x) S := h
theorem zi_n {K : Int32 → ma_S → Prop} {E : Nat → ma_S → Prop} {v : Int32} {S : ma_S} (h : K v S) : zi K E (.inl (some (.inl v))) S := h
theorem zo_n {K : Option Nat → ma_S → Prop} {E : Nat → ma_S → Prop} {v : Option Nat} {S : ma_S} (h : K v S) : zo K E (.inl (some (.inr (.inr v)))) S := h
theorem zv_n {K : ma_S → Prop} {E : Nat → ma_S → Prop} {S : ma_S} (h : K S) : zv K E (.inl none) S := h
theorem zfi_n {K : Int32 → ma_S → Prop} {v : Int32} {S : ma_S} (h : K v S) : zfi_ K (some (.inl v)) S := h
theorem i_add {x y : Int32} (h1 : -2147483648 ≤ x.toInt + y.toInt) (h2 : x.toInt + y.toInt ≤ 2147483647) : (x + y).toInt = x.toInt + y.toInt := by
  rw [Int32.toInt_add]
  exact Int.bmod_eq_of_le (by omega) (by omega)
theorem i_sub {x y : Int32} (h1 : -2147483648 ≤ x.toInt - y.toInt) (h2 : x.toInt - y.toInt ≤ 2147483647) : (x - y).toInt = x.toInt - y.toInt := by
  rw [Int32.toInt_sub]
  exact Int.bmod_eq_of_le (by omega) (by omega)
theorem i_mul {x y : Int32} (h1 : -2147483648 ≤ x.toInt * y.toInt) (h2 : x.toInt * y.toInt ≤ 2147483647) : (x * y).toInt = x.toInt * y.toInt := by
  rw [Int32.toInt_mul]
  exact Int.bmod_eq_of_le (by omega) (by omega)
theorem i_addk {x y : Int32} {k : Int} (hk : y.toInt = k) (h1 : -2147483648 ≤ x.toInt + k) (h2 : x.toInt + k ≤ 2147483647) : (x + y).toInt = x.toInt + k := by
  rw [← hk] at h1 h2 ⊢
  exact i_add h1 h2
theorem i_subk {x y : Int32} {k : Int} (hk : y.toInt = k) (h1 : -2147483648 ≤ x.toInt - k) (h2 : x.toInt - k ≤ 2147483647) : (x - y).toInt = x.toInt - k := by
  rw [← hk] at h1 h2 ⊢
  exact i_sub h1 h2
theorem i_lt {x y : Int32} (h : x < y) : x.toInt < y.toInt := Int32.lt_iff_toInt_lt.mp h
theorem i_le {x y : Int32} (h : x ≤ y) : x.toInt ≤ y.toInt := Int32.le_iff_toInt_le.mp h
theorem i_eq {x y : Int32} (h : x = y) : x.toInt = y.toInt := by rw [h]
theorem i_nlt {x y : Int32} (h : ¬ x < y) : y.toInt ≤ x.toInt := Int32.le_iff_toInt_le.mp (Int32.not_lt.mp h)
theorem i_nle {x y : Int32} (h : ¬ x ≤ y) : y.toInt < x.toInt := Int32.lt_iff_toInt_lt.mp (Int32.not_le.mp h)
theorem i_ne {x y : Int32} (h : ¬ x = y) : x.toInt ≠ y.toInt := fun z => h (Int32.toInt_inj.mp z)
theorem i_ix {x : Int32} {n : Nat} (h1 : 0 ≤ x.toInt) (h2 : x.toInt < (n : Int)) : 0 ≤ x ∧ x.toNatClampNeg < n := by
  refine ⟨Int32.le_iff_toInt_le.mpr h1, ?_⟩
  show x.toInt.toNat < n
  omega
theorem i_bd (x : Int32) : -2147483648 ≤ x.toInt ∧ x.toInt ≤ 2147483647 := by
  have h1 := x.le_toInt
  have h2 := x.toInt_lt
  constructor
  · exact h1
  · omega
theorem i_bool {x : Int32} (h1 : 0 ≤ x.toInt) (h2 : x.toInt ≤ 1) : x = 0 ∨ x = 1 := by
  have h : x.toInt = 0 ∨ x.toInt = 1 := by omega
  rcases h with h | h
  · exact Or.inl (Int32.toInt_inj.mp (h.trans (rfl : (0 : Int32).toInt = 0).symm))
  · exact Or.inr (Int32.toInt_inj.mp (h.trans (rfl : (1 : Int32).toInt = 1).symm))
theorem i_div {x y : Int32} (h1 : 0 ≤ x.toInt) (h2 : 1 ≤ y.toInt) : 0 ≤ (x / y).toInt ∧ (x / y).toInt ≤ x.toInt ∧ (x / y).toInt = x.toInt / y.toInt ∧ (x / y).toInt * y.toInt ≤ x.toInt := by
  have e : (x / y).toInt = x.toInt / y.toInt := by
    rw [Int32.toInt_div, Int.tdiv_eq_ediv_of_nonneg h1]
    have h3 : x.toInt / y.toInt ≤ x.toInt := Int.ediv_le_self _ h1
    have h4 : 0 ≤ x.toInt / y.toInt := Int.ediv_nonneg h1 (by omega)
    have := i_bd x
    exact Int.bmod_eq_of_le (by omega) (by omega)
  have h3 : x.toInt / y.toInt ≤ x.toInt := Int.ediv_le_self _ h1
  have h4 : 0 ≤ x.toInt / y.toInt := Int.ediv_nonneg h1 (by omega)
  refine ⟨by omega, by omega, e, ?_⟩
  rw [e]
  exact Int.ediv_mul_le _ (by omega)
theorem i_muln {x y : Int32} (h1 : 0 ≤ x.toInt) (h2 : x.toInt ≤ 1500) (h3 : 0 ≤ y.toInt) (h4 : y.toInt ≤ 3000) : 0 ≤ (x * y).toInt ∧ (x * y).toInt ≤ x.toInt * 3000 ∧ (x * y).toInt = x.toInt * y.toInt := by
  have a : 0 ≤ x.toInt * y.toInt := Int.mul_nonneg h1 h3
  have b : x.toInt * y.toInt ≤ x.toInt * 3000 := Int.mul_le_mul_of_nonneg_left h4 h1
  have e := i_mul (x := x) (y := y) (by omega) (by omega)
  refine ⟨by omega, by omega, e⟩
theorem i_nz {x : Int32} (h : x.toInt ≠ 0) : x ≠ 0 := fun z => h (by rw [z]; rfl)
theorem i_max (a b : Int32) : a.toInt ≤ (if a < b then b else a).toInt ∧ b.toInt ≤ (if a < b then b else a).toInt ∧ ((if a < b then b else a).toInt = a.toInt ∨ (if a < b then b else a).toInt = b.toInt) := by
  split
  · next h => have := i_lt h; omega
  · next h => have := i_nlt h; omega
theorem i_min (a b : Int32) : (if b < a then b else a).toInt ≤ a.toInt ∧ (if b < a then b else a).toInt ≤ b.toInt ∧ ((if b < a then b else a).toInt = a.toInt ∨ (if b < a then b else a).toInt = b.toInt) := by
  split
  · next h => have := i_lt h; omega
  · next h => have := i_nlt h; omega
theorem i_copy {a b z : Int32} {n : Nat} (h1 : 0 ≤ a.toInt) (h2 : 0 ≤ b.toInt) (h3 : 0 ≤ z.toInt) (h4 : a.toInt + z.toInt ≤ (n : Int)) (h5 : b.toInt + z.toInt ≤ (n : Int)) : 0 ≤ a ∧ 0 ≤ b ∧ 0 ≤ z ∧ a.toNatClampNeg + z.toNatClampNeg ≤ n ∧ b.toNatClampNeg + z.toNatClampNeg ≤ n := by
  refine ⟨Int32.le_iff_toInt_le.mpr h1, Int32.le_iff_toInt_le.mpr h2, Int32.le_iff_toInt_le.mpr h3, ?_, ?_⟩
  · show a.toInt.toNat + z.toInt.toNat ≤ n
    omega
  · show b.toInt.toNat + z.toInt.toNat ≤ n
    omega
/-- what they may not touch: the house, its rows, how many were given, the collectors, the reference, the law's row -/
def zfz (c k : Nat) : Bool := (decide (64 ≤ c) && decide (c ≤ 68)) || (decide (c = 69) && decide (k = 6)) || (decide (78 ≤ c) && decide (c ≤ 87)) || (decide (91 ≤ c) && decide (c ≤ 125))
/-- AN INVARIANT: which ints may not change, fields with bounds, rows with bounds, rows of Things, one thing more; what the ints and references were, how much was made -/
def zG (fz : Nat → Nat → Bool) (sc : List (Nat × Nat × Int × Int)) (sa : List (Nat × Nat × Int × Int)) (rf : List Nat) (ex : (Nat → Nat → Int32) → Prop) (f : Nat → Nat → Int32) (r : Nat → Nat → Option Nat) (C Z N : Nat) (S : ma_S) : Prop :=
  zT S ∧ (mC S = C ∧ mZ S = Z ∧ mN S = N) ∧ (∀ c k, fz c k = true → mI S c k = f c k) ∧ (∀ c k, c ∉ rf → mR S c k = r c k) ∧ ex (mI S) ∧
  (∀ q ∈ sc, q.2.2.1 ≤ (mI S q.1 q.2.1).toInt ∧ (mI S q.1 q.2.1).toInt ≤ q.2.2.2) ∧ (∀ q ∈ sa, ∀ k, k < q.2.1 → q.2.2.1 ≤ (mI S q.1 k).toInt ∧ (mI S q.1 k).toInt ≤ q.2.2.2) ∧ (∀ c ∈ rf, ∀ i b, mR S c i = some b → 126 ≤ b ∧ b < N) ∧
  ∀ c, 126 ≤ c → c < N → (0 ≤ (mI S c 0).toInt ∧ (mI S c 0).toInt ≤ 511) ∧ (1 ≤ (mI S c 2).toInt ∧ (mI S c 2).toInt ≤ 61) ∧ (0 ≤ (mI S c 4).toInt ∧ (mI S c 4).toInt ≤ 200000)
section ZG1
variable {fz : Nat → Nat → Bool} {sc sa : List (Nat × Nat × Int × Int)} {rf : List Nat} {ex : (Nat → Nat → Int32) → Prop} {f : Nat → Nat → Int32} {r : Nat → Nat → Option Nat} {C Z N : Nat} {S : ma_S} {c k : Nat} {x : Int32}
theorem zG_T (h : zG fz sc sa rf ex f r C Z N S) : zT S := h.1
theorem zG_N (h : zG fz sc sa rf ex f r C Z N S) : mN S = N := h.2.1.2.2
theorem zG_n (h : zG fz sc sa rf ex f r C Z N S) (hc : 126 ≤ c ∧ c < N) : 126 ≤ c ∧ c < mN S := by rw [h.2.1.2.2]; exact hc
theorem zG_s (h : zG fz sc sa rf ex f r C Z N S) (lo hi : Int) (m : (c, k, lo, hi) ∈ sc) : lo ≤ (mI S c k).toInt ∧ (mI S c k).toInt ≤ hi := h.2.2.2.2.2.1 _ m
theorem zG_a (h : zG fz sc sa rf ex f r C Z N S) (n : Nat) (lo hi : Int) (m : (c, n, lo, hi) ∈ sa) (hk : k < n) : lo ≤ (mI S c k).toInt ∧ (mI S c k).toInt ≤ hi := h.2.2.2.2.2.2.1 _ m k hk
theorem zG_z (h : zG fz sc sa rf ex f r C Z N S) (hz : fz c k = true) : mI S c k = f c k := h.2.2.1 c k hz
theorem zG_zi (h : zG fz sc sa rf ex f r C Z N S) (hz : fz c k = true) : (mI S c k).toInt = (f c k).toInt := by rw [zG_z h hz]
theorem zG_r (h : zG fz sc sa rf ex f r C Z N S) (hz : c ∉ rf) : mR S c k = r c k := h.2.2.2.1 c k hz
theorem zG_x (h : zG fz sc sa rf ex f r C Z N S) : ex (mI S) := h.2.2.2.2.1
theorem zG_70 (h : zG fz sc sa rf ex f r C Z N S) {i b : Nat} (hc : c ∈ rf) (e : mR S c i = some b) : 126 ≤ b ∧ b < N := h.2.2.2.2.2.2.2.1 _ hc _ _ e
theorem zG_th (h : zG fz sc sa rf ex f r C Z N S) (hc : 126 ≤ c ∧ c < N) : (0 ≤ (mI S c 0).toInt ∧ (mI S c 0).toInt ≤ 511) ∧ (1 ≤ (mI S c 2).toInt ∧ (mI S c 2).toInt ≤ 61) ∧ (0 ≤ (mI S c 4).toInt ∧ (mI S c 4).toInt ≤ 200000) := h.2.2.2.2.2.2.2.2 c hc.1 hc.2
theorem zG_pi (h : zG fz sc sa rf ex f r C Z N S) (h1 : fz c k = false) (h2 : ∀ q ∈ sc, q.1 = c → q.2.1 = k → q.2.2.1 ≤ x.toInt ∧ x.toInt ≤ q.2.2.2) (h4 : ∀ q ∈ sa, q.1 = c → q.2.2.1 ≤ x.toInt ∧ x.toInt ≤ q.2.2.2) (hx : ex (mI (ma_put S c k (.inl x)))) (h3 : 126 ≤ c → (k = 0 → 0 ≤ x.toInt ∧ x.toInt ≤ 511) ∧ (k = 2 → 1 ≤ x.toInt ∧ x.toInt ≤ 61) ∧ (k = 4 → 0 ≤ x.toInt ∧ x.toInt ≤ 200000)) : zG fz sc sa rf ex f r C Z N (ma_put S c k (.inl x)) := by
  obtain ⟨a1, a2, a3, a4, a5, a6, a9, a7, a8⟩ := h
  have rd : ∀ c' k', mI (ma_put S c k (.inl x)) c' k' = if c' = c ∧ k' = k then x else mI S c' k' := fun _ _ => rfl
  refine ⟨a1, a2, fun c' k' hz => ?_, a4, hx, fun q hq => ?_, fun q hq k' hk => ?_, a7, fun c' hc1 hc2 => ?_⟩
  · rw [rd, if_neg (fun z => by rw [z.1, z.2, h1] at hz; cases hz)]
    exact a3 c' k' hz
  · rw [rd]
    split
    · next z => exact h2 q hq z.1 z.2
    · exact a6 q hq
  · rw [rd]
    split
    · next z => exact h4 q hq z.1
    · exact a9 q hq k' hk
  · have := a8 c' hc1 hc2
    rw [rd, rd, rd]
    refine ⟨?_, ?_, ?_⟩
    · split
      · next z => exact (h3 (z.1 ▸ hc1)).1 z.2.symm
      · exact this.1
    · split
      · next z => exact (h3 (z.1 ▸ hc1)).2.1 z.2.symm
      · exact this.2.1
    · split
      · next z => exact (h3 (z.1 ▸ hc1)).2.2 z.2.symm
      · exact this.2.2
/-- a row, or a field, without bounds -/
theorem zG_fr (h : zG fz sc sa rf ex f r C Z N S) (e : fz c k = false) (e2 : ∀ q ∈ sc, q.1 ≠ c ∨ q.2.1 ≠ k) (e3 : ∀ q ∈ sa, q.1 ≠ c) (hc : c < 126) (hx : ex (mI (ma_put S c k (.inl x)))) : zG fz sc sa rf ex f r C Z N (ma_put S c k (.inl x)) :=
  zG_pi h e (fun q hq h1 h2 => (e2 q hq).elim (fun z => absurd h1 z) (fun z => absurd h2 z)) (fun q hq h1 => absurd h1 (e3 q hq)) hx (fun h1 => by omega)
theorem zG_fa (h : zG fz sc sa rf ex f r C Z N S) (e : fz c k = false) (e2 : ∀ q ∈ sc, q.1 ≠ c) (e3 : ∀ q ∈ sa, q.1 ≠ c) (hc : c < 126) (hx : ex (mI (ma_put S c k (.inl x)))) : zG fz sc sa rf ex f r C Z N (ma_put S c k (.inl x)) :=
  zG_pi h e (fun q hq h1 h2 => absurd h1 (e2 q hq)) (fun q hq h1 => absurd h1 (e3 q hq)) hx (fun h1 => by omega)
/-- a field, or a row, with bounds -/
theorem zG_sp (h : zG fz sc sa rf ex f r C Z N S) (lo hi : Int) (e : fz c k = false) (e2 : ∀ q ∈ sc, q.1 = c → q.2.1 = k → q.2.2.1 = lo ∧ q.2.2.2 = hi) (e3 : ∀ q ∈ sa, q.1 ≠ c) (hc : c < 126) (hx : ex (mI (ma_put S c k (.inl x)))) (h1 : lo ≤ x.toInt) (h2 : x.toInt ≤ hi) : zG fz sc sa rf ex f r C Z N (ma_put S c k (.inl x)) :=
  zG_pi h e (fun q hq g1 g2 => by rw [(e2 q hq g1 g2).1, (e2 q hq g1 g2).2]; exact ⟨h1, h2⟩) (fun q hq h1 => absurd h1 (e3 q hq)) hx (fun h1 => by omega)
theorem zG_sa (h : zG fz sc sa rf ex f r C Z N S) (lo hi : Int) (e : fz c k = false) (e2 : ∀ q ∈ sc, q.1 ≠ c) (e3 : ∀ q ∈ sa, q.1 = c → q.2.2.1 = lo ∧ q.2.2.2 = hi) (hc : c < 126) (hx : ex (mI (ma_put S c k (.inl x)))) (h1 : lo ≤ x.toInt) (h2 : x.toInt ≤ hi) : zG fz sc sa rf ex f r C Z N (ma_put S c k (.inl x)) :=
  zG_pi h e (fun q hq g1 _ => absurd g1 (e2 q hq)) (fun q hq g1 => by rw [(e3 q hq g1).1, (e3 q hq g1).2]; exact ⟨h1, h2⟩) hx (fun h1 => by omega)
theorem zG_tf (h : zG fz sc sa rf ex f r C Z N S) (hc : 126 ≤ c) (e : ∀ c k, 126 ≤ c → fz c k = false) (e2 : ∀ q ∈ sc, q.1 < 126) (e3 : ∀ q ∈ sa, q.1 < 126) (hx : ex (mI (ma_put S c k (.inl x)))) (h0 : k ≠ 0) (h2 : k ≠ 2) (h4 : k ≠ 4) : zG fz sc sa rf ex f r C Z N (ma_put S c k (.inl x)) :=
  zG_pi h (e c k hc) (fun q hq g1 g2 => by have := e2 q hq; omega) (fun q hq g1 => by have := e3 q hq; omega) hx (fun _ => ⟨fun z => absurd z h0, fun z => absurd z h2, fun z => absurd z h4⟩)
theorem zG_t4 (h : zG fz sc sa rf ex f r C Z N S) (hc : 126 ≤ c) (e : ∀ c k, 126 ≤ c → fz c k = false) (e2 : ∀ q ∈ sc, q.1 < 126) (e3 : ∀ q ∈ sa, q.1 < 126) (hx : ex (mI (ma_put S c 4 (.inl x)))) (h1 : 0 ≤ x.toInt) (h2 : x.toInt ≤ 200000) : zG fz sc sa rf ex f r C Z N (ma_put S c 4 (.inl x)) :=
  zG_pi h (e c 4 hc) (fun q hq g1 g2 => by have := e2 q hq; omega) (fun q hq g1 => by have := e3 q hq; omega) hx (fun _ => ⟨fun z => (by cases z), fun z => (by cases z), fun _ => ⟨h1, h2⟩⟩)
theorem zG_rf (h : zG fz sc sa rf ex f r C Z N S) {q : Option Nat} (hc : c ∈ rf) (hz : zfr c = true) (hx : ∀ b, q = some b → 126 ≤ b ∧ b < N) : zG fz sc sa rf ex f r C Z N (ma_put S c k (.inr (.inr q))) := by
  obtain ⟨a1, a2, a3, a4, a5, a6, a9, a7, a8⟩ := h
  have rd : ∀ c' k', mR (ma_put S c k (.inr (.inr q))) c' k' = if c' = c ∧ k' = k then q else mR S c' k' := fun _ _ => rfl
  refine ⟨zT_pr a1 (zfi_row hz), a2, a3, fun c' k' hn => ?_, a5, a6, a9, fun c' hc' i b e => ?_, a8⟩
  · rw [rd, if_neg (fun z : c' = c ∧ k' = k => hn (by rw [z.1]; exact hc))]
    exact a4 c' k' hn
  · rw [rd] at e
    split at e
    · exact hx b e
    · exact a7 c' hc' i b e
theorem zG_cp (h : zG fz sc sa rf ex f r C Z N S) {g : Nat → Int32} (e : ∀ k, fz c k = false) (e2 : ∀ q ∈ sc, q.1 ≠ c) (e3 : ∀ q ∈ sa, q.1 ≠ c) (hc : c < 126) (hx : ex (mI (ma_cp S c g))) : zG fz sc sa rf ex f r C Z N (ma_cp S c g) := by
  obtain ⟨a1, a2, a3, a4, a5, a6, a9, a7, a8⟩ := h
  have rd : ∀ c', c' ≠ c → mI (ma_cp S c g) c' = mI S c' := fun c' hn => if_neg hn
  refine ⟨a1, a2, fun c' k' hz => ?_, a4, hx, fun q hq => ?_, fun q hq k' hk => ?_, a7, fun c' hc1 hc2 => ?_⟩
  · rw [rd c' (fun z => by rw [z, e] at hz; cases hz)]
    exact a3 c' k' hz
  · rw [rd q.1 (e2 q hq)]
    exact a6 q hq
  · rw [rd q.1 (e3 q hq)]
    exact a9 q hq k' hk
  · rw [rd c' (by omega)]
    exact a8 c' hc1 hc2
end ZG1
section ZG2
variable {fA fB : Nat → Nat → Bool} {scA scB saA saB : List (Nat × Nat × Int × Int)} {rfA rfB : List Nat} {exA exB : (Nat → Nat → Int32) → Prop} {f : Nat → Nat → Int32} {r : Nat → Nat → Option Nat} {C Z N : Nat} {S S1 : ma_S}
/-- down to what a callee keeps -/
theorem zG_dn (h : zG fA scA saA rfA exA f r C Z N S) (hs : ∀ q ∈ scB, q ∈ scA) (ha : ∀ q ∈ saB, q ∈ saA) (hr : ∀ c ∈ rfB, c ∈ rfA) (he : exA (mI S) → exB (mI S)) : zG fB scB saB rfB exB (mI S) (mR S) C Z N S := by
  obtain ⟨a1, a2, a3, a4, a5, a6, a9, a7, a8⟩ := h
  exact ⟨a1, a2, fun _ _ _ => rfl, fun _ _ _ => rfl, he a5, fun q hq => a6 q (hs q hq), fun q hq => a9 q (ha q hq), fun c hc => a7 c (hr c hc), a8⟩
/-- and up again behind the call -/
theorem zG_up (h : zG fA scA saA rfA exA f r C Z N S) (h1 : zG fB scB saB rfB exB (mI S) (mR S) C Z N S1) (hf : ∀ c k, fA c k = true → fB c k = true) (hs : ∀ q ∈ scA, q ∈ scB ∨ fB q.1 q.2.1 = true) (ha : ∀ q ∈ saA, q ∈ saB ∨ ∀ k, fB q.1 k = true) (hr : ∀ c ∈ rfB, c ∈ rfA) (he : (∀ c k, fB c k = true → mI S1 c k = mI S c k) → exB (mI S1) → exA (mI S) → exA (mI S1)) : zG fA scA saA rfA exA f r C Z N S1 := by
  obtain ⟨a1, a2, a3, a4, a5, a6, a9, a7, a8⟩ := h
  obtain ⟨b1, b2, b3, b4, b5, b6, b9, b7, b8⟩ := h1
  refine ⟨b1, b2, fun c k hz => (b3 c k (hf c k hz)).trans (a3 c k hz), fun c k hn => (b4 c k (fun z => hn (hr c z))).trans (a4 c k hn), he b3 b5 a5, fun q hq => ?_, fun q hq k hk => ?_, fun c hc i b e => ?_, b8⟩
  · rcases hs q hq with z | z
    · exact b6 q z
    · rw [b3 _ _ z]; exact a6 q hq
  · rcases ha q hq with z | z
    · exact b9 q z k hk
    · rw [b3 _ _ (z k)]; exact a9 q hq k hk
  · by_cases hz : c ∈ rfB
    · exact b7 c hz i b e
    · rw [b4 c i hz] at e; exact a7 c hc i b e
end ZG2
