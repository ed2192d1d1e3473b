/-! INTS as integers, and what store and walk keep -/
theorem zt {c A B : Prop} [Decidable c] (hc : c) (h : A) : if c then A else B := by rw [if_pos hc]; exact h
theorem zf {c A B : Prop} [Decidable c] (hc : ¬ c) (h : B) : if c then A else B := by rw [if_neg hc]; exact h
theorem zd {c A B : Prop} [Decidable c] (h1 : c → A) (h2 : ¬ c → B) : if c then A else B := by
  by_cases hc : c
  · exact zt hc (h1 hc)
  · exact zf hc (h2 hc)
theorem zi_x {K : Int32 → ma_S → Prop} {E : Nat → ma_S → Prop} {x : Nat} {S : ma_S} (h : E x S) : zi K E (.inr x) S := h
theorem zi_n {K : Int32 → ma_S → Prop} {E : Nat → ma_S → Prop} {v : Int32} {S : ma_S} (h : K v S) : zi K E (.inl (some (.inl v))) S := h
theorem zo_n {K : Option Nat → ma_S → Prop} {E : Nat → ma_S → Prop} {v : Option Nat} {S : ma_S} (h : K v S) : zo K E (.inl (some (.inr (.inr v)))) S := h
theorem zv_n {K : ma_S → Prop} {E : Nat → ma_S → Prop} {S : ma_S} (h : K S) : zv K E (.inl none) S := h
theorem zfi_n {K : Int32 → ma_S → Prop} {v : Int32} {S : ma_S} (h : K v S) : zfi_ K (some (.inl v)) S := h
theorem i_add {x y : Int32} (h1 : -2147483648 ≤ x.toInt + y.toInt) (h2 : x.toInt + y.toInt ≤ 2147483647) : (x + y).toInt = x.toInt + y.toInt := by
  rw [Int32.toInt_add]
  exact Int.bmod_eq_of_le (by omega) (by omega)
theorem i_sub {x y : Int32} (h1 : -2147483648 ≤ x.toInt - y.toInt) (h2 : x.toInt - y.toInt ≤ 2147483647) : (x - y).toInt = x.toInt - y.toInt := by
  rw [Int32.toInt_sub]
  exact Int.bmod_eq_of_le (by omega) (by omega)
theorem i_mul {x y : Int32} (h1 : -2147483648 ≤ x.toInt * y.toInt) (h2 : x.toInt * y.toInt ≤ 2147483647) : (x * y).toInt = x.toInt * y.toInt := by
  rw [Int32.toInt_mul]
  exact Int.bmod_eq_of_le (by omega) (by omega)
theorem i_lt {x y : Int32} (h : x < y) : x.toInt < y.toInt := Int32.lt_iff_toInt_lt.mp h
theorem i_le {x y : Int32} (h : x ≤ y) : x.toInt ≤ y.toInt := Int32.le_iff_toInt_le.mp h
theorem i_eq {x y : Int32} (h : x = y) : x.toInt = y.toInt := by rw [h]
theorem i_nlt {x y : Int32} (h : ¬ x < y) : y.toInt ≤ x.toInt := Int32.le_iff_toInt_le.mp (Int32.not_lt.mp h)
theorem i_nle {x y : Int32} (h : ¬ x ≤ y) : y.toInt < x.toInt := Int32.lt_iff_toInt_lt.mp (Int32.not_le.mp h)
theorem i_ne {x y : Int32} (h : ¬ x = y) : x.toInt ≠ y.toInt := fun z => h (Int32.toInt_inj.mp z)
theorem i_ix {x : Int32} {n : Nat} (h1 : 0 ≤ x.toInt) (h2 : x.toInt < (n : Int)) : 0 ≤ x ∧ x.toNatClampNeg < n := by
  refine ⟨Int32.le_iff_toInt_le.mpr h1, ?_⟩
  show x.toInt.toNat < n
  omega
theorem i_bd (x : Int32) : -2147483648 ≤ x.toInt ∧ x.toInt ≤ 2147483647 := by
  have h1 := x.le_toInt
  have h2 := x.toInt_lt
  constructor
  · exact h1
  · omega
theorem i_nz {x : Int32} (h : x.toInt ≠ 0) : x ≠ 0 := fun z => h (by rw [z]; rfl)
theorem i_max (a b : Int32) : a.toInt ≤ (if a < b then b else a).toInt ∧ b.toInt ≤ (if a < b then b else a).toInt ∧ ((if a < b then b else a).toInt = a.toInt ∨ (if a < b then b else a).toInt = b.toInt) := by
  split
  · next h => have := i_lt h; omega
  · next h => have := i_nlt h; omega
theorem i_min (a b : Int32) : (if b < a then b else a).toInt ≤ a.toInt ∧ (if b < a then b else a).toInt ≤ b.toInt ∧ ((if b < a then b else a).toInt = a.toInt ∨ (if b < a then b else a).toInt = b.toInt) := by
  split
  · next h => have := i_lt h; omega
  · next h => have := i_nlt h; omega
theorem i_copy {a b z : Int32} {n : Nat} (h1 : 0 ≤ a.toInt) (h2 : 0 ≤ b.toInt) (h3 : 0 ≤ z.toInt) (h4 : a.toInt + z.toInt ≤ (n : Int)) (h5 : b.toInt + z.toInt ≤ (n : Int)) : 0 ≤ a ∧ 0 ≤ b ∧ 0 ≤ z ∧ a.toNatClampNeg + z.toNatClampNeg ≤ n ∧ b.toNatClampNeg + z.toNatClampNeg ≤ n := by
  refine ⟨Int32.le_iff_toInt_le.mpr h1, Int32.le_iff_toInt_le.mpr h2, Int32.le_iff_toInt_le.mpr h3, ?_, ?_⟩
  · show a.toInt.toNat + z.toInt.toNat ≤ n
    omega
  · show b.toInt.toNat + z.toInt.toNat ≤ n
    omega
/-- what they may not touch: the house, its rows, how many were given, the collectors, the reference, the law's row -/
def zfz (c k : Nat) : Bool := (decide (64 ≤ c) && decide (c ≤ 68)) || (decide (c = 69) && decide (k = 6)) || (decide (78 ≤ c) && decide (c ≤ 87)) || (decide (91 ≤ c) && decide (c ≤ 125))
def zfzc (c : Nat) : Bool := (decide (64 ≤ c) && decide (c ≤ 69)) || (decide (78 ≤ c) && decide (c ≤ 87)) || (decide (91 ≤ c) && decide (c ≤ 125))
/-- fields with bounds -/
def zsc : List (Nat × Nat × Int × Int) := [(69, 5, 0, 512), (75, 3, 0, 512), (75, 4, 0, 512), (88, 3, 0, 512), (88, 4, 0, 512)]
def zI (f : Nat → Nat → Int32) (r : Nat → Nat → Option Nat) (C Z N : Nat) (S : ma_S) : Prop :=
  zT S ∧ (mC S = C ∧ mZ S = Z ∧ mN S = N) ∧ (∀ c k, zfz c k = true → mI S c k = f c k) ∧ (∀ c k, c ≠ 70 → mR S c k = r c k) ∧ (0 ≤ (f 69 6).toInt ∧ (f 69 6).toInt ≤ 512) ∧
  (∀ q ∈ zsc, q.2.2.1 ≤ (mI S q.1 q.2.1).toInt ∧ (mI S q.1 q.2.1).toInt ≤ q.2.2.2) ∧ (∀ i c, mR S 70 i = some c → 126 ≤ c ∧ c < N) ∧
  ∀ c, 126 ≤ c → c < N → (0 ≤ (mI S c 0).toInt ∧ (mI S c 0).toInt ≤ 511) ∧ (1 ≤ (mI S c 2).toInt ∧ (mI S c 2).toInt ≤ 61) ∧ (0 ≤ (mI S c 4).toInt ∧ (mI S c 4).toInt ≤ 30000)
section ZI1
variable {f : Nat → Nat → Int32} {r : Nat → Nat → Option Nat} {C Z N : Nat} {S : ma_S} {c k : Nat} {x : Int32}
theorem zI_T (h : zI f r C Z N S) : zT S := h.1
theorem zI_n (h : zI f r C Z N S) (hc : 126 ≤ c ∧ c < N) : 126 ≤ c ∧ c < mN S := by rw [h.2.1.2.2]; exact hc
theorem zI_s (h : zI f r C Z N S) (lo hi : Int) (m : (c, k, lo, hi) ∈ zsc) : lo ≤ (mI S c k).toInt ∧ (mI S c k).toInt ≤ hi := h.2.2.2.2.2.1 _ m
theorem zI_z (h : zI f r C Z N S) (hz : zfz c k = true) : mI S c k = f c k := h.2.2.1 c k hz
theorem zI_g (h : zI f r C Z N S) : (mI S 69 6 = f 69 6) ∧ 0 ≤ (mI S 69 6).toInt ∧ (mI S 69 6).toInt ≤ 512 := by
  have e := zI_z h (c := 69) (k := 6) rfl
  exact ⟨e, by rw [e]; exact h.2.2.2.2.1.1, by rw [e]; exact h.2.2.2.2.1.2⟩
theorem zI_70 (h : zI f r C Z N S) {i : Nat} (e : mR S 70 i = some c) : 126 ≤ c ∧ c < N := h.2.2.2.2.2.2.1 _ _ e
theorem zI_th (h : zI f r C Z N S) (hc : 126 ≤ c ∧ c < N) : (0 ≤ (mI S c 0).toInt ∧ (mI S c 0).toInt ≤ 511) ∧ (1 ≤ (mI S c 2).toInt ∧ (mI S c 2).toInt ≤ 61) ∧ (0 ≤ (mI S c 4).toInt ∧ (mI S c 4).toInt ≤ 30000) := h.2.2.2.2.2.2.2 c hc.1 hc.2
theorem zI_pi (h : zI f r C Z N S) (h1 : zfz c k = false) (h2 : ∀ q ∈ zsc, q.1 = c → q.2.1 = k → q.2.2.1 ≤ x.toInt ∧ x.toInt ≤ q.2.2.2) (h3 : 126 ≤ c → (k = 0 → 0 ≤ x.toInt ∧ x.toInt ≤ 511) ∧ (k = 2 → 1 ≤ x.toInt ∧ x.toInt ≤ 61) ∧ (k = 4 → 0 ≤ x.toInt ∧ x.toInt ≤ 30000)) : zI f r C Z N (ma_put S c k (.inl x)) := by
  obtain ⟨a1, a2, a3, a4, a5, a6, a7, a8⟩ := h
  have rd : ∀ c' k', mI (ma_put S c k (.inl x)) c' k' = if c' = c ∧ k' = k then x else mI S c' k' := fun _ _ => rfl
  refine ⟨a1, a2, fun c' k' hz => ?_, a4, a5, fun q hq => ?_, a7, fun c' hc1 hc2 => ?_⟩
  · rw [rd, if_neg (fun z => by rw [z.1, z.2, h1] at hz; cases hz)]
    exact a3 c' k' hz
  · rw [rd]
    split
    · next z => exact h2 q hq z.1 z.2
    · exact a6 q hq
  · have := a8 c' hc1 hc2
    rw [rd, rd, rd]
    refine ⟨?_, ?_, ?_⟩
    · split
      · next z => exact (h3 (z.1 ▸ hc1)).1 z.2.symm
      · exact this.1
    · split
      · next z => exact (h3 (z.1 ▸ hc1)).2.1 z.2.symm
      · exact this.2.1
    · split
      · next z => exact (h3 (z.1 ▸ hc1)).2.2 z.2.symm
      · exact this.2.2
def zfree (c : Nat) : Bool := decide (c < 126) && !(zfzc c) && zsc.all (fun q => !(q.1 == c))
def zfree2 (c k : Nat) : Bool := decide (c < 126) && !(zfz c k) && zsc.all (fun q => !(q.1 == c && q.2.1 == k))
def zone (c k : Nat) (lo hi : Int) : Bool := decide (c < 126) && !(zfz c k) && zsc.all (fun q => !(q.1 == c && q.2.1 == k) || (decide (q.2.2.1 = lo) && decide (q.2.2.2 = hi)))
theorem zfz_c (h : zfzc c = false) : zfz c k = false := by
  unfold zfzc at h
  unfold zfz
  simp only [Bool.or_eq_false_iff, Bool.and_eq_false_iff, decide_eq_false_iff_not] at h ⊢
  omega
theorem zI_fr (h : zI f r C Z N S) (e : zfree c = true) : zI f r C Z N (ma_put S c k (.inl x)) := by
  unfold zfree at e
  rw [Bool.and_eq_true, Bool.and_eq_true, List.all_eq_true, decide_eq_true_eq, Bool.not_eq_true'] at e
  refine zI_pi h (zfz_c e.1.2) (fun q hq h1 _ => ?_) (fun h1 => by omega)
  have := e.2 q hq
  simp [h1] at this
theorem zI_f2 (h : zI f r C Z N S) (e : zfree2 c k = true) : zI f r C Z N (ma_put S c k (.inl x)) := by
  unfold zfree2 at e
  rw [Bool.and_eq_true, Bool.and_eq_true, List.all_eq_true, decide_eq_true_eq, Bool.not_eq_true'] at e
  refine zI_pi h e.1.2 (fun q hq h1 h2 => ?_) (fun h1 => by omega)
  have := e.2 q hq
  simp [h1, h2] at this
theorem zI_sp (h : zI f r C Z N S) (lo hi : Int) (e : zone c k lo hi = true) (h1 : lo ≤ x.toInt) (h2 : x.toInt ≤ hi) : zI f r C Z N (ma_put S c k (.inl x)) := by
  unfold zone at e
  rw [Bool.and_eq_true, Bool.and_eq_true, List.all_eq_true, decide_eq_true_eq, Bool.not_eq_true'] at e
  refine zI_pi h e.1.2 (fun q hq g1 g2 => ?_) (fun g1 => by omega)
  have := e.2 q hq
  simp only [g1, g2, BEq.rfl, Bool.and_self, Bool.not_true, Bool.false_or, Bool.and_eq_true, decide_eq_true_eq] at this
  rw [this.1, this.2]
  exact ⟨h1, h2⟩
theorem zI_tf (h : zI f r C Z N S) (hc : 126 ≤ c) (h0 : k ≠ 0) (h2 : k ≠ 2) (h4 : k ≠ 4) : zI f r C Z N (ma_put S c k (.inl x)) := by
  refine zI_pi h ?_ (fun q hq g1 g2 => ?_) (fun _ => ⟨fun z => absurd z h0, fun z => absurd z h2, fun z => absurd z h4⟩)
  · unfold zfz
    simp only [Bool.or_eq_false_iff, Bool.and_eq_false_iff, decide_eq_false_iff_not]
    omega
  · have : zsc.all (fun q => decide (q.1 < 126)) = true := by decide +kernel
    have := of_decide_eq_true (List.all_eq_true.mp this q hq)
    omega
theorem zI_t4 (h : zI f r C Z N S) (hc : 126 ≤ c) (h1 : 0 ≤ x.toInt) (h2 : x.toInt ≤ 30000) : zI f r C Z N (ma_put S c 4 (.inl x)) := by
  refine zI_pi h ?_ (fun q hq g1 g2 => ?_) (fun _ => ⟨fun z => (by cases z), fun z => (by cases z), fun _ => ⟨h1, h2⟩⟩)
  · unfold zfz
    simp only [Bool.or_eq_false_iff, Bool.and_eq_false_iff, decide_eq_false_iff_not]
    omega
  · have : zsc.all (fun q => decide (q.1 < 126)) = true := by decide +kernel
    have := of_decide_eq_true (List.all_eq_true.mp this q hq)
    omega
theorem zI_rf (h : zI f r C Z N S) {q : Option Nat} (hx : ∀ b, q = some b → 126 ≤ b ∧ b < N) : zI f r C Z N (ma_put S 70 k (.inr (.inr q))) := by
  obtain ⟨a1, a2, a3, a4, a5, a6, a7, a8⟩ := h
  have rd : ∀ c' k', mR (ma_put S 70 k (.inr (.inr q))) c' k' = if c' = 70 ∧ k' = k then q else mR S c' k' := fun _ _ => rfl
  refine ⟨zT_pr a1 (zfi_row (by decide +kernel)), a2, a3, fun c' k' hn => ?_, a5, a6, fun i b e => ?_, a8⟩
  · rw [rd, if_neg (fun z => hn z.1)]
    exact a4 c' k' hn
  · rw [rd] at e
    split at e
    · exact hx b e
    · exact a7 i b e
theorem zI_cp (h : zI f r C Z N S) {g : Nat → Int32} (e : zfree c = true) : zI f r C Z N (ma_cp S c g) := by
  unfold zfree at e
  rw [Bool.and_eq_true, Bool.and_eq_true, List.all_eq_true, decide_eq_true_eq, Bool.not_eq_true'] at e
  obtain ⟨a1, a2, a3, a4, a5, a6, a7, a8⟩ := h
  have rd : ∀ c', c' ≠ c → mI (ma_cp S c g) c' = mI S c' := fun c' hn => if_neg hn
  refine ⟨a1, a2, fun c' k' hz => ?_, a4, a5, fun q hq => ?_, a7, fun c' hc1 hc2 => ?_⟩
  · rw [rd c' (fun z => by rw [z, zfz_c e.1.2] at hz; cases hz)]
    exact a3 c' k' hz
  · have := e.2 q hq
    rw [rd q.1 (fun z => by simp [z] at this)]
    exact a6 q hq
  · rw [rd c' (by omega)]
    exact a8 c' hc1 hc2
end ZI1
