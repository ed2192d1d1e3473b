/-! sums of sizes: one less, one more -/
section SM1
variable {b b' : Nat → Bool} {ws : Nat → Int32} {n s : Nat}
theorem sm_congr (h : ∀ t, t < n → b' t = b t) : sm b' ws n = sm b ws n := by
  induction n with
  | zero => rfl
  | succ n ih =>
    unfold sm
    rw [ih (fun t ht => h t (by omega)), h n (by omega)]
/-- one is taken out -/
theorem sm_out (hs : s < n) (h1 : b s = true) (h2 : b' s = false) (h : ∀ t, t < n → t ≠ s → b' t = b t) : sm b' ws n + ((ws s).toInt + 1) = sm b ws n := by
  induction n with
  | zero => omega
  | succ n ih =>
    unfold sm
    by_cases e : s = n
    · subst e
      rw [h2, h1, sm_congr (fun t ht => h t (by omega) (by omega))]
      simp
    · rw [h n (by omega) (fun z => e z.symm)]
      have := ih (by omega) (fun t ht hn => h t (by omega) hn)
      omega
theorem sm_nn (hw : ∀ t, t < n → 0 ≤ (ws t).toInt) : 0 ≤ sm b ws n := by
  induction n with
  | zero => exact Int.le_refl _
  | succ n ih =>
    unfold sm
    have i := ih (fun t ht => hw t (by omega))
    have w := hw n (by omega)
    split <;> omega
theorem sm_ge (hs : s < n) (h1 : b s = true) (hw : ∀ t, t < n → 0 ≤ (ws t).toInt) : (ws s).toInt + 1 ≤ sm b ws n := by
  have e := sm_out (b' := fun t => if t = s then false else b t) (ws := ws) hs h1 (by simp) (fun t _ hn => by simp [hn])
  have := sm_nn (b := fun t => if t = s then false else b t) (ws := ws) hw
  omega
end SM1
/-- in use and not kept yet -/
def zbN (us kp : Nat → Int32) : Nat → Bool := fun s => decide (us s ≠ 0 ∧ kp s = 0)
/-- in use and kept -/
def zbK (us kp : Nat → Int32) : Nat → Bool := fun s => decide (us s ≠ 0 ∧ kp s ≠ 0)
section SM2
variable {m : Nat → Nat → Int32} {c k : Nat} {us ws : Nat → Int32} {x : Int32}
theorem smN_keep (hk : k < 3100) (hu : us k ≠ 0) (h0 : m c k = 0) (hx : x ≠ 0) : sm (zbN us (ma_u m c k x c)) ws 3100 + ((ws k).toInt + 1) = sm (zbN us (m c)) ws 3100 := by
  refine sm_out hk ?_ ?_ (fun t _ hn => ?_)
  · unfold zbN; exact decide_eq_true ⟨hu, h0⟩
  · unfold zbN; exact decide_eq_false (fun z => hx (by rw [mu_self] at z; exact z.2))
  · unfold zbN; rw [mu_ne hn]
theorem smK_keep (hk : k < 3100) (hu : us k ≠ 0) (h0 : m c k = 0) (hx : x ≠ 0) : sm (zbK us (m c)) ws 3100 + ((ws k).toInt + 1) = sm (zbK us (ma_u m c k x c)) ws 3100 := by
  refine sm_out hk ?_ ?_ (fun t _ hn => ?_)
  · unfold zbK; exact decide_eq_true ⟨hu, by rw [mu_self]; exact hx⟩
  · unfold zbK; exact decide_eq_false (fun z => z.2 h0)
  · unfold zbK; rw [mu_ne hn]
theorem smN_none (h : ∀ s : Nat, s < 3100 → m c s = 0) : sm (zbN us (m c)) ws 3100 = sm (zbU us) ws 3100 := by
  refine sm_congr (fun t ht => ?_)
  unfold zbN zbU
  by_cases q : us t = 0
  · simp [q]
  · simp [q, h t ht]
end SM2
