/-! by regions -/
def zRG1 (si rg pr : Int32) (us at' ws rt : Nat → Int32) : Prop := 16 ≤ si.toInt ∧ 1 ≤ rg.toInt ∧ rg.toInt * si.toInt ≤ 1500 ∧ (0 ≤ pr.toInt ∧ pr.toInt < rg.toInt) ∧ (∀ r : Nat, (r : Int) < rg.toInt → (rt r).toInt ≤ si.toInt) ∧ ∀ s, s < 3100 → us s ≠ 0 → (at' s).toInt < rg.toInt * si.toInt ∧ (ws s).toInt + 1 ≤ si.toInt
def zLE (rt : Nat → Int32) (rg v : Int32) : Prop := (v.toInt = -1 ∧ ∀ r : Nat, (r : Int) < rg.toInt → rt r ≠ 0) ∨ (0 ≤ v.toInt ∧ v.toInt < rg.toInt ∧ rt v.toNatClampNeg = 0)
section RG1
variable {m : Nat → Nat → Int32} {c k : Nat} {si rg pr pr' x r v : Int32} {us us' at' ws rt : Nat → Int32} {s : Nat}
theorem i_div16 {x y : Int32} (h1 : 0 ≤ x.toInt) (h2 : x.toInt ≤ 1500) (h3 : 16 ≤ y.toInt) : 0 ≤ (x / y).toInt ∧ (x / y).toInt ≤ 93 := by
  have h := i_div (x := x) (y := y) h1 (by omega)
  refine ⟨h.1, ?_⟩
  refine Classical.byContradiction (fun z => ?_)
  have h4 : 94 * 16 ≤ (x / y).toInt * y.toInt := Int.mul_le_mul (by omega) h3 (by omega) (by omega)
  have := h.2.2.2
  omega
theorem RG_at (h : zRG1 si rg pr us at' ws rt) (hs : s < 3100) (hu : us s ≠ 0) : (at' s).toInt < 1500 ∧ (ws s).toInt + 1 ≤ si.toInt := by
  have := h.2.2.2.2.2 s hs hu
  have := h.2.2.1
  omega
theorem RG_mul (h : zRG1 si rg pr us at' ws rt) (h0 : 0 ≤ r.toInt) (h1 : r.toInt < rg.toInt) (hs : si.toInt ≤ 256) (hr : rg.toInt ≤ 93) : 0 ≤ (r * si).toInt ∧ (r * si).toInt + si.toInt ≤ 1500 ∧ (r * si).toInt + si.toInt ≤ rg.toInt * si.toInt := by
  have a := h.1
  have e := i_muln (x := r) (y := si) h0 (by omega) (by omega) (by omega)
  have e2 : (r.toInt + 1) * si.toInt ≤ rg.toInt * si.toInt := Int.mul_le_mul_of_nonneg_right (by omega) (by omega)
  have e3 : (r.toInt + 1) * si.toInt = r.toInt * si.toInt + si.toInt := by rw [Int.add_mul, Int.one_mul]
  have := h.2.2.1
  omega
theorem RG_top (h : zRG1 si rg pr us at' ws rt) (h0 : 0 ≤ r.toInt) (h1 : r.toInt < rg.toInt) : (rt r.toNatClampNeg).toInt ≤ si.toInt := h.2.2.2.2.1 _ (by rw [tn_cast h0]; exact h1)
theorem RG_sub (h : zRG1 si rg pr us at' ws rt) (hu : ∀ s, s < 3100 → us' s ≠ 0 → us s ≠ 0) : zRG1 si rg pr us' at' ws rt := ⟨h.1, h.2.1, h.2.2.1, h.2.2.2.1, h.2.2.2.2.1, fun s hs z => h.2.2.2.2.2 s hs (hu s hs z)⟩
theorem RG_put (h : zRG1 si rg pr us at' ws (m c)) (hx : x.toInt ≤ si.toInt) : zRG1 si rg pr us at' ws (ma_u m c k x c) := by
  refine ⟨h.1, h.2.1, h.2.2.1, h.2.2.2.1, fun r hr => ?_, h.2.2.2.2.2⟩
  rw [mu_at]
  split
  · exact hx
  · exact h.2.2.2.2.1 r hr
theorem RG_mv (h : zRG1 si rg pr us (m c) ws rt) (hx : x.toInt < rg.toInt * si.toInt) : zRG1 si rg pr us (ma_u m c k x c) ws rt := by
  refine ⟨h.1, h.2.1, h.2.2.1, h.2.2.2.1, h.2.2.2.2.1, fun s hs hu => ?_⟩
  have := h.2.2.2.2.2 s hs hu
  refine ⟨?_, this.2⟩
  rw [mu_at]
  split
  · exact hx
  · exact this.1
theorem RG_pr (h : zRG1 si rg pr us at' ws rt) (h0 : 0 ≤ pr'.toInt) (h1 : pr'.toInt < rg.toInt) : zRG1 si rg pr' us at' ws rt := ⟨h.1, h.2.1, h.2.2.1, ⟨h0, h1⟩, h.2.2.2.2⟩
theorem LE_no (h : zLE rt rg v) (hz : rt pr.toNatClampNeg = 0) (h0 : 0 ≤ pr.toInt) (h1 : pr.toInt < rg.toInt) : 0 ≤ v.toInt ∧ v.toInt < rg.toInt := by
  rcases h with ⟨_, q⟩ | q
  · exact absurd hz (q _ (by rw [tn_cast h0]; exact h1))
  · exact ⟨q.1, q.2.1⟩
theorem LE_ex (h : zLE rt rg v) (hz : ∃ r : Nat, (r : Int) < rg.toInt ∧ rt r = 0) : 0 ≤ v.toInt ∧ v.toInt < rg.toInt := by
  obtain ⟨r, h1, h2⟩ := hz
  rcases h with ⟨_, q⟩ | q
  · exact absurd h2 (q r h1)
  · exact ⟨q.1, q.2.1⟩
theorem LE_ge (h : zLE rt rg v) (hv : 0 ≤ v.toInt) : v.toInt < rg.toInt ∧ rt v.toNatClampNeg = 0 := h.elim (fun q => by omega) (fun q => q.2)
theorem LE_lo (h : zLE rt rg v) : -1 ≤ v.toInt ∧ v.toInt < rg.toInt ∨ v.toInt = -1 := h.elim (fun q => Or.inr q.1) (fun q => Or.inl ⟨by omega, q.2.1⟩)
theorem ne_step {l l2 : Int32} (h : ∀ r : Nat, (r : Int) < l.toInt → rt r ≠ 0) (h0 : 0 ≤ l.toInt) (hz : rt l.toNatClampNeg ≠ 0) (e : l2.toInt = l.toInt + 1) : ∀ r : Nat, (r : Int) < l2.toInt → rt r ≠ 0 := by
  intro r hr
  by_cases q : r = l.toNatClampNeg
  · rw [q]; exact hz
  · exact h r (by rw [tn_eq] at q; omega)
theorem dn_lt {n : Nat} (hk : k < n) (h0 : m c k = 0) (hx : x ≠ 0) : n - cnt (ma_u m c k x c) n < n - cnt (m c) n := by
  have := cnt_up (x := x) hk h0 hx
  have := cnt_lt hk h0
  omega
end RG1
