/-! what is kept: closed under what its words refer to -/
def zcl (kp kr kd wd : Nat → Int32) (s i : Nat) : Prop := (zrf kr kd wd s i).toInt < 0 ∨ kp (zrf kr kd wd s i).toNatClampNeg ≠ 0
/-- those on the stack are kept; of those kept, each is on the stack, or done, or the one at work (done up to i) -/
def zCL (kp kr kd ws wd st : Nat → Int32) (z : Int32) (cur i : Nat) : Prop :=
  (∀ j : Nat, (j : Int) < z.toInt → kp (st j).toNatClampNeg ≠ 0) ∧ (cur < 3100 → kp cur ≠ 0) ∧
  ∀ s, s < 3100 → kp s ≠ 0 → (∃ j : Nat, (j : Int) < z.toInt ∧ (st j).toNatClampNeg = s) ∨ (∀ i' : Nat, (i' : Int) < (ws s).toInt → zcl kp kr kd wd s i') ∨ (s = cur ∧ ∀ i', i' < i → zcl kp kr kd wd s i')
def zle (r r' : Nat → Int32) : Prop := ∀ j, j < 3100 → r j ≠ 0 → r' j ≠ 0
def zcov (kp rt : Nat → Int32) (n : Int) : Prop := ∀ k : Nat, (k : Int) < n → (rt k).toInt < 0 ∨ kp (rt k).toNatClampNeg ≠ 0
/-- by halves and by ages: nothing refers to a slot that is not in use -/
def zDX (po : Int32) (us rt wk wi : Nat → Int32) (wm : Int32) (kr kd ws wd : Nat → Int32) : Prop := (po.toInt = 2 ∨ po.toInt = 3) → zcov us rt 16 ∧ zcov us wk 16 ∧ zcov us wi wm.toInt ∧ ∀ s, s < 3100 → us s ≠ 0 → ∀ i : Nat, (i : Int) < (ws s).toInt → zcl us kr kd wd s i
def zKU (po : Int32) (us kp : Nat → Int32) : Prop := (po.toInt = 2 ∨ po.toInt = 3) → ∀ s, s < 3100 → kp s ≠ 0 → us s ≠ 0
section CL1
variable {m ms : Nat → Nat → Int32} {c d k cur i : Nat} {kp kr kd ws wd st us rt wk wi : Nat → Int32} {z x y v po wm : Int32}
theorem mu_mono {j : Nat} (hx : x ≠ 0) (h : m c j ≠ 0) : ma_u m c k x c j ≠ 0 := by
  rw [mu_at]
  split
  · exact hx
  · exact h
theorem mu_back {j : Nat} (hj : j ≠ k) (h : ma_u m c k x c j ≠ 0) : m c j ≠ 0 := by
  rw [mu_ne hj] at h
  exact h
theorem zcl_mono {s : Nat} (hx : x ≠ 0) (h : zcl (m c) kr kd wd s i) : zcl (ma_u m c k x c) kr kd wd s i := h.elim Or.inl (fun z => Or.inr (mu_mono hx z))
theorem CL_push (h : zCL (m c) kr kd ws wd (ms d) z cur i) (hx : x ≠ 0) (hz : 0 ≤ z.toInt) (hv : v.toNatClampNeg = k) (hy : y.toInt = z.toInt + 1) : zCL (ma_u m c k x c) kr kd ws wd (ma_u ms d z.toNatClampNeg v d) y cur i := by
  obtain ⟨h1, h2, h3⟩ := h
  have hzn : z.toNatClampNeg = z.toInt.toNat := rfl
  refine ⟨fun j hj => ?_, fun hc => mu_mono hx (h2 hc), fun s hs hk => ?_⟩
  · by_cases e : j = z.toNatClampNeg
    · rw [e, mu_self, hv, mu_self]; exact hx
    · rw [mu_ne e]; exact mu_mono hx (h1 j (by omega))
  · by_cases e : s = k
    · exact Or.inl ⟨z.toNatClampNeg, by omega, by rw [mu_self, hv, e]⟩
    · rcases h3 s hs (mu_back e hk) with ⟨j, hj, hs2⟩ | q | ⟨q1, q2⟩
      · exact Or.inl ⟨j, by omega, by rw [mu_ne (by omega)]; exact hs2⟩
      · exact Or.inr (Or.inl (fun i' hi => zcl_mono hx (q i' hi)))
      · exact Or.inr (Or.inr ⟨q1, fun i' hi => zcl_mono hx (q2 i' hi)⟩)
theorem CL_adv {i2 : Nat} (h : zCL kp kr kd ws wd st z cur i) (hr : zcl kp kr kd wd cur i) (e : i2 = i + 1) : zCL kp kr kd ws wd st z cur i2 := by
  subst e
  refine ⟨h.1, h.2.1, fun s hs hk => ?_⟩
  rcases h.2.2 s hs hk with q | q | ⟨q1, q2⟩
  · exact Or.inl q
  · exact Or.inr (Or.inl q)
  · refine Or.inr (Or.inr ⟨q1, fun i' hi => ?_⟩)
    by_cases e : i' = i
    · rw [e, q1]; exact hr
    · exact q2 i' (by omega)
theorem CL_done (h : zCL kp kr kd ws wd st z cur i) (hi : (ws cur).toInt ≤ (i : Int)) : zCL kp kr kd ws wd st z 3100 0 := by
  refine ⟨h.1, fun e => absurd e (by decide), fun s hs hk => ?_⟩
  rcases h.2.2 s hs hk with q | q | ⟨q1, q2⟩
  · exact Or.inl q
  · exact Or.inr (Or.inl q)
  · refine Or.inr (Or.inl (fun i' hi' => q2 i' ?_))
    rw [q1] at hi'
    omega
theorem CL_pop (h : zCL kp kr kd ws wd st z 3100 i) (hz : 0 < z.toInt) (hy : y.toInt = z.toInt - 1) (hc : cur = (st y.toNatClampNeg).toNatClampNeg) : zCL kp kr kd ws wd st y cur 0 := by
  have hyn : y.toNatClampNeg = y.toInt.toNat := rfl
  refine ⟨fun j hj => h.1 j (by omega), fun _ => by rw [hc]; exact h.1 _ (by omega), fun s hs hk => ?_⟩
  rcases h.2.2 s hs hk with ⟨j, hj, hs2⟩ | q | ⟨q1, q2⟩
  · by_cases e : j = y.toNatClampNeg
    · refine Or.inr (Or.inr ⟨?_, fun i' hi => absurd hi (Nat.not_lt_zero _)⟩)
      rw [hc, ← e, hs2]
    · exact Or.inl ⟨j, by omega, hs2⟩
  · exact Or.inr (Or.inl q)
  · omega
theorem CL_none (h : ∀ s, s < 3100 → kp s = 0) (hz : z.toInt = 0) : zCL kp kr kd ws wd st z 3100 0 :=
  ⟨fun j hj => by omega, fun e => absurd e (by decide), fun s hs hk => absurd (h s hs) hk⟩
theorem zle_rfl : zle kp kp := fun _ _ h => h
theorem zle_push {r : Nat → Int32} (h : zle r (m c)) (hx : x ≠ 0) : zle r (ma_u m c k x c) := fun j hj q => mu_mono hx (h j hj q)
theorem zle_tr {r r' : Nat → Int32} (h : zle r r') (h' : zle r' kp) : zle r kp := fun j hj q => h' j hj (h j hj q)
theorem cov_push {n : Int} (h : zcov (m c) rt n) (hx : x ≠ 0) : zcov (ma_u m c k x c) rt n := fun j hj => (h j hj).elim Or.inl (fun q => Or.inr (mu_mono hx q))
theorem cov_le {n : Int} {kp' : Nat → Int32} (h : zcov kp rt n) (hl : zle kp kp') (hb : ∀ j : Nat, (j : Int) < n → (rt j).toInt ≤ 3099) : zcov kp' rt n := by
  intro j hj
  rcases h j hj with q | q
  · exact Or.inl q
  · refine Or.inr (hl _ ?_ q)
    have := hb j hj
    rw [tn_eq]; omega
theorem cov_one {n n2 : Int} {j : Int32} (h : zcov kp rt n) (hj : j.toInt = n) (hn : n2 = n + 1) (h0 : 0 ≤ n) (hk : (rt j.toNatClampNeg).toInt < 0 ∨ kp (rt j.toNatClampNeg).toNatClampNeg ≠ 0) : zcov kp rt n2 := by
  intro q hq
  have hjn : j.toNatClampNeg = j.toInt.toNat := rfl
  by_cases e : q = j.toNatClampNeg
  · rw [e]; exact hk
  · exact h q (by omega)
theorem cov_0 {n : Int} (h : n ≤ 0) : zcov kp rt n := fun q hq => by omega
theorem cov_cut {n n2 : Int} (h : zcov kp rt n) (hn : n2 ≤ n) : zcov kp rt n2 := fun q hq => h q (by omega)
theorem KU_push (h : zKU po us (m c)) (hu : (po.toInt = 2 ∨ po.toInt = 3) → us k ≠ 0) : zKU po us (ma_u m c k x c) := by
  intro hp s hs hk
  by_cases e : s = k
  · rw [e]; exact hu hp
  · exact h hp s hs (mu_back e hk)
/-- what a kept one refers to is in use -/
theorem KU_ref (h : zKU po us kp) (hD : zDX po us rt wk wi wm kr kd ws wd) (hcur : cur < 3100) (hk : kp cur ≠ 0) (hi : (i : Int) < (ws cur).toInt) (hv : v = zrf kr kd wd cur i) (h0 : 0 ≤ v.toInt) (hp : po.toInt = 2 ∨ po.toInt = 3) : us v.toNatClampNeg ≠ 0 := by
  have := (hD hp).2.2.2 cur hcur (h hp cur hcur hk) i hi
  rw [hv]
  rw [hv] at h0
  exact this.elim (fun q => by omega) id
theorem KU_root {n : Int} (hD : zcov us rt n) {j : Int32} (hj : j.toInt < n) (h0j : 0 ≤ j.toInt) (hv : v = rt j.toNatClampNeg) (h0 : 0 ≤ v.toInt) : us v.toNatClampNeg ≠ 0 := by
  have hjn : j.toNatClampNeg = j.toInt.toNat := rfl
  have := hD j.toNatClampNeg (by omega)
  rw [hv]
  rw [hv] at h0
  exact this.elim (fun q => by omega) id
theorem KU_none (h : ∀ s, s < 3100 → kp s = 0) : zKU po us kp := fun _ s hs hk => absurd (h s hs) hk
end CL1
