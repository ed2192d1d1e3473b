/-! a queue of those that came: each kept one is still in it, or done, or at work, or of those that x tells -/
def zCQ (kp kr kd ws wd ca : Nat → Int32) (qa qm : Int32) (x : Nat → Prop) (cur i : Nat) : Prop :=
  (∀ j : Nat, (j : Int) < qm.toInt → kp (ca j).toNatClampNeg ≠ 0) ∧ (cur < 3100 → kp cur ≠ 0) ∧
  ∀ s, s < 3100 → kp s ≠ 0 → (∃ j : Nat, qa.toInt ≤ (j : Int) ∧ (j : Int) < qm.toInt ∧ (ca j).toNatClampNeg = s) ∨ (∀ i' : Nat, (i' : Int) < (ws s).toInt → zcl kp kr kd wd s i') ∨ (s = cur ∧ ∀ i', i' < i → zcl kp kr kd wd s i') ∨ x s
section CQ1
variable {m ms : Nat → Nat → Int32} {c d k cur i i2 : Nat} {kp kr kd ws wd ca : Nat → Int32} {qa qa' qm qm' x v : Int32} {xx : Nat → Prop}
theorem CQ_push (h : zCQ (m c) kr kd ws wd (ms d) qa qm xx cur i) (hx : x ≠ 0) (h0 : 0 ≤ qm.toInt) (hq : qa.toInt ≤ qm.toInt) (hv : v.toNatClampNeg = k) (hy : qm'.toInt = qm.toInt + 1) : zCQ (ma_u m c k x c) kr kd ws wd (ma_u ms d qm.toNatClampNeg v d) qa qm' xx cur i := by
  obtain ⟨h1, h2, h3⟩ := h
  have hzn : qm.toNatClampNeg = qm.toInt.toNat := rfl
  refine ⟨fun j hj => ?_, fun hc => mu_mono hx (h2 hc), fun s hs hk => ?_⟩
  · by_cases e : j = qm.toNatClampNeg
    · rw [e, mu_self, hv, mu_self]; exact hx
    · rw [mu_ne e]; exact mu_mono hx (h1 j (by omega))
  · by_cases e : s = k
    · exact Or.inl ⟨qm.toNatClampNeg, by omega, by omega, by rw [mu_self, hv, e]⟩
    · rcases h3 s hs (mu_back e hk) with ⟨j, hj, hj2, hs2⟩ | q | ⟨q1, q2⟩ | q
      · exact Or.inl ⟨j, hj, by omega, by rw [mu_ne (by omega)]; exact hs2⟩
      · exact Or.inr (Or.inl (fun i' hi => zcl_mono hx (q i' hi)))
      · exact Or.inr (Or.inr (Or.inl ⟨q1, fun i' hi => zcl_mono hx (q2 i' hi)⟩))
      · exact Or.inr (Or.inr (Or.inr q))
theorem CQ_adv (h : zCQ kp kr kd ws wd ca qa qm xx cur i) (hr : zcl kp kr kd wd cur i) (e : i2 = i + 1) : zCQ kp kr kd ws wd ca qa qm xx cur i2 := by
  subst e
  refine ⟨h.1, h.2.1, fun s hs hk => ?_⟩
  rcases h.2.2 s hs hk with q | q | ⟨q1, q2⟩ | q
  · exact Or.inl q
  · exact Or.inr (Or.inl q)
  · refine Or.inr (Or.inr (Or.inl ⟨q1, fun i' hi => ?_⟩))
    by_cases e : i' = i
    · rw [e, q1]; exact hr
    · exact q2 i' (by omega)
  · exact Or.inr (Or.inr (Or.inr q))
theorem CQ_done (h : zCQ kp kr kd ws wd ca qa qm xx cur i) (hi : (ws cur).toInt ≤ (i : Int)) : zCQ kp kr kd ws wd ca qa qm xx 3100 0 := by
  refine ⟨h.1, fun e => absurd e (by decide), fun s hs hk => ?_⟩
  rcases h.2.2 s hs hk with q | q | ⟨q1, q2⟩ | q
  · exact Or.inl q
  · exact Or.inr (Or.inl q)
  · refine Or.inr (Or.inl (fun i' hi' => q2 i' ?_))
    rw [q1] at hi'
    omega
  · exact Or.inr (Or.inr (Or.inr q))
theorem CQ_take (h : zCQ kp kr kd ws wd ca qa qm xx 3100 i) (h0 : 0 ≤ qa.toInt) (hq : qa.toInt < qm.toInt) (hy : qa'.toInt = qa.toInt + 1) (hc : cur = (ca qa.toNatClampNeg).toNatClampNeg) : zCQ kp kr kd ws wd ca qa' qm xx cur 0 := by
  have hqn : qa.toNatClampNeg = qa.toInt.toNat := rfl
  refine ⟨h.1, fun _ => by rw [hc]; exact h.1 _ (by omega), fun s hs hk => ?_⟩
  rcases h.2.2 s hs hk with ⟨j, hj, hj2, hs2⟩ | q | ⟨q1, q2⟩ | q
  · by_cases e : j = qa.toNatClampNeg
    · refine Or.inr (Or.inr (Or.inl ⟨?_, fun i' hi => absurd hi (Nat.not_lt_zero _)⟩))
      rw [hc, ← e, hs2]
    · exact Or.inl ⟨j, by omega, hj2, hs2⟩
  · exact Or.inr (Or.inl q)
  · omega
  · exact Or.inr (Or.inr (Or.inr q))
end CQ1
