theorem zB2_le {hf ro : Int32} (h : 0 ≤ ro.toInt) : 0 ≤ zB2 hf ro ∧ zB2 hf ro ≤ ro.toInt := by
  unfold zB2
  split <;> omega
theorem zB3_le {hf ol yo : Int32} (h : 0 ≤ yo.toInt) : ol.toInt ≤ zB3 hf ol yo ∧ zB3 hf ol yo ≤ ol.toInt + yo.toInt := by
  unfold zB3
  split <;> omega
theorem H3_rest {m : Nat → Nat → Int32} {c : Nat} {us at' ow at2 ow2 : Nat → Int32} {s to x : Int32} {ol : Int} (h : ∀ t, t < 3100 → us t ≠ 0 → m c t = 0 → ol ≤ (at' t).toInt) (hm : zmov s to at' ow at2 ow2) (hx : x ≠ 0) : ∀ t, t < 3100 → us t ≠ 0 → ma_u m c s.toNatClampNeg x c t = 0 → ol ≤ (at2 t).toInt := by
  intro t t1 t2 t3
  by_cases z : t = s.toNatClampNeg
  · rw [z, mu_self] at t3; exact absurd t3 hx
  · rw [mu_ne z] at t3
    rcases hm with ⟨e, _, _⟩ | ⟨e, _, _⟩
    · rw [e]; exact h t t1 t2 t3
    · rw [e, if_neg z]; exact h t t1 t2 t3
