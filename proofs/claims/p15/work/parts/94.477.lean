/-! one comes to OLD, or moves above it -/
section PK2
variable {ol e f : Int} {us ws at' at2 ow ow2 : Nat → Int32} {s to : Int32}
theorem PK_add (h : zPK ol e us ws at' ow) (hm : zmov s to at' ow at2 ow2) (hto : to.toInt = e) (h0 : 0 ≤ e) (hs0 : 0 ≤ s.toInt) (ha : ol ≤ (at' s.toNatClampNeg).toInt) (hb : ∀ t, t < 3100 → 0 ≤ (at' t).toInt) (hw : ∀ t, t < 3100 → 0 ≤ (ws t).toInt) (hws : 0 ≤ (ws s.toNatClampNeg).toInt) (he : e + (ws s.toNatClampNeg).toInt + 1 ≤ ol) (e2 : f = e + (ws s.toNatClampNeg).toInt + 1) : zPK ol f us ws at2 ow2 := by
  rcases hm with ⟨_, _, m3⟩ | ⟨m1, m2, m3⟩
  · omega
  · have at_s : at2 s.toNatClampNeg = to := by rw [m1, if_pos rfl]
    have at_o : ∀ t, t ≠ s.toNatClampNeg → at2 t = at' t := fun t z => by rw [m1, if_neg z]
    intro t t1 t2 t3
    by_cases z : t = s.toNatClampNeg
    · subst z
      rw [at_s, m2]
      refine ⟨rfl, hs0, by omega, fun t' u1 u2 u3 u4 => ?_⟩
      by_cases y : t' = s.toNatClampNeg
      · rw [y, at_s] at u3; omega
      · rw [at_o t' y] at u3 u4 ⊢
        have a := (h t' u1 u2 u4).2.2.1
        have b := hw t' u1
        omega
    · rw [at_o t z] at t3 ⊢
      obtain ⟨c1, c2, c3, c4⟩ := h t t1 t2 t3
      have hwt := hw t t1
      have hbt := hb t t1
      have ne1 : (at' t).toNatClampNeg ≠ to.toNatClampNeg := by rw [tn_eq, tn_eq]; omega
      have eq1 : ow2 (at' t).toNatClampNeg = ow (at' t).toNatClampNeg := by
        rcases m3 _ ne1 with q | ⟨q, _, _⟩
        · exact q
        · rw [tn_cast hbt] at q; omega
      rw [eq1]
      refine ⟨c1, c2, by omega, fun t' u1 u2 u3 u4 => ?_⟩
      by_cases y : t' = s.toNatClampNeg
      · rw [y, at_s] at u3 u4 ⊢; omega
      · rw [at_o t' y] at u3 u4 ⊢
        exact c4 t' u1 u2 u3 u4
theorem PK_hi (h : zPK ol e us ws at' ow) (hm : zmov s to at' ow at2 ow2) (hto : ol ≤ to.toInt) (ha : ol ≤ (at' s.toNatClampNeg).toInt) (hb : ∀ t, t < 3100 → 0 ≤ (at' t).toInt) : zPK ol e us ws at2 ow2 := by
  rcases hm with ⟨m1, m2, _⟩ | ⟨m1, m2, m3⟩
  · rw [m1, m2]; exact h
  · have at_s : at2 s.toNatClampNeg = to := by rw [m1, if_pos rfl]
    have at_o : ∀ t, t ≠ s.toNatClampNeg → at2 t = at' t := fun t z => by rw [m1, if_neg z]
    intro t t1 t2 t3
    by_cases z : t = s.toNatClampNeg
    · rw [z, at_s] at t3; omega
    · rw [at_o t z] at t3 ⊢
      obtain ⟨c1, c2, c3, c4⟩ := h t t1 t2 t3
      have hbt := hb t t1
      have ne1 : (at' t).toNatClampNeg ≠ to.toNatClampNeg := by rw [tn_eq, tn_eq]; omega
      have eq1 : ow2 (at' t).toNatClampNeg = ow (at' t).toNatClampNeg := by
        rcases m3 _ ne1 with q | ⟨q, _, _⟩
        · exact q
        · rw [tn_cast hbt] at q; omega
      rw [eq1]
      refine ⟨c1, c2, c3, fun t' u1 u2 u3 u4 => ?_⟩
      by_cases y : t' = s.toNatClampNeg
      · rw [y, at_s] at u4; omega
      · rw [at_o t' y] at u3 u4 ⊢
        exact c4 t' u1 u2 u3 u4
end PK2
