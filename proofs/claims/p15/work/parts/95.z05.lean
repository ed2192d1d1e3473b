/-! the class's own heap behind a call, under the moving collectors -/
section F47
variable {X Y ab : Nat → Nat → Int32} {S S' : ma_S} {o i t x e : Int32} {p q : Nat → Int32}
theorem L_kp (hx : zAy X Y (aL S)) (hs : aS 88 S' = Y) (e : mI S' 80 = mI S 80) : zOf X (aL S') := M_kp2 hx hs (funext (fun k => by
  unfold zf8
  rw [e]))
theorem H_kp (hx : zAy X Y (aH S)) (hs : aS 88 S' = Y) (e : mI S' 81 = mI S 81) : zOf X (aH S') := M_kp2 hx hs (funext (fun k => by
  unfold zfH
  rw [e]))
/-- nothing changes -/
theorem Ay_L : zAy (aL S) (aS 88 S) (aL S) := ⟨M_88, fun _ _ _ _ => rfl⟩
theorem Ay_H : zAy (aH S) (aS 88 S) (aH S) := ⟨M_88, fun _ _ _ _ => rfl⟩
theorem Ay_G : zAy (aG S) (aS 88 S) (aG S) := ⟨G_88, fun _ _ _ _ => rfl⟩
theorem Ay_Z : zAy (aZ S) (aS 88 S) (aZ S) := ⟨Z_88, fun _ _ _ _ => rfl⟩
theorem Li_c6 (h : zO6 X Y) : (zRq X o ∧ (t = -1 ∨ zRq X t) ∧ zHw X o i ∧ zIr X o i) ↔ (zRq Y o ∧ (t = -1 ∨ zRq Y t) ∧ zHw Y o i ∧ zIr Y o i) := by rw [O6_Rq h, O6_Rq h, O6_Hw h, O6_Ir h]
theorem Gl_y (c : zRq (aS 88 S) o ∧ (t = -1 ∨ zRq (aS 88 S) t) ∧ zHw (aS 88 S) o i ∧ zIr (aS 88 S) o i) (hs : aS 88 S' = oLi (aS 88 S) o i t) (e2 : mI S' 82 = mI S 82) (e3 : mI S' 83 = gNr (aG S) o.toNatClampNeg i.toInt t 83) : zOf (yLi (aG S) o i t) (aG S') := by
  have cG := (Li_c6 (t := t) (o := o) (i := i) (G_88 (S := S))).mpr c
  have ey : yNl (aG S) o i t = gNr (aG S) o.toNatClampNeg i.toInt t := qIf_y cG
  exact G_kl (Ay_li G_88) hs e2 (yNl (aG S) o i t 83) (e3.trans (by rw [ey]))
theorem Gl_x (c : ¬ (zRq (aS 88 S) o ∧ (t = -1 ∨ zRq (aS 88 S) t) ∧ zHw (aS 88 S) o i ∧ zIr (aS 88 S) o i)) (hs : aS 88 S' = oLi (aS 88 S) o i t) (e2 : mI S' 82 = mI S 82) (e3 : mI S' 83 = mI S 83) : zOf (yLi (aG S) o i t) (aG S') := by
  have cG : ¬ _ := fun w => c ((Li_c6 (t := t) (o := o) (i := i) (G_88 (S := S))).mp w)
  have ey : yNl (aG S) o i t = aG S := qIf_n cG
  exact G_kl (Ay_li G_88) hs e2 (yNl (aG S) o i t 83) (e3.trans (by
    rw [ey]
    exact funext (fun k => aG_8.symm)))
theorem lkx_n (h : (e = 4 ∧ (¬ zRq ab o ∨ (zRq ab o ∧ t ≠ -1 ∧ ¬ zRq ab t))) ∨ (e = 1 ∧ zRq ab o ∧ (t = -1 ∨ zRq ab t) ∧ ¬ zHw ab o i) ∨ (e = 5 ∧ zRq ab o ∧ (t = -1 ∨ zRq ab t) ∧ zHw ab o i ∧ ¬ zIr ab o i)) : ¬ (zRq ab o ∧ (t = -1 ∨ zRq ab t) ∧ zHw ab o i ∧ zIr ab o i) := fun w => by
  rcases h with h | h | h
  · rcases h.2 with z | z
    · exact z w.1
    · exact w.2.1.elim z.2.1 z.2.2
  · exact h.2.2.2 w.2.2.1
  · exact h.2.2.2.2 w.2.2.2
/-! a hold under AGES -/
theorem Gh_y (h : zRq (aS 88 S) o ∧ (aS 88 S 130 o.toNatClampNeg).toInt < (mI S 82 3).toInt ∧ (¬ x = 0 ∨ ¬ aS 88 S 133 o.toNatClampNeg = 0) ∧ aS 88 S' = ma_u (aS 88 S) 133 o.toNatClampNeg (aS 88 S 133 o.toNatClampNeg + (if x = 0 then -1 else 1))) (e2 : mI S' 82 = mI S 82) (e3 : mI S' 83 = mI S 83) : zOf (yHo (aG S) o x) (aG S') := by
  have hs : aS 88 S' = xHo (aS 88 S) o x := h.2.2.2.trans (qIf_y ⟨h.1, h.2.2.1⟩).symm
  have ey : yHo (aG S) o x = xHo (aG S) o x := qIf_y (by
    rw [G_88 130 o.toNatClampNeg (by decide) (by decide) (by decide) (by decide)]
    exact h.2.1)
  rw [ey]
  exact G_kp (Ay_ho G_88) hs e2 e3
theorem Gh_x (h : (e = 4 ∧ ¬ zRq (aS 88 S) o) ∨ (e = 6 ∧ zRq (aS 88 S) o ∧ (¬ (aS 88 S 130 o.toNatClampNeg).toInt < (mI S 82 3).toInt ∨ (x = 0 ∧ aS 88 S 133 o.toNatClampNeg = 0)))) (hs : aS 88 S' = aS 88 S) (e2 : mI S' 82 = mI S 82) (e3 : mI S' 83 = mI S 83) : zOf (yHo (aG S) o x) (aG S') := by
  have ey : yHo (aG S) o x = aG S := by
    unfold yHo
    by_cases w : (aG S 130 o.toNatClampNeg).toInt < (aG S 87 9).toInt
    · rw [qIf_y w]
      refine qIf_n (fun z => ?_)
      rw [O6_Rq G_88, G_88 133 o.toNatClampNeg (by decide) (by decide) (by decide) (by decide)] at z
      rw [G_88 130 o.toNatClampNeg (by decide) (by decide) (by decide) (by decide)] at w
      rcases h with h | h
      · exact h.2 z.1
      · rcases h.2.2 with q | q
        · exact q w
        · exact z.2.elim (fun k => k q.1) (fun k => k q.2)
    · exact qIf_n w
  rw [ey]
  exact G_kp Ay_G hs e2 e3
end F47
