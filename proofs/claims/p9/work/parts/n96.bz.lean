/-! what a text that is taken says of AGES and REGIONS -/
section F48
variable {t : Nat → Int32} {n p k a b s e lo hi : Int} {c i : Nat} {cs : List Nat}
theorem num_bd : zNum t s e lo hi = -1 ∨ (lo ≤ zNum t s e lo hi ∧ zNum t s e lo hi ≤ hi) := by
  unfold zNum
  split
  · exact Or.inl rfl
  · split
    · rename_i w
      exact Or.inr ⟨w.2.1, w.2.2⟩
    · exact Or.inl rfl
theorem run_go (h : 0 ≤ zRun t n k (c :: cs) i p a b) (h0 : 0 ≤ p) : zPart c t (tk true t n p) (tk false t n (tk true t n p)) a ≠ -1 ∧ 0 ≤ zRun t n k cs (i + 1) (tk false t n (tk true t n p)) (if i = 0 then zPart c t (tk true t n p) (tk false t n (tk true t n p)) a else a) (if i = 1 ∧ (k = 3 ∨ k = 6) then zPart c t (tk true t n p) (tk false t n (tk true t n p)) a else b) := by
  have q : p ≤ tk true t n p := tk_lo
  unfold zRun at h
  by_cases w : zPart c t (tk true t n p) (tk false t n (tk true t n p)) a = -1
  · rw [if_pos w] at h
    omega
  · rw [if_neg w] at h
    exact ⟨w, h⟩
theorem te_0 : ∀ j : Nat, 0 ≤ zte t n j := by
  intro j
  induction j with
  | zero =>
    have q1 : (0 : Int) ≤ tk true t n 0 := tk_lo
    have q2 : tk true t n 0 ≤ tk false t n (tk true t n 0) := tk_lo
    exact Int.le_trans q1 q2
  | succ j ih =>
    have q1 : zte t n j ≤ tk true t n (zte t n j) := tk_lo
    have q2 : tk true t n (zte t n j) ≤ tk false t n (tk true t n (zte t n j)) := tk_lo
    exact Int.le_trans ih (Int.le_trans q1 q2)
theorem ts_0 : 0 ≤ zts t n 0 := tk_lo
theorem ans_run (h : 0 ≤ zAns t n) : 0 ≤ zRun t n (qPo t n) (zPts (qPo t n)) 0 (zte t n 0) 0 0 := by
  have e : zAns t n = if qPo t n = -1 then -1 - zts t n 0 else zRun t n (qPo t n) (zPts (qPo t n)) 0 (zte t n 0) 0 0 := rfl
  have q : 0 ≤ zts t n 0 := ts_0
  by_cases w : qPo t n = -1
  · rw [e, if_pos w] at h
    omega
  · rw [e, if_neg w] at h
    exact h
theorem pts_3 : zPts 3 = [0, 0, 1, 2] := by
  unfold zPts
  rw [if_neg (by decide), if_neg (by decide), if_neg (by decide), if_pos rfl]
theorem pts_6 : zPts 6 = [0, 4, 5] := by
  unfold zPts
  rw [if_neg (by decide), if_neg (by decide), if_neg (by decide), if_neg (by decide), if_neg (by decide), if_neg (by decide)]
theorem val_3 (h : 0 ≤ zAns t n) (hp : qPo t n = 3) : (1 ≤ zVal t n 1 3 ∧ zVal t n 1 3 ≤ 7) ∧ 4 ≤ zVal t n 2 4 := by
  have r := ans_run h
  rw [hp, pts_3] at r
  have r0 := run_go r (te_0 0)
  have r1 := run_go (p := zte t n 1) r0.2 (te_0 1)
  have r2 := run_go (p := zte t n 2) r1.2 (te_0 2)
  have r3 := run_go (p := zte t n 3) r2.2 (te_0 3)
  have q2 : zVal t n 1 3 ≠ -1 := r2.1
  have q3 : zVal t n 2 4 ≠ -1 := r3.1
  have b2 : zVal t n 1 3 = -1 ∨ (1 ≤ zVal t n 1 3 ∧ zVal t n 1 3 ≤ 7) := num_bd
  have b3 : zVal t n 2 4 = -1 ∨ (4 ≤ zVal t n 2 4 ∧ zVal t n 2 4 ≤ 64) := num_bd
  exact ⟨by omega, by omega⟩
theorem zmn_le : zmn a ≤ a / 4 := by
  unfold zmn
  split <;> omega
theorem val_6 (h : 0 ≤ zAns t n) (hp : qPo t n = 6) : 16 ≤ zV4 t n ∧ 4 * zV4 t n ≤ zVal t n 0 1 ∧ 0 ≤ zVal t n 5 3 ∧ zVal t n 5 3 ≤ 100 := by
  have r := ans_run h
  rw [hp, pts_6] at r
  have r0 := run_go r (te_0 0)
  have r1 := run_go (p := zte t n 1) r0.2 (te_0 1)
  have r2 := run_go (p := zte t n 2) r1.2 (te_0 2)
  have q1 : zV4 t n ≠ -1 := r1.1
  have q2 : zVal t n 5 3 ≠ -1 := r2.1
  have b1 : zV4 t n = -1 ∨ (16 ≤ zV4 t n ∧ zV4 t n ≤ zmn (zVal t n 0 1)) := num_bd
  have b2 : zVal t n 5 3 = -1 ∨ (0 ≤ zVal t n 5 3 ∧ zVal t n 5 3 ≤ 100) := num_bd
  have z := zmn_le (a := zVal t n 0 1)
  generalize zmn (zVal t n 0 1) = y at *
  exact ⟨by omega, by omega, by omega, by omega⟩
end F48
/-! the reference's answer held against the class's -/
section F49
variable {X : Nat × (Nat → Int32)} {d w M pc : Nat} {L : ma_L} {st : List ma_V} {S S2 : ma_S} {Q : Option ma_V ⊕ Nat → ma_S → Prop} {F : Int32 → (Nat → Nat → Int32) → Prop}
theorem wp_with (hA : ma_wp X d w M pc L st S (zRj S F)) (h : ma_wp X d w M pc L st S (fun o S₉ => ∀ y, o = .inl (some (.inl y)) → F y (mI S₉) → Q o S₉)) : ma_wp X d w M pc L st S Q := by
  refine wp_mn (ma_wp_and hA h) (fun o S₉ h => ?_)
  obtain ⟨⟨v, m₉, e1, e2, f⟩, g⟩ := h
  refine g v e1 ?_
  rw [e2]
  exact f
theorem inl_y {y v : Int32} (h : (Sum.inl (some (Sum.inl v)) : Option ma_V ⊕ Nat) = Sum.inl (some (Sum.inl y))) : v = y := Sum.inl.inj (Option.some.inj (Sum.inl.inj h))
theorem lg_rf (x : Int64) : lg_cmp x x = 0 := by
  unfold lg_cmp
  simp
theorem cmp_ok {v1 v4 : Int32} {A Z : ma_S → Prop} (hT : zT S) (hV : zV (mI S)) (hc : (mI S 94 0).toInt = v1.toInt) (hl : v1 = 0 → mL S 125 0 = v4.toInt64) (hA : A S) : ma_wp X d w 164 0 [(0, .inr (.inr (some 94)))] [] S (zi (fun v6 S5 => zT S5 ∧ (if v6 = v1 then (if v1 = 0 then (if (lg_cmp (mL S5 125 0) (v4.toInt64)) = 0 then A S5 else Z S5) else A S5) else Z S5)) (fun _ _ => False)) := by
  refine sp_164 (P := fun o m₉₉ => zi (fun v6 S5 => zT S5 ∧ (if v6 = v1 then (if v1 = 0 then (if (lg_cmp (mL S5 125 0) (v4.toInt64)) = 0 then A S5 else Z S5) else A S5) else Z S5)) (fun _ _ => False) (.inl o) (zst S m₉₉)) hV (fun v6 m₉₉ hV₉ q0 => zi_n ⟨hT, ?_⟩) _ _ _ _ (by omega) (by omega) hT rfl (fun _ _ z => z)
  have e6 : v6 = v1 := Int32.toInt_inj.mp (q0.trans hc)
  have ez : zst S (zov wr_164 (mI S) m₉₉) = S := rfl
  rw [ez, if_pos e6]
  by_cases w0 : v1 = 0
  · rw [if_pos w0, if_pos (by rw [hl w0]; exact lg_rf _)]
    exact hA
  · rw [if_neg w0]
    exact hA
end F49
section F50
variable {ab : Nat → Nat → Int32} {S S₉ : ma_S} {o i t x : Int32} {e : Nat}
theorem Of_q5 {a b : Nat → Nat → Int32} (e : b = a) : zOf a b := fun _ _ _ _ _ => by rw [e]
theorem lkx_m (h : (e = 4 ∧ (¬ zRq ab o ∨ (zRq ab o ∧ t ≠ -1 ∧ ¬ zRq ab t))) ∨ (e = 1 ∧ zRq ab o ∧ (t = -1 ∨ zRq ab t) ∧ ¬ zHw ab o i) ∨ (e = 5 ∧ zRq ab o ∧ (t = -1 ∨ zRq ab t) ∧ zHw ab o i ∧ ¬ zIr ab o i)) : ¬ (zRq ab o ∧ (t = -1 ∨ zRq ab t) ∧ zHw ab o i ∧ zIr ab o i) := fun w => by
  rcases h with h | h | h
  · rcases h.2 with z | z
    · exact z w.1
    · exact w.2.1.elim z.2.1 z.2.2
  · exact h.2.2.2 w.2.2.1
  · exact h.2.2.2.2 w.2.2.2
theorem Gh_m (h : (e = 4 ∧ ¬ zRq (aS 88 S) o) ∨ (e = 6 ∧ zRq (aS 88 S) o ∧ (¬ (aS 88 S 130 o.toNatClampNeg).toInt < (mI S 82 3).toInt ∨ (x = 0 ∧ aS 88 S 133 o.toNatClampNeg = 0)))) (hs : aS 88 S₉ = aS 88 S) (e2 : mI S₉ 82 = mI S 82) (e3 : mI S₉ 83 = mI S 83) : zOf (yHo (aG S) o x) (aG S₉) := by
  rcases h with w | w
  · exact Gh_x (e := (4 : Int32)) (Or.inl ⟨rfl, w.2⟩) hs e2 e3
  · exact Gh_x (e := (6 : Int32)) (Or.inr ⟨rfl, w.2⟩) hs e2 e3
end F50
/-! answers: two heaps alike, and the comparison -/
section HG
variable {a b : Nat → Nat → Int32} {i o r t th v : Int32}
theorem cg_we (ho : zO6 b a) (h : qNwe b i o th v) : qNwe a i o th v := by
  unfold qNwe at h ⊢
  rw [O6_Rq ho, O6_c (c := 73) ho (by decide) (by decide) (by decide) (by decide)] at h
  exact h
theorem cg_ro (ho : zO6 b a) (h : qNro b i o th v) : qNro a i o th v := by
  unfold qNro at h ⊢
  rw [O6_Rq ho, O6_Nm ho, O6_c (c := 72) ho (by decide) (by decide) (by decide) (by decide)] at h
  exact h
theorem cg_sg (ho : zO6 b a) (h : qNsg b i r th v) : qNsg a i r th v := by
  unfold qNsg at h ⊢
  rw [O6_Nm ho, O6_c (c := 73) ho (by decide) (by decide) (by decide) (by decide)] at h
  exact h
theorem cg_gr (ho : zO6 b a) (h : qNgr b r th v) : qNgr a r th v := by
  unfold qNgr at h ⊢
  rw [O6_Nm ho, (O6_tw ho).2] at h
  exact h
/-- the class: what it says where it has an answer, or none -/
theorem y_sg {w : Int32} (h : (aNm a (a 73 i.toNatClampNeg) = -1 ∧ w = -1) ∨ (aNm a (a 73 i.toNatClampNeg) = a 73 i.toNatClampNeg ∧ w = a 73 i.toNatClampNeg)) : w = aNm a (a 73 i.toNatClampNeg) := by
  rcases h with h | h
  · rw [h.1]
    exact h.2
  · rw [h.1]
    exact h.2
theorem y_gr {w : Int32} (h : (aNm a (aTy a) = -1 ∧ w = -1) ∨ (aNm a (aTy a) = aTy a ∧ w = aTy a)) : w = aNm a (aTy a) := by
  rcases h with h | h
  · rw [h.1]
    exact h.2
  · rw [h.1]
    exact h.2
end HG
theorem cm_g {X : Nat × (Nat → Int32)} {d w : Nat} {S2 : ma_S} {m₉ : Nat → Nat → Int32} {v v2 y3 : Int32} {P : Int32 → Int32 → Prop} {A Z : ma_S → Prop} (fu : zFu P) (hT : zT S2) (hV : zV m₉) (han : ∃ y : Int32, (v = 0 → mL S2 125 0 = y.toInt64) ∧ P v y) (e3 : (Sum.inl (some (Sum.inl v2)) : Option ma_V ⊕ Nat) = Sum.inl (some (Sum.inl y3))) (ha : P (mI (zst S2 m₉) 94 0) y3) (hA : A (zst S2 m₉)) : ma_wp X d w 164 0 [(0, .inr (.inr (some 94)))] [] (zst S2 m₉) (zi (fun v6 S5 => zT S5 ∧ (if v6 = v then (if v = 0 then (if (lg_cmp (mL S5 125 0) (v2.toInt64)) = 0 then A S5 else Z S5) else A S5) else Z S5)) (fun _ _ => False)) := by
  obtain ⟨y, hl, hy⟩ := han
  have q := fu _ _ _ _ hy ha
  have ev := inl_y e3
  refine cmp_ok (S := zst S2 m₉) hT hV q.1 (fun z => ?_) hA
  show mL S2 125 0 = v2.toInt64
  rw [hl z, ev, q.2 (by rw [z]; rfl)]
/-- the class: who can be held -/
def qCnC (p : Option Nat) (ol : Int32) (a : Nat → Nat → Int32) (o : Int32) : Prop := p ≠ some 81 ∧ (p = some 82 → (a 130 o.toNatClampNeg).toInt < ol.toInt)
theorem cg_ho {a b : Nat → Nat → Int32} {o w th v : Int32} {c d : Prop} (ho : zO6 b a) (hc : c ↔ d) (h : qNho c b o w th v) : qNho d a o w th v := by
  unfold qNho at h ⊢
  rw [O6_Rq ho, O6_c (c := 133) ho (by decide) (by decide) (by decide) (by decide), hc] at h
  exact h
theorem O6_rf {a b : Nat → Nat → Int32} {n : Nat} {i : Int32} (h : zO6 b a) : aRef b n i = aRef a n i := by
  unfold aRef
  rw [h (1000 + n) i.toNatClampNeg (by omega) (by omega) (by omega) (by omega), O6_c (c := 130) h (by decide) (by decide) (by decide) (by decide), O6_c (c := 71) h (by decide) (by decide) (by decide) (by decide)]
theorem cg_li {a b : Nat → Nat → Int32} {o i t th v : Int32} (ho : zO6 b a) (h : qNli b o i t th v) : qNli a o i t th v := by
  unfold qNli at h ⊢
  rw [O6_Rq ho, O6_Rq ho, O6_Hw ho, O6_Ir ho, O6_Nm ho, O6_rf ho] at h
  exact h
