/-! what a text that is taken says of AGES and REGIONS -/
section F48
variable {t : Nat → Int32} {n p k a b s e lo hi : Int} {c i : Nat} {cs : List Nat}
theorem num_bd : zNum t s e lo hi = -1 ∨ (lo ≤ zNum t s e lo hi ∧ zNum t s e lo hi ≤ hi) := by
  unfold zNum
  split
  · exact Or.inl rfl
  · split
    · rename_i w
      exact Or.inr ⟨w.2.1, w.2.2⟩
    · exact Or.inl rfl
theorem run_go (h : 0 ≤ zRun t n k (c :: cs) i p a b) (h0 : 0 ≤ p) : zPart c t (tk true t n p) (tk false t n (tk true t n p)) a ≠ -1 ∧ 0 ≤ zRun t n k cs (i + 1) (tk false t n (tk true t n p)) (if i = 0 then zPart c t (tk true t n p) (tk false t n (tk true t n p)) a else a) (if i = 1 ∧ (k = 3 ∨ k = 6) then zPart c t (tk true t n p) (tk false t n (tk true t n p)) a else b) := by
  have q : p ≤ tk true t n p := tk_lo
  unfold zRun at h
  by_cases w : zPart c t (tk true t n p) (tk false t n (tk true t n p)) a = -1
  · rw [if_pos w] at h
    omega
  · rw [if_neg w] at h
    exact ⟨w, h⟩
theorem te_0 : ∀ j : Nat, 0 ≤ zte t n j := by
  intro j
  induction j with
  | zero =>
    have q1 : (0 : Int) ≤ tk true t n 0 := tk_lo
    have q2 : tk true t n 0 ≤ tk false t n (tk true t n 0) := tk_lo
    exact Int.le_trans q1 q2
  | succ j ih =>
    have q1 : zte t n j ≤ tk true t n (zte t n j) := tk_lo
    have q2 : tk true t n (zte t n j) ≤ tk false t n (tk true t n (zte t n j)) := tk_lo
    exact Int.le_trans ih (Int.le_trans q1 q2)
theorem ts_0 : 0 ≤ zts t n 0 := tk_lo
theorem ans_run (h : 0 ≤ zAns t n) : 0 ≤ zRun t n (qPo t n) (zPts (qPo t n)) 0 (zte t n 0) 0 0 := by
  have e : zAns t n = if qPo t n = -1 then -1 - zts t n 0 else zRun t n (qPo t n) (zPts (qPo t n)) 0 (zte t n 0) 0 0 := rfl
  have q : 0 ≤ zts t n 0 := ts_0
  by_cases w : qPo t n = -1
  · rw [e, if_pos w] at h
    omega
  · rw [e, if_neg w] at h
    exact h
theorem pts_3 : zPts 3 = [0, 0, 1, 2] := by
  unfold zPts
  rw [if_neg (by decide), if_neg (by decide), if_neg (by decide), if_pos rfl]
theorem pts_6 : zPts 6 = [0, 4, 5] := by
  unfold zPts
  rw [if_neg (by decide), if_neg (by decide), if_neg (by decide), if_neg (by decide), if_neg (by decide), if_neg (by decide)]
theorem val_3 (h : 0 ≤ zAns t n) (hp : qPo t n = 3) : (1 ≤ zVal t n 1 3 ∧ zVal t n 1 3 ≤ 7) ∧ 4 ≤ zVal t n 2 4 := by
  have r := ans_run h
  rw [hp, pts_3] at r
  have r0 := run_go r (te_0 0)
  have r1 := run_go (p := zte t n 1) r0.2 (te_0 1)
  have r2 := run_go (p := zte t n 2) r1.2 (te_0 2)
  have r3 := run_go (p := zte t n 3) r2.2 (te_0 3)
  have q2 : zVal t n 1 3 ≠ -1 := r2.1
  have q3 : zVal t n 2 4 ≠ -1 := r3.1
  have b2 : zVal t n 1 3 = -1 ∨ (1 ≤ zVal t n 1 3 ∧ zVal t n 1 3 ≤ 7) := num_bd
  have b3 : zVal t n 2 4 = -1 ∨ (4 ≤ zVal t n 2 4 ∧ zVal t n 2 4 ≤ 64) := num_bd
  exact ⟨by omega, by omega⟩
theorem zmn_le : zmn a ≤ a / 4 := by
  unfold zmn
  split <;> omega
theorem val_6 (h : 0 ≤ zAns t n) (hp : qPo t n = 6) : 16 ≤ zV4 t n ∧ 4 * zV4 t n ≤ zVal t n 0 1 ∧ 0 ≤ zVal t n 5 3 ∧ zVal t n 5 3 ≤ 100 := by
  have r := ans_run h
  rw [hp, pts_6] at r
  have r0 := run_go r (te_0 0)
  have r1 := run_go (p := zte t n 1) r0.2 (te_0 1)
  have r2 := run_go (p := zte t n 2) r1.2 (te_0 2)
  have q1 : zV4 t n ≠ -1 := r1.1
  have q2 : zVal t n 5 3 ≠ -1 := r2.1
  have b1 : zV4 t n = -1 ∨ (16 ≤ zV4 t n ∧ zV4 t n ≤ zmn (zVal t n 0 1)) := num_bd
  have b2 : zVal t n 5 3 = -1 ∨ (0 ≤ zVal t n 5 3 ∧ zVal t n 5 3 ≤ 100) := num_bd
  have z := zmn_le (a := zVal t n 0 1)
  generalize zmn (zVal t n 0 1) = y at *
  exact ⟨by omega, by omega, by omega, by omega⟩
end F48
/-! the reference's answer held against the class's -/
section F49
variable {X : Nat × (Nat → Int32)} {d w M pc : Nat} {L : ma_L} {st : List ma_V} {S S2 : ma_S} {Q : Option ma_V ⊕ Nat → ma_S → Prop} {F : Int32 → (Nat → Nat → Int32) → Prop}
theorem wp_with (hA : ma_wp X d w M pc L st S (zRj S F)) (h : ma_wp X d w M pc L st S (fun o S₉ => ∀ y, o = .inl (some (.inl y)) → F y (mI S₉) → Q o S₉)) : ma_wp X d w M pc L st S Q := by
  refine wp_mn (ma_wp_and hA h) (fun o S₉ h => ?_)
  obtain ⟨⟨v, m₉, e1, e2, f⟩, g⟩ := h
  refine g v e1 ?_
  rw [e2]
  exact f
theorem inl_y {y v : Int32} (h : (Sum.inl (some (Sum.inl v)) : Option ma_V ⊕ Nat) = Sum.inl (some (Sum.inl y))) : v = y := Sum.inl.inj (Option.some.inj (Sum.inl.inj h))
theorem lg_rf (x : Int64) : lg_cmp x x = 0 := by
  unfold lg_cmp
  simp
theorem cmp_ok {v1 v4 : Int32} {A Z : ma_S → Prop} (hT : zT S) (hV : zV (mI S)) (hc : (mI S 94 0).toInt = v1.toInt) (hl : v1 = 0 → mL S 125 0 = v4.toInt64) (hA : A S) : ma_wp X d w 164 0 [(0, .inr (.inr (some 94)))] [] S (zi (fun v6 S5 => zT S5 ∧ (if v6 = v1 then (if v1 = 0 then (if (lg_cmp (mL S5 125 0) (v4.toInt64)) = 0 then A S5 else Z S5) else A S5) else Z S5)) (fun _ _ => False)) := by
  refine sp_164 (P := fun o m₉₉ => zi (fun v6 S5 => zT S5 ∧ (if v6 = v1 then (if v1 = 0 then (if (lg_cmp (mL S5 125 0) (v4.toInt64)) = 0 then A S5 else Z S5) else A S5) else Z S5)) (fun _ _ => False) (.inl o) (zst S m₉₉)) hV (fun v6 m₉₉ hV₉ q0 => zi_n ⟨hT, ?_⟩) _ _ _ _ (by omega) (by omega) hT rfl (fun _ _ z => z)
  have e6 : v6 = v1 := Int32.toInt_inj.mp (q0.trans hc)
  have ez : zst S (zov wr_164 (mI S) m₉₉) = S := rfl
  rw [ez, if_pos e6]
  by_cases w0 : v1 = 0
  · rw [if_pos w0, if_pos (by rw [hl w0]; exact lg_rf _)]
    exact hA
  · rw [if_neg w0]
    exact hA
end F49
section F50
variable {ab : Nat → Nat → Int32} {S S₉ : ma_S} {o i t x : Int32} {e : Nat}
theorem Of_q5 {a b : Nat → Nat → Int32} (e : b = a) : zOf a b := fun _ _ _ _ _ => by rw [e]
theorem lkx_m (h : (e = 4 ∧ (¬ zRq ab o ∨ (zRq ab o ∧ t ≠ -1 ∧ ¬ zRq ab t))) ∨ (e = 1 ∧ zRq ab o ∧ (t = -1 ∨ zRq ab t) ∧ ¬ zHw ab o i) ∨ (e = 5 ∧ zRq ab o ∧ (t = -1 ∨ zRq ab t) ∧ zHw ab o i ∧ ¬ zIr ab o i)) : ¬ (zRq ab o ∧ (t = -1 ∨ zRq ab t) ∧ zHw ab o i ∧ zIr ab o i) := fun w => by
  rcases h with h | h | h
  · rcases h.2 with z | z
    · exact z w.1
    · exact w.2.1.elim z.2.1 z.2.2
  · exact h.2.2.2 w.2.2.1
  · exact h.2.2.2.2 w.2.2.2
theorem Gh_m (h : (e = 4 ∧ ¬ zRq (aS 88 S) o) ∨ (e = 6 ∧ zRq (aS 88 S) o ∧ (¬ (aS 88 S 130 o.toNatClampNeg).toInt < (mI S 82 3).toInt ∨ (x = 0 ∧ aS 88 S 133 o.toNatClampNeg = 0)))) (hs : aS 88 S₉ = aS 88 S) (e2 : mI S₉ 82 = mI S 82) (e3 : mI S₉ 83 = mI S 83) : zOf (yHo (aG S) o x) (aG S₉) := by
  rcases h with w | w
  · exact Gh_x (e := (4 : Int32)) (Or.inl ⟨rfl, w.2⟩) hs e2 e3
  · exact Gh_x (e := (6 : Int32)) (Or.inr ⟨rfl, w.2⟩) hs e2 e3
end F50
/-! answers: two heaps alike, and the comparison -/
section HG
variable {a b : Nat → Nat → Int32} {i o r t th v : Int32}
theorem cg_we (ho : zO6 b a) (h : qNwe b i o th v) : qNwe a i o th v := by
  unfold qNwe at h ⊢
  rw [O6_Rq ho, O6_c (c := 73) ho (by decide) (by decide) (by decide) (by decide)] at h
  exact h
theorem cg_ro (ho : zO6 b a) (h : qNro b i o th v) : qNro a i o th v := by
  unfold qNro at h ⊢
  rw [O6_Rq ho, O6_Nm ho, O6_c (c := 72) ho (by decide) (by decide) (by decide) (by decide)] at h
  exact h
theorem cg_sg (ho : zO6 b a) (h : qNsg b i r th v) : qNsg a i r th v := by
  unfold qNsg at h ⊢
  rw [O6_Nm ho, O6_c (c := 73) ho (by decide) (by decide) (by decide) (by decide)] at h
  exact h
theorem cg_gr (ho : zO6 b a) (h : qNgr b r th v) : qNgr a r th v := by
  unfold qNgr at h ⊢
  rw [O6_Nm ho, (O6_tw ho).2] at h
  exact h
/-- the class: what it says where it has an answer, or none -/
theorem y_sg {w : Int32} (h : (aNm a (a 73 i.toNatClampNeg) = -1 ∧ w = -1) ∨ (aNm a (a 73 i.toNatClampNeg) = a 73 i.toNatClampNeg ∧ w = a 73 i.toNatClampNeg)) : w = aNm a (a 73 i.toNatClampNeg) := by
  rcases h with h | h
  · rw [h.1]
    exact h.2
  · rw [h.1]
    exact h.2
theorem y_gr {w : Int32} (h : (aNm a (aTy a) = -1 ∧ w = -1) ∨ (aNm a (aTy a) = aTy a ∧ w = aTy a)) : w = aNm a (aTy a) := by
  rcases h with h | h
  · rw [h.1]
    exact h.2
  · rw [h.1]
    exact h.2
end HG
theorem cm_g {X : Nat × (Nat → Int32)} {d w : Nat} {S2 : ma_S} {m₉ : Nat → Nat → Int32} {v v2 y3 : Int32} {P : Int32 → Int32 → Prop} {A Z : ma_S → Prop} (fu : zFu P) (hT : zT S2) (hV : zV m₉) (han : ∃ y : Int32, (v = 0 → mL S2 125 0 = y.toInt64) ∧ P v y) (e3 : (Sum.inl (some (Sum.inl v2)) : Option ma_V ⊕ Nat) = Sum.inl (some (Sum.inl y3))) (ha : P (mI (zst S2 m₉) 94 0) y3) (hA : A (zst S2 m₉)) : ma_wp X d w 164 0 [(0, .inr (.inr (some 94)))] [] (zst S2 m₉) (zi (fun v6 S5 => zT S5 ∧ (if v6 = v then (if v = 0 then (if (lg_cmp (mL S5 125 0) (v2.toInt64)) = 0 then A S5 else Z S5) else A S5) else Z S5)) (fun _ _ => False)) := by
  obtain ⟨y, hl, hy⟩ := han
  have q := fu _ _ _ _ hy ha
  have ev := inl_y e3
  refine cmp_ok (S := zst S2 m₉) hT hV q.1 (fun z => ?_) hA
  show mL S2 125 0 = v2.toInt64
  rw [hl z, ev, q.2 (by rw [z]; rfl)]
/-- the class: who can be held -/
def qCnC (p : Option Nat) (ol : Int32) (a : Nat → Nat → Int32) (o : Int32) : Prop := p ≠ some 81 ∧ (p = some 82 → (a 130 o.toNatClampNeg).toInt < ol.toInt)
theorem cg_ho {a b : Nat → Nat → Int32} {o w th v : Int32} {c d : Prop} (ho : zO6 b a) (hc : c ↔ d) (h : qNho c b o w th v) : qNho d a o w th v := by
  unfold qNho at h ⊢
  rw [O6_Rq ho, O6_c (c := 133) ho (by decide) (by decide) (by decide) (by decide), hc] at h
  exact h
theorem O6_rf {a b : Nat → Nat → Int32} {n : Nat} {i : Int32} (h : zO6 b a) : aRef b n i = aRef a n i := by
  unfold aRef
  rw [h (1000 + n) i.toNatClampNeg (by omega) (by omega) (by omega) (by omega), O6_c (c := 130) h (by decide) (by decide) (by decide) (by decide), O6_c (c := 71) h (by decide) (by decide) (by decide) (by decide)]
theorem cg_li {a b : Nat → Nat → Int32} {o i t th v : Int32} (ho : zO6 b a) (h : qNli b o i t th v) : qNli a o i t th v := by
  unfold qNli at h ⊢
  rw [O6_Rq ho, O6_Rq ho, O6_Hw ho, O6_Ir ho, O6_Nm ho, O6_rf ho] at h
  exact h
/-! clean: the words that got free are those that were there less those that are -/
theorem i_sw {p q x : Int32} : (p + x) + (q - x) = p + q := i_ws rfl
theorem i_dq {x y g h : Int32} (e : x + y = g + h) : (x - g) + y = h := by
  have e2 : x + y - g = g + h - g := by rw [e]
  rw [Int32.sub_eq_add_neg, Int32.add_assoc, Int32.add_comm (-g) y, ← Int32.add_assoc, ← Int32.sub_eq_add_neg, e2, Int32.add_comm g h, Int32.sub_eq_add_neg, Int32.add_assoc, ← Int32.sub_eq_add_neg, Int32.sub_self, Int32.add_zero]
section HC
variable {a b : Nat → Nat → Int32} {k n : Nat}
theorem v8gf (hk : k ≠ 5) : ∀ (f : Nat) (x : Int32) (a : Nat → Nat → Int32), aGf f x a 69 k = a 69 k := by
  intro f
  induction f with
  | zero => intro x a; rfl
  | succ f ih =>
    intro x a
    by_cases w : aGc a x
    · rw [aGf_y w, ih, aSp_o ⟨by decide, by decide, by decide⟩, aCm_o ⟨by decide, by decide, by decide⟩, aGr_o ⟨by decide, by decide, by decide, fun z => hk z.2⟩]
    · rw [aGf_n w, ih]
theorem v8gw (hk : k ≠ 5) {x : Int32} : aGw a x 69 k = a 69 k := v8gf hk _ _ _
theorem v8mf : ∀ (f : Nat) (x : Int32) (a : Nat → Nat → Int32), aMf f x a 69 11 + aMf f x a 69 8 = a 69 11 + a 69 8 := by
  intro f
  induction f with
  | zero => intro x a; rfl
  | succ f ih =>
    intro x a
    by_cases w : aMc a x
    · rw [aMf_y w, ih, rm_8, rm_11]
      exact i_sw
    · rw [aMf_n w, ih]
/-- a cleaning that sweeps -/
theorem sv_w : aSv a + aSw a 69 8 = a 69 8 := by
  have q : aSw a 69 11 + aSw a 69 8 = aGw (aRA a) 0 69 11 + aGw (aRA a) 0 69 8 := v8mf _ _ _
  have e : aGw (aRA a) 0 69 8 = a 69 8 := (v8gw (by decide)).trans (aRA_o ⟨by decide, by decide, by decide⟩)
  rw [← e]
  exact i_dq q
theorem fv_w : aFv a + aFi a 69 8 = a 69 8 := by
  have q : aFi a 69 11 + aFi a 69 8 = aGw (ma_u a 87 8 0) 0 69 11 + aGw (ma_u a 87 8 0) 0 69 8 := v8mf _ _ _
  have e : aGw (ma_u a 87 8 0) 0 69 8 = a 69 8 := (v8gw (by decide)).trans (xu_o (by omega))
  rw [← e]
  exact i_dq q
theorem v8nw : aNw a 69 8 = a 69 8 := by
  unfold aNw
  split
  · exact aRo_o ⟨by decide, by decide, by decide⟩
  · rfl
theorem v8sp : aSp n a 69 8 = a 69 8 := aSp_o ⟨by decide, by decide, by decide⟩ _ _
theorem v8b0 : aB0 a 69 8 = a 69 8 := by
  rw [← B0_of 69 8 (by decide) (by decide) (by decide), xu_o (by omega)]
theorem v8c2 : ∀ (k : Nat) (a : Nat → Nat → Int32), aC2 k a 69 8 = a 69 8 := by
  intro k
  induction k with
  | zero => intro a; rfl
  | succ k ih =>
    intro a
    by_cases h : (aNw a 75 3).toInt < (aNw a 75 4).toInt
    · rw [aC2_y h, ih, v8sp, v8nw]
    · rw [aC2_n h, v8nw]
theorem cv_w : aFv (aC1 a) + aCl a 69 8 = a 69 8 := by
  have q : aFv (aC1 a) + aCl a 69 8 = aC1 a 69 8 := fv_w
  rw [q]
  unfold aC1
  rw [v8c2, v8sp]
  unfold aBg
  split
  · exact v8b0
  · rfl
theorem lv_w : aSv a + lCl a 69 8 = a 69 8 := by
  have e : lCl a 69 8 = aSw a 69 8 := by
    unfold lCl lSd zSd
    rw [xu_o (by omega), Sf_r (by decide) (by decide), xu_o (by omega)]
  rw [e]
  exact sv_w
theorem hv_w : aSv a + hCl a 69 8 = a 69 8 := by
  rw [congrFun (cl_r (a := a) (c := 69) (by decide) (by decide) (by decide)) 8]
  exact sv_w
theorem rv_w : aSv a + rCl a 69 8 = a 69 8 := by
  rw [rCl_r (by decide) (by decide) (by decide) (by decide) (fun z => absurd z.1 (by decide))]
  exact sv_w
theorem gv_w : aSv a + gMa a 69 8 = a 69 8 := by
  rw [congrFun (Ma_rw (a := a) (n := 69) (by decide) (by decide) (by decide) (by decide)) 8]
  exact sv_w
theorem g0_w : gV0 a + gM0 a 69 8 = a 69 8 := by
  unfold gV0 gM0
  by_cases h : (a 87 9).toInt < (a 87 10).toInt + gGr a 512
  · rw [if_pos h, if_pos h]
    exact gv_w
  · rw [if_neg h, if_neg h]
    exact Int32.zero_add _
theorem v8kp (hk : k ≠ 5) : gKp a 69 k = a 69 k := by
  unfold gKp
  rw [v8gw hk, aSp_o ⟨by decide, by decide, by decide⟩]
  have d : ∀ (f : Nat) (b : Nat → Nat → Int32) (p e : Int), gDf e f b p 69 k = b 69 k := by
    intro f
    induction f with
    | zero => intro b p e; rfl
    | succ f ih =>
      intro b p e
      by_cases c : p < e
      · by_cases q : (zOb b p).toInt < 0
        · rw [gDf_fr c q, ih]
        · rw [gDf_go c (by omega), ih, gDw_o ⟨by decide, by decide, by decide⟩]
      · rw [gDf_e c]
  unfold gDp
  rw [d, aRo_o ⟨by decide, by decide, by decide⟩]
  unfold aWh
  rw [xu_o (by omega), xu_o (by omega), xu_o (by omega)]
  unfold zFl
  rw [if_neg (by omega)]
theorem v8gm : ∀ (f j : Nat) (a : Nat → Nat → Int32), gMf f j a 69 k = a 69 k := by
  intro f
  induction f with
  | zero => intro j a; rfl
  | succ f ih =>
    intro j a
    by_cases h : hQc a j
    · rw [gMf_y h, ih, congrFun (gM1_r (by decide) (by decide) (by decide) (by decide)) k]
    · rw [gMf_n h, ih]
theorem mv_w : (gMk0 a 69 11 - gKp a 69 11) + gMv a 69 8 = a 69 8 := by
  have e : gMv a 69 8 = gMk0 a 69 8 := by
    unfold gMv
    rw [congrFun (Fd_r (c := 69) (by decide)) 8, v8gm]
    unfold gMk1
    rw [xu_o (by omega), xu_o (by omega)]
  have q : gMk0 a 69 11 + gMk0 a 69 8 = gKp a 69 11 + gKp a 69 8 := v8mf _ _ _
  rw [e, ← v8kp (a := a) (k := 8) (by decide)]
  exact i_dq q
theorem gi_w : gVi a + gMi a 69 8 = a 69 8 := by
  unfold gVi gMi
  by_cases h : (gM0 a 87 9).toInt < (gM0 a 87 10).toInt + gGr (gM0 a) 512
  · rw [if_pos h, if_pos h]
    exact g0_w
  · rw [if_neg h, if_neg h]
    exact i_wt mv_w g0_w
theorem gc_w : (aSv a + gVi (gMa a)) + gMi (gMa a) 69 8 = a 69 8 := i_wt gi_w gv_w
/-! a new one: its number, or none -/
/-- y is the number that was to be given, and it is given; or none is -/
def zNu (y g0 g1 : Int32) : Prop := (y = g0 ∧ g1 = g0 + 1) ∨ (y = -1 ∧ g1 = g0)
end HC
/-! clean, make, row: answers told by what was there before and is there behind -/
def zWf (y w0 w1 : Int32) : Prop := y + w1 = w0
theorem fu_wf {w0 w1 : Int32} : zFu (fun th v => th.toInt = 0 ∧ zWf v w0 w1) := fun th v th2 v2 a b => ⟨b.1.trans a.1.symm, fun _ => by
  have e : v2 + w1 = v + w1 := b.2.trans a.2.symm
  have e2 : v2 + w1 - w1 = v + w1 - w1 := by rw [e]
  rw [Int32.sub_eq_add_neg, Int32.add_assoc, ← Int32.sub_eq_add_neg, Int32.sub_self, Int32.add_zero, Int32.sub_eq_add_neg, Int32.add_assoc, ← Int32.sub_eq_add_neg, Int32.sub_self, Int32.add_zero] at e2
  exact e2⟩
theorem i_ne1 {x : Int32} (h : x = x + 1) : False := by
  have e : x - x = x + 1 - x := by rw [← h]
  rw [Int32.sub_self, Int32.add_comm x 1, Int32.sub_eq_add_neg, Int32.add_assoc, ← Int32.sub_eq_add_neg, Int32.sub_self] at e
  exact absurd e (by decide)
theorem fu_nu {g0 g1 : Int32} : zFu (fun th v => th.toInt = 0 ∧ zNu v g0 g1) := fun th v th2 v2 a b => ⟨b.1.trans a.1.symm, fun _ => by
  rcases a.2 with p | p
  · rcases b.2 with q | q
    · exact q.1.trans p.1.symm
    · exact (i_ne1 (q.2.symm.trans p.2)).elim
  · rcases b.2 with q | q
    · exact (i_ne1 (p.2.symm.trans q.2)).elim
    · exact q.1.trans p.1.symm⟩
/-! make, row: the number that is given -/
section HN
variable {a b : Nat → Nat → Int32} {S S₉ : ma_S} {P k : Nat} {y i kd wd rt v V x0 x1 : Int32} {L : Int64} {F : Nat → Int32} {G : Nat → Nat → Int32} {z : Int}
theorem r_T (h : zrl 69 k = true) : aT P S 69 k = mI S 69 k := (aT_o (by decide)).trans (aS_I (W := 75) (S := S) (c := 69) (c₉ := 69) (k := k) h rfl)
theorem r_L (h : zrl 69 k = true) : aL S 69 k = mI S 69 k := (aM_o (by decide)).trans (aS_I (W := 75) (S := S) (c := 69) (c₉ := 69) (k := k) h rfl)
theorem r_H (h : zrl 69 k = true) : aH S 69 k = mI S 69 k := (aM_o (by decide)).trans (aS_I (W := 75) (S := S) (c := 69) (c₉ := 69) (k := k) h rfl)
theorem r_G (h : zrl 69 k = true) : aG S 69 k = mI S 69 k := (aG_o (by decide) (by decide)).trans (aS_I (W := 75) (S := S) (c := 69) (c₉ := 69) (k := k) h rfl)
theorem r_Z (h : zrl 69 k = true) : aZ S 69 k = mI S 69 k := (aZ_o (by decide) (by decide) (by decide)).trans (aS_I (W := 75) (S := S) (c := 69) (c₉ := 69) (k := k) h rfl)
theorem r_S (h : zrl 69 k = true) : aS 88 S 69 k = mI S 69 k := aS_I (W := 88) (S := S) (c := 69) (c₉ := 69) (k := k) h rfl
theorem cw_of (h : v = V) (hs : b = G) (hw : V + G 69 8 = a 69 8) (r1 : a 69 8 = x0) (r2 : b 69 8 = x1) : zWf v x0 x1 := by
  unfold zWf
  rw [h, ← r2, hs, ← r1]
  exact hw
theorem nu_of (h : v = V) (hs : b = G) (hw : zNu V (a 69 6) (G 69 6)) (r1 : a 69 6 = x0) (r2 : b 69 6 = x1) : zNu v x0 x1 := by
  rw [h, ← r2, hs, ← r1]
  exact hw
theorem n6nc {x : Int32} : aNc a y x 69 6 = a 69 6 := by
  unfold aNc
  split
  · exact aCm_o ⟨by decide, by decide, by decide⟩
  · rfl
theorem n6rt : aRt a i y 69 6 = a 69 6 := by
  unfold aRt
  rw [n6nc]
  exact xu_o (by omega)
theorem n6r0 : aR0 a i y 69 6 = a 69 6 := xu_o (by omega)
theorem n6md : aMd a y 69 6 = a 69 6 := by
  unfold aMd
  split
  · exact xu_o (by omega)
  · rw [xu_o (by omega), xu_o (by omega)]
theorem n6hd : hMd a y 69 6 = a 69 6 := xu_o (by omega)
theorem n6rd : rMd a y 69 6 = a 69 6 := by
  unfold rMd
  split
  · exact xu_o (by omega)
  · rfl
theorem n6gd : gMd a y 69 6 = a 69 6 := by
  unfold gMd
  split
  · exact xu_o (by omega)
  · exact xu_o (by omega)
theorem n6ad : aAd a y F L 69 6 = a 69 6 + 1 := by
  unfold aAd
  rw [xu_o (by omega), xu_s]
theorem n6sw : aSw a 69 6 = a 69 6 := by
  unfold aSw aMv
  rw [w6mf, v8gw (by decide)]
  exact aRA_o ⟨by decide, by decide, by decide⟩
theorem n6lc : lCl a 69 6 = a 69 6 := by
  unfold lCl lSd zSd
  rw [xu_o (by omega), Sf_r (by decide) (by decide), xu_o (by omega)]
  exact n6sw
theorem n6hc : hCl a 69 6 = a 69 6 := (congrFun (cl_r (a := a) (c := 69) (by decide) (by decide) (by decide)) 6).trans n6sw
theorem n6rc : rCl a 69 6 = a 69 6 := (rCl_r (by decide) (by decide) (by decide) (by decide) (fun w => absurd w.1 (by decide))).trans n6sw
theorem n6ga : gMa a 69 6 = a 69 6 := (congrFun (Ma_rw (a := a) (n := 69) (by decide) (by decide) (by decide) (by decide)) 6).trans n6sw
theorem n6g0 : gM0 a 69 6 = a 69 6 := by
  unfold gM0
  split
  · exact n6ga
  · rfl
theorem n6gv : gMv a 69 6 = a 69 6 := by
  unfold gMv
  rw [congrFun (Fd_r (c := 69) (by decide)) 6, v8gm]
  unfold gMk1
  rw [xu_o (by omega), xu_o (by omega)]
  unfold gMk0 aMv
  rw [w6mf]
  exact v8kp (by decide)
theorem n6gi : gMi a 69 6 = a 69 6 := by
  unfold gMi
  split
  · exact n6g0
  · exact n6gv.trans n6g0
theorem n6zs : zRs a z 69 6 = a 69 6 := by
  unfold zRs
  split
  · exact n6sw
  · rfl
theorem n6ls : lRs a z 69 6 = a 69 6 := by
  unfold lRs
  split
  · exact n6lc
  · rfl
theorem n6hs : hRs a z 69 6 = a 69 6 := by
  unfold hRs
  split
  · rfl
  · exact n6hc
theorem n6r1 : rR1 a z 69 6 = a 69 6 := by
  unfold rR1
  split
  · rfl
  · split
    · exact n6rc
    · rfl
theorem n6r2 : rR2 a z 69 6 = a 69 6 := by
  unfold rR2
  split
  · rfl
  · split
    · exact xu_o (by omega)
    · rfl
theorem n6rs : rRs a z 69 6 = a 69 6 := by
  unfold rRs
  split
  · rfl
  · exact n6r2.trans n6r1
theorem n6gs : gRs a z 69 6 = a 69 6 := by
  unfold gRs
  split
  · unfold gRo
    split
    · exact n6ga
    · rfl
  · have e1 : gR1 a z 69 6 = a 69 6 := by
      unfold gR1
      split
      · rfl
      · exact n6gi
    rw [← e1]
    unfold gR2
    split
    · rfl
    · exact n6gi.trans n6ga
theorem nu_am : zNu (aMn a wd) (a 69 6) (aMk a kd wd L rt 69 6) := by
  unfold aMn aMk
  by_cases h : (a 69 6).toInt < 512
  · rw [if_pos h, if_pos h]
    by_cases q : aRp a (wd + 1).toInt = -1
    · rw [if_pos q, if_pos q]
      exact Or.inr ⟨rfl, w6rs⟩
    · rw [if_neg q, if_neg q, n6rt, n6md, n6ad, w6rs]
      exact Or.inl ⟨rfl, rfl⟩
  · rw [if_neg h, if_neg h]
    exact Or.inr ⟨rfl, rfl⟩
theorem nu_sm : zNu (sMn a wd) (a 69 6) (sMk a kd wd L rt 69 6) := by
  unfold sMn sMk
  by_cases h : (a 69 6).toInt < 512
  · rw [if_pos h, if_pos h]
    by_cases q : zRp a (wd + 1).toInt = -1
    · rw [if_pos q, if_pos q]
      exact Or.inr ⟨rfl, n6zs⟩
    · rw [if_neg q, if_neg q, n6rt, n6md, n6ad, n6zs]
      exact Or.inl ⟨rfl, rfl⟩
  · rw [if_neg h, if_neg h]
    exact Or.inr ⟨rfl, rfl⟩
theorem nu_lm : zNu (lMn a wd) (a 69 6) (lMk a kd wd L rt 69 6) := by
  unfold lMn lMk
  by_cases h : (a 69 6).toInt < 512
  · rw [if_pos h, if_pos h]
    by_cases q : lRp a (wd + 1).toInt = -1
    · rw [if_pos q, if_pos q]
      exact Or.inr ⟨rfl, n6ls⟩
    · rw [if_neg q, if_neg q, n6rt, n6md, n6ad, n6ls]
      exact Or.inl ⟨rfl, rfl⟩
  · rw [if_neg h, if_neg h]
    exact Or.inr ⟨rfl, rfl⟩
theorem nu_hm : zNu (hMn a wd) (a 69 6) (hMk a kd wd L rt 69 6) := by
  unfold hMn hMk
  by_cases h : (a 69 6).toInt < 512
  · rw [if_pos h, if_pos h]
    by_cases q : hRp a (wd + 1).toInt = -1
    · rw [if_pos q, if_pos q]
      exact Or.inr ⟨rfl, n6hs⟩
    · rw [if_neg q, if_neg q, n6r0, n6hd, n6ad, n6hs]
      exact Or.inl ⟨rfl, rfl⟩
  · rw [if_neg h, if_neg h]
    exact Or.inr ⟨rfl, rfl⟩
theorem nu_rm : zNu (rMn a wd) (a 69 6) (rMk a kd wd L rt 69 6) := by
  unfold rMn rMk
  by_cases h : (a 69 6).toInt < 512
  · rw [if_pos h, if_pos h]
    by_cases q : rRp a (wd + 1).toInt = -1
    · rw [if_pos q, if_pos q]
      exact Or.inr ⟨rfl, n6rs⟩
    · rw [if_neg q, if_neg q, n6r0, n6rd, n6ad, n6rs]
      exact Or.inl ⟨rfl, rfl⟩
  · rw [if_neg h, if_neg h]
    exact Or.inr ⟨rfl, rfl⟩
theorem nu_ym : zNu (yMn a wd) (a 69 6) (yMk a kd wd L rt 69 6) := by
  unfold yMn yMk
  by_cases h : (a 69 6).toInt < 512
  · rw [if_pos h, if_pos h]
    by_cases q : gRp a (wd + 1).toInt = -1
    · rw [if_pos q, if_pos q]
      exact Or.inr ⟨rfl, n6gs⟩
    · rw [if_neg q, if_neg q, n6r0, n6gd, n6ad, n6gs]
      exact Or.inl ⟨rfl, rfl⟩
  · rw [if_neg h, if_neg h]
    exact Or.inr ⟨rfl, rfl⟩
/-! COUNTS: those that go keep the numbers given -/
theorem n6fa {st : List (List Int32)} {r : Int32} : (cFa a st r).1 69 6 = a 69 6 := by
  unfold cFa
  split
  · rfl
  · split
    · exact aRm_o (c := 69) (k := 6) (by decide) ⟨by decide, by decide, by decide, by decide⟩
    · exact aGr_o (c := 69) (k := 6) ⟨by decide, by decide, by decide, by decide⟩
theorem n6st : ∀ x : (Nat → Nat → Int32) × List (List Int32), (cSt x).1 69 6 = x.1 69 6 := by
  intro x
  obtain ⟨c, l⟩ := x
  cases l with
  | nil => rfl
  | cons h t =>
    cases h with
    | nil => rfl
    | cons r l =>
      show (if r.toInt < 0 then (c, l :: t) else cFa c (l :: t) r).1 69 6 = c 69 6
      split
      · rfl
      · exact n6fa
theorem n6it : ∀ (n : Nat) (x : (Nat → Nat → Int32) × List (List Int32)), (cIt n x).1 69 6 = x.1 69 6 := by
  intro n
  induction n with
  | zero => intro x; rfl
  | succ n ih => intro x; exact (ih (cSt x)).trans (n6st x)
theorem n6le {B : Int} (hV : cV a [] B) : cLe a y 69 6 = a 69 6 := by
  by_cases h : 0 ≤ y.toInt ∧ xAl a y.toNatClampNeg
  · obtain ⟨d, n, hn⟩ := E_ex _ (cFa a [] y) (Nat.le_refl _) (V_fa hV h.1 h.2).1
    rw [cLe_y h.1 h.2 ⟨n, hn⟩]
    have e := n6it n (cFa a [] y)
    rw [hn] at e
    exact e.trans n6fa
  · rw [cLe_n h]
end HN
section HK
variable {a : Nat → Nat → Int32} {S : ma_S} {x kd wd rt : Int32} {L : Int64} {B : Int} {f : Nat → Nat → Int32} {r : Nat → Nat → Option Nat} {C Z N : Nat}
theorem k67_b (h : zA f r C Z N S) (h0 : 0 ≤ x.toInt) (h1 : x.toInt < (mI S 64 7).toInt) : 0 ≤ (mI S 67 x.toNatClampNeg).toInt ∧ (mI S 67 x.toNatClampNeg).toInt ≤ 60 := by
  have b := zG_s h 0 16 (c := 64) (k := 7) (by decide)
  have c := tn_cast h0
  have q := zG_a h 16 0 8 (c := 67) (k := x.toNatClampNeg) (by decide) (by omega)
  omega
theorem nu_km (hI : qI a) (hV : cV a [] B) (hB : 0 ≤ B) (h0 : 0 ≤ wd.toInt) (h6 : wd.toInt ≤ 60) (hr : 0 ≤ rt.toInt) (hr2 : rt.toInt ≤ 15) : zNu (sMn a wd) (a 69 6) (kMk a kd wd L rt 69 6) := by
  have hIr := I_rs (z := (wd + 1).toInt) hI hV.2.1
  have hVr := V_rs (p := (wd + 1).toInt) hI hV
  have cr := tn_cast hr
  by_cases z6 : (a 69 6).toInt < 512
  · by_cases zp : zRp a (wd + 1).toInt = -1
    · have m1 := kMk_1 (kd := kd) (rt := rt) (L := L) z6 zp
      rw [m1.1, m1.2]
      exact Or.inr ⟨rfl, n6zs⟩
    · have fs := Ft_fs hIr (z := (wd + 1).toInt) (by rw [i_p1 (by omega)]; omega) zp
      have e1 := i_p1 (i := wd) (by omega)
      have r5 := hIr.2.2.2.1.2.2.1
      have zz : zRp a (wd + 1).toInt = aFt (zRs a (wd + 1).toInt) (wd + 1).toInt := rfl
      rw [← zz] at fs
      have f0 := fs.1
      have f1 := fs.2.1
      have pl : (Int32.ofInt (zRp a (wd + 1).toInt)).toInt = zRp a (wd + 1).toInt := Int32.toInt_ofInt_of_le (by omega) (by omega)
      have zr6 : (zRs a (wd + 1).toInt 69 6).toInt < 512 := by
        rw [n6zs]
        exact z6
      have ne := Ne_o0 (aa := a) (w := wd) (pl := Int32.ofInt (zRp a (wd + 1).toInt)) (y := zRs a (wd + 1).toInt 69 6) hIr pl (by rw [pl]; exact f0) h0 h6 rfl zr6
      have nb := Ne_b ne
      have ad := Ad_of (b := zRs a (wd + 1).toInt) (y := zRs a (wd + 1).toInt 69 6) (kk := kd) (w := wd) (pl := Int32.ofInt (zRp a (wd + 1).toInt)) (L := L) nb.1 h0 h6 nb.2.2.2.1 (by omega)
      have va := V_ad4 ne ad hVr hB
      have m1 := kMk_2 (kd := kd) (rt := rt) (L := L) (pl := Int32.ofInt (zRp a (wd + 1).toInt)) (y := zRs a (wd + 1).toInt 69 6) z6 rfl pl (by rw [pl]; exact zp) rfl
      rw [m1.1, m1.2, n6le (V_r0 va (by omega)), n6r0, n6md, n6ad, n6zs]
      exact Or.inl ⟨rfl, rfl⟩
  · have m1 := kMk_0 (wd := wd) (kd := kd) (rt := rt) (L := L) z6
    rw [m1.1, m1.2]
    exact Or.inr ⟨rfl, rfl⟩
end HK
/-! PLAIN WORDS (p8, p10): who is left keeps its plain words -/
/-- n was there, of the same size and with the same references, and its plain words are what they were -/
def zPc (a b : Nat → Nat → Int32) (n : Nat) : Prop := xAl a n ∧ b 128 n = a 128 n ∧ b (1000 + n) = a (1000 + n) ∧ ∀ i : Int32, 0 ≤ i.toInt → i.toInt < (a 128 n).toInt - 1 → a (1000 + n) i.toNatClampNeg = 0 → aW b n i = aW a n i
def zPw (a b : Nat → Nat → Int32) : Prop := ∀ n, xAl b n → zPc a b n
/-- the same, but for one that is new, whose plain words are 0 -/
def zPn (a b : Nat → Nat → Int32) : Prop := ∀ n, xAl b n → zPc a b n ∨ ((n : Int) = (a 69 6).toInt ∧ ∀ i : Int32, 0 ≤ i.toInt → i.toInt < (b 128 n).toInt - 1 → b (1000 + n) i.toNatClampNeg = 0 → aW b n i = 0)
/-- nothing that these speak of has changed -/
def zSa (a b : Nat → Nat → Int32) : Prop := ∀ c, (c = 126 ∨ c = 128 ∨ c = 130 ∨ c = 71 ∨ 1000 ≤ c) → b c = a c
section F51
variable {a b c d : Nat → Nat → Int32} {lim p e t st ot o0 r q B : Int} {P N : Nat → Int} {n n₉ k j f : Nat} {to x y i : Int32}
theorem Sa_rfl : zSa a a := fun _ _ => rfl
theorem Sa_tr (h : zSa a b) (g : zSa b d) : zSa a d := fun c hc => (g c hc).trans (h c hc)
theorem Sa_sy (h : zSa a b) : zSa b a := fun c hc => (h c hc).symm
theorem Sa_of (h : zOf a b) : zSa a b := fun c hc => funext (fun k => (h c k (by omega) (by omega) (by omega)).symm)
theorem Sa_o6 (h : zO6 a b) : zSa a b := fun c hc => funext (fun k => (h c k (by omega) (by omega) (by omega) (by omega)).symm)
theorem Sa_o8 (h : zO8 a b) : zSa a b := fun c hc => funext (fun k => (h c k (by omega) (by omega) (by omega) (by omega)).symm)
theorem Sa_q (h : zQ a b) : zSa a b := fun c hc => funext (fun k => (h c k (by omega) (by omega) (by omega) (by omega)).symm)
theorem Sa_u (h : k = 69 ∨ k = 72 ∨ k = 73 ∨ k = 74 ∨ k = 75 ∨ k = 76 ∨ k = 77 ∨ k = 83 ∨ k = 87 ∨ k = 92 ∨ k = 93 ∨ k = 131 ∨ k = 133 ∨ k = 134) : zSa a (ma_u a k n x) := fun c hc => ma_u_ne _ _ _ (by omega)
theorem Sa_al (h : zSa a b) : xAl b n ↔ xAl a n := by
  unfold xAl
  rw [h 126 (by omega)]
theorem cQ_sa (g : zSa a b) (h : cQI a) : cQI b := by
  refine ⟨fun n hn => ?_, fun n n₉ hn hn₉ hne => ?_, fun n hn k => ?_⟩
  · rw [g 128 (by omega), g 130 (by omega)]
    exact h.1 n ((Sa_al g).mp hn)
  · rw [g 128 (by omega), g 130 (by omega)]
    exact h.2.1 n n₉ ((Sa_al g).mp hn) ((Sa_al g).mp hn₉) hne
  · rw [g (1000 + n) (by omega)]
    exact h.2.2 n (fun z => hn ((Sa_al g).mpr z)) k
theorem Pw_rfl : zPw a a := fun n hn => ⟨hn, rfl, rfl, fun _ _ _ _ => rfl⟩
theorem Pc_tr (h : zPc a b n) (g : zPc b d n) : zPc a d n := ⟨h.1, g.2.1.trans h.2.1, g.2.2.1.trans h.2.2.1, fun i h0 h1 h2 => (g.2.2.2 i h0 (by rw [h.2.1]; exact h1) (by rw [h.2.2.1]; exact h2)).trans (h.2.2.2 i h0 h1 h2)⟩
theorem Pw_tr (h : zPw a b) (g : zPw b d) : zPw a d := fun n hn => Pc_tr (h n (g n hn).1) (g n hn)
theorem Pw_sa (h : zSa a b) : zPw a b := fun n hn => ⟨(Sa_al h).mp hn, by rw [h 128 (by omega)], h _ (by omega), fun i _ _ _ => by
  unfold aW
  rw [h 130 (by omega), h 71 (by omega)]⟩
theorem Pn_of (h : zPw a b) : zPn a b := fun n hn => Or.inl (h n hn)
theorem Pn_l (h : zPw a b) (e : b 69 6 = a 69 6) (g : zPn b d) : zPn a d := fun n hn => (g n hn).imp (fun w => Pc_tr (h n w.1) w) (fun w => ⟨by rw [← e]; exact w.1, w.2⟩)
theorem Pn_r (g : zPn a b) (h : zPw b d) : zPn a d := fun n hn => by
  have w := h n hn
  refine (g n w.1).imp (fun z => Pc_tr z w) (fun z => ⟨z.1, fun i h0 h1 h2 => ?_⟩)
  rw [w.2.1] at h1
  rw [w.2.2.1] at h2
  rw [w.2.2.2 i h0 h1 h2]
  exact z.2 i h0 h1 h2
/-! one goes -/
theorem Pw_rm (hI : cQI a) (h0 : 0 ≤ y.toInt) (hy : xAl a y.toNatClampNeg) : zPw a (aRm a y) := fun n hn => by
  have q := (rm_al h0).mp hn
  have e8 : aRm a y 128 n = a 128 n := rm_rw (by decide) (by decide) q.2
  have e0 : aRm a y 130 n = a 130 n := rm_rw (by decide) (by decide) q.2
  refine ⟨q.1, e8, funext (fun k => rm_bit q.2), fun i i0 i1 _ => ?_⟩
  have W : qWp a n i := ⟨q.1, i0, i1⟩
  have p := cwp_i hI W
  have cq := tn_cast p.2.1
  have hy1 := hI.1 _ hy
  have es : (a 130 y.toNatClampNeg + a 128 y.toNatClampNeg).toInt = (a 130 y.toNatClampNeg).toInt + (a 128 y.toNatClampNeg).toInt := i_add (by omega) (by omega)
  have em : zMin (a 130 y.toNatClampNeg + a 128 y.toNatClampNeg).toInt = (a 130 y.toNatClampNeg).toInt + (a 128 y.toNatClampNeg).toInt := by
    unfold zMin
    rw [es]
    split <;> omega
  have d := hI.2.1 n _ q.1 hy q.2
  unfold aW
  rw [e0, rm_71, em]
  unfold zFr
  rw [if_neg (c := 71 = 71 ∧ (a 130 y.toNatClampNeg).toInt ≤ (((a 130 n + 1 + i).toNatClampNeg : Nat) : Int) ∧ (((a 130 n + 1 + i).toNatClampNeg : Nat) : Int) < (a 130 y.toNatClampNeg).toInt + (a 128 y.toNatClampNeg).toInt) (fun w => by omega)]
theorem Pw_mf : ∀ (f : Nat) (x : Int32) (a : Nat → Nat → Int32), cQI a → zPw a (aMf f x a) ∧ cQI (aMf f x a) := by
  intro f
  induction f with
  | zero => intro x a h; exact ⟨Pw_rfl, h⟩
  | succ f ih =>
    intro x a h
    by_cases w : aMc a x
    · rw [aMf_y w]
      have c := tn_cast w.1
      have w1 := w.2.1
      have g := ih (x + 1) _ (cQ_rm w.1 h)
      exact ⟨Pw_tr (Pw_rm h w.1 ⟨by omega, w.2.2.1⟩) g.1, g.2⟩
    · rw [aMf_n w]
      exact ih _ _ h
/-! walks, wishes -/
theorem Sa_gf : zSa a (aGf f x a) := fun c hc => funext (fun k => Gf_r (by omega) (by omega) (by omega) (by omega) (by omega) (by omega) (by omega) _ _ _)
theorem Sa_ra : zSa a (aRA a) := fun c hc => funext (fun k => aRA_o ⟨by omega, by omega, by omega⟩)
theorem Sa_sp : zSa a (aSp n a) := fun c hc => funext (fun k => aSp_o ⟨by omega, by omega, by omega⟩ _ _)
theorem Sa_ro : zSa a (aRo a x) := fun c hc => funext (fun k => aRo_o ⟨by omega, by omega, by omega⟩)
theorem Sa_cm : zSa a (aCm a y) := fun c hc => funext (fun k => aCm_o ⟨by omega, by omega, by omega⟩)
theorem Sa_gr : zSa a (aGr a y) := fun c hc => funext (fun k => aGr_o ⟨by omega, by omega, by omega, by omega⟩)
theorem Sa_rw : zSa a (aRo (aWh a x) 0) := fun c hc => ro_r ⟨by omega, by omega, by omega⟩
theorem Sa_nw : zSa a (aNw a) := by
  unfold aNw
  split
  · exact Sa_ro
  · exact Sa_rfl
theorem Sa_b0 : zSa a (aB0 a) := Sa_tr (Sa_u (k := 87) (by omega)) Sa_rw
theorem Sa_bg : zSa a (aBg a) := by
  unfold aBg
  split
  · exact Sa_b0
  · exact Sa_rfl
theorem Sa_c2 : ∀ (k : Nat) (a : Nat → Nat → Int32), zSa a (aC2 k a) := by
  intro k
  induction k with
  | zero => intro a; exact Sa_rfl
  | succ k ih =>
    intro a
    by_cases h : (aNw a 75 3).toInt < (aNw a 75 4).toInt
    · rw [aC2_y h]
      exact Sa_tr Sa_nw (Sa_tr Sa_sp (ih _))
    · rw [aC2_n h]
      exact Sa_nw
theorem Sa_c1 : zSa a (aC1 a) := Sa_tr Sa_bg (Sa_tr Sa_sp (Sa_c2 _ _))
theorem Pw_sw (h : cQI a) : zPw a (aSw a) ∧ cQI (aSw a) := by
  have g : zSa a (aGw (aRA a) 0) := Sa_tr Sa_ra Sa_gf
  have w := Pw_mf ((aGw (aRA a) 0 69 6).toInt - (0 : Int32).toInt).toNat 0 _ (cQ_sa g h)
  exact ⟨Pw_tr (Pw_sa g) w.1, w.2⟩
theorem Pw_fi (h : cQI a) : zPw a (aFi a) ∧ cQI (aFi a) := by
  have g : zSa a (aGw (ma_u a 87 8 0) 0) := Sa_tr (Sa_u (k := 87) (by omega)) Sa_gf
  have w := Pw_mf ((aGw (ma_u a 87 8 0) 0 69 6).toInt - (0 : Int32).toInt).toNat 0 _ (cQ_sa g h)
  exact ⟨Pw_tr (Pw_sa g) w.1, w.2⟩
theorem Pw_sf1 (s : zSa a b) (h : cQI a) (g : cQI b → zPw b d ∧ cQI d) : zPw a d ∧ cQI d := by
  have w := g (cQ_sa s h)
  exact ⟨Pw_tr (Pw_sa s) w.1, w.2⟩
theorem Pw_cl (h : cQI a) : zPw a (aCl a) ∧ cQI (aCl a) := Pw_sf1 Sa_c1 h Pw_fi
theorem Pw_lk (h : cQI a) : zPw a (aLk a) ∧ cQI (aLk a) := by
  unfold aLk
  split
  · exact ⟨Pw_rfl, h⟩
  · split
    · exact ⟨Pw_sa Sa_nw, cQ_sa Sa_nw h⟩
    · exact Pw_sf1 Sa_nw h Pw_fi
theorem Pw_go (h : cQI a) : zPw a (aGo a n) ∧ cQI (aGo a n) := by
  unfold aGo
  split
  · exact ⟨Pw_rfl, h⟩
  · exact Pw_sf1 Sa_sp h Pw_lk
theorem Pw_f1 (h : cQI a) : zPw a (aF1 a) ∧ cQI (aF1 a) := by
  have s : zSa a (aF0 a) := by
    unfold aF0
    split
    · exact Sa_b0
    · exact Sa_rfl
  exact Pw_sf1 s h Pw_go
theorem Pw_t2 (h : zPw a b ∧ cQI b) (g : cQI b → zPw b d ∧ cQI d) : zPw a d ∧ cQI d := ⟨Pw_tr h.1 (g h.2).1, (g h.2).2⟩
theorem Pw_rs (h : cQI a) : zPw a (aRs a p) ∧ cQI (aRs a p) := by
  unfold aRs
  split
  · split
    · exact Pw_t2 (Pw_t2 (Pw_f1 h) Pw_cl) Pw_cl
    · exact Pw_t2 (Pw_f1 h) Pw_cl
  · exact Pw_f1 h
theorem Pw_zs (h : cQI a) : zPw a (zRs a p) ∧ cQI (zRs a p) := by
  unfold zRs
  split
  · exact Pw_sw h
  · exact ⟨Pw_rfl, h⟩
/-! by counts: what falls -/
theorem Pw_fa (hV : cQI a) (h0 : 0 ≤ y.toInt) (hy : xAl a y.toNatClampNeg) {s : List (List Int32)} : zPw a (cFa a s y).1 := by
  unfold cFa
  split
  · exact Pw_rfl
  · split
    · exact Pw_rm hV h0 hy
    · exact Pw_sa Sa_gr
theorem Pw_st : ∀ (s : List (List Int32)) (a : Nat → Nat → Int32), cV a s B → zPw a (cSt (a, s)).1 := by
  intro s a h
  match s, h with
  | [], h => exact Pw_rfl
  | [] :: t, h => exact Pw_rfl
  | (r :: l) :: t, h =>
    by_cases w : r.toInt < 0
    · rw [cSt_n w]
      exact Pw_rfl
    · have ok := h.2.2.1 (r :: l) List.mem_cons_self r List.mem_cons_self
      have al : xAl a r.toNatClampNeg := ok.elim (fun z => absurd z w) id
      rw [cSt_y (by omega)]
      exact Pw_fa h.1 (by omega) al
theorem Pw_it : ∀ (n : Nat) (x : (Nat → Nat → Int32) × List (List Int32)), cV x.1 x.2 B → zPw x.1 (cIt n x).1 := by
  intro n
  induction n with
  | zero => intro x _; exact Pw_rfl
  | succ n ih =>
    intro x h
    exact Pw_tr (Pw_st x.2 x.1 h) (ih (cSt x) (V_st x.2 x.1 h))
theorem Pw_le (hV : cV a [] B) : zPw a (cLe a y) := by
  by_cases h : 0 ≤ y.toInt ∧ xAl a y.toNatClampNeg
  · obtain ⟨d, n, hn⟩ := E_ex _ (cFa a [] y) (Nat.le_refl _) (V_fa hV h.1 h.2).1
    rw [cLe_y h.1 h.2 ⟨n, hn⟩]
    have e := Pw_it n (cFa a [] y) (V_fa hV h.1 h.2).1
    rw [hn] at e
    exact Pw_tr (Pw_fa hV.1 h.1 h.2) e
  · rw [cLe_n h]
    exact Pw_rfl
/-! one is moved -/
theorem Pw_mo (hI : qI a) (hn : xAl a n) (h0 : 0 ≤ to.toInt) (h1 : to.toInt + (a 128 n).toInt ≤ (a 87 0).toInt) (F : qFr a n to) : zPw a (aMo a n to) := fun n₉ hn₉ => by
  have h := Mo_al.1 hn₉
  refine ⟨h, Mo_r (by decide) (by decide), funext (fun _ => Mo_r (by omega) (by omega)), fun i hi hi2 _ => ?_⟩
  have b := hI.1 n₉ h
  have b4 := hI.2.2.2.1.2.2.1
  have e1 : (a 130 n₉ + 1).toInt = (a 130 n₉).toInt + 1 := i_addk rfl (by omega) (by omega)
  have e2 : (a 130 n₉ + 1 + i).toInt = (a 130 n₉).toInt + 1 + i.toInt := by rw [i_add (by omega) (by omega), e1]
  have t2 := tn_cast (x := a 130 n₉ + 1 + i) (by omega)
  unfold aW
  by_cases e : n₉ = n
  · subst e
    have f1 : (to + 1).toInt = to.toInt + 1 := i_addk rfl (by omega) (by omega)
    have f2 : (to + 1 + i).toInt = to.toInt + 1 + i.toInt := by rw [i_add (by omega) (by omega), f1]
    have s2 := tn_cast (x := to + 1 + i) (by omega)
    rw [Mo_pn, Mo_in (by omega) (by omega), show (((to + 1 + i).toNatClampNeg : Int) - to.toInt + (a 130 n₉).toInt).toNat = (a 130 n₉ + 1 + i).toNatClampNeg from by omega]
  · rw [Mo_po e, Mo_ot hI hn F h e (by omega) (by omega)]
/-! sliding -/
theorem Pw_sf : ∀ (f : Nat) (a : Nat → Nat → Int32) (p e : Int), qJs a p e → (a 87 2).toInt = 0 → lim ≤ 4500 → zPw a (zSf lim f a p e).1 := by
  intro f
  induction f with
  | zero => intro a p e _ _ _; exact Pw_rfl
  | succ f ih =>
    intro a p e h hz hl
    by_cases c : p < lim
    · by_cases g : (zOb a p).toInt < 0
      · rw [Sf_fr c g]
        exact ih _ _ _ (Js_fr h g (by omega)) hz hl
      · by_cases w : a 133 (zOb a p).toNatClampNeg = 0
        · rw [Sf_mv c (by omega) w]
          have b := h.2.1
          have b4 := h.1.2.2.2.1.2.2.1
          have te : (Int32.ofInt e).toInt = e := Int32.toInt_ofInt_of_le (by omega) (by omega)
          have fq := Js_fq h (by omega) te
          have mv := Js_mv h (by omega) te hz
          exact Pw_tr (Pw_mo h.1 (Js_ob h (by omega)).1 (by omega) fq.2.2 fq.1) (ih _ _ _ mv (by rw [Mo_r (by decide) (by decide)]; exact hz) hl)
        · rw [Sf_ho c (by omega) w]
          exact ih _ _ _ (Js_ho h (by omega)) hz hl
    · rw [Sf_n c]
      exact Pw_rfl
theorem Pw_lcl (hI : qI a) : zPw a (lCl a) := by
  have s := I_s0 hI
  have b4 := s.2.2.2.1.2.2.1
  have z : (ma_u (aSw a) 87 2 0 87 2).toInt = 0 := by
    rw [xu_s]
    rfl
  have z0 : ma_u (aSw a) 87 2 0 87 0 = aSw a 87 0 := xu_o (by omega)
  have w : zPw (ma_u (aSw a) 87 2 0) (lSd (aSw a)).1 := Pw_sf _ _ _ _ (Js_0 s) z (by rw [← z0]; omega)
  exact Pw_tr (Pw_sw (cQ_I hI)).1 (Pw_tr (Pw_sa (Sa_u (k := 87) (by omega))) (Pw_tr w (Pw_sa (Sa_u (k := 87) (by omega)))))
theorem Pw_ls (hI : qI a) : zPw a (lRs a p) := by
  unfold lRs
  split
  · exact Pw_lcl hI
  · exact Pw_rfl
/-! between halves -/
theorem Pw_hf : ∀ (f j : Nat) (a : Nat → Nat → Int32) (t : Int), qJh a st ot r j t → (j : Int) + f = (a 75 4).toInt → zPw a (hMf f j a t).1 := by
  intro f
  induction f with
  | zero => intro j a t h _; exact Pw_rfl
  | succ f ih =>
    intro j a t h e
    have b4 := h.1.2.2.2.1.2.2.1
    have to : (Int32.ofInt t).toInt = t := by
      have p := h.2.2.2.2.1
      have l1 : st ≤ zPs a st j := Ps_le (st := st) h.1 h.2.1 j (by omega) 0 (by omega)
      have l2 := Ps_le (st := st) h.1 h.2.1 (a 75 4).toInt.toNat (by omega) j (by omega)
      have s := h.2.2.2.1
      exact Int32.toInt_ofInt_of_le (by omega) (by omega)
    have nx := Jh_nx h (j := j) (by omega) to
    have al := FQ_al h.2.1 (j := j) (by omega)
    rw [hMf_y nx.1]
    exact Pw_tr (Pw_mo h.1 al.1 nx.2.2.2.2.1 nx.2.2.2.1 nx.2.2.1) (ih _ _ _ (Jh_go h (by omega) to) (by rw [Mo_r (by decide) (by decide)]; omega))
theorem Pw_hcl (h : qHv a) : zPw a (hCl a) := by
  have j := Jh_0 h
  have e5 : (aSw a 87 5 - aSw a 87 3).toInt = (a 87 5 - a 87 3).toInt := by rw [sw_87, sw_87]
  have q := j.2.2.2.2.1.2.1
  have w : zPw (aSw a) (hFo (aSw a)).1 := Pw_hf (st := (a 87 5 - a 87 3).toInt) (ot := (a 87 3).toInt) (r := (a 87 5).toInt) _ _ _ _ (by rw [e5]; exact j) (by omega)
  exact Pw_tr (Pw_sw (cQ_I h.1)).1 (Pw_tr w (Sa_tr (Sa_u (k := 87) (by omega)) (Sa_u (k := 87) (by omega)) |> Pw_sa))
theorem Pw_hs (h : qHv a) : zPw a (hRs a p) := by
  unfold hRs
  split
  · exact Pw_rfl
  · exact Pw_hcl h
/-! by ages -/
theorem Sa_fd : zSa a (gFd a) := fun c hc => Fd_r (by omega)
theorem Pw_gma (h : qAv a) : zPw a (gMa a) := by
  have I := I_sw h.1
  have z : (aSw a 87 2).toInt = 0 := by
    rw [sw_87, h.2.1]
    rfl
  have l := h.2.2.1.2.1
  have w : zPw (aSw a) (gSd a).1 := Pw_sf _ _ _ _ (Js_0 I) z (by omega)
  exact Pw_tr (Pw_sw (cQ_I h.1)).1 (Pw_tr w (Pw_sa (Sa_tr (Sa_u (k := 87) (by omega)) Sa_fd)))
theorem Pw_m1 (hI : qI a) (al : xAl a n) (h0 : 0 ≤ (gTo a n).toInt) (h1 : (gTo a n).toInt + (a 128 n).toInt ≤ (a 87 0).toInt) (F : qFr a n (gTo a n)) : zPw a (gM1 a n) := by
  have r : ∀ c, c ≠ 131 → ma_u a 131 n (a 131 n + 1) c = a c := fun c hc => ma_u_ne _ _ _ hc
  have rr : ∀ c, c ≠ 131 → aMo (ma_u a 131 n (a 131 n + 1)) n (gTo a n) c = aMo a n (gTo a n) c := fun c hc => funext (fun k => by
    unfold aMo
    rw [r 128 (by decide), r 130 (by decide), r 71 (by decide), r c hc])
  have g : ∀ c, c ≠ 87 → c ≠ 131 → gM1 a n c = aMo a n (gTo a n) c := fun c h1 h2 => by
    rw [← rr c h2]
    unfold gM1 gTo
    by_cases w : (a 87 11).toInt ≤ (a 131 n + 1).toInt
    · rw [if_pos w, if_pos w, ma_u_ne _ _ _ h1]
    · rw [if_neg w, if_neg w, ma_u_ne _ _ _ h1]
  exact Pw_tr (Pw_mo hI al h0 h1 F) (Pw_sa (fun c hc => g c (by omega) (by omega)))
theorem Pw_gf : ∀ (f j : Nat) (a : Nat → Nat → Int32), qJg a st ot o0 P N j → (j : Int) + f = (a 75 4).toInt → zPw a (gMf f j a) := by
  intro f
  induction f with
  | zero => intro j a h _; exact Pw_rfl
  | succ f ih =>
    intro j a h e
    have nx := Jg_nx h (by omega)
    rw [gMf_y nx.1]
    exact Pw_tr (Pw_m1 h.1 nx.2.2.2.2.1 nx.2.2.2.1.1 nx.2.2.2.1.2 nx.2.2.1) (ih _ _ (Jg_go h (by omega)) (by rw [gM1_r (by decide) (by decide) (by decide) (by decide)]; omega))
theorem Sa_kp : zSa a (gKp a) := fun c hc => Kp_r (by omega) (by omega) (by omega) (by omega) (by omega) (by omega) (by omega)
theorem Pw_gmv (h : qAv a) (hf : ¬ gFu a) : zPw a (gMv a) := by
  have j := Jg_0 h hf
  have k := j.2.2.2.2.2.2.2.1
  have w0 : zPw (gKp a) (gMk0 a) := (Pw_mf _ _ _ (cQ_sa Sa_kp (cQ_I h.1))).1
  have w1 : zSa (gMk0 a) (gMk1 a) := Sa_tr (Sa_u (k := 87) (by omega)) (Sa_u (k := 87) (by omega))
  have w2 : zPw (gMk1 a) (gMf (gMk1 a 75 4).toInt.toNat 0 (gMk1 a)) := Pw_gf _ _ _ j (by omega)
  exact Pw_tr (Pw_sa Sa_kp) (Pw_tr w0 (Pw_tr (Pw_sa w1) (Pw_tr w2 (Pw_sa Sa_fd))))
theorem Pw_gm0 (h : qAv a) : zPw a (gM0 a) := by
  unfold gM0
  split
  · exact Pw_gma h
  · exact Pw_rfl
theorem Pw_gmi (h : qAv a) : zPw a (gMi a) := by
  unfold gMi
  split
  · exact Pw_gm0 h
  · rename_i w
    exact Pw_tr (Pw_gm0 h) (Pw_gmv (Av_m0 h) w)
theorem Pw_gcl (h : qAv a) : zPw a (gMi (gMa a)) := Pw_tr (Pw_gma h) (Pw_gmi (Av_ma h))
theorem Pw_gs (h : qAv a) : zPw a (gRs a p) := by
  unfold gRs
  split
  · unfold gRo
    split
    · exact Pw_gma h
    · exact Pw_rfl
  · have w : zPw a (gR1 a p) := by
      unfold gR1
      split
      · exact Pw_rfl
      · exact Pw_gmi h
    refine Pw_tr w ?_
    unfold gR2
    split
    · exact Pw_rfl
    · exact Pw_gcl (Av_r1 h)
/-! by regions -/
theorem Pw_r1 (h : qJr a q p t) (hp : p < q * (a 87 3).toInt + (a 92 q.toNat).toInt) (hf : 0 ≤ (zOb a p).toInt) (hn : rTo a t (a 128 (zOb a p).toNatClampNeg).toInt ≠ -1) : zPw a (rM1 a (zOb a p).toNatClampNeg (rTo a t (a 128 (zOb a p).toNatClampNeg).toInt)) := by
  have j := Jr_to h hp hf hn
  have he : (Int32.ofInt (rTo a t (a 128 (zOb a p).toNatClampNeg).toInt * (a 87 3).toInt + (a 92 (rTo a t (a 128 (zOb a p).toNatClampNeg).toInt).toNat).toInt)).toInt = rTo a t (a 128 (zOb a p).toNatClampNeg).toInt * (a 87 3).toInt + (a 92 (rTo a t (a 128 (zOb a p).toNatClampNeg).toInt).toNat).toInt := by
    have s := h.1.2.2.1
    have tu := (h.1.2.2.2.1 (rTo a t (a 128 (zOb a p).toNatClampNeg).toInt).toNat (by omega)).1
    have m0 : 0 ≤ rTo a t (a 128 (zOb a p).toNatClampNeg).toInt * (a 87 3).toInt := Int.mul_nonneg j.2.2.2.2.1.1 (by omega)
    have m1 := ml_le j.2.2.2.2.1.2.1 (show 0 ≤ (a 87 3).toInt by omega)
    exact Int32.toInt_ofInt_of_le (by omega) (by omega)
  have fq := Jr_fq h hp hf hn he
  unfold rM1
  exact Pw_tr (Pw_mo h.1.1 j.1 fq.2.2.1 fq.2.2.2 fq.1) (Pw_sa (Sa_u (k := 92) (by omega)))
theorem Pw_rf : ∀ (f : Nat) (a : Nat → Nat → Int32) (p t : Int), qJr a q p t → qLv a t → e = q * (a 87 3).toInt + (a 92 q.toNat).toInt → (e - p).toNat ≤ f → zPw a (rMf e f a p t).1 ∧ ((rMf e f a p t).2.2 = true → ∃ p₉, qJr (rMf e f a p t).1 q p₉ (rMf e f a p t).2.1 ∧ qLv (rMf e f a p t).1 (rMf e f a p t).2.1 ∧ ¬ p₉ < q * ((rMf e f a p t).1 87 3).toInt + ((rMf e f a p t).1 92 q.toNat).toInt) := by
  intro f
  induction f with
  | zero =>
    intro a p t h hl he hz
    have hp : ¬ p < e := by omega
    rw [rMf_e hp]
    exact ⟨Pw_rfl, fun _ => ⟨p, h, hl, fun z => hp (by rw [he]; exact z)⟩⟩
  | succ f ih =>
    intro a p t h hl he hz
    by_cases hp : p < e
    · have hp2 := hp
      rw [he] at hp2
      by_cases hf : (zOb a p).toInt < 0
      · rw [rMf_fr hp hf]
        exact ih _ _ _ (Jr_fr h hp2 hf) hl he (by omega)
      · by_cases hn : rTo a t (a 128 (zOb a p).toNatClampNeg).toInt = -1
        · rw [rMf_no hp (by omega) hn]
          exact ⟨Pw_rfl, fun z => absurd (show false = true from z) (by decide)⟩
        · rw [rMf_go hp (by omega) hn]
          have j := Jr_to h hp2 (by omega) hn
          have g := ih _ _ _ (Jr_go h hp2 (by omega) hn) (Lv_go h hl hp2 (by omega) hn) (by rw [Jr_e3 h hp2 (by omega) hn]; exact he) (by omega)
          exact ⟨Pw_tr (Pw_r1 h hp2 (by omega) hn) g.1, g.2⟩
    · rw [rMf_e hp]
      exact ⟨Pw_rfl, fun _ => ⟨p, h, hl, fun z => hp (by rw [he]; exact z)⟩⟩
theorem Pw_ro : ∀ (f : Nat) (a : Nat → Nat → Int32) (t : Int), qRv a → qLv a t → zPw a (rOf f a t).1 := by
  intro f
  induction f with
  | zero => intro a t _ _; exact Pw_rfl
  | succ f ih =>
    intro a t hv hl
    by_cases w : rFw a = -1
    · rw [Of_e w]
      exact Pw_rfl
    · have y := Fw_y w
      have J := Lv_J hv hl y.1 y.2.1 y.2.2
      have g : zPw a (rM2 a (rFw a) t).1 ∧ ((rM2 a (rFw a) t).2.2 = true → ∃ p₉, qJr (rM2 a (rFw a) t).1 (rFw a) p₉ (rM2 a (rFw a) t).2.1 ∧ qLv (rM2 a (rFw a) t).1 (rM2 a (rFw a) t).2.1 ∧ ¬ p₉ < rFw a * ((rM2 a (rFw a) t).1 87 3).toInt + ((rM2 a (rFw a) t).1 92 (rFw a).toNat).toInt) := Pw_rf _ _ _ _ J hl rfl (Nat.le_refl _)
      by_cases z : (rM2 a (rFw a) t).2.2 = true
      · rw [Of_y rfl w z]
        obtain ⟨p₉, j2, l2, n2⟩ := g.2 z
        exact Pw_tr g.1 (Pw_tr (Pw_sa (Sa_tr (Sa_u (k := 93) (by omega)) (Sa_u (k := 92) (by omega)))) (ih _ _ (Jr_en2 j2 n2) (Lv_end l2 y.1)))
      · rw [Of_n rfl w (by simpa using z)]
        exact g.1
theorem Pw_rcl (h : qRv a) : zPw a (rCl a) := by
  have v := Rv_b0 h
  have s : zSa (aSw a) (rB0 a) := fun c hc => B0_o (by omega) (by omega)
  have w : zPw (rB0 a) (rC0 a).1 := Pw_ro _ _ _ v.1 v.2
  exact Pw_tr (Pw_sw (cQ_I h.1)).1 (Pw_tr (Pw_sa s) (Pw_tr w (Pw_sa (Sa_u (k := 87) (by omega)))))
theorem Pw_rrs (h : qRv a) : zPw a (rRs a p) := by
  unfold rRs
  split
  · exact Pw_rfl
  · have w : zPw a (rR1 a p) := by
      unfold rR1
      split
      · exact Pw_rfl
      · split
        · exact Pw_rcl h
        · exact Pw_rfl
    refine Pw_tr w ?_
    unfold rR2
    split
    · exact Pw_rfl
    · split
      · exact Pw_sa (Sa_u (k := 87) (by omega))
      · exact Pw_rfl
end F51
/-! PLAIN WORDS: a new one; what each call does -/
section F52
variable {a b c d : Nat → Nat → Int32} {p B : Int} {n k : Nat} {x y i o t v r kk kd w wd pl rt : Int32} {L : Int64} {F : Nat → Int32}
theorem ad_hi (h1 : n ≠ 69) (h2 : n ≠ 71) : aAd b y F L n k = zNw b y.toNatClampNeg F L n k := by
  unfold aAd
  rw [xu_o (fun z => h1 z.1), xu_o (fun z => h1 z.1), zIw_o h2, xu_o (fun z => h2 z.1)]
theorem Sa_md : zSa a (aMd a y) := by
  unfold aMd
  split
  · exact Sa_u (k := 87) (by omega)
  · exact Sa_tr (Sa_u (k := 87) (by omega)) (Sa_u (k := 77) (by omega))
theorem Sa_hd : zSa a (hMd a y) := Sa_u (k := 87) (by omega)
theorem Sa_gd : zSa a (gMd a y) := by
  unfold gMd
  split
  · exact Sa_u (k := 87) (by omega)
  · exact Sa_u (k := 87) (by omega)
theorem Sa_rd : zSa a (rMd a y) := by
  unfold rMd
  split
  · exact Sa_u (k := 92) (by omega)
  · exact Sa_rfl
theorem Sa_nc : zSa a (aNc a x y) := by
  unfold aNc
  split
  · exact Sa_cm
  · exact Sa_rfl
theorem Sa_r0 : zSa a (aR0 a i y) := Sa_u (k := 72) (by omega)
theorem Sa_rt : zSa a (aRt a i y) := Sa_tr (Sa_u (k := 72) (by omega)) Sa_nc
theorem Sa_tw : zSa a (aTw a) := by
  unfold aTw
  split
  · refine Sa_tr (Sa_u (k := 69) (n := 5) (x := a 69 5 - 1) (by omega)) (fun c hc => funext (fun k => ?_))
    unfold zSh
    rw [if_neg (by omega)]
  · exact Sa_rfl
theorem Sa_sg : zSa a (aSt a y) := by
  unfold aSt
  split
  · exact Sa_cm
  · exact Sa_rfl
/-- a new one -/
theorem Pn_ad (s : zSa (aAd b y (zFn y kk (w + 1) pl) L) d) (hI : cQI d) (hy : y = b 69 6) (hy0 : 0 ≤ y.toInt) (hy5 : y.toInt < 512) (hw : 0 ≤ w.toInt) (hw6 : w.toInt ≤ 60) : zPn b d := by
  have cy := tn_cast hy0
  have e1 := i_p1 (i := w) (by omega)
  have t6 : aAd b y (zFn y kk (w + 1) pl) L 126 y.toNatClampNeg = 1 := by
    rw [ad_hi (by decide) (by decide)]
    unfold zNw
    rw [if_pos ⟨rfl, rfl⟩]
  have t0 : aAd b y (zFn y kk (w + 1) pl) L 130 y.toNatClampNeg = pl := by
    rw [ad_hi (by decide) (by decide)]
    unfold zNw
    rw [if_neg (by omega), if_pos ⟨by decide, by decide, rfl⟩]
    rfl
  have t8 : aAd b y (zFn y kk (w + 1) pl) L 128 y.toNatClampNeg = w + 1 := by
    rw [ad_hi (by decide) (by decide)]
    unfold zNw
    rw [if_neg (by omega), if_pos ⟨by decide, by decide, rfl⟩]
    rfl
  have ay : xAl d y.toNatClampNeg := ⟨by omega, by rw [s 126 (by omega), t6]; decide⟩
  have q := hI.1 _ ay
  have d0 : d 130 y.toNatClampNeg = pl := by rw [s 130 (by omega), t0]
  have d8 : d 128 y.toNatClampNeg = w + 1 := by rw [s 128 (by omega), t8]
  rw [d0, d8, e1] at q
  have A := Ad_of (b := b) (y := y) (kk := kk) (w := w) (pl := pl) (L := L) hy0 hw hw6 q.1 (by omega)
  have s2 : zSa (aMd (aAd b y (zFn y kk (w + 1) pl) L) y) d := Sa_tr (Sa_sy Sa_md) s
  intro n hn
  by_cases e : n = y.toNatClampNeg
  · refine Or.inr ⟨by rw [e, cy, hy], fun i i0 i1 i2 => ?_⟩
    rw [e, d8, e1] at i1
    rw [e, s2 (1000 + y.toNatClampNeg) (by omega), A.2.2.1.1, ofNat_tn i0] at i2
    unfold aW
    rw [e, d0, s2 71 (by omega), A.2.2.2.1.2.1 i i0 (by omega), if_pos i2]
  · have f6 : d 126 n = b 126 n := by rw [s2 126 (by omega), A.2.1 126 n (by decide) (by decide) e]
    have f8 : d 128 n = b 128 n := by rw [s2 128 (by omega), A.2.1 128 n (by decide) (by decide) e]
    have f0 : d 130 n = b 130 n := by rw [s2 130 (by omega), A.2.1 130 n (by decide) (by decide) e]
    have fb : d (1000 + n) = b (1000 + n) := by rw [s2 (1000 + n) (by omega), A.2.2.1.2 n e]
    refine Or.inl ⟨⟨hn.1, by rw [← f6]; exact hn.2⟩, f8, fb, fun i i0 i1 _ => ?_⟩
    have W : qWp d n i := ⟨hn, i0, by rw [f8]; exact i1⟩
    have pp := cwp_i hI W
    have cp := tn_cast pp.2.1
    have dj := hI.2.1 n _ hn ay e
    rw [d0, d8, e1] at dj
    unfold aW
    rw [f8] at dj
    rw [f0] at pp cp dj ⊢
    rw [s2 71 (by omega), A.2.2.2.1.2.2 _ (by omega)]
theorem Pn_gen (h : zPw a b) (e6 : b 69 6 = a 69 6) (h0 : 0 ≤ (a 69 6).toInt) (h5 : (a 69 6).toInt < 512) (s : zSa (aAd b (b 69 6) (zFn (b 69 6) kk (w + 1) pl) L) d) (hI : cQI d) (hw : 0 ≤ w.toInt) (hw6 : w.toInt ≤ 60) : zPn a d := Pn_l h e6 (Pn_ad s hI rfl (by rw [e6]; exact h0) (by rw [e6]; exact h5) hw hw6)
theorem Pn_am (h : cQI a) (h6 : 0 ≤ (a 69 6).toInt) (hd : cQI (aMk a kd wd L rt)) (hw : 0 ≤ wd.toInt) (hw6 : wd.toInt ≤ 60) : zPn a (aMk a kd wd L rt) := by
  unfold aMk at hd ⊢
  by_cases z6 : (a 69 6).toInt < 512
  · rw [if_pos z6] at hd ⊢
    by_cases zp : aRp a (wd + 1).toInt = -1
    · rw [if_pos zp]
      exact Pn_of (Pw_rs h).1
    · rw [if_neg zp] at hd ⊢
      exact Pn_gen (Pw_rs h).1 w6rs h6 z6 (Sa_tr Sa_md Sa_rt) hd hw hw6
  · rw [if_neg z6]
    exact Pn_of Pw_rfl
theorem Pn_sm (h : cQI a) (h6 : 0 ≤ (a 69 6).toInt) (hd : cQI (sMk a kd wd L rt)) (hw : 0 ≤ wd.toInt) (hw6 : wd.toInt ≤ 60) : zPn a (sMk a kd wd L rt) := by
  unfold sMk at hd ⊢
  by_cases z6 : (a 69 6).toInt < 512
  · rw [if_pos z6] at hd ⊢
    by_cases zp : zRp a (wd + 1).toInt = -1
    · rw [if_pos zp]
      exact Pn_of (Pw_zs h).1
    · rw [if_neg zp] at hd ⊢
      exact Pn_gen (Pw_zs h).1 n6zs h6 z6 (Sa_tr Sa_md Sa_rt) hd hw hw6
  · rw [if_neg z6]
    exact Pn_of Pw_rfl
theorem Pn_lm (h : qI a) (hd : cQI (lMk a kd wd L rt)) (hw : 0 ≤ wd.toInt) (hw6 : wd.toInt ≤ 60) : zPn a (lMk a kd wd L rt) := by
  unfold lMk at hd ⊢
  by_cases z6 : (a 69 6).toInt < 512
  · rw [if_pos z6] at hd ⊢
    by_cases zp : lRp a (wd + 1).toInt = -1
    · rw [if_pos zp]
      exact Pn_of (Pw_ls h)
    · rw [if_neg zp] at hd ⊢
      exact Pn_gen (Pw_ls h) n6ls h.2.2.2.1.1.1 z6 (Sa_tr Sa_md Sa_rt) hd hw hw6
  · rw [if_neg z6]
    exact Pn_of Pw_rfl
theorem Pn_hm (h : qHv a) (hd : cQI (hMk a kd wd L rt)) (hw : 0 ≤ wd.toInt) (hw6 : wd.toInt ≤ 60) : zPn a (hMk a kd wd L rt) := by
  unfold hMk at hd ⊢
  by_cases z6 : (a 69 6).toInt < 512
  · rw [if_pos z6] at hd ⊢
    by_cases zp : hRp a (wd + 1).toInt = -1
    · rw [if_pos zp]
      exact Pn_of (Pw_hs h)
    · rw [if_neg zp] at hd ⊢
      exact Pn_gen (Pw_hs h) n6hs h.1.2.2.2.1.1.1 z6 (Sa_tr Sa_hd Sa_r0) hd hw hw6
  · rw [if_neg z6]
    exact Pn_of Pw_rfl
theorem Pn_ym (h : qAv a) (hd : cQI (yMk a kd wd L rt)) (hw : 0 ≤ wd.toInt) (hw6 : wd.toInt ≤ 60) : zPn a (yMk a kd wd L rt) := by
  unfold yMk at hd ⊢
  by_cases z6 : (a 69 6).toInt < 512
  · rw [if_pos z6] at hd ⊢
    by_cases zp : gRp a (wd + 1).toInt = -1
    · rw [if_pos zp]
      exact Pn_of (Pw_gs h)
    · rw [if_neg zp] at hd ⊢
      exact Pn_gen (Pw_gs h) n6gs h.1.2.2.2.1.1.1 z6 (Sa_tr Sa_gd Sa_r0) hd hw hw6
  · rw [if_neg z6]
    exact Pn_of Pw_rfl
theorem Pn_rm (h : qRv a) (hd : cQI (rMk a kd wd L rt)) (hw : 0 ≤ wd.toInt) (hw6 : wd.toInt ≤ 60) : zPn a (rMk a kd wd L rt) := by
  unfold rMk at hd ⊢
  by_cases z6 : (a 69 6).toInt < 512
  · rw [if_pos z6] at hd ⊢
    by_cases zp : rRp a (wd + 1).toInt = -1
    · rw [if_pos zp]
      exact Pn_of (Pw_rrs h)
    · rw [if_neg zp] at hd ⊢
      exact Pn_gen (Pw_rrs h) n6rs h.1.2.2.2.1.1.1 z6 (Sa_tr Sa_rd Sa_r0) hd hw hw6
  · rw [if_neg z6]
    exact Pn_of Pw_rfl
theorem Pn_km (hI : qI a) (hV : cV a [] B) (hB : 0 ≤ B) (h0 : 0 ≤ wd.toInt) (h6 : wd.toInt ≤ 60) (hr : 0 ≤ rt.toInt) (hr2 : rt.toInt ≤ 15) : zPn a (kMk a kd wd L rt) := by
  have hIr := I_rs (z := (wd + 1).toInt) hI hV.2.1
  have hVr := V_rs (p := (wd + 1).toInt) hI hV
  have cr := tn_cast hr
  by_cases z6 : (a 69 6).toInt < 512
  · by_cases zp : zRp a (wd + 1).toInt = -1
    · have m1 := kMk_1 (kd := kd) (rt := rt) (L := L) z6 zp
      rw [m1.1]
      exact Pn_of (Pw_zs hV.1).1
    · have fs := Ft_fs hIr (z := (wd + 1).toInt) (by rw [i_p1 (by omega)]; omega) zp
      have e1 := i_p1 (i := wd) (by omega)
      have r5 := hIr.2.2.2.1.2.2.1
      have zz : zRp a (wd + 1).toInt = aFt (zRs a (wd + 1).toInt) (wd + 1).toInt := rfl
      rw [← zz] at fs
      have f0 := fs.1
      have f1 := fs.2.1
      have pl : (Int32.ofInt (zRp a (wd + 1).toInt)).toInt = zRp a (wd + 1).toInt := Int32.toInt_ofInt_of_le (by omega) (by omega)
      have zr6 : (zRs a (wd + 1).toInt 69 6).toInt < 512 := by
        rw [n6zs]
        exact z6
      have ne := Ne_o0 (aa := a) (w := wd) (pl := Int32.ofInt (zRp a (wd + 1).toInt)) (y := zRs a (wd + 1).toInt 69 6) hIr pl (by rw [pl]; exact f0) h0 h6 rfl zr6
      have nb := Ne_b ne
      have ad := Ad_of (b := zRs a (wd + 1).toInt) (y := zRs a (wd + 1).toInt 69 6) (kk := kd) (w := wd) (pl := Int32.ofInt (zRp a (wd + 1).toInt)) (L := L) nb.1 h0 h6 nb.2.2.2.1 (by omega)
      have va := V_ad4 ne ad hVr hB
      have m1 := kMk_2 (kd := kd) (rt := rt) (L := L) (pl := Int32.ofInt (zRp a (wd + 1).toInt)) (y := zRs a (wd + 1).toInt 69 6) z6 rfl pl (by rw [pl]; exact zp) rfl
      rw [m1.1]
      have v2 := V_r0 (i := rt) (y := zRs a (wd + 1).toInt 69 6) va (by omega)
      exact Pn_r (Pn_gen (Pw_zs hV.1).1 n6zs hI.2.2.2.1.1.1 z6 (Sa_tr Sa_md Sa_r0) v2.1 h0 h6) (Pw_le v2)
  · have m1 := kMk_0 (wd := wd) (kd := kd) (rt := rt) (L := L) z6
    rw [m1.1]
    exact Pn_of Pw_rfl
/-! the other calls -/
theorem Pw_if {C : Prop} (h : C → zPw a b) : zPw a (qIf C b a) := by
  by_cases w : C
  · rw [qIf_y w]
    exact h w
  · rw [qIf_n w]
    exact Pw_rfl
theorem Pw_we : zPw a (xWe a i o) := Pw_if (fun _ => Pw_sa (Sa_u (k := 73) (by omega)))
theorem Pw_wi : zPw a (xWi a o) := Pw_if (fun _ => Pw_sa (Sa_u (k := 134) (by omega)))
theorem Pw_ho : zPw a (xHo a o v) := Pw_if (fun _ => Pw_sa (Sa_u (k := 133) (by omega)))
theorem Pw_yh : zPw a (yHo a o v) := Pw_if (fun _ => Pw_ho)
theorem Pw_oro : zPw a (oRo a i o) := Pw_if (fun _ => Pw_sa Sa_r0)
theorem Pw_osg : zPw a (oSg a i r) := Pw_if (fun _ => Pw_sa Sa_r0)
theorem Pw_tw {b : Nat → Nat → Int32} {C : Prop} (h : zPw (aTw a) b) : zPw a (qIf C (aTw a) b) := by
  by_cases w : C
  · rw [qIf_y w]
    exact Pw_sa Sa_tw
  · rw [qIf_n w]
    exact Pw_tr (Pw_sa Sa_tw) h
theorem Pw_ogr : zPw a (oGr a r) := Pw_if (fun _ => Pw_tw (Pw_sa Sa_r0))
theorem Pw_xro : zPw a (xRo a i o) := Pw_if (fun _ => Pw_sa Sa_rt)
theorem Pw_xsg : zPw a (xSg a i r) := Pw_if (fun _ => Pw_sa (Sa_tr Sa_rt Sa_sg))
theorem Pw_xgr : zPw a (xGr a r) := Pw_if (fun _ => Pw_tw (Pw_sa Sa_rt))
theorem sl_16w (h : zSl i) : i.toNatClampNeg < 16 := by
  have c := tn_cast h.1
  have := h.2
  omega
theorem Pw_kro (hV : cV a [] B) : zPw a (kRo a i o) := Pw_if (fun w => Pw_tr (Pw_sa Sa_r0) (Pw_le (V_r0 hV (sl_16w w.1))))
theorem Pw_ksg (hV : cV a [] B) : zPw a (kSg a i r) := Pw_if (fun w => Pw_tr (Pw_sa Sa_r0) (Pw_le (V_r0 hV (sl_16w w.2.1))))
theorem Pw_kgr (hV : cV a [] B) : zPw a (kGr a r) := Pw_if (fun w => Pw_tw (Pw_tr (Pw_sa Sa_r0) (Pw_le (V_r0 (V_tw4 hV) (sl_16w w)))))
theorem Pw_kho (hV : cV a [] B) (hB : B + 1 ≤ 1000000) : zPw a (kHo a o v) := Pw_if (fun w => Pw_tr (Pw_sa (Sa_u (k := 133) (by omega))) (Pw_le (V_h0 hV hB w.1 w.2)))
/-- a reference is changed -/
theorem Pw_ci (hI : cQI a) (W : qWp a n i) (hb : a (1000 + n) i.toNatClampNeg ≠ 0) : zPw a (aCi a n i x) := by
  have q := cwp_i hI W
  unfold aCi
  rw [if_pos q.2]
  intro u hu
  have hu2 : xAl a u := by
    unfold xAl at hu ⊢
    rw [ma_u_ne _ _ _ (by decide)] at hu
    exact hu
  refine ⟨hu2, by rw [ma_u_ne _ _ _ (by decide)], ma_u_ne _ _ _ (by omega), fun j j0 j1 j2 => ?_⟩
  unfold aW
  rw [ma_u_ne (c₉ := 130) _ _ _ (by decide), xu_o (fun z => ?_)]
  refine cwp_ne hI W ⟨hu2, j0, j1⟩ (fun z2 => ?_) z.2
  rw [z2.1, z2.2] at j2
  exact hb j2
theorem Pw_oli (hI : cQI a) : zPw a (oLi a o i t) := Pw_if (fun w => Pw_ci hI (Rq_wp w.1 w.2.2.1) w.2.2.2)
theorem Pw_yli (hI : cQI a) : zPw a (yLi a o i t) := Pw_tr (Pw_oli hI) (Pw_sa (fun c hc => if_neg (by omega)))
theorem Pw_xli (hI : cQI a) : zPw a (xLi a o i t) := Pw_if (fun w => Pw_tr (Pw_ci hI (Rq_wp w.1 w.2.2.1) w.2.2.2) (Pw_sa Sa_nc))
theorem Pw_kli (hV : cV a [] B) : zPw a (kLi a o i t) := Pw_if (fun w => Pw_tr (Pw_ci hV.1 (Rq_wp w.1 w.2.2.1) w.2.2.2) (Pw_le (V_l0 hV w.1 w.2.2.1 w.2.2.2)))
end F52
/-! PLAIN WORDS: the relation behind a call -/
section F53
variable {a b a₉ b₉ a1 a2 b1 b2 d : Nat → Nat → Int32} {us nr kr kd ws at₉ ho wd wi ow rt wk wl us₉ nr₉ kr₉ kd₉ ws₉ at2 ho₉ wd₉ wi₉ ow₉ rt₉ wk₉ wl₉ : Nat → Int32} {wm nu ro fo le ra pi wm₉ nu₉ ro₉ fo₉ le₉ ra₉ pi₉ o i v th : Int32} {C : Prop}
theorem Wr_sa (s : zSa a b) (h : zWr us nr wd a) : zWr us nr wd b := fun t ht hu j j0 j1 j2 => by
  rw [s 128 (by omega)] at j1
  rw [s _ (by omega)] at j2
  unfold aW
  rw [s 130 (by omega), s 71 (by omega)]
  exact h t ht hu j j0 j1 j2
theorem Pn_sb (s1 : zSa a1 b1) (e6 : b1 69 6 = a1 69 6) (s2 : zSa a2 b2) (h : zPn a1 a2) : zPn b1 b2 := fun n hn => by
  refine (h n ((Sa_al s2).mp hn)).imp (fun w => ⟨(Sa_al s1).mpr w.1, ?_, ?_, fun i h0 h1 h2 => ?_⟩) (fun w => ⟨by rw [e6]; exact w.1, fun i h0 h1 h2 => ?_⟩)
  · rw [s1 128 (by omega), s2 128 (by omega)]
    exact w.2.1
  · rw [s1 _ (by omega), s2 _ (by omega)]
    exact w.2.2.1
  · rw [s1 128 (by omega)] at h1
    rw [s1 _ (by omega)] at h2
    have q := w.2.2.2 i h0 h1 h2
    unfold aW at q ⊢
    rw [s1 130 (by omega), s1 71 (by omega), s2 130 (by omega), s2 71 (by omega)]
    exact q
  · rw [s2 128 (by omega)] at h1
    rw [s2 _ (by omega)] at h2
    have q := w.2 i h0 h1 h2
    unfold aW at q ⊢
    rw [s2 130 (by omega), s2 71 (by omega)]
    exact q
theorem Pn_if (h : C → zPn a b) : zPn a (qIf C b a) := by
  by_cases w : C
  · rw [qIf_y w]
    exact h w
  · rw [qIf_n w]
    exact Pn_of Pw_rfl
/-- behind a call: who is used was used, or is new -/
theorem Wr_st (h : zWr us nr wd a) (R : qRB us nr kr kd ws at₉ ho wd wi ow rt wk wl wm nu ro fo le ra pi a) (hI : qI a) (R' : qRB us₉ nr₉ kr₉ kd₉ ws₉ at2 ho₉ wd₉ wi₉ ow₉ rt₉ wk₉ wl₉ wm₉ nu₉ ro₉ fo₉ le₉ ra₉ pi₉ a₉) (P : zPn a a₉) (U : zUf nu us us₉ nr nr₉ wd wd₉ kr kd kr₉ kd₉ ws₉) : zWr us₉ nr₉ wd₉ a₉ := fun s hs hu i i0 i1 i2 => by
  have b₉ := R'.1.1 s hs hu
  have c₉ := tn_cast b₉.1.1
  have al₉ : xAl a₉ (nr₉ s).toNatClampNeg := ⟨by have := b₉.1.2; omega, b₉.2.1⟩
  have ci := tn_cast i0
  have e6 : a 69 6 = nu := R.2.2.2.2.2.2.2.1
  have lt : ∀ n, xAl a n → (n : Int) < nu.toInt := fun n hn => by
    rw [← e6]
    exact (hI.1 n hn).1.1
  have sz₉ := i_p1 (i := ws₉ s) (by have := b₉.2.2.2.2.2.1; omega)
  have p := P _ al₉
  rcases U s hs hu with ⟨us1, en, hw⟩ | ⟨en, hw⟩
  · have bs := R.1.1 s hs us1
    have cs := tn_cast bs.1.1
    have als : xAl a (nr s).toNatClampNeg := ⟨by have := bs.1.2; omega, bs.2.1⟩
    rw [en] at p i1 i2 c₉ ⊢
    rcases p with w | w
    · have i3 := i1
      rw [w.2.1] at i3
      rw [w.2.2.1] at i2
      rw [w.2.2.2 i i0 i3 i2, ← h s hs us1 i i0 i3 i2]
      have sz := i_p1 (i := ws s) (by have := bs.2.2.2.2.2.1; omega)
      rw [bs.2.2.1, sz] at i3
      have b6 := bs.2.2.2.2.2.1
      rcases hw i.toNatClampNeg (by omega) with z | z
      · exact z
      · exact absurd i2 ((R.2.1 s hs us1 i.toNatClampNeg (by omega)).2.2.mpr z)
    · have q := lt _ als
      rw [← e6] at q
      have q2 := w.1
      omega
  · rcases p with w | w
    · have q := lt _ w.1
      rw [en] at q c₉
      omega
    · have i3 := i1
      rw [b₉.2.2.1, sz₉] at i3
      rw [w.2 i i0 i1 i2]
      rcases hw i.toNatClampNeg (by omega) with z | z
      · exact z
      · exact absurd i2 ((R'.2.1 s hs hu i.toNatClampNeg (by omega)).2.2.mpr z)
theorem O6_Wo {n : Nat} (h : zO6 b a) : aWo b n i = aWo a n i := by
  unfold aWo
  rw [O6_c (c := 130) h (by decide) (by decide) (by decide) (by decide), O6_c (c := 71) h (by decide) (by decide) (by decide) (by decide)]
theorem cg_ge (ho : zO6 b a) (h : qNge b o i th v) : qNge a o i th v := by
  unfold qNge at h ⊢
  rw [O6_Rq ho, O6_Hw ho, O6_Wo ho] at h
  exact h
theorem cg_pu (ho : zO6 b a) (h : qNpu b o i th v) : qNpu a o i th v := by
  unfold qNpu at h ⊢
  rw [O6_Rq ho, O6_Hw ho, O6_Ir ho, O6_Wo ho] at h
  exact h
theorem Sa_pu (h : zO6 b a) : zSa (xPu b o i v) (xPu a o i v) := by
  have s := Sa_o6 h
  have e : xPu b o i v = qIf (zRq a o ∧ zHw a o i ∧ ¬ zIr a o i) (aCi b o.toNatClampNeg i v) b := by
    unfold xPu
    rw [O6_Rq h, O6_Hw h, O6_Ir h]
  rw [e]
  unfold xPu
  by_cases w : zRq a o ∧ zHw a o i ∧ ¬ zIr a o i
  · rw [qIf_y w, qIf_y w]
    unfold aCi
    rw [s 130 (by omega)]
    split
    · intro c hc
      by_cases z : c = 71
      · subst z
        funext k
        rw [ma_u_at, ma_u_at, s 71 (by omega)]
      · rw [ma_u_ne _ _ _ z, ma_u_ne _ _ _ z]
        exact s c hc
    · exact s
  · rw [qIf_n w, qIf_n w]
    exact s
theorem Sa_93 {f : Nat → Int32} : zSa a (zX93 a f) := fun c hc => X93 (by omega)
theorem pn_T {S S2 : ma_S} {P : Nat} (h : zPn (aT P S) (aT P S2)) : zPn (aS 88 S) (aS 88 S2) := Pn_sb (Sa_o8 T_88) (T_88 69 6 (by decide) (by decide) (by decide) (by decide)).symm (Sa_o8 T_88) h
theorem pn_M {S S2 : ma_S} (o1 : zO6 a (aS 88 S)) (o2 : zO6 a2 (aS 88 S2)) (g : zOf b a2) (h : zPn a b) : zPn (aS 88 S) (aS 88 S2) := Pn_sb (Sa_o6 o1) (o1 69 6 (by decide) (by decide) (by decide) (by decide)).symm (Sa_o6 o2) (Pn_r h (Pw_sa (Sa_of g)))
end F53
