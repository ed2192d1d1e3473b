/-! what a text that is taken says of AGES and REGIONS -/
section F48
variable {t : Nat → Int32} {n p k a b s e lo hi : Int} {c i : Nat} {cs : List Nat}
theorem num_bd : zNum t s e lo hi = -1 ∨ (lo ≤ zNum t s e lo hi ∧ zNum t s e lo hi ≤ hi) := by
  unfold zNum
  split
  · exact Or.inl rfl
  · split
    · rename_i w
      exact Or.inr ⟨w.2.1, w.2.2⟩
    · exact Or.inl rfl
theorem run_go (h : 0 ≤ zRun t n k (c :: cs) i p a b) (h0 : 0 ≤ p) : zPart c t (tk true t n p) (tk false t n (tk true t n p)) a ≠ -1 ∧ 0 ≤ zRun t n k cs (i + 1) (tk false t n (tk true t n p)) (if i = 0 then zPart c t (tk true t n p) (tk false t n (tk true t n p)) a else a) (if i = 1 ∧ (k = 3 ∨ k = 6) then zPart c t (tk true t n p) (tk false t n (tk true t n p)) a else b) := by
  have q : p ≤ tk true t n p := tk_lo
  unfold zRun at h
  by_cases w : zPart c t (tk true t n p) (tk false t n (tk true t n p)) a = -1
  · rw [if_pos w] at h
    omega
  · rw [if_neg w] at h
    exact ⟨w, h⟩
theorem te_0 : ∀ j : Nat, 0 ≤ zte t n j := by
  intro j
  induction j with
  | zero =>
    have q1 : (0 : Int) ≤ tk true t n 0 := tk_lo
    have q2 : tk true t n 0 ≤ tk false t n (tk true t n 0) := tk_lo
    exact Int.le_trans q1 q2
  | succ j ih =>
    have q1 : zte t n j ≤ tk true t n (zte t n j) := tk_lo
    have q2 : tk true t n (zte t n j) ≤ tk false t n (tk true t n (zte t n j)) := tk_lo
    exact Int.le_trans ih (Int.le_trans q1 q2)
theorem ts_0 : 0 ≤ zts t n 0 := tk_lo
theorem ans_run (h : 0 ≤ zAns t n) : 0 ≤ zRun t n (qPo t n) (zPts (qPo t n)) 0 (zte t n 0) 0 0 := by
  have e : zAns t n = if qPo t n = -1 then -1 - zts t n 0 else zRun t n (qPo t n) (zPts (qPo t n)) 0 (zte t n 0) 0 0 := rfl
  have q : 0 ≤ zts t n 0 := ts_0
  by_cases w : qPo t n = -1
  · rw [e, if_pos w] at h
    omega
  · rw [e, if_neg w] at h
    exact h
theorem pts_3 : zPts 3 = [0, 0, 1, 2] := by
  unfold zPts
  rw [if_neg (by decide), if_neg (by decide), if_neg (by decide), if_pos rfl]
theorem pts_6 : zPts 6 = [0, 4, 5] := by
  unfold zPts
  rw [if_neg (by decide), if_neg (by decide), if_neg (by decide), if_neg (by decide), if_neg (by decide), if_neg (by decide)]
theorem val_3 (h : 0 ≤ zAns t n) (hp : qPo t n = 3) : (1 ≤ zVal t n 1 3 ∧ zVal t n 1 3 ≤ 7) ∧ 4 ≤ zVal t n 2 4 := by
  have r := ans_run h
  rw [hp, pts_3] at r
  have r0 := run_go r (te_0 0)
  have r1 := run_go (p := zte t n 1) r0.2 (te_0 1)
  have r2 := run_go (p := zte t n 2) r1.2 (te_0 2)
  have r3 := run_go (p := zte t n 3) r2.2 (te_0 3)
  have q2 : zVal t n 1 3 ≠ -1 := r2.1
  have q3 : zVal t n 2 4 ≠ -1 := r3.1
  have b2 : zVal t n 1 3 = -1 ∨ (1 ≤ zVal t n 1 3 ∧ zVal t n 1 3 ≤ 7) := num_bd
  have b3 : zVal t n 2 4 = -1 ∨ (4 ≤ zVal t n 2 4 ∧ zVal t n 2 4 ≤ 64) := num_bd
  exact ⟨by omega, by omega⟩
theorem zmn_le : zmn a ≤ a / 4 := by
  unfold zmn
  split <;> omega
theorem val_6 (h : 0 ≤ zAns t n) (hp : qPo t n = 6) : 16 ≤ zV4 t n ∧ 4 * zV4 t n ≤ zVal t n 0 1 ∧ 0 ≤ zVal t n 5 3 ∧ zVal t n 5 3 ≤ 100 := by
  have r := ans_run h
  rw [hp, pts_6] at r
  have r0 := run_go r (te_0 0)
  have r1 := run_go (p := zte t n 1) r0.2 (te_0 1)
  have r2 := run_go (p := zte t n 2) r1.2 (te_0 2)
  have q1 : zV4 t n ≠ -1 := r1.1
  have q2 : zVal t n 5 3 ≠ -1 := r2.1
  have b1 : zV4 t n = -1 ∨ (16 ≤ zV4 t n ∧ zV4 t n ≤ zmn (zVal t n 0 1)) := num_bd
  have b2 : zVal t n 5 3 = -1 ∨ (0 ≤ zVal t n 5 3 ∧ zVal t n 5 3 ≤ 100) := num_bd
  have z := zmn_le (a := zVal t n 0 1)
  generalize zmn (zVal t n 0 1) = y at *
  exact ⟨by omega, by omega, by omega, by omega⟩
end F48
/-! the reference's answer held against the class's -/
section F49
variable {X : Nat × (Nat → Int32)} {d w M pc : Nat} {L : ma_L} {st : List ma_V} {S S2 : ma_S} {Q : Option ma_V ⊕ Nat → ma_S → Prop} {F : Int32 → (Nat → Nat → Int32) → Prop}
theorem wp_with (hA : ma_wp X d w M pc L st S (zRj S F)) (h : ma_wp X d w M pc L st S (fun o S₉ => ∀ y, o = .inl (some (.inl y)) → F y (mI S₉) → Q o S₉)) : ma_wp X d w M pc L st S Q := by
  refine wp_mn (ma_wp_and hA h) (fun o S₉ h => ?_)
  obtain ⟨⟨v, m₉, e1, e2, f⟩, g⟩ := h
  refine g v e1 ?_
  rw [e2]
  exact f
theorem inl_y {y v : Int32} (h : (Sum.inl (some (Sum.inl v)) : Option ma_V ⊕ Nat) = Sum.inl (some (Sum.inl y))) : v = y := Sum.inl.inj (Option.some.inj (Sum.inl.inj h))
theorem lg_rf (x : Int64) : lg_cmp x x = 0 := by
  unfold lg_cmp
  simp
theorem cmp_ok {v1 v4 : Int32} {A Z : ma_S → Prop} (hT : zT S) (hV : zV (mI S)) (hc : (mI S 94 0).toInt = v1.toInt) (hl : v1 = 0 → mL S 125 0 = v4.toInt64) (hA : A S) : ma_wp X d w 164 0 [(0, .inr (.inr (some 94)))] [] S (zi (fun v6 S5 => zT S5 ∧ (if v6 = v1 then (if v1 = 0 then (if (lg_cmp (mL S5 125 0) (v4.toInt64)) = 0 then A S5 else Z S5) else A S5) else Z S5)) (fun _ _ => False)) := by
  refine sp_164 (P := fun o m₉₉ => zi (fun v6 S5 => zT S5 ∧ (if v6 = v1 then (if v1 = 0 then (if (lg_cmp (mL S5 125 0) (v4.toInt64)) = 0 then A S5 else Z S5) else A S5) else Z S5)) (fun _ _ => False) (.inl o) (zst S m₉₉)) hV (fun v6 m₉₉ hV₉ q0 => zi_n ⟨hT, ?_⟩) _ _ _ _ (by omega) (by omega) hT rfl (fun _ _ z => z)
  have e6 : v6 = v1 := Int32.toInt_inj.mp (q0.trans hc)
  have ez : zst S (zov wr_164 (mI S) m₉₉) = S := rfl
  rw [ez, if_pos e6]
  by_cases w0 : v1 = 0
  · rw [if_pos w0, if_pos (by rw [hl w0]; exact lg_rf _)]
    exact hA
  · rw [if_neg w0]
    exact hA
end F49
section F50
variable {ab : Nat → Nat → Int32} {S S₉ : ma_S} {o i t x : Int32} {e : Nat}
theorem Of_q5 {a b : Nat → Nat → Int32} (e : b = a) : zOf a b := fun _ _ _ _ _ => by rw [e]
theorem lkx_m (h : (e = 4 ∧ (¬ zRq ab o ∨ (zRq ab o ∧ t ≠ -1 ∧ ¬ zRq ab t))) ∨ (e = 1 ∧ zRq ab o ∧ (t = -1 ∨ zRq ab t) ∧ ¬ zHw ab o i) ∨ (e = 5 ∧ zRq ab o ∧ (t = -1 ∨ zRq ab t) ∧ zHw ab o i ∧ ¬ zIr ab o i)) : ¬ (zRq ab o ∧ (t = -1 ∨ zRq ab t) ∧ zHw ab o i ∧ zIr ab o i) := fun w => by
  rcases h with h | h | h
  · rcases h.2 with z | z
    · exact z w.1
    · exact w.2.1.elim z.2.1 z.2.2
  · exact h.2.2.2 w.2.2.1
  · exact h.2.2.2.2 w.2.2.2
theorem Gh_m (h : (e = 4 ∧ ¬ zRq (aS 88 S) o) ∨ (e = 6 ∧ zRq (aS 88 S) o ∧ (¬ (aS 88 S 130 o.toNatClampNeg).toInt < (mI S 82 3).toInt ∨ (x = 0 ∧ aS 88 S 133 o.toNatClampNeg = 0)))) (hs : aS 88 S₉ = aS 88 S) (e2 : mI S₉ 82 = mI S 82) (e3 : mI S₉ 83 = mI S 83) : zOf (yHo (aG S) o x) (aG S₉) := by
  rcases h with w | w
  · exact Gh_x (e := (4 : Int32)) (Or.inl ⟨rfl, w.2⟩) hs e2 e3
  · exact Gh_x (e := (6 : Int32)) (Or.inr ⟨rfl, w.2⟩) hs e2 e3
end F50
/-! answers: two heaps alike, and the comparison -/
section HG
variable {a b : Nat → Nat → Int32} {i o r t th v : Int32}
theorem cg_we (ho : zO6 b a) (h : qNwe b i o th v) : qNwe a i o th v := by
  unfold qNwe at h ⊢
  rw [O6_Rq ho, O6_c (c := 73) ho (by decide) (by decide) (by decide) (by decide)] at h
  exact h
theorem cg_ro (ho : zO6 b a) (h : qNro b i o th v) : qNro a i o th v := by
  unfold qNro at h ⊢
  rw [O6_Rq ho, O6_Nm ho, O6_c (c := 72) ho (by decide) (by decide) (by decide) (by decide)] at h
  exact h
theorem cg_sg (ho : zO6 b a) (h : qNsg b i r th v) : qNsg a i r th v := by
  unfold qNsg at h ⊢
  rw [O6_Nm ho, O6_c (c := 73) ho (by decide) (by decide) (by decide) (by decide)] at h
  exact h
theorem cg_gr (ho : zO6 b a) (h : qNgr b r th v) : qNgr a r th v := by
  unfold qNgr at h ⊢
  rw [O6_Nm ho, (O6_tw ho).2] at h
  exact h
/-- the class: what it says where it has an answer, or none -/
theorem y_sg {w : Int32} (h : (aNm a (a 73 i.toNatClampNeg) = -1 ∧ w = -1) ∨ (aNm a (a 73 i.toNatClampNeg) = a 73 i.toNatClampNeg ∧ w = a 73 i.toNatClampNeg)) : w = aNm a (a 73 i.toNatClampNeg) := by
  rcases h with h | h
  · rw [h.1]
    exact h.2
  · rw [h.1]
    exact h.2
theorem y_gr {w : Int32} (h : (aNm a (aTy a) = -1 ∧ w = -1) ∨ (aNm a (aTy a) = aTy a ∧ w = aTy a)) : w = aNm a (aTy a) := by
  rcases h with h | h
  · rw [h.1]
    exact h.2
  · rw [h.1]
    exact h.2
end HG
theorem cm_g {X : Nat × (Nat → Int32)} {d w : Nat} {S2 : ma_S} {m₉ : Nat → Nat → Int32} {v v2 y3 : Int32} {P : Int32 → Int32 → Prop} {A Z : ma_S → Prop} (fu : zFu P) (hT : zT S2) (hV : zV m₉) (han : ∃ y : Int32, (v = 0 → mL S2 125 0 = y.toInt64) ∧ P v y) (e3 : (Sum.inl (some (Sum.inl v2)) : Option ma_V ⊕ Nat) = Sum.inl (some (Sum.inl y3))) (ha : P (mI (zst S2 m₉) 94 0) y3) (hA : A (zst S2 m₉)) : ma_wp X d w 164 0 [(0, .inr (.inr (some 94)))] [] (zst S2 m₉) (zi (fun v6 S5 => zT S5 ∧ (if v6 = v then (if v = 0 then (if (lg_cmp (mL S5 125 0) (v2.toInt64)) = 0 then A S5 else Z S5) else A S5) else Z S5)) (fun _ _ => False)) := by
  obtain ⟨y, hl, hy⟩ := han
  have q := fu _ _ _ _ hy ha
  have ev := inl_y e3
  refine cmp_ok (S := zst S2 m₉) hT hV q.1 (fun z => ?_) hA
  show mL S2 125 0 = v2.toInt64
  rw [hl z, ev, q.2 (by rw [z]; rfl)]
/-- the class: who can be held -/
def qCnC (p : Option Nat) (ol : Int32) (a : Nat → Nat → Int32) (o : Int32) : Prop := p ≠ some 81 ∧ (p = some 82 → (a 130 o.toNatClampNeg).toInt < ol.toInt)
theorem cg_ho {a b : Nat → Nat → Int32} {o w th v : Int32} {c d : Prop} (ho : zO6 b a) (hc : c ↔ d) (h : qNho c b o w th v) : qNho d a o w th v := by
  unfold qNho at h ⊢
  rw [O6_Rq ho, O6_c (c := 133) ho (by decide) (by decide) (by decide) (by decide), hc] at h
  exact h
theorem O6_rf {a b : Nat → Nat → Int32} {n : Nat} {i : Int32} (h : zO6 b a) : aRef b n i = aRef a n i := by
  unfold aRef
  rw [h (1000 + n) i.toNatClampNeg (by omega) (by omega) (by omega) (by omega), O6_c (c := 130) h (by decide) (by decide) (by decide) (by decide), O6_c (c := 71) h (by decide) (by decide) (by decide) (by decide)]
theorem cg_li {a b : Nat → Nat → Int32} {o i t th v : Int32} (ho : zO6 b a) (h : qNli b o i t th v) : qNli a o i t th v := by
  unfold qNli at h ⊢
  rw [O6_Rq ho, O6_Rq ho, O6_Hw ho, O6_Ir ho, O6_Nm ho, O6_rf ho] at h
  exact h
/-! clean: the words that got free are those that were there less those that are -/
theorem i_sw {p q x : Int32} : (p + x) + (q - x) = p + q := i_ws rfl
theorem i_dq {x y g h : Int32} (e : x + y = g + h) : (x - g) + y = h := by
  have e2 : x + y - g = g + h - g := by rw [e]
  rw [Int32.sub_eq_add_neg, Int32.add_assoc, Int32.add_comm (-g) y, ← Int32.add_assoc, ← Int32.sub_eq_add_neg, e2, Int32.add_comm g h, Int32.sub_eq_add_neg, Int32.add_assoc, ← Int32.sub_eq_add_neg, Int32.sub_self, Int32.add_zero]
section HC
variable {a b : Nat → Nat → Int32} {k n : Nat}
theorem v8gf (hk : k ≠ 5) : ∀ (f : Nat) (x : Int32) (a : Nat → Nat → Int32), aGf f x a 69 k = a 69 k := by
  intro f
  induction f with
  | zero => intro x a; rfl
  | succ f ih =>
    intro x a
    by_cases w : aGc a x
    · rw [aGf_y w, ih, aSp_o ⟨by decide, by decide, by decide⟩, aCm_o ⟨by decide, by decide, by decide⟩, aGr_o ⟨by decide, by decide, by decide, fun z => hk z.2⟩]
    · rw [aGf_n w, ih]
theorem v8gw (hk : k ≠ 5) {x : Int32} : aGw a x 69 k = a 69 k := v8gf hk _ _ _
theorem v8mf : ∀ (f : Nat) (x : Int32) (a : Nat → Nat → Int32), aMf f x a 69 11 + aMf f x a 69 8 = a 69 11 + a 69 8 := by
  intro f
  induction f with
  | zero => intro x a; rfl
  | succ f ih =>
    intro x a
    by_cases w : aMc a x
    · rw [aMf_y w, ih, rm_8, rm_11]
      exact i_sw
    · rw [aMf_n w, ih]
/-- a cleaning that sweeps -/
theorem sv_w : aSv a + aSw a 69 8 = a 69 8 := by
  have q : aSw a 69 11 + aSw a 69 8 = aGw (aRA a) 0 69 11 + aGw (aRA a) 0 69 8 := v8mf _ _ _
  have e : aGw (aRA a) 0 69 8 = a 69 8 := (v8gw (by decide)).trans (aRA_o ⟨by decide, by decide, by decide⟩)
  rw [← e]
  exact i_dq q
theorem fv_w : aFv a + aFi a 69 8 = a 69 8 := by
  have q : aFi a 69 11 + aFi a 69 8 = aGw (ma_u a 87 8 0) 0 69 11 + aGw (ma_u a 87 8 0) 0 69 8 := v8mf _ _ _
  have e : aGw (ma_u a 87 8 0) 0 69 8 = a 69 8 := (v8gw (by decide)).trans (xu_o (by omega))
  rw [← e]
  exact i_dq q
theorem v8nw : aNw a 69 8 = a 69 8 := by
  unfold aNw
  split
  · exact aRo_o ⟨by decide, by decide, by decide⟩
  · rfl
theorem v8sp : aSp n a 69 8 = a 69 8 := aSp_o ⟨by decide, by decide, by decide⟩ _ _
theorem v8b0 : aB0 a 69 8 = a 69 8 := by
  rw [← B0_of 69 8 (by decide) (by decide) (by decide), xu_o (by omega)]
theorem v8c2 : ∀ (k : Nat) (a : Nat → Nat → Int32), aC2 k a 69 8 = a 69 8 := by
  intro k
  induction k with
  | zero => intro a; rfl
  | succ k ih =>
    intro a
    by_cases h : (aNw a 75 3).toInt < (aNw a 75 4).toInt
    · rw [aC2_y h, ih, v8sp, v8nw]
    · rw [aC2_n h, v8nw]
theorem cv_w : aFv (aC1 a) + aCl a 69 8 = a 69 8 := by
  have q : aFv (aC1 a) + aCl a 69 8 = aC1 a 69 8 := fv_w
  rw [q]
  unfold aC1
  rw [v8c2, v8sp]
  unfold aBg
  split
  · exact v8b0
  · rfl
theorem lv_w : aSv a + lCl a 69 8 = a 69 8 := by
  have e : lCl a 69 8 = aSw a 69 8 := by
    unfold lCl lSd zSd
    rw [xu_o (by omega), Sf_r (by decide) (by decide), xu_o (by omega)]
  rw [e]
  exact sv_w
theorem hv_w : aSv a + hCl a 69 8 = a 69 8 := by
  rw [congrFun (cl_r (a := a) (c := 69) (by decide) (by decide) (by decide)) 8]
  exact sv_w
theorem rv_w : aSv a + rCl a 69 8 = a 69 8 := by
  rw [rCl_r (by decide) (by decide) (by decide) (by decide) (fun z => absurd z.1 (by decide))]
  exact sv_w
theorem gv_w : aSv a + gMa a 69 8 = a 69 8 := by
  rw [congrFun (Ma_rw (a := a) (n := 69) (by decide) (by decide) (by decide) (by decide)) 8]
  exact sv_w
theorem g0_w : gV0 a + gM0 a 69 8 = a 69 8 := by
  unfold gV0 gM0
  by_cases h : (a 87 9).toInt < (a 87 10).toInt + gGr a 512
  · rw [if_pos h, if_pos h]
    exact gv_w
  · rw [if_neg h, if_neg h]
    exact Int32.zero_add _
theorem v8kp (hk : k ≠ 5) : gKp a 69 k = a 69 k := by
  unfold gKp
  rw [v8gw hk, aSp_o ⟨by decide, by decide, by decide⟩]
  have d : ∀ (f : Nat) (b : Nat → Nat → Int32) (p e : Int), gDf e f b p 69 k = b 69 k := by
    intro f
    induction f with
    | zero => intro b p e; rfl
    | succ f ih =>
      intro b p e
      by_cases c : p < e
      · by_cases q : (zOb b p).toInt < 0
        · rw [gDf_fr c q, ih]
        · rw [gDf_go c (by omega), ih, gDw_o ⟨by decide, by decide, by decide⟩]
      · rw [gDf_e c]
  unfold gDp
  rw [d, aRo_o ⟨by decide, by decide, by decide⟩]
  unfold aWh
  rw [xu_o (by omega), xu_o (by omega), xu_o (by omega)]
  unfold zFl
  rw [if_neg (by omega)]
theorem v8gm : ∀ (f j : Nat) (a : Nat → Nat → Int32), gMf f j a 69 k = a 69 k := by
  intro f
  induction f with
  | zero => intro j a; rfl
  | succ f ih =>
    intro j a
    by_cases h : hQc a j
    · rw [gMf_y h, ih, congrFun (gM1_r (by decide) (by decide) (by decide) (by decide)) k]
    · rw [gMf_n h, ih]
theorem mv_w : (gMk0 a 69 11 - gKp a 69 11) + gMv a 69 8 = a 69 8 := by
  have e : gMv a 69 8 = gMk0 a 69 8 := by
    unfold gMv
    rw [congrFun (Fd_r (c := 69) (by decide)) 8, v8gm]
    unfold gMk1
    rw [xu_o (by omega), xu_o (by omega)]
  have q : gMk0 a 69 11 + gMk0 a 69 8 = gKp a 69 11 + gKp a 69 8 := v8mf _ _ _
  rw [e, ← v8kp (a := a) (k := 8) (by decide)]
  exact i_dq q
theorem gi_w : gVi a + gMi a 69 8 = a 69 8 := by
  unfold gVi gMi
  by_cases h : (gM0 a 87 9).toInt < (gM0 a 87 10).toInt + gGr (gM0 a) 512
  · rw [if_pos h, if_pos h]
    exact g0_w
  · rw [if_neg h, if_neg h]
    exact i_wt mv_w g0_w
theorem gc_w : (aSv a + gVi (gMa a)) + gMi (gMa a) 69 8 = a 69 8 := i_wt gi_w gv_w
/-! a new one: its number, or none -/
/-- y is the number that was to be given, and it is given; or none is -/
def zNu (y g0 g1 : Int32) : Prop := (y = g0 ∧ g1 = g0 + 1) ∨ (y = -1 ∧ g1 = g0)
end HC
/-! clean, make, row: answers told by what was there before and is there behind -/
def zWf (y w0 w1 : Int32) : Prop := y + w1 = w0
theorem fu_wf {w0 w1 : Int32} : zFu (fun th v => th.toInt = 0 ∧ zWf v w0 w1) := fun th v th2 v2 a b => ⟨b.1.trans a.1.symm, fun _ => by
  have e : v2 + w1 = v + w1 := b.2.trans a.2.symm
  have e2 : v2 + w1 - w1 = v + w1 - w1 := by rw [e]
  rw [Int32.sub_eq_add_neg, Int32.add_assoc, ← Int32.sub_eq_add_neg, Int32.sub_self, Int32.add_zero, Int32.sub_eq_add_neg, Int32.add_assoc, ← Int32.sub_eq_add_neg, Int32.sub_self, Int32.add_zero] at e2
  exact e2⟩
theorem i_ne1 {x : Int32} (h : x = x + 1) : False := by
  have e : x - x = x + 1 - x := by rw [← h]
  rw [Int32.sub_self, Int32.add_comm x 1, Int32.sub_eq_add_neg, Int32.add_assoc, ← Int32.sub_eq_add_neg, Int32.sub_self] at e
  exact absurd e (by decide)
theorem fu_nu {g0 g1 : Int32} : zFu (fun th v => th.toInt = 0 ∧ zNu v g0 g1) := fun th v th2 v2 a b => ⟨b.1.trans a.1.symm, fun _ => by
  rcases a.2 with p | p
  · rcases b.2 with q | q
    · exact q.1.trans p.1.symm
    · exact (i_ne1 (q.2.symm.trans p.2)).elim
  · rcases b.2 with q | q
    · exact (i_ne1 (p.2.symm.trans q.2)).elim
    · exact q.1.trans p.1.symm⟩
/-! make, row: the number that is given -/
section HN
variable {a b : Nat → Nat → Int32} {S S₉ : ma_S} {P k : Nat} {y i kd wd rt v V x0 x1 : Int32} {L : Int64} {F : Nat → Int32} {G : Nat → Nat → Int32} {z : Int}
theorem r_T (h : zrl 69 k = true) : aT P S 69 k = mI S 69 k := (aT_o (by decide)).trans (aS_I (W := 75) (S := S) (c := 69) (c₉ := 69) (k := k) h rfl)
theorem r_L (h : zrl 69 k = true) : aL S 69 k = mI S 69 k := (aM_o (by decide)).trans (aS_I (W := 75) (S := S) (c := 69) (c₉ := 69) (k := k) h rfl)
theorem r_H (h : zrl 69 k = true) : aH S 69 k = mI S 69 k := (aM_o (by decide)).trans (aS_I (W := 75) (S := S) (c := 69) (c₉ := 69) (k := k) h rfl)
theorem r_G (h : zrl 69 k = true) : aG S 69 k = mI S 69 k := (aG_o (by decide) (by decide)).trans (aS_I (W := 75) (S := S) (c := 69) (c₉ := 69) (k := k) h rfl)
theorem r_Z (h : zrl 69 k = true) : aZ S 69 k = mI S 69 k := (aZ_o (by decide) (by decide) (by decide)).trans (aS_I (W := 75) (S := S) (c := 69) (c₉ := 69) (k := k) h rfl)
theorem r_S (h : zrl 69 k = true) : aS 88 S 69 k = mI S 69 k := aS_I (W := 88) (S := S) (c := 69) (c₉ := 69) (k := k) h rfl
theorem cw_of (h : v = V) (hs : b = G) (hw : V + G 69 8 = a 69 8) (r1 : a 69 8 = x0) (r2 : b 69 8 = x1) : zWf v x0 x1 := by
  unfold zWf
  rw [h, ← r2, hs, ← r1]
  exact hw
theorem nu_of (h : v = V) (hs : b = G) (hw : zNu V (a 69 6) (G 69 6)) (r1 : a 69 6 = x0) (r2 : b 69 6 = x1) : zNu v x0 x1 := by
  rw [h, ← r2, hs, ← r1]
  exact hw
theorem n6nc {x : Int32} : aNc a y x 69 6 = a 69 6 := by
  unfold aNc
  split
  · exact aCm_o ⟨by decide, by decide, by decide⟩
  · rfl
theorem n6rt : aRt a i y 69 6 = a 69 6 := by
  unfold aRt
  rw [n6nc]
  exact xu_o (by omega)
theorem n6r0 : aR0 a i y 69 6 = a 69 6 := xu_o (by omega)
theorem n6md : aMd a y 69 6 = a 69 6 := by
  unfold aMd
  split
  · exact xu_o (by omega)
  · rw [xu_o (by omega), xu_o (by omega)]
theorem n6hd : hMd a y 69 6 = a 69 6 := xu_o (by omega)
theorem n6rd : rMd a y 69 6 = a 69 6 := by
  unfold rMd
  split
  · exact xu_o (by omega)
  · rfl
theorem n6gd : gMd a y 69 6 = a 69 6 := by
  unfold gMd
  split
  · exact xu_o (by omega)
  · exact xu_o (by omega)
theorem n6ad : aAd a y F L 69 6 = a 69 6 + 1 := by
  unfold aAd
  rw [xu_o (by omega), xu_s]
theorem n6sw : aSw a 69 6 = a 69 6 := by
  unfold aSw aMv
  rw [w6mf, v8gw (by decide)]
  exact aRA_o ⟨by decide, by decide, by decide⟩
theorem n6lc : lCl a 69 6 = a 69 6 := by
  unfold lCl lSd zSd
  rw [xu_o (by omega), Sf_r (by decide) (by decide), xu_o (by omega)]
  exact n6sw
theorem n6hc : hCl a 69 6 = a 69 6 := (congrFun (cl_r (a := a) (c := 69) (by decide) (by decide) (by decide)) 6).trans n6sw
theorem n6rc : rCl a 69 6 = a 69 6 := (rCl_r (by decide) (by decide) (by decide) (by decide) (fun w => absurd w.1 (by decide))).trans n6sw
theorem n6ga : gMa a 69 6 = a 69 6 := (congrFun (Ma_rw (a := a) (n := 69) (by decide) (by decide) (by decide) (by decide)) 6).trans n6sw
theorem n6g0 : gM0 a 69 6 = a 69 6 := by
  unfold gM0
  split
  · exact n6ga
  · rfl
theorem n6gv : gMv a 69 6 = a 69 6 := by
  unfold gMv
  rw [congrFun (Fd_r (c := 69) (by decide)) 6, v8gm]
  unfold gMk1
  rw [xu_o (by omega), xu_o (by omega)]
  unfold gMk0 aMv
  rw [w6mf]
  exact v8kp (by decide)
theorem n6gi : gMi a 69 6 = a 69 6 := by
  unfold gMi
  split
  · exact n6g0
  · exact n6gv.trans n6g0
theorem n6zs : zRs a z 69 6 = a 69 6 := by
  unfold zRs
  split
  · exact n6sw
  · rfl
theorem n6ls : lRs a z 69 6 = a 69 6 := by
  unfold lRs
  split
  · exact n6lc
  · rfl
theorem n6hs : hRs a z 69 6 = a 69 6 := by
  unfold hRs
  split
  · rfl
  · exact n6hc
theorem n6r1 : rR1 a z 69 6 = a 69 6 := by
  unfold rR1
  split
  · rfl
  · split
    · exact n6rc
    · rfl
theorem n6r2 : rR2 a z 69 6 = a 69 6 := by
  unfold rR2
  split
  · rfl
  · split
    · exact xu_o (by omega)
    · rfl
theorem n6rs : rRs a z 69 6 = a 69 6 := by
  unfold rRs
  split
  · rfl
  · exact n6r2.trans n6r1
theorem n6gs : gRs a z 69 6 = a 69 6 := by
  unfold gRs
  split
  · unfold gRo
    split
    · exact n6ga
    · rfl
  · have e1 : gR1 a z 69 6 = a 69 6 := by
      unfold gR1
      split
      · rfl
      · exact n6gi
    rw [← e1]
    unfold gR2
    split
    · rfl
    · exact n6gi.trans n6ga
theorem nu_am : zNu (aMn a wd) (a 69 6) (aMk a kd wd L rt 69 6) := by
  unfold aMn aMk
  by_cases h : (a 69 6).toInt < 512
  · rw [if_pos h, if_pos h]
    by_cases q : aRp a (wd + 1).toInt = -1
    · rw [if_pos q, if_pos q]
      exact Or.inr ⟨rfl, w6rs⟩
    · rw [if_neg q, if_neg q, n6rt, n6md, n6ad, w6rs]
      exact Or.inl ⟨rfl, rfl⟩
  · rw [if_neg h, if_neg h]
    exact Or.inr ⟨rfl, rfl⟩
theorem nu_sm : zNu (sMn a wd) (a 69 6) (sMk a kd wd L rt 69 6) := by
  unfold sMn sMk
  by_cases h : (a 69 6).toInt < 512
  · rw [if_pos h, if_pos h]
    by_cases q : zRp a (wd + 1).toInt = -1
    · rw [if_pos q, if_pos q]
      exact Or.inr ⟨rfl, n6zs⟩
    · rw [if_neg q, if_neg q, n6rt, n6md, n6ad, n6zs]
      exact Or.inl ⟨rfl, rfl⟩
  · rw [if_neg h, if_neg h]
    exact Or.inr ⟨rfl, rfl⟩
theorem nu_lm : zNu (lMn a wd) (a 69 6) (lMk a kd wd L rt 69 6) := by
  unfold lMn lMk
  by_cases h : (a 69 6).toInt < 512
  · rw [if_pos h, if_pos h]
    by_cases q : lRp a (wd + 1).toInt = -1
    · rw [if_pos q, if_pos q]
      exact Or.inr ⟨rfl, n6ls⟩
    · rw [if_neg q, if_neg q, n6rt, n6md, n6ad, n6ls]
      exact Or.inl ⟨rfl, rfl⟩
  · rw [if_neg h, if_neg h]
    exact Or.inr ⟨rfl, rfl⟩
theorem nu_hm : zNu (hMn a wd) (a 69 6) (hMk a kd wd L rt 69 6) := by
  unfold hMn hMk
  by_cases h : (a 69 6).toInt < 512
  · rw [if_pos h, if_pos h]
    by_cases q : hRp a (wd + 1).toInt = -1
    · rw [if_pos q, if_pos q]
      exact Or.inr ⟨rfl, n6hs⟩
    · rw [if_neg q, if_neg q, n6r0, n6hd, n6ad, n6hs]
      exact Or.inl ⟨rfl, rfl⟩
  · rw [if_neg h, if_neg h]
    exact Or.inr ⟨rfl, rfl⟩
theorem nu_rm : zNu (rMn a wd) (a 69 6) (rMk a kd wd L rt 69 6) := by
  unfold rMn rMk
  by_cases h : (a 69 6).toInt < 512
  · rw [if_pos h, if_pos h]
    by_cases q : rRp a (wd + 1).toInt = -1
    · rw [if_pos q, if_pos q]
      exact Or.inr ⟨rfl, n6rs⟩
    · rw [if_neg q, if_neg q, n6r0, n6rd, n6ad, n6rs]
      exact Or.inl ⟨rfl, rfl⟩
  · rw [if_neg h, if_neg h]
    exact Or.inr ⟨rfl, rfl⟩
theorem nu_ym : zNu (yMn a wd) (a 69 6) (yMk a kd wd L rt 69 6) := by
  unfold yMn yMk
  by_cases h : (a 69 6).toInt < 512
  · rw [if_pos h, if_pos h]
    by_cases q : gRp a (wd + 1).toInt = -1
    · rw [if_pos q, if_pos q]
      exact Or.inr ⟨rfl, n6gs⟩
    · rw [if_neg q, if_neg q, n6r0, n6gd, n6ad, n6gs]
      exact Or.inl ⟨rfl, rfl⟩
  · rw [if_neg h, if_neg h]
    exact Or.inr ⟨rfl, rfl⟩
/-! COUNTS: those that go keep the numbers given -/
theorem n6fa {st : List (List Int32)} {r : Int32} : (cFa a st r).1 69 6 = a 69 6 := by
  unfold cFa
  split
  · rfl
  · split
    · exact aRm_o (c := 69) (k := 6) (by decide) ⟨by decide, by decide, by decide, by decide⟩
    · exact aGr_o (c := 69) (k := 6) ⟨by decide, by decide, by decide, by decide⟩
theorem n6st : ∀ x : (Nat → Nat → Int32) × List (List Int32), (cSt x).1 69 6 = x.1 69 6 := by
  intro x
  obtain ⟨c, l⟩ := x
  cases l with
  | nil => rfl
  | cons h t =>
    cases h with
    | nil => rfl
    | cons r l =>
      show (if r.toInt < 0 then (c, l :: t) else cFa c (l :: t) r).1 69 6 = c 69 6
      split
      · rfl
      · exact n6fa
theorem n6it : ∀ (n : Nat) (x : (Nat → Nat → Int32) × List (List Int32)), (cIt n x).1 69 6 = x.1 69 6 := by
  intro n
  induction n with
  | zero => intro x; rfl
  | succ n ih => intro x; exact (ih (cSt x)).trans (n6st x)
theorem n6le {B : Int} (hV : cV a [] B) : cLe a y 69 6 = a 69 6 := by
  by_cases h : 0 ≤ y.toInt ∧ xAl a y.toNatClampNeg
  · obtain ⟨d, n, hn⟩ := E_ex _ (cFa a [] y) (Nat.le_refl _) (V_fa hV h.1 h.2).1
    rw [cLe_y h.1 h.2 ⟨n, hn⟩]
    have e := n6it n (cFa a [] y)
    rw [hn] at e
    exact e.trans n6fa
  · rw [cLe_n h]
end HN
section HK
variable {a : Nat → Nat → Int32} {S : ma_S} {x kd wd rt : Int32} {L : Int64} {B : Int} {f : Nat → Nat → Int32} {r : Nat → Nat → Option Nat} {C Z N : Nat}
theorem k67_b (h : zA f r C Z N S) (h0 : 0 ≤ x.toInt) (h1 : x.toInt < (mI S 64 7).toInt) : 0 ≤ (mI S 67 x.toNatClampNeg).toInt ∧ (mI S 67 x.toNatClampNeg).toInt ≤ 60 := by
  have b := zG_s h 0 16 (c := 64) (k := 7) (by decide)
  have c := tn_cast h0
  have q := zG_a h 16 0 8 (c := 67) (k := x.toNatClampNeg) (by decide) (by omega)
  omega
theorem nu_km (hI : qI a) (hV : cV a [] B) (hB : 0 ≤ B) (h0 : 0 ≤ wd.toInt) (h6 : wd.toInt ≤ 60) (hr : 0 ≤ rt.toInt) (hr2 : rt.toInt ≤ 15) : zNu (sMn a wd) (a 69 6) (kMk a kd wd L rt 69 6) := by
  have hIr := I_rs (z := (wd + 1).toInt) hI hV.2.1
  have hVr := V_rs (p := (wd + 1).toInt) hI hV
  have cr := tn_cast hr
  by_cases z6 : (a 69 6).toInt < 512
  · by_cases zp : zRp a (wd + 1).toInt = -1
    · have m1 := kMk_1 (kd := kd) (rt := rt) (L := L) z6 zp
      rw [m1.1, m1.2]
      exact Or.inr ⟨rfl, n6zs⟩
    · have fs := Ft_fs hIr (z := (wd + 1).toInt) (by rw [i_p1 (by omega)]; omega) zp
      have e1 := i_p1 (i := wd) (by omega)
      have r5 := hIr.2.2.2.1.2.2.1
      have zz : zRp a (wd + 1).toInt = aFt (zRs a (wd + 1).toInt) (wd + 1).toInt := rfl
      rw [← zz] at fs
      have f0 := fs.1
      have f1 := fs.2.1
      have pl : (Int32.ofInt (zRp a (wd + 1).toInt)).toInt = zRp a (wd + 1).toInt := Int32.toInt_ofInt_of_le (by omega) (by omega)
      have zr6 : (zRs a (wd + 1).toInt 69 6).toInt < 512 := by
        rw [n6zs]
        exact z6
      have ne := Ne_o0 (aa := a) (w := wd) (pl := Int32.ofInt (zRp a (wd + 1).toInt)) (y := zRs a (wd + 1).toInt 69 6) hIr pl (by rw [pl]; exact f0) h0 h6 rfl zr6
      have nb := Ne_b ne
      have ad := Ad_of (b := zRs a (wd + 1).toInt) (y := zRs a (wd + 1).toInt 69 6) (kk := kd) (w := wd) (pl := Int32.ofInt (zRp a (wd + 1).toInt)) (L := L) nb.1 h0 h6 nb.2.2.2.1 (by omega)
      have va := V_ad4 ne ad hVr hB
      have m1 := kMk_2 (kd := kd) (rt := rt) (L := L) (pl := Int32.ofInt (zRp a (wd + 1).toInt)) (y := zRs a (wd + 1).toInt 69 6) z6 rfl pl (by rw [pl]; exact zp) rfl
      rw [m1.1, m1.2, n6le (V_r0 va (by omega)), n6r0, n6md, n6ad, n6zs]
      exact Or.inl ⟨rfl, rfl⟩
  · have m1 := kMk_0 (wd := wd) (kd := kd) (rt := rt) (L := L) z6
    rw [m1.1, m1.2]
    exact Or.inr ⟨rfl, rfl⟩
end HK
