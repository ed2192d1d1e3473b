/-! the reference opens a heap (written by wip/tools/gen15w.py) -/
/-! calls under the moving collectors: rows 75 to 77 and 82 to 93 are no matter -/
def zO6 (a b : Nat → Nat → Int32) : Prop := ∀ c k, c ≠ 75 → c ≠ 76 → c ≠ 77 → ¬ (82 ≤ c ∧ c ≤ 93) → a c k = b c k
/-- X is what Y is, but for the rows 82 to 93, which are a's -/
def zAy (X Y a : Nat → Nat → Int32) : Prop := zO6 X Y ∧ ∀ c k, 82 ≤ c → c ≤ 93 → X c k = a c k
/-- nothing but ROOTS, WEAK ones, WISHES, words and wishes has changed -/
def zRw (X a : Nat → Nat → Int32) : Prop := ∀ c, c ≠ 69 → c ≠ 71 → c ≠ 72 → c ≠ 73 → c ≠ 74 → c ≠ 134 → X c = a c
section F40
variable {a b d e aa X Y : Nat → Nat → Int32} {x y z i o r t kk w rt : Int32} {n k c m : Nat} {p : Int} {F : Nat → Int32} {L : Int64} {S S' : ma_S} {P : Nat}
theorem O6_Rq (h : zO6 a b) : zRq a x ↔ zRq b x := by
  refine (Of_Rq (Br_of (a := a) (b := b))).trans ?_
  have o : zO9 (zBr a b) b := fun c k hc => by
    unfold zBr
    by_cases w : c = 75 ∨ c = 76 ∨ c = 77
    · rw [if_pos w]
    · rw [if_neg w]
      exact h c k (by omega) (by omega) (by omega) (by omega)
  unfold zRq
  rw [o 126 _ (by decide), o9_ra o 77 _ (by decide)]
theorem O6_u (h : zO6 a b) : zO6 (ma_u a n k x) (ma_u b n k x) := fun c' k' h1 h2 h3 h4 => by
  show (if c' = n ∧ k' = k then x else a c' k') = (if c' = n ∧ k' = k then x else b c' k')
  rw [h c' k' h1 h2 h3 h4]
theorem O6_if {P Q : Prop} {a' b' : Nat → Nat → Int32} (e : P ↔ Q) (h1 : Q → zO6 a' b') (h2 : zO6 a b) : zO6 (qIf P a' a) (qIf Q b' b) := by
  by_cases w : Q
  · rw [qIf_y (e.mpr w), qIf_y w]
    exact h1 w
  · rw [qIf_n (fun q => w (e.mp q)), qIf_n w]
    exact h2
theorem O6_c (h : zO6 a b) (h1 : c ≠ 75) (h2 : c ≠ 76) (h3 : c ≠ 77) (h4 : ¬ (82 ≤ c ∧ c ≤ 93)) : a c k = b c k := h c k h1 h2 h3 h4
theorem O6_Nm (h : zO6 a b) : aNm a y = aNm b y := by
  unfold aNm
  rw [O6_c (c := 126) h (by decide) (by decide) (by decide) (by decide)]
theorem O6_Hw (h : zO6 a b) : zHw a o i ↔ zHw b o i := by
  unfold zHw
  rw [O6_c (c := 128) h (by decide) (by decide) (by decide) (by decide)]
theorem O6_Ir (h : zO6 a b) : zIr a o i ↔ zIr b o i := by
  unfold zIr
  rw [h (1000 + o.toNatClampNeg) _ (by omega) (by omega) (by omega) (by omega)]
theorem O6_ci (h : zO6 a b) : zO6 (aCi a n i x) (aCi b n i x) := by
  unfold aCi
  rw [O6_c (c := 130) h (by decide) (by decide) (by decide) (by decide)]
  split
  · exact O6_u h
  · exact h
theorem O6_r0 (h : zO6 a b) : zO6 (aR0 a i y) (aR0 b i y) := by
  unfold aR0
  rw [O6_Nm h]
  exact O6_u h
theorem O6_tw (h : zO6 a b) : zO6 (aTw a) (aTw b) ∧ aTy a = aTy b := by
  have e5 := O6_c (c := 69) (k := 5) h (by decide) (by decide) (by decide) (by decide)
  have e74 := O6_c (c := 74) (k := 0) h (by decide) (by decide) (by decide) (by decide)
  unfold aTw aTy
  rw [e5, e74]
  refine ⟨?_, rfl⟩
  split
  · intro c' k' h1 h2 h3 h4
    show (if c' = 74 ∧ (k' : Int) < _ then ma_u a 69 5 (b 69 5 - 1) 74 (k' + 1) else ma_u a 69 5 (b 69 5 - 1) c' k') = (if c' = 74 ∧ (k' : Int) < _ then ma_u b 69 5 (b 69 5 - 1) 74 (k' + 1) else ma_u b 69 5 (b 69 5 - 1) c' k')
    rw [O6_u (n := 69) (k := 5) (x := b 69 5 - 1) h c' k' h1 h2 h3 h4, O6_u (n := 69) (k := 5) (x := b 69 5 - 1) h 74 (k' + 1) (by decide) (by decide) (by decide) (by decide)]
  · exact h
theorem O6_l0 (h : zO6 a b) : zO6 (aL0 a n i y) (aL0 b n i y) := by
  unfold aL0
  rw [O6_Nm h]
  exact O6_ci h
theorem ci_9 (h : c ≠ 71) : aCi a n i x c k = a c k := by
  unfold aCi
  split
  · exact xu_o (fun z => h z.1)
  · rfl
theorem If_c {Q : Prop} {a' : Nat → Nat → Int32} (h : a' c k = a c k) : qIf Q a' a c k = a c k := by
  by_cases w : Q
  · rw [qIf_y w]
    exact h
  · rw [qIf_n w]
theorem tw_c (h1 : c ≠ 69) (h2 : c ≠ 74) : aTw a c k = a c k := congrFun (Tw_e h1 h2) k
theorem r0_c (h : c ≠ 72) : aR0 a i y c k = a c k := xu_o (fun z => h z.1)
theorem gr_c (h1 : c ≠ 69) (h2 : c ≠ 74) (h3 : c ≠ 72) : oGr a r c k = a c k := by
  unfold oGr
  refine If_c ?_
  by_cases w : aNm a (aTy a) = -1
  · rw [qIf_y w]
    exact tw_c h1 h2
  · rw [qIf_n w, r0_c h3]
    exact tw_c h1 h2
theorem Ay_pu (h : zO6 a b) : zAy (xPu a o i x) (xPu b o i x) a := ⟨O6_if (by rw [O6_Rq h, O6_Hw h, O6_Ir h]) (fun _ => O6_ci h) h, fun _ _ h1 h2 => If_c (ci_9 (by omega))⟩
theorem Ay_we (h : zO6 a b) : zAy (xWe a i o) (xWe b i o) a := ⟨O6_if (by rw [O6_Rq h]) (fun _ => by rw [O6_Nm h]; exact O6_u h) h, fun _ _ h1 h2 => If_c (xu_o (by omega))⟩
theorem Ay_wi (h : zO6 a b) : zAy (xWi a o) (xWi b o) a := ⟨O6_if (O6_Rq h) (fun _ => O6_u h) h, fun _ _ h1 h2 => If_c (xu_o (by omega))⟩
theorem Ay_ho (h : zO6 a b) : zAy (xHo a o x) (xHo b o x) a := ⟨O6_if (by rw [O6_Rq h, O6_c (c := 133) h (by decide) (by decide) (by decide) (by decide)]) (fun _ => by rw [O6_c (c := 133) h (by decide) (by decide) (by decide) (by decide)]; exact O6_u h) h, fun _ _ h1 h2 => If_c (xu_o (by omega))⟩
theorem Ay_ro (h : zO6 a b) : zAy (oRo a i o) (oRo b i o) a := ⟨O6_if (by rw [O6_Rq h]) (fun _ => O6_r0 h) h, fun _ _ h1 h2 => If_c (r0_c (by omega))⟩
theorem Ay_li (h : zO6 a b) : zAy (oLi a o i t) (oLi b o i t) a := ⟨O6_if (by rw [O6_Rq h, O6_Rq h, O6_Hw h, O6_Ir h]) (fun _ => O6_l0 h) h, fun _ _ h1 h2 => If_c (ci_9 (by omega))⟩
theorem Ay_sg (h : zO6 a b) : zAy (oSg a i r) (oSg b i r) a := ⟨O6_if (by rw [O6_Nm h, O6_c (c := 73) h (by decide) (by decide) (by decide) (by decide)]) (fun _ => by rw [O6_c (c := 73) h (by decide) (by decide) (by decide) (by decide)]; exact O6_r0 h) h, fun _ _ h1 h2 => If_c (r0_c (by omega))⟩
theorem Ay_gr (h : zO6 a b) : zAy (oGr a r) (oGr b r) a := by
  have tw := O6_tw h
  refine ⟨O6_if Iff.rfl (fun _ => ?_) h, fun _ _ h1 h2 => gr_c (by omega) (by omega) (by omega)⟩
  refine ?_
  have e : (aNm a (aTy a) = -1 ↔ aNm b (aTy b) = -1) := by rw [O6_Nm h, tw.2]
  by_cases w : aNm b (aTy b) = -1
  · rw [qIf_y (e.mpr w), qIf_y w]
    exact tw.1
  · rw [qIf_n (fun q => w (e.mp q)), qIf_n w, tw.2]
    exact O6_r0 tw.1
theorem Rw_if {Q : Prop} {a' : Nat → Nat → Int32} (h : zRw a' a) : zRw (qIf Q a' a) a := by
  by_cases w : Q
  · rw [qIf_y w]
    exact h
  · rw [qIf_n w]
    exact fun _ _ _ _ _ _ _ => rfl
theorem Rw_u (h : n = 72 ∨ n = 73 ∨ n = 134) : zRw (ma_u a n k x) a := fun c h1 h2 h3 h4 h5 h6 => ma_u_ne _ _ _ (by omega)
theorem Rw_ci : zRw (aCi a n i x) a := fun c h1 h2 h3 h4 h5 h6 => funext (fun _ => ci_9 h2)
theorem Rw_pu : zRw (xPu a o i x) a := Rw_if Rw_ci
theorem Rw_we : zRw (xWe a i o) a := Rw_if (Rw_u (Or.inr (Or.inl rfl)))
theorem Rw_wi : zRw (xWi a o) a := Rw_if (Rw_u (Or.inr (Or.inr rfl)))
theorem Rw_ro : zRw (oRo a i o) a := Rw_if (Rw_u (Or.inl rfl))
theorem Rw_li : zRw (oLi a o i t) a := Rw_if Rw_ci
theorem Rw_sg : zRw (oSg a i r) a := Rw_if (Rw_u (Or.inl rfl))
theorem Rw_gr : zRw (oGr a r) a := fun c h1 h2 h3 h4 h5 h6 => funext (fun _ => gr_c h1 h5 h3)
/-! the collectors' own heaps -/
theorem M_88 {q : Nat → Int32} : zO6 (aM q S) (aS 88 S) := fun c k h1 h2 h3 h4 => (aM_o (by omega)).trans (aS_W ⟨h1, h2, h3⟩)
theorem G_88 : zO6 (aG S) (aS 88 S) := fun c k h1 h2 h3 h4 => (aG_o (by omega) (by omega)).trans (aS_W ⟨h1, h2, h3⟩)
theorem Z_88 : zO6 (aZ S) (aS 88 S) := fun c k h1 h2 h3 h4 => by
  unfold aZ
  rw [if_neg (by omega)]
  exact M_88 c k h1 h2 h3 h4
theorem M_kp {q q' : Nat → Int32} (hx : zAy X Y (aM q S)) (hs : aS 88 S' = Y) (e : q' = q) (hr : ∀ k c, c ≠ 87 → 82 ≤ c → c ≤ 93 → aS 75 S' c k = aS 75 S c k) : zOf X (aM q' S') := fun c k h1 h2 h3 => by
  by_cases w : 82 ≤ c ∧ c ≤ 93
  · rw [hx.2 c k w.1 w.2, e]
    by_cases v : c = 87
    · rw [v, aM_7, aM_7]
    · rw [aM_o v, aM_o v, hr k c v w.1 w.2]
  · rw [hx.1 c k h1 h2 h3 w, ← hs]
    exact (M_88 c k h1 h2 h3 w).symm
end F40
