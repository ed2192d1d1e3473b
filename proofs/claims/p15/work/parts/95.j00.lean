/-! TWO HEAPS ALIKE: all but the walk's own cells; while marking: under news the walk's too, under picture what it will have come to -/
section SM
variable {a b c a' b' : Nat → Nat → Int32} {x y z i : Int32} {n k u v : Nat} {p q : Int}
def zNA (b : Nat → Nat → Int32) : Prop := ∀ x, zNn b x → xAl b x
def qSm (a b : Nat → Nat → Int32) : Prop := zOf a b ∧ (b 87 8 ≠ 0 → zPP a b ∧ zNA b ∧ (b 87 7 = 1 → zJJ a b))
theorem Mk_al (h : zNA a) (hm : zMk a u) : xAl a u := hm _ (fun g w => h g w) (fun _ _ _ _ e => e.1)
theorem of_u (h : zOf a b) : zOf (ma_u a n k x) (ma_u b n k x) := fun c' k' q1 q2 q3 => by
  by_cases w : c' = n ∧ k' = k
  · rw [w.1, w.2, xu_s, xu_s]
  · rw [xu_o w, xu_o w]
    exact h c' k' q1 q2 q3
theorem WQ_JJ (h : zJJ a b) (hw : zWQ b) : zWQ a := by
  obtain ⟨h1, ⟨e3, e4, e5⟩, h3, h4, h5⟩ := h
  obtain ⟨q1, q2, q3, q4, q5, q6⟩ := hw
  have ec : cnt (a 77) 512 = cnt (b 77) 512 := cnt_congr (fun j hj => by rw [h3 j hj])
  refine ⟨?_, fun j j1 j2 => ?_, fun j j' j1 j2 j3 => ?_, fun x hx w => ?_, fun x hx => ?_, ?_, fun x hx => ?_⟩
  · unfold zQ1 at q1 ⊢
    rw [e3, e4, ec]
    exact q1
  · have e := h4 j j2
    rw [e3] at j1
    rw [e4] at j2
    have w := q2 j j1 j2
    have cw := tn_cast w.1
    rw [e, h1 126 _ (by decide) (by decide) (by decide), h3 _ (by have := w.2.1; omega)]
    exact w
  · have f1 := h4 j (by omega)
    have f2 := h4 j' j3
    rw [e3] at j1
    rw [e4] at j3
    rw [f1, f2]
    exact q3 j j' j1 j2 j3
  · rw [h3 x hx] at w
    obtain ⟨j, j1, j2, j3⟩ := q4 x hx w
    rw [← e3] at j1
    rw [← e4] at j2
    exact ⟨j, j1, j2, by rw [h4 j j2]; exact j3⟩
  · rw [h3 x hx]
    exact q5 x hx
  · rw [e5]
    exact q6.1
  · have al : xAl b x := (Of_al h1).mpr hx
    rw [h1 130 _ (by decide) (by decide) (by decide)]
    exact q6.2 x al
theorem JJ_nd (h : zJJ a b) : (∀ u, zNn a u ↔ zNn b u) ∧ ∀ u, zDn a u ↔ zDn b u := by
  refine ⟨fun u => ?_, fun u => ?_⟩
  · unfold zNn
    constructor
    · intro w
      rw [← h.2.2.1 u w.1]
      exact w
    · intro w
      rw [h.2.2.1 u w.1]
      exact w
  · unfold zDn
    constructor
    · intro w
      rw [← h.2.2.1 u w.1]
      exact w
    · intro w
      rw [h.2.2.1 u w.1]
      exact w
theorem PP_JJ (h : zJJ a b) (hw : zWQ b) : zPP a b := by
  have nd := JJ_nd h
  exact ⟨h.1, WQ_JJ h hw, hw, h.2.1.1, fun x => zM_cg nd.1 nd.2 (fun u y => (Of_ed h.1).symm), cD_cg nd.2⟩
theorem Sm_J (h : zJJ a b) (hw : zWQ b) (hn : zNA b) : qSm a b := ⟨h.1, fun _ => ⟨PP_JJ h hw, hn, fun _ => h⟩⟩
theorem Sm_0 (h : zOf a b) (h8 : b 87 8 = 0) : qSm a b := ⟨h, fun w => absurd h8 w⟩
theorem Sm_r (h8 : a 87 8 = 0) : qSm a a := Sm_0 Of_rf h8
/-- a change apart from the walk -/
theorem JJ_g (h : zJJ a b) (o : zOf a' b') (e1 : a' 75 = a 75) (e2 : a' 76 = a 76) (e3 : a' 77 = a 77) (f1 : b' 75 = b 75) (f2 : b' 76 = b 76) (f3 : b' 77 = b 77) : zJJ a' b' := by
  refine ⟨o, ?_⟩
  rw [e1, e2, e3, f1, f2, f3]
  exact h.2
theorem PP_g (h : zPP a b) (o : zOf a' b') (e1 : a' 75 = a 75) (e2 : a' 76 = a 76) (e3 : a' 77 = a 77) (e4 : a' 126 = a 126) (e5 : a' 130 = a 130) (f1 : b' 75 = b 75) (f2 : b' 76 = b 76) (f3 : b' 77 = b 77) (f4 : b' 126 = b 126) (f5 : b' 130 = b 130) (g1 : zEd a' = zEd a) (g2 : zEd b' = zEd b) : zPP a' b' := by
  refine ⟨o, WQ_cg h.2.1 e1.symm e2.symm e3.symm e4.symm e5.symm, WQ_cg h.2.2.1 f1.symm f2.symm f3.symm f4.symm f5.symm, ?_, fun x => ?_, ?_⟩
  · rw [e1, f1]
    exact h.2.2.2.1
  · rw [(Mk_cg e3 g1).1, (Mk_cg f3 g2).1]
    exact h.2.2.2.2.1 x
  · unfold cD
    rw [e3, f3]
    exact h.2.2.2.2.2
theorem NA_g (h : zNA b) (f3 : b' 77 = b 77) (f4 : b' 126 = b 126) : zNA b' := by
  intro x hx
  unfold zNn at hx
  unfold xAl
  rw [f3] at hx
  rw [f4]
  exact h x hx
theorem Sm_g (h : qSm a b) (o : zOf a' b') (e1 : a' 75 = a 75) (e2 : a' 76 = a 76) (e3 : a' 77 = a 77) (e4 : a' 126 = a 126) (e5 : a' 130 = a 130) (f1 : b' 75 = b 75) (f2 : b' 76 = b 76) (f3 : b' 77 = b 77) (f4 : b' 126 = b 126) (f5 : b' 130 = b 130) (g1 : zEd a' = zEd a) (g2 : zEd b' = zEd b) (f8 : b' 87 = b 87) : qSm a' b' := by
  refine ⟨o, fun m => ?_⟩
  rw [f8] at m ⊢
  have w := h.2 m
  exact ⟨PP_g w.1 o e1 e2 e3 e4 e5 f1 f2 f3 f4 f5 g1 g2, NA_g w.2.1 f3 f4, fun w7 => JJ_g (w.2.2 w7) o e1 e2 e3 f1 f2 f3⟩
theorem Sm_u (h : qSm a b) (hn : n = 72 ∨ n = 73 ∨ n = 74 ∨ n = 133 ∨ n = 134 ∨ n = 69) : qSm (ma_u a n k x) (ma_u b n k x) := Sm_g h (of_u h.1) (un (by omega)) (un (by omega)) (un (by omega)) (un (by omega)) (un (by omega)) (un (by omega)) (un (by omega)) (un (by omega)) (un (by omega)) (un (by omega)) (Ed_u (by omega)) (Ed_u (by omega)) (un (by omega))
/-- one comes -/
theorem NA_gr {T : Nat → Prop} (h : zNA a) (g : zGr a b T) : zNA b := fun x hx => (Of_al g.2.1).mpr (((g.2.2.2.1 x).mp hx).elim (fun w => h x w) (fun w => w.1))
theorem of_cm (h : zOf a b) : zOf (aCm a y) (aCm b y) := Of_tr (Of_sy cm_of) (Of_tr h cm_of)
theorem Sm_cm (h : qSm a b) : qSm (aCm a y) (aCm b y) := by
  refine ⟨of_cm h.1, fun m => ?_⟩
  rw [aCm_o ⟨by decide, by decide, by decide⟩] at m ⊢
  have w := h.2 m
  exact ⟨PP_cm w.1, NA_gr w.2.1 (gr_cm w.1.2.2.1), fun w7 => JJ_cm (w.2.2 w7)⟩
theorem Nm_of (h : zOf a b) : aNm a y = aNm b y := by
  unfold aNm
  rw [h 126 _ (by decide) (by decide) (by decide)]
theorem Sm_nc (h : qSm a b) : qSm (aNc a y z) (aNc b y z) := by
  unfold aNc
  rw [h.1 87 8 (by decide) (by decide) (by decide), h.1 87 7 (by decide) (by decide) (by decide), Nm_of h.1, Nm_of (y := z) h.1]
  split
  · exact Sm_cm h
  · exact h
theorem Sm_st (h : qSm a b) : qSm (aSt a y) (aSt b y) := by
  unfold aSt
  rw [h.1 87 8 (by decide) (by decide) (by decide)]
  split
  · exact Sm_cm h
  · exact h
theorem Sm_rt (h : qSm a b) : qSm (aRt a i y) (aRt b i y) := by
  unfold aRt
  rw [Nm_of h.1, h.1 72 _ (by decide) (by decide) (by decide)]
  exact Sm_nc (Sm_u h (by decide))
/-- the first of WISHES is taken -/
theorem Tw_of (h : zOf a b) : zOf (aTw a) (aTw b) ∧ aTy a = aTy b := by
  have e5 := h 69 5 (by decide) (by decide) (by decide)
  refine ⟨?_, ?_⟩
  · unfold aTw
    rw [e5]
    split
    · have o := of_u (n := 69) (k := 5) (x := b 69 5 - 1) h
      intro c' k' q1 q2 q3
      unfold zSh
      rw [o 74 _ (by decide) (by decide) (by decide), o c' k' q1 q2 q3]
    · exact h
  · unfold aTy
    rw [e5, h 74 0 (by decide) (by decide) (by decide)]
theorem Tw_e (hn : n ≠ 69) (h4 : n ≠ 74) : aTw a n = a n := by
  unfold aTw
  split
  · funext j
    unfold zSh
    rw [if_neg (fun w => h4 w.1), xu_o (fun w => hn w.1)]
  · rfl
theorem Ed_te : zEd (aTw a) = zEd a := Ed_cg (Tw_e (by decide) (by decide)) (Tw_e (by decide) (by decide)) (fun j i => rf_cg (Tw_e (by omega) (by omega)) (Tw_e (by decide) (by decide)) (Tw_e (by decide) (by decide)))
theorem Sm_tw (h : qSm a b) : qSm (aTw a) (aTw b) := Sm_g h (Tw_of h.1).1 (Tw_e (by decide) (by decide)) (Tw_e (by decide) (by decide)) (Tw_e (by decide) (by decide)) (Tw_e (by decide) (by decide)) (Tw_e (by decide) (by decide)) (Tw_e (by decide) (by decide)) (Tw_e (by decide) (by decide)) (Tw_e (by decide) (by decide)) (Tw_e (by decide) (by decide)) (Tw_e (by decide) (by decide)) Ed_te Ed_te (Tw_e (by decide) (by decide))
/-- two come, in either order -/
theorem PP_tr (h : zPP a b) (h2 : zPP b c) : zPP a c := ⟨Of_tr h.1 h2.1, h.2.1, h2.2.2.1, h.2.2.2.1.trans h2.2.2.2.1, fun x => (h.2.2.2.2.1 x).trans (h2.2.2.2.2.1 x), h.2.2.2.2.2.trans h2.2.2.2.2.2⟩
theorem PP_sw (h : zWQ a) : zPP (aCm (aCm a x) y) (aCm (aCm a y) x) := by
  have g := gr_tr (gr_cm (y := x) h) (gr_cm (y := y) (WQ_cm h))
  have g2 := gr_tr (gr_cm (y := y) h) (gr_cm (y := x) (WQ_cm h))
  have o := Of_tr (Of_sy g.2.1) g2.2.1
  have nn : ∀ u, zNn (aCm (aCm a x) y) u ↔ zNn (aCm (aCm a y) x) u := fun u => by
    rw [g.2.2.2.1 u, g2.2.2.2.1 u]
    exact ⟨fun w => w.imp id (fun w2 => ⟨w2.1, w2.2.symm⟩), fun w => w.imp id (fun w2 => ⟨w2.1, w2.2.symm⟩)⟩
  have dn : ∀ u, zDn (aCm (aCm a x) y) u ↔ zDn (aCm (aCm a y) x) u := fun u => by rw [g.2.2.1 u, g2.2.2.1 u]
  exact ⟨o, g.1, g2.1, by rw [g.2.2.2.2, g2.2.2.2.2], fun u => zM_cg nn dn (fun u y => (Of_ed o).symm), cD_cg dn⟩
theorem cm_u (hn : n ≠ 75 ∧ n ≠ 76 ∧ n ≠ 77 ∧ n ≠ 126 ∧ n ≠ 130) : aCm (ma_u a n k z) y = ma_u (aCm a y) n k z := by
  have e75 : ma_u a n k z 75 = a 75 := un (by omega)
  have e77 : ma_u a n k z 77 = a 77 := un (by omega)
  have e126 : ma_u a n k z 126 = a 126 := un (by omega)
  have e130 : ma_u a n k z 130 = a 130 := un (by omega)
  have cc : aCc (ma_u a n k z) y ↔ aCc a y := by
    unfold aCc
    rw [e75, e77, e126, e130]
  by_cases h : aCc a y
  · rw [aCm_y h, aCm_y (cc.mpr h), e75]
    funext c' k'
    by_cases w : c' = n ∧ k' = k
    · rw [w.1, w.2, xu_s, xu_o (by omega), xu_o (by omega), xu_o (by omega), xu_s]
    · rw [xu_o (c' := n) w]
      by_cases w1 : c' = 75 ∧ k' = 4
      · rw [w1.1, w1.2, xu_s, xu_s]
      · rw [xu_o w1, xu_o w1]
        by_cases w2 : c' = 76 ∧ k' = (a 75 4).toNatClampNeg
        · rw [w2.1, w2.2, xu_s, xu_s]
        · rw [xu_o w2, xu_o w2]
          by_cases w3 : c' = 77 ∧ k' = y.toNatClampNeg
          · rw [w3.1, w3.2, xu_s, xu_s]
          · rw [xu_o w3, xu_o w3, xu_o w]
  · rw [aCm_n h, aCm_n (fun w => h (cc.mp w))]
theorem Sm_sg (h : qSm a b) (hx : aNm b x ≠ -1) : qSm (aSt (aRt a i x) x) (aRt (aSt b x) i x) := by
  have e8 := h.1 87 8 (by decide) (by decide) (by decide)
  have nx : aNm b x = x := by
    unfold aNm at hx ⊢
    split
    · rfl
    · rename_i w
      rw [if_neg w] at hx
      exact absurd rfl hx
  by_cases m : b 87 8 = 0
  · have ea : ∀ d : Nat → Nat → Int32, d 87 8 = 0 → aSt d x = d := fun d hd => by
      unfold aSt
      rw [if_neg (fun w => w hd)]
    have er : aRt a i x 87 8 = 0 := by
      unfold aRt
      rw [← NC_of 87 8 (by decide) (by decide) (by decide), xu_o (by omega), e8]
      exact m
    rw [ea b m, ea _ er]
    exact Sm_rt h
  · have st : ∀ d : Nat → Nat → Int32, d 87 8 ≠ 0 → aSt d x = aCm d x := fun d hd => by
      unfold aSt
      rw [if_pos hd]
    have er : aRt a i x 87 8 ≠ 0 := by
      unfold aRt
      rw [← NC_of 87 8 (by decide) (by decide) (by decide), xu_o (by omega), e8]
      exact m
    rw [st _ er, st b m]
    unfold aRt
    have n1 : aNm (aCm b x) x = x := by
      rw [← Nm_of (a := b) cm_of]
      exact nx
    rw [Nm_of h.1, nx, n1, h.1 72 _ (by decide) (by decide) (by decide), aCm_o (c := 72) ⟨by decide, by decide, by decide⟩, ← cm_u (by decide)]
    have h1 : qSm (ma_u a 72 i.toNatClampNeg x) (ma_u b 72 i.toNatClampNeg x) := Sm_u h (by decide)
    have m1 : ma_u b 72 i.toNatClampNeg x 87 8 ≠ 0 := by
      rw [xu_o (by omega)]
      exact m
    generalize hA : ma_u a 72 i.toNatClampNeg x = A at *
    generalize hB : ma_u b 72 i.toNatClampNeg x = B at *
    generalize b 72 i.toNatClampNeg = w at *
    have mA : A 87 8 ≠ 0 := by
      rw [h1.1 87 8 (by decide) (by decide) (by decide)]
      exact m1
    have mB : aCm B x 87 8 ≠ 0 := by
      rw [aCm_o ⟨by decide, by decide, by decide⟩]
      exact m1
    have nB : ∀ y, aNm (aCm B x) y = aNm B y := fun y => (Nm_of cm_of).symm
    by_cases s : aNm B w = aNm B x
    · rw [aNc_n (fun q => q.2 (by rw [Nm_of h1.1, Nm_of (y := x) h1.1]; exact s)), aNc_n (fun q => q.2 (by rw [nB, nB]; exact s))]
      exact Sm_cm h1
    · rw [aNc_y mA (by rw [Nm_of h1.1, Nm_of (y := x) h1.1]; exact s), aNc_y mB (by rw [nB, nB]; exact s), aCm_o (c := 87) ⟨by decide, by decide, by decide⟩, h1.1 87 7 (by decide) (by decide) (by decide)]
      by_cases s7 : B 87 7 = 0
      · rw [if_pos s7]
        have hs : qSm (aCm (aCm A x) w) (aCm (aCm B x) w) := Sm_cm (Sm_cm h1)
        have pa : zPP (aCm (aCm A w) x) (aCm (aCm A x) w) := PP_sw (h1.2 m1).1.2.1
        refine ⟨Of_tr pa.1 hs.1, fun m2 => ?_⟩
        have q := hs.2 m2
        refine ⟨PP_tr pa q.1, q.2.1, fun q7 => ?_⟩
        rw [aCm_o (c := 87) ⟨by decide, by decide, by decide⟩, aCm_o (c := 87) ⟨by decide, by decide, by decide⟩, s7] at q7
        exact absurd q7 (by decide)
      · rw [if_neg s7]
        exact Sm_cm (Sm_cm h1)
end SM
