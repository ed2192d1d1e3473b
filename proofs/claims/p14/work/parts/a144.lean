/-! from 95.j00 -/
/-! TWO HEAPS ALIKE: all but the walk's own cells; while marking: under news the walk's too, under picture what it will have come to -/
section SM
variable {a b c a₉ b₉ : Nat → Nat → Int32} {x y z i : Int32} {n k u v : Nat} {p q : Int}
def zNA (b : Nat → Nat → Int32) : Prop := ∀ x, zNn b x → xAl b x
def qSm (a b : Nat → Nat → Int32) : Prop := zOf a b ∧ (b 87 8 ≠ 0 → zPP a b ∧ zNA b ∧ (b 87 7 = 1 → zJJ a b))
theorem Mk_al (h : zNA a) (hm : zMk a u) : xAl a u := hm _ (fun g w => h g w) (fun _ _ _ _ e => e.1)
theorem of_u (h : zOf a b) : zOf (ma_u a n k x) (ma_u b n k x) := fun c₉ k₉ q1 q2 q3 => by
  by_cases w : c₉ = n ∧ k₉ = k
  · rw [w.1, w.2, xu_s, xu_s]
  · rw [xu_o w, xu_o w]
    exact h c₉ k₉ q1 q2 q3
theorem WQ_JJ (h : zJJ a b) (hw : zWQ b) : zWQ a := by
  obtain ⟨h1, ⟨e3, e4, e5⟩, h3, h4, h5⟩ := h
  obtain ⟨q1, q2, q3, q4, q5, q6⟩ := hw
  have ec : cnt (a 77) 512 = cnt (b 77) 512 := cnt_congr (fun j hj => by rw [h3 j hj])
  refine ⟨?_, fun j j1 j2 => ?_, fun j j₉ j1 j2 j3 => ?_, fun x hx w => ?_, fun x hx => ?_, ?_, fun x hx => ?_⟩
  · unfold zQ1 at q1 ⊢
    rw [e3, e4, ec]
    exact q1
  · have e := h4 j j2
    rw [e3] at j1
    rw [e4] at j2
    have w := q2 j j1 j2
    have cw := tn_cast w.1
    rw [e, h1 126 _ (by decide) (by decide) (by decide), h3 _ (by have := w.2.1; omega)]
    exact w
  · have f1 := h4 j (by omega)
    have f2 := h4 j₉ j3
    rw [e3] at j1
    rw [e4] at j3
    rw [f1, f2]
    exact q3 j j₉ j1 j2 j3
  · rw [h3 x hx] at w
    obtain ⟨j, j1, j2, j3⟩ := q4 x hx w
    rw [← e3] at j1
    rw [← e4] at j2
    exact ⟨j, j1, j2, by rw [h4 j j2]; exact j3⟩
  · rw [h3 x hx]
    exact q5 x hx
  · rw [e5]
    exact q6.1
  · have al : xAl b x := (Of_al h1).mpr hx
    rw [h1 130 _ (by decide) (by decide) (by decide)]
    exact q6.2 x al
theorem JJ_nd (h : zJJ a b) : (∀ u, zNn a u ↔ zNn b u) ∧ ∀ u, zDn a u ↔ zDn b u := by
  refine ⟨fun u => ?_, fun u => ?_⟩
  · unfold zNn
    constructor
    · intro w
      rw [← h.2.2.1 u w.1]
      exact w
    · intro w
      rw [h.2.2.1 u w.1]
      exact w
  · unfold zDn
    constructor
    · intro w
      rw [← h.2.2.1 u w.1]
      exact w
    · intro w
      rw [h.2.2.1 u w.1]
      exact w
theorem PP_JJ (h : zJJ a b) (hw : zWQ b) : zPP a b := by
  have nd := JJ_nd h
  exact ⟨h.1, WQ_JJ h hw, hw, h.2.1.1, fun x => zM_cg nd.1 nd.2 (fun u y => (Of_ed h.1).symm), cD_cg nd.2⟩
theorem Sm_J (h : zJJ a b) (hw : zWQ b) (hn : zNA b) : qSm a b := ⟨h.1, fun _ => ⟨PP_JJ h hw, hn, fun _ => h⟩⟩
theorem Sm_0 (h : zOf a b) (h8 : b 87 8 = 0) : qSm a b := ⟨h, fun w => absurd h8 w⟩
theorem Sm_r (h8 : a 87 8 = 0) : qSm a a := Sm_0 Of_rf h8
/-- a change apart from the walk -/
theorem JJ_g (h : zJJ a b) (o : zOf a₉ b₉) (e1 : a₉ 75 = a 75) (e2 : a₉ 76 = a 76) (e3 : a₉ 77 = a 77) (f1 : b₉ 75 = b 75) (f2 : b₉ 76 = b 76) (f3 : b₉ 77 = b 77) : zJJ a₉ b₉ := by
  refine ⟨o, ?_⟩
  rw [e1, e2, e3, f1, f2, f3]
  exact h.2
theorem PP_g (h : zPP a b) (o : zOf a₉ b₉) (e1 : a₉ 75 = a 75) (e2 : a₉ 76 = a 76) (e3 : a₉ 77 = a 77) (e4 : a₉ 126 = a 126) (e5 : a₉ 130 = a 130) (f1 : b₉ 75 = b 75) (f2 : b₉ 76 = b 76) (f3 : b₉ 77 = b 77) (f4 : b₉ 126 = b 126) (f5 : b₉ 130 = b 130) (g1 : zEd a₉ = zEd a) (g2 : zEd b₉ = zEd b) : zPP a₉ b₉ := by
  refine ⟨o, WQ_cg h.2.1 e1.symm e2.symm e3.symm e4.symm e5.symm, WQ_cg h.2.2.1 f1.symm f2.symm f3.symm f4.symm f5.symm, ?_, fun x => ?_, ?_⟩
  · rw [e1, f1]
    exact h.2.2.2.1
  · rw [(Mk_cg e3 g1).1, (Mk_cg f3 g2).1]
    exact h.2.2.2.2.1 x
  · unfold cD
    rw [e3, f3]
    exact h.2.2.2.2.2
theorem NA_g (h : zNA b) (f3 : b₉ 77 = b 77) (f4 : b₉ 126 = b 126) : zNA b₉ := by
  intro x hx
  unfold zNn at hx
  unfold xAl
  rw [f3] at hx
  rw [f4]
  exact h x hx
theorem Sm_g (h : qSm a b) (o : zOf a₉ b₉) (e1 : a₉ 75 = a 75) (e2 : a₉ 76 = a 76) (e3 : a₉ 77 = a 77) (e4 : a₉ 126 = a 126) (e5 : a₉ 130 = a 130) (f1 : b₉ 75 = b 75) (f2 : b₉ 76 = b 76) (f3 : b₉ 77 = b 77) (f4 : b₉ 126 = b 126) (f5 : b₉ 130 = b 130) (g1 : zEd a₉ = zEd a) (g2 : zEd b₉ = zEd b) (f8 : b₉ 87 = b 87) : qSm a₉ b₉ := by
  refine ⟨o, fun m => ?_⟩
  rw [f8] at m ⊢
  have w := h.2 m
  exact ⟨PP_g w.1 o e1 e2 e3 e4 e5 f1 f2 f3 f4 f5 g1 g2, NA_g w.2.1 f3 f4, fun w7 => JJ_g (w.2.2 w7) o e1 e2 e3 f1 f2 f3⟩
theorem Sm_u (h : qSm a b) (hn : n = 72 ∨ n = 73 ∨ n = 74 ∨ n = 133 ∨ n = 134 ∨ n = 69) : qSm (ma_u a n k x) (ma_u b n k x) := Sm_g h (of_u h.1) (un (by omega)) (un (by omega)) (un (by omega)) (un (by omega)) (un (by omega)) (un (by omega)) (un (by omega)) (un (by omega)) (un (by omega)) (un (by omega)) (Ed_u (by omega)) (Ed_u (by omega)) (un (by omega))
/-- one comes -/
theorem NA_gr {T : Nat → Prop} (h : zNA a) (g : zGr a b T) : zNA b := fun x hx => (Of_al g.2.1).mpr (((g.2.2.2.1 x).mp hx).elim (fun w => h x w) (fun w => w.1))
theorem of_cm (h : zOf a b) : zOf (aCm a y) (aCm b y) := Of_tr (Of_sy cm_of) (Of_tr h cm_of)
theorem Sm_cm (h : qSm a b) : qSm (aCm a y) (aCm b y) := by
  refine ⟨of_cm h.1, fun m => ?_⟩
  rw [aCm_o ⟨by decide, by decide, by decide⟩] at m ⊢
  have w := h.2 m
  exact ⟨PP_cm w.1, NA_gr w.2.1 (gr_cm w.1.2.2.1), fun w7 => JJ_cm (w.2.2 w7)⟩
theorem Nm_of (h : zOf a b) : aNm a y = aNm b y := by
  unfold aNm
  rw [h 126 _ (by decide) (by decide) (by decide)]
theorem Sm_nc (h : qSm a b) : qSm (aNc a y z) (aNc b y z) := by
  unfold aNc
  rw [h.1 87 8 (by decide) (by decide) (by decide), h.1 87 7 (by decide) (by decide) (by decide), Nm_of h.1, Nm_of (y := z) h.1]
  split
  · exact Sm_cm h
  · exact h
theorem Sm_rt (h : qSm a b) : qSm (aRt a i y) (aRt b i y) := by
  unfold aRt
  rw [Nm_of h.1, h.1 72 _ (by decide) (by decide) (by decide)]
  exact Sm_nc (Sm_u h (by decide))
/-- the first of WISHES is taken -/
theorem Tw_of (h : zOf a b) : zOf (aTw a) (aTw b) ∧ aTy a = aTy b := by
  have e5 := h 69 5 (by decide) (by decide) (by decide)
  refine ⟨?_, ?_⟩
  · unfold aTw
    rw [e5]
    split
    · have o := of_u (n := 69) (k := 5) (x := b 69 5 - 1) h
      intro c₉ k₉ q1 q2 q3
      unfold zSh
      rw [o 74 _ (by decide) (by decide) (by decide), o c₉ k₉ q1 q2 q3]
    · exact h
  · unfold aTy
    rw [e5, h 74 0 (by decide) (by decide) (by decide)]
theorem Tw_e (hn : n ≠ 69) (h4 : n ≠ 74) : aTw a n = a n := by
  unfold aTw
  split
  · funext j
    unfold zSh
    rw [if_neg (fun w => h4 w.1), xu_o (fun w => hn w.1)]
  · rfl
theorem Ed_te : zEd (aTw a) = zEd a := Ed_cg (Tw_e (by decide) (by decide)) (Tw_e (by decide) (by decide)) (fun j i => rf_cg (Tw_e (by omega) (by omega)) (Tw_e (by decide) (by decide)) (Tw_e (by decide) (by decide)))
theorem Sm_tw (h : qSm a b) : qSm (aTw a) (aTw b) := Sm_g h (Tw_of h.1).1 (Tw_e (by decide) (by decide)) (Tw_e (by decide) (by decide)) (Tw_e (by decide) (by decide)) (Tw_e (by decide) (by decide)) (Tw_e (by decide) (by decide)) (Tw_e (by decide) (by decide)) (Tw_e (by decide) (by decide)) (Tw_e (by decide) (by decide)) (Tw_e (by decide) (by decide)) (Tw_e (by decide) (by decide)) Ed_te Ed_te (Tw_e (by decide) (by decide))
/-- two come, in either order -/
theorem PP_tr (h : zPP a b) (h2 : zPP b c) : zPP a c := ⟨Of_tr h.1 h2.1, h.2.1, h2.2.2.1, h.2.2.2.1.trans h2.2.2.2.1, fun x => (h.2.2.2.2.1 x).trans (h2.2.2.2.2.1 x), h.2.2.2.2.2.trans h2.2.2.2.2.2⟩
theorem PP_sw (h : zWQ a) : zPP (aCm (aCm a x) y) (aCm (aCm a y) x) := by
  have g := gr_tr (gr_cm (y := x) h) (gr_cm (y := y) (WQ_cm h))
  have g2 := gr_tr (gr_cm (y := y) h) (gr_cm (y := x) (WQ_cm h))
  have o := Of_tr (Of_sy g.2.1) g2.2.1
  have nn : ∀ u, zNn (aCm (aCm a x) y) u ↔ zNn (aCm (aCm a y) x) u := fun u => by
    rw [g.2.2.2.1 u, g2.2.2.2.1 u]
    exact ⟨fun w => w.imp id (fun w2 => ⟨w2.1, w2.2.symm⟩), fun w => w.imp id (fun w2 => ⟨w2.1, w2.2.symm⟩)⟩
  have dn : ∀ u, zDn (aCm (aCm a x) y) u ↔ zDn (aCm (aCm a y) x) u := fun u => by rw [g.2.2.1 u, g2.2.2.1 u]
  exact ⟨o, g.1, g2.1, by rw [g.2.2.2.2, g2.2.2.2.2], fun u => zM_cg nn dn (fun u y => (Of_ed o).symm), cD_cg dn⟩
theorem cm_u (hn : n ≠ 75 ∧ n ≠ 76 ∧ n ≠ 77 ∧ n ≠ 126 ∧ n ≠ 130) : aCm (ma_u a n k z) y = ma_u (aCm a y) n k z := by
  have e75 : ma_u a n k z 75 = a 75 := un (by omega)
  have e77 : ma_u a n k z 77 = a 77 := un (by omega)
  have e126 : ma_u a n k z 126 = a 126 := un (by omega)
  have e130 : ma_u a n k z 130 = a 130 := un (by omega)
  have cc : aCc (ma_u a n k z) y ↔ aCc a y := by
    unfold aCc
    rw [e75, e77, e126, e130]
  by_cases h : aCc a y
  · rw [aCm_y h, aCm_y (cc.mpr h), e75]
    funext c₉ k₉
    by_cases w : c₉ = n ∧ k₉ = k
    · rw [w.1, w.2, xu_s, xu_o (by omega), xu_o (by omega), xu_o (by omega), xu_s]
    · rw [xu_o (c₉ := n) w]
      by_cases w1 : c₉ = 75 ∧ k₉ = 4
      · rw [w1.1, w1.2, xu_s, xu_s]
      · rw [xu_o w1, xu_o w1]
        by_cases w2 : c₉ = 76 ∧ k₉ = (a 75 4).toNatClampNeg
        · rw [w2.1, w2.2, xu_s, xu_s]
        · rw [xu_o w2, xu_o w2]
          by_cases w3 : c₉ = 77 ∧ k₉ = y.toNatClampNeg
          · rw [w3.1, w3.2, xu_s, xu_s]
          · rw [xu_o w3, xu_o w3, xu_o w]
  · rw [aCm_n h, aCm_n (fun w => h (cc.mp w))]
theorem Sm_sg (h : qSm a b) (hx : aNm b x ≠ -1) : qSm (aSt (aRt a i x) x) (aRt (aSt b x) i x) := by
  have e8 := h.1 87 8 (by decide) (by decide) (by decide)
  have nx : aNm b x = x := by
    unfold aNm at hx ⊢
    split
    · rfl
    · rename_i w
      rw [if_neg w] at hx
      exact absurd rfl hx
  by_cases m : b 87 8 = 0
  · have ea : ∀ d : Nat → Nat → Int32, d 87 8 = 0 → aSt d x = d := fun d hd => by
      unfold aSt
      rw [if_neg (fun w => w hd)]
    have er : aRt a i x 87 8 = 0 := by
      unfold aRt
      rw [← NC_of 87 8 (by decide) (by decide) (by decide), xu_o (by omega), e8]
      exact m
    rw [ea b m, ea _ er]
    exact Sm_rt h
  · have st : ∀ d : Nat → Nat → Int32, d 87 8 ≠ 0 → aSt d x = aCm d x := fun d hd => by
      unfold aSt
      rw [if_pos hd]
    have er : aRt a i x 87 8 ≠ 0 := by
      unfold aRt
      rw [← NC_of 87 8 (by decide) (by decide) (by decide), xu_o (by omega), e8]
      exact m
    rw [st _ er, st b m]
    unfold aRt
    have n1 : aNm (aCm b x) x = x := by
      rw [← Nm_of (a := b) cm_of]
      exact nx
    rw [Nm_of h.1, nx, n1, h.1 72 _ (by decide) (by decide) (by decide), aCm_o (c := 72) ⟨by decide, by decide, by decide⟩, ← cm_u (by decide)]
    have h1 : qSm (ma_u a 72 i.toNatClampNeg x) (ma_u b 72 i.toNatClampNeg x) := Sm_u h (by decide)
    have m1 : ma_u b 72 i.toNatClampNeg x 87 8 ≠ 0 := by
      rw [xu_o (by omega)]
      exact m
    generalize hA : ma_u a 72 i.toNatClampNeg x = A at *
    generalize hB : ma_u b 72 i.toNatClampNeg x = B at *
    generalize b 72 i.toNatClampNeg = w at *
    have mA : A 87 8 ≠ 0 := by
      rw [h1.1 87 8 (by decide) (by decide) (by decide)]
      exact m1
    have mB : aCm B x 87 8 ≠ 0 := by
      rw [aCm_o ⟨by decide, by decide, by decide⟩]
      exact m1
    have nB : ∀ y, aNm (aCm B x) y = aNm B y := fun y => (Nm_of cm_of).symm
    by_cases s : aNm B w = aNm B x
    · rw [aNc_n (fun q => q.2 (by rw [Nm_of h1.1, Nm_of (y := x) h1.1]; exact s)), aNc_n (fun q => q.2 (by rw [nB, nB]; exact s))]
      exact Sm_cm h1
    · rw [aNc_y mA (by rw [Nm_of h1.1, Nm_of (y := x) h1.1]; exact s), aNc_y mB (by rw [nB, nB]; exact s), aCm_o (c := 87) ⟨by decide, by decide, by decide⟩, h1.1 87 7 (by decide) (by decide) (by decide)]
      by_cases s7 : B 87 7 = 0
      · rw [if_pos s7]
        have hs : qSm (aCm (aCm A x) w) (aCm (aCm B x) w) := Sm_cm (Sm_cm h1)
        have pa : zPP (aCm (aCm A w) x) (aCm (aCm A x) w) := PP_sw (h1.2 m1).1.2.1
        refine ⟨Of_tr pa.1 hs.1, fun m2 => ?_⟩
        have q := hs.2 m2
        refine ⟨PP_tr pa q.1, q.2.1, fun q7 => ?_⟩
        rw [aCm_o (c := 87) ⟨by decide, by decide, by decide⟩, aCm_o (c := 87) ⟨by decide, by decide, by decide⟩, s7] at q7
        exact absurd q7 (by decide)
      · rw [if_neg s7]
        exact Sm_cm (Sm_cm h1)
end SM

/-! from 95.j01 -/
/-! THE END OF A MARKING, STEPS, CLEANING, ROOM: alike in both -/
section SM1
variable {a b c a₉ b₉ : Nat → Nat → Int32} {x y z i : Int32} {n k u v : Nat} {p q : Int}
theorem Uw_of (h : zOf a b) : zOf (zUw a y p) (zUw b y p) := fun c₉ k₉ q1 q2 q3 => by
  unfold zUw
  rw [h 73 k₉ (by decide) (by decide) (by decide), h c₉ k₉ q1 q2 q3]
theorem gr_of (h : zOf a b) : zOf (aGr a y) (aGr b y) := by
  unfold aGr
  rw [h 69 5 (by decide) (by decide) (by decide)]
  split
  · exact of_u (of_u (of_u (Uw_of h)))
  · exact of_u (Uw_of h)
theorem rm_of (h : zOf a b) : zOf (aRm a y) (aRm b y) := by
  have f : ∀ p e : Int, zOf (zFr (zUw a y 16) p e) (zFr (zUw b y 16) p e) := fun p e c₉ k₉ q1 q2 q3 => by
    unfold zFr
    rw [Uw_of h c₉ k₉ q1 q2 q3]
  have g : ∀ (p e : Int) (m : Nat), zOf (zNo (zFr (zUw a y 16) p e) m) (zNo (zFr (zUw b y 16) p e) m) := fun p e m c₉ k₉ q1 q2 q3 => by
    unfold zNo
    rw [f p e c₉ k₉ q1 q2 q3]
  unfold aRm
  rw [h 130 _ (by decide) (by decide) (by decide), h 128 _ (by decide) (by decide) (by decide), h 69 8 (by decide) (by decide) (by decide), h 69 11 (by decide) (by decide) (by decide)]
  exact of_u (of_u (g _ _ _))
theorem rm_f (hf : 126 ≤ n) (h1 : n < 1000) : aRm a y n k = if k = y.toNatClampNeg then 0 else a n k := by
  show (if n = 69 ∧ k = 11 then _ else if n = 69 ∧ k = 8 then _ else zNo _ _ n k) = _
  rw [if_neg (by omega), if_neg (by omega)]
  unfold zNo
  by_cases w : k = y.toNatClampNeg
  · rw [if_pos (Or.inl ⟨hf, h1, w⟩), if_pos w]
  · rw [if_neg (by omega), if_neg w, zFr_o (by omega), zUw_o (by omega)]
theorem rm_fp (h : xFp a) : xFp (aRm a y) := by
  refine ⟨?_, fun x hx => ?_⟩
  · rw [aRm_o (by decide) ⟨by decide, by decide, by decide, by decide⟩]
    exact h.1
  · unfold xAl at hx
    rw [rm_f (by decide) (by decide)] at hx ⊢
    by_cases w : x = y.toNatClampNeg
    · rw [if_pos w]
      decide
    · rw [if_neg w] at hx ⊢
      exact h.2 x hx
def zPM (a b : Nat → Nat → Int32) : Prop := zOf a b ∧ (∀ x, zNn a x ↔ zNn b x) ∧ xFp a ∧ xFp b
theorem PM_0 (h : ∀ x, zNn a x ↔ zNn b x) (hx : u < 512) (w : a 77 u = 0) : b 77 u = 0 := Decidable.byContradiction (fun q => ((h u).mpr ⟨hx, q⟩).2 w)
theorem MC_1 (h : zPM a b) (w : aMc a x) : aMc b x := by
  obtain ⟨w1, w2, w3, w4, w5⟩ := w
  have cx := tn_cast w1
  have e := h.1 126 x.toNatClampNeg (by decide) (by decide) (by decide)
  rw [e] at w3
  have f := h.2.2.2
  have p := f.2 x.toNatClampNeg ⟨by omega, w3⟩
  have p0 := f.1
  exact ⟨w1, w2, w3, by omega, PM_0 h.2.1 (by omega) w5⟩
theorem PM_sy (h : zPM a b) : zPM b a := ⟨Of_sy h.1, fun x => (h.2.1 x).symm, h.2.2.2, h.2.2.1⟩
theorem aMf_y (z : aMc a x) : aMf (n + 1) x a = aMf n (x + 1) (aRm a x) := by
  show aMf n (x + 1) (if _ then aRm a x else a) = _
  unfold aMc at z
  rw [if_pos z]
theorem aMf_n (z : ¬ aMc a x) : aMf (n + 1) x a = aMf n (x + 1) a := by
  show aMf n (x + 1) (if _ then aRm a x else a) = _
  unfold aMc at z
  rw [if_neg z]
theorem Mf_of : ∀ (f : Nat) (x : Int32) (a b : Nat → Nat → Int32), zPM a b → zOf (aMf f x a) (aMf f x b) := by
  intro f
  induction f with
  | zero => intro x a b h; exact h.1
  | succ f ih =>
    intro x a b h
    by_cases w : aMc a x
    · rw [aMf_y w, aMf_y (MC_1 h w)]
      refine ih _ _ _ ⟨rm_of h.1, fun u => ?_, rm_fp h.2.2.1, rm_fp h.2.2.2⟩
      have e : ∀ d : Nat → Nat → Int32, zNn (aRm d x) u ↔ zNn d u := fun d => by
        unfold zNn
        rw [aRm_o (by decide) ⟨by decide, by decide, by omega, by omega⟩]
      rw [e, e]
      exact h.2.1 u
    · rw [aMf_n w, aMf_n (fun w2 => w (MC_1 (PM_sy h) w2))]
      exact ih _ _ _ h
/-- the grants -/
def zPQ (a b : Nat → Nat → Int32) : Prop := zOf a b ∧ qE0 a ∧ qE0 b ∧ ∀ x, zNn a x ↔ zNn b x
theorem PQ_sy (h : zPQ a b) : zPQ b a := ⟨Of_sy h.1, h.2.2.1, h.2.1, fun x => (h.2.2.2 x).symm⟩
theorem GC_1 (h : zPQ a b) (w : aGc a x) : aGc b x := by
  obtain ⟨w1, w2, w3, w4, w5, w6⟩ := w
  have m := MC_1 (x := x) ⟨h.1, h.2.2.2, h.2.1.1.2.2.2.2.2, h.2.2.1.1.2.2.2.2.2⟩ ⟨w1, w2, w3, w5, w6⟩
  rw [h.1 134 _ (by decide) (by decide) (by decide)] at w4
  exact ⟨w1, w2, m.2.2.1, w4, m.2.2.2.1, m.2.2.2.2⟩
theorem aGf_y (z : aGc a x) : aGf (n + 1) x a = aGf n (x + 1) (aSp 512 (aCm (aGr a x) x)) := by
  show aGf n (x + 1) (if _ then aSp 512 (aCm (aGr a x) x) else a) = _
  unfold aGc at z
  rw [if_pos z]
theorem aGf_n (z : ¬ aGc a x) : aGf (n + 1) x a = aGf n (x + 1) a := by
  show aGf n (x + 1) (if _ then aSp 512 (aCm (aGr a x) x) else a) = _
  unfold aGc at z
  rw [if_neg z]
theorem PQ_gr (h : zPQ a b) : zPQ (aSp 512 (aCm (aGr a y) y)) (aSp 512 (aCm (aGr b y) y)) := by
  have ea := E0_gr (y := y) h.2.1
  have eb := E0_gr (y := y) h.2.2.1
  have o := gr_of (y := y) h.1
  have nn : ∀ u, zNn (aGr a y) u ↔ zNn (aGr b y) u := fun u => by
    rw [Nn_gr, Nn_gr]
    exact h.2.2.2 u
  have mk : ∀ u, zMk (aGr a y) u ↔ zMk (aGr b y) u := fun u => by
    rw [Nn_end ea.1 ea.2, Nn_end eb.1 eb.2]
    exact nn u
  generalize aGr a y = A at *
  generalize aGr b y = B at *
  have sa := E0_sp (WQ_cm (y := y) ea.1)
  have sb := E0_sp (WQ_cm (y := y) eb.1)
  refine ⟨Of_tr (Of_sy sa.2) (Of_tr (of_cm o) sb.2), sa.1, sb.1, fun x => ?_⟩
  rw [sp_Nn (WQ_cm ea.1), sp_Nn (WQ_cm eb.1), Mk_cm ea.1, Mk_cm eb.1]
  refine zM_cg (fun u => ?_) mk (fun u v => (Of_ed o).symm)
  rw [mk u, Of_al o]
theorem Gf_of : ∀ (f : Nat) (x : Int32) (a b : Nat → Nat → Int32), zPQ a b → zPQ (aGf f x a) (aGf f x b) := by
  intro f
  induction f with
  | zero => intro x a b h; exact h
  | succ f ih =>
    intro x a b h
    by_cases w : aGc a x
    · rw [aGf_y w, aGf_y (GC_1 h w)]
      exact ih _ _ _ (PQ_gr h)
    · rw [aGf_n w, aGf_n (fun w2 => w (GC_1 (PQ_sy h) w2))]
      exact ih _ _ _ h
theorem Fi_of (h : zPP a b) (he : ¬ (a 75 3).toInt < (a 75 4).toInt) : zOf (aFi a) (aFi b) := by
  have hb : ¬ (b 75 3).toInt < (b 75 4).toInt := fun w => he ((PP_em h).mpr w)
  have nn : ∀ u, zNn (ma_u a 87 8 0) u ↔ zNn (ma_u b 87 8 0) u := fun u => by
    have e : ∀ d : Nat → Nat → Int32, zNn (ma_u d 87 8 0) u ↔ zNn d u := fun d => by
      unfold zNn
      rw [un (n := 77) (by decide)]
    rw [e, e, ← Nn_end h.2.1 he, ← Nn_end h.2.2.1 hb]
    exact h.2.2.2.2.1 u
  have q : zPQ (ma_u a 87 8 0) (ma_u b 87 8 0) := ⟨of_u h.1, E0_87 ⟨h.2.1, he⟩, E0_87 ⟨h.2.2.1, hb⟩, nn⟩
  have g : zPQ (aGw (ma_u a 87 8 0) 0) (aGw (ma_u b 87 8 0) 0) := by
    unfold aGw
    rw [q.1 69 6 (by decide) (by decide) (by decide)]
    exact Gf_of _ _ _ _ q
  unfold aFi
  generalize aGw (ma_u a 87 8 0) 0 = A at *
  generalize aGw (ma_u b 87 8 0) 0 = B at *
  unfold aMv
  rw [g.1 69 6 (by decide) (by decide) (by decide)]
  exact Mf_of _ _ _ _ ⟨g.1, g.2.2.2, g.2.1.1.2.2.2.2.2, g.2.2.1.1.2.2.2.2.2⟩
theorem I_gr2 (h : qI a) : qI (aGr a y) := by
  by_cases w : (a 69 5).toInt < 512
  · exact I_gr h w
  · have e : aGr a y 69 = a 69 := by
      funext j
      unfold aGr
      rw [if_neg w, xu_o (by omega), zUw_o (by decide)]
    exact I_cg h (gr_r (by decide) (by decide) (by decide) (by decide)) (gr_r (by decide) (by decide) (by decide) (by decide)) (gr_r (by decide) (by decide) (by decide) (by decide)) (gr_r (by decide) (by decide) (by decide) (by decide)) e (gr_r (by decide) (by decide) (by decide) (by decide)) (fun j => gr_r (by omega) (by omega) (by omega) (by omega))
theorem I_gf : ∀ (f : Nat) (x : Int32) (a : Nat → Nat → Int32), qI a → qE0 a → qI (aGf f x a) ∧ qE0 (aGf f x a) := by
  intro f
  induction f with
  | zero => intro x a h h2; exact ⟨h, h2⟩
  | succ f ih =>
    intro x a h h2
    by_cases w : aGc a x
    · rw [aGf_y w]
      have s := E0_sp (WQ_cm (y := x) (E0_gr (y := x) h2).1)
      exact ih _ _ (qI_of (qI_of (I_gr2 h) cm_of) s.2) s.1
    · rw [aGf_n w]
      exact ih _ _ h h2
theorem I_fi (hI : qI a) (hE : qE0 a) : qI (aFi a) := by
  have q := I_gf ((ma_u a 87 8 0 69 6).toInt - (0 : Int32).toInt).toNat 0 _ (I_87 (x := 0) hI) (E0_87 (x := 0) hE)
  exact I_mv q.1 q.2.1.2.2.2.2.2.1
/-- steps -/
theorem Tl_of (h : zWQ a) : xTl a := by
  have q := h.1.2.2
  have c : cnt (a 77) 512 ≤ 512 := cnt_le
  unfold xTl
  omega
theorem Sm_sp (h : qSm a b) (m : b 87 8 ≠ 0) : qSm (aSp n a) (aSp n b) ∧ aSn n a = aSn n b := by
  have w := h.2 m
  have s := PP_sp n a b w.1
  have sb := sp_all n b w.1.2.2.1
  refine ⟨⟨s.1.1, fun _ => ⟨s.1, fun x hx => (Of_al sb.2.1).mpr (Mk_al w.2.1 ((sb.2.2.1 x).mp (zM_in hx))), fun w7 => ?_⟩⟩, s.2⟩
  rw [Sp_87] at w7
  exact JJ_sp n a b (w.2.2 w7) (Tl_of w.1.2.1)
theorem Sm_nw (h : qSm a b) (m : b 87 8 ≠ 0) (hI : qI b) : qSm (aNw a) (aNw b) := by
  unfold aNw
  rw [h.1 87 7 (by decide) (by decide) (by decide)]
  split
  · rename_i w7
    have w := h.2 m
    have r := JJ_rf (16 - (0 : Int32).toInt).toNat 0 a b (w.2.2 w7) (Tl_of w.1.2.1)
    have g := gr_ro w.1.2.2.1 hI.2.2.2.1.1.2 hI.2.2.2.1.2.1.2
    exact Sm_J r.1 g.1 (NA_gr w.2.1 g)
  · exact h
theorem Sm_fi (h : qSm a b) (m : b 87 8 ≠ 0) (he : ¬ (b 75 3).toInt < (b 75 4).toInt) : qSm (aFi a) (aFi b) := Sm_0 (Fi_of (h.2 m).1 (fun w => he ((PP_em (h.2 m).1).mp w))) Fi_87
theorem Sm_lk (h : qSm a b) (m : b 87 8 ≠ 0) (hI : qI b) : qSm (aLk a) (aLk b) := by
  have p := (h.2 m).1
  unfold aLk
  by_cases e : (b 75 3).toInt < (b 75 4).toInt
  · rw [if_pos e, if_pos ((PP_em p).mpr e)]
    exact h
  · rw [if_neg e, if_neg (fun w => e ((PP_em p).mp w))]
    have h2 := Sm_nw h m hI
    have m2 : aNw b 87 8 ≠ 0 := by
      rw [Nw_87]
      exact m
    have p2 := (h2.2 m2).1
    by_cases e2 : (aNw b 75 3).toInt < (aNw b 75 4).toInt
    · rw [if_pos e2, if_pos ((PP_em p2).mpr e2)]
      exact h2
    · rw [if_neg e2, if_neg (fun w => e2 ((PP_em p2).mp w))]
      exact Sm_fi h2 m2 e2
/-- what the reference's heap keeps -/
def qK (b : Nat → Nat → Int32) : Prop := qI b ∧ (b 87 8 ≠ 0 → zWQ b)
theorem K_lk (hI : qI b) (hw : zWQ b) : qK (aLk b) := by
  unfold aLk
  by_cases e : (b 75 3).toInt < (b 75 4).toInt
  · rw [if_pos e]
    exact ⟨hI, fun _ => hw⟩
  · rw [if_neg e]
    have w := nw_wq hw hI.2.2.2.1.1.2 hI.2.2.2.1.2.1.2
    have I2 := qI_of hI w.2.1
    by_cases e2 : (aNw b 75 3).toInt < (aNw b 75 4).toInt
    · rw [if_pos e2]
      exact ⟨I2, fun _ => w.1⟩
    · rw [if_neg e2]
      exact ⟨I_fi I2 ⟨w.1, e2⟩, fun m => absurd Fi_87 m⟩
theorem Sm_go (h : qSm a b) (hK : qK b) : qSm (aGo a n) (aGo b n) ∧ aGv a n = aGv b n ∧ qK (aGo b n) := by
  unfold aGo aGv
  rw [h.1 87 8 (by decide) (by decide) (by decide)]
  by_cases m : b 87 8 = 0
  · rw [if_pos m, if_pos m, if_pos m, if_pos m]
    exact ⟨h, rfl, hK⟩
  · rw [if_neg m, if_neg m, if_neg m, if_neg m]
    have s := Sm_sp (n := n) h m
    have sb := sp_all n b (hK.2 m)
    have I2 := qI_of hK.1 sb.2.1
    refine ⟨Sm_lk s.1 (by rw [Sp_87]; exact m) I2, by rw [s.2], K_lk I2 sb.1⟩
/-- it begins -/
theorem K_b0 (hI : qI b) : qI (aB0 b) ∧ zWQ (aB0 b) ∧ zNA (aB0 b) := by
  have hI2 := I_87 (x := 1) hI
  have w := WQ_wh (a := ma_u b 87 8 1) (fun x hx => (hI2.1 x hx).1.2)
  have o := w.2.1
  have g := gr_ro w.1 (by rw [← o 69 6 (by decide) (by decide) (by decide)]; exact hI2.2.2.2.1.1.2) (by rw [← o 69 5 (by decide) (by decide) (by decide)]; exact hI2.2.2.2.1.2.1.2)
  exact ⟨qI_of (qI_of hI2 o) g.2.1, g.1, NA_gr (fun x hx => absurd hx (w.2.2 x)) g⟩
theorem Sm_b0 (h : zOf a b) (hI : qI b) : qSm (aB0 a) (aB0 b) := by
  have k := K_b0 hI
  have w := JJ_wh (of_u (n := 87) (k := 8) (x := 1) h)
  have r := JJ_rf (16 - (0 : Int32).toInt).toNat 0 _ _ w.1 w.2
  exact Sm_J r.1 k.2.1 k.2.2
theorem Sm_bg (h : qSm a b) (hK : qK b) : qSm (aBg a) (aBg b) ∧ qI (aBg b) ∧ zWQ (aBg b) ∧ aBg b 87 8 ≠ 0 := by
  unfold aBg
  rw [h.1 87 8 (by decide) (by decide) (by decide)]
  by_cases m : b 87 8 = 0
  · rw [if_pos m, if_pos m]
    have k := K_b0 hK.1
    exact ⟨Sm_b0 h.1 hK.1, k.1, k.2.1, by rw [B0_87]; decide⟩
  · rw [if_neg m, if_neg m]
    exact ⟨h, hK.1, hK.2 m, m⟩
/-- to the end -/
theorem K_c2 : ∀ (k : Nat) (a : Nat → Nat → Int32), qE0 a → qI a → (512 - (a 75 3).toInt).toNat ≤ k → qI (aC2 k a) ∧ qE0 (aC2 k a) := by
  intro k
  induction k with
  | zero => intro a h h2 _; exact ⟨h2, h⟩
  | succ k ih =>
    intro a hE hI hk
    have w := nw_wq hE.1 hI.2.2.2.1.1.2 hI.2.2.2.1.2.1.2
    by_cases hn : (aNw a 75 3).toInt < (aNw a 75 4).toInt
    · rw [aC2_y hn]
      have e := E0_sp w.1
      have hd := (sp_hd 512 _ w.1).2 hn (by decide)
      rw [w.2.2] at hd
      exact ih _ e.1 (qI_of (qI_of hI w.2.1) e.2) (by omega)
    · rw [aC2_n hn]
      exact ⟨qI_of hI w.2.1, w.1, hn⟩
theorem Sm_c2 : ∀ (k : Nat) (a b : Nat → Nat → Int32), qSm a b → b 87 8 ≠ 0 → qI b → qSm (aC2 k a) (aC2 k b) ∧ aC2 k b 87 8 ≠ 0 := by
  intro k
  induction k with
  | zero => intro a b h m _; exact ⟨h, m⟩
  | succ k ih =>
    intro a b h m hI
    have h2 := Sm_nw h m hI
    have m2 : aNw b 87 8 ≠ 0 := by
      rw [Nw_87]
      exact m
    have p2 := (h2.2 m2).1
    have w := nw_wq (h.2 m).1.2.2.1 hI.2.2.2.1.1.2 hI.2.2.2.1.2.1.2
    by_cases e2 : (aNw b 75 3).toInt < (aNw b 75 4).toInt
    · rw [aC2_y e2, aC2_y ((PP_em p2).mpr e2)]
      exact ih _ _ (Sm_sp h2 m2).1 (by rw [Sp_87]; exact m2) (qI_of (qI_of hI w.2.1) (sp_all 512 _ w.1).2.1)
    · rw [aC2_n e2, aC2_n (fun q => e2 ((PP_em p2).mp q))]
      exact ⟨h2, m2⟩
theorem Sm_cl (h : qSm a b) (hK : qK b) : qSm (aCl a) (aCl b) ∧ qK (aCl b) := by
  have g := Sm_bg h hK
  have s := (Sm_sp (n := 512) g.1 g.2.2.2).1
  have e := E0_sp g.2.2.1
  have I2 := qI_of g.2.1 e.2
  have m2 : aSp 512 (aBg b) 87 8 ≠ 0 := by
    rw [Sp_87]
    exact g.2.2.2
  have k2 := K_c2 512 _ e.1 I2 (by have := e.1.1.1.1; omega)
  have c2 := Sm_c2 512 _ _ s m2 I2
  exact ⟨Sm_fi c2.1 c2.2 k2.2.2, I_fi k2.1 k2.2, fun m => absurd Cl_8 m⟩
/-- free blocks -/
theorem Ob_of (h : zOf a b) : zOb a = zOb b := by
  funext p
  unfold zOb
  rw [h 71 _ (by decide) (by decide) (by decide), h 126 _ (by decide) (by decide) (by decide)]
theorem N_of (h : zOf a b) : aN a = aN b := by
  have e0 := h 87 0 (by decide) (by decide) (by decide)
  have f : ∀ (f : Nat) (p : Int), aNf a f p = aNf b f p := by
    intro f
    induction f with
    | zero =>
      intro p
      unfold aNf
      rw [e0]
    | succ f ih =>
      intro p
      unfold aNf
      rw [e0, Ob_of h, h 128 _ (by decide) (by decide) (by decide), ih]
  funext p
  unfold aN
  rw [e0, f]
theorem E_of (h : zOf a b) : aE a = aE b := by
  have e0 := h 87 0 (by decide) (by decide) (by decide)
  have f : ∀ (f : Nat) (p : Int), aEf a f p = aEf b f p := by
    intro f
    induction f with
    | zero =>
      intro p
      rfl
    | succ f ih =>
      intro p
      unfold aEf
      rw [e0, Ob_of h, ih]
  funext p
  unfold aE
  rw [e0, f]
theorem Ff_of (h : zOf a b) : ∀ (f : Nat) (q p z : Int), aFf a z q f p = aFf b z q f p := by
  intro f
  induction f with
  | zero =>
    intro q p z
    rfl
  | succ f ih =>
    intro q p z
    unfold aFf
    rw [E_of h, N_of h, ih]
theorem Fl_of (h : zOf a b) : ∀ (f : Nat) (p q l z : Int) (s : Int32), aFl a z s f p q l = aFl b z s f p q l := by
  intro f
  induction f with
  | zero =>
    intro p q l z s
    rfl
  | succ f ih =>
    intro p q l z s
    unfold aFl
    rw [h 87 0 (by decide) (by decide) (by decide), E_of h, N_of h, ih, ih]
theorem Ft_of (h : zOf a b) : aFt a p = aFt b p := by
  unfold aFt aFx
  rw [h 87 0 (by decide) (by decide) (by decide), h 87 1 (by decide) (by decide) (by decide), h 87 2 (by decide) (by decide) (by decide), N_of h, Ff_of h, Ff_of h, Ff_of h, Fl_of h, Fl_of h]
/-- room -/
theorem Sm_f1 (h : qSm a b) (hK : qK b) : qSm (aF1 a) (aF1 b) ∧ qK (aF1 b) := by
  have e : qSm (aF0 a) (aF0 b) ∧ qK (aF0 b) := by
    unfold aF0
    rw [h.1 87 8 (by decide) (by decide) (by decide), h.1 87 0 (by decide) (by decide) (by decide), h.1 69 8 (by decide) (by decide) (by decide)]
    split
    · have k := K_b0 hK.1
      exact ⟨Sm_b0 h.1 hK.1, k.1, fun _ => k.2.1⟩
    · exact ⟨h, hK⟩
  unfold aF1
  rw [h.1 87 6 (by decide) (by decide) (by decide)]
  have g := Sm_go (n := (b 87 6).toInt.toNat) e.1 e.2
  exact ⟨g.1, g.2.2⟩
theorem Sm_rs (h : qSm a b) (hK : qK b) : qSm (aRs a p) (aRs b p) ∧ qK (aRs b p) ∧ aRp a p = aRp b p := by
  have f := Sm_f1 h hK
  have g := Sm_cl f.1 f.2
  have g2 := Sm_cl g.1 g.2
  have w : qSm (aRs a p) (aRs b p) ∧ qK (aRs b p) := by
    unfold aRs
    rw [Ft_of f.1.1, Ft_of g.1.1, f.1.1 87 8 (by decide) (by decide) (by decide)]
    split
    · split
      · exact g2
      · exact g
    · exact f
  refine ⟨w.1, w.2, ?_⟩
  unfold aRp
  exact Ft_of w.1.1
end SM1

/-! from 95.j02 -/
/-! A NEW ONE: alike in both -/
section SM2
variable {a b c a₉ b₉ d : Nat → Nat → Int32} {x y z i w pl kk rt : Int32} {n k u v : Nat} {p q : Int} {L : Int64} {F : Nat → Int32}
theorem w6gf : ∀ (f : Nat) (x : Int32) (a : Nat → Nat → Int32), aGf f x a 69 6 = a 69 6 := by
  intro f
  induction f with
  | zero => intro x a; rfl
  | succ f ih =>
    intro x a
    by_cases w : aGc a x
    · rw [aGf_y w, ih, aSp_o ⟨by decide, by decide, by decide⟩, aCm_o ⟨by decide, by decide, by decide⟩, aGr_o ⟨by decide, by decide, by decide, by decide⟩]
    · rw [aGf_n w, ih]
theorem w6mf : ∀ (f : Nat) (x : Int32) (a : Nat → Nat → Int32), aMf f x a 69 6 = a 69 6 := by
  intro f
  induction f with
  | zero => intro x a; rfl
  | succ f ih =>
    intro x a
    by_cases w : aMc a x
    · rw [aMf_y w, ih, aRm_o (by decide) ⟨by decide, by decide, by decide, by decide⟩]
    · rw [aMf_n w, ih]
theorem w6fi : aFi a 69 6 = a 69 6 := by
  unfold aFi aMv
  rw [w6mf]
  unfold aGw
  rw [w6gf, xu_o (by omega)]
theorem w6nw : aNw a 69 6 = a 69 6 := by
  unfold aNw
  split
  · exact aRo_o ⟨by decide, by decide, by decide⟩
  · rfl
theorem w6sp : aSp n a 69 6 = a 69 6 := aSp_o ⟨by decide, by decide, by decide⟩ _ _
theorem w6go : aGo a n 69 6 = a 69 6 := by
  unfold aGo aLk
  split
  · rfl
  · split
    · exact w6sp
    · split
      · rw [w6nw, w6sp]
      · rw [w6fi, w6nw, w6sp]
theorem w6b0 : aB0 a 69 6 = a 69 6 := by
  rw [← B0_of 69 6 (by decide) (by decide) (by decide), xu_o (by omega)]
theorem w6c2 : ∀ (k : Nat) (a : Nat → Nat → Int32), aC2 k a 69 6 = a 69 6 := by
  intro k
  induction k with
  | zero => intro a; rfl
  | succ k ih =>
    intro a
    by_cases h : (aNw a 75 3).toInt < (aNw a 75 4).toInt
    · rw [aC2_y h, ih, w6sp, w6nw]
    · rw [aC2_n h, w6nw]
theorem w6cl : aCl a 69 6 = a 69 6 := by
  unfold aCl aC1
  rw [w6fi, w6c2, w6sp]
  unfold aBg
  split
  · exact w6b0
  · rfl
theorem w6f1 : aF1 a 69 6 = a 69 6 := by
  unfold aF1
  rw [w6go]
  unfold aF0
  split
  · exact w6b0
  · rfl
theorem w6rs : aRs a p 69 6 = a 69 6 := by
  unfold aRs
  split
  · split
    · rw [w6cl, w6cl, w6f1]
    · rw [w6cl, w6f1]
  · exact w6f1
theorem Ad_zo (h : zOf a b) : zOf (aMd (aAd a y F L) y) (aMd (aAd b y F L) y) := by
  have n0 : ∀ m : Nat, zOf (zNw a m F L) (zNw b m F L) := fun m c₉ k₉ q1 q2 q3 => by
    unfold zNw
    rw [h c₉ k₉ q1 q2 q3]
  have n1 : ∀ (d e : Nat → Nat → Int32) (p j : Int), zOf d e → zOf (zIw d p L j) (zIw e p L j) := fun d e p j o c₉ k₉ q1 q2 q3 => by
    unfold zIw
    rw [o c₉ k₉ q1 q2 q3]
  have A : zOf (aAd a y F L) (aAd b y F L) := by
    unfold aAd
    rw [h 69 6 (by decide) (by decide) (by decide), h 69 8 (by decide) (by decide) (by decide)]
    exact of_u (of_u (n1 _ _ _ _ (of_u (n0 _))))
  generalize aAd a y F L = A1 at *
  generalize aAd b y F L = B1 at *
  unfold aMd
  rw [A 87 8 (by decide) (by decide) (by decide), A 130 _ (by decide) (by decide) (by decide), A 128 _ (by decide) (by decide) (by decide)]
  split
  · exact of_u A
  · exact of_u (of_u A)
theorem Ne_zo (h : zOf a b) (hN : qNe b y w pl) : qNe a y w pl := by
  obtain ⟨h1, h2, h3, h4, h5⟩ := hN
  refine ⟨qI_of h1 (Of_sy h), ?_, h3, h4, ?_⟩
  · rw [h 69 6 (by decide) (by decide) (by decide)]
    exact h2
  · unfold qFs at h5 ⊢
    refine ⟨h5.1, ?_, fun n hn => ?_⟩
    · rw [h 87 0 (by decide) (by decide) (by decide)]
      exact h5.2.1
    · rw [h 130 _ (by decide) (by decide) (by decide), h 128 _ (by decide) (by decide) (by decide)]
      exact h5.2.2 n ((Of_al h).mpr hn)
theorem Mk_ad (h : qNe b y w pl) (hA : qAd b d y kk w pl L) (h7 : qA7 b d y) (hm : b 87 8 ≠ 0) : zMk d v ↔ zMk b v ∨ v = y.toNatClampNeg := by
  have q := Ne_b h
  have Id := I_ad h hA
  have d2 := h7.2.2.1 hm
  have nn : ∀ g, g ≠ y.toNatClampNeg → (zNn d g ↔ zNn b g) ∧ (zDn d g ↔ zDn b g) := fun g hg => by
    unfold zNn zDn
    rw [h7.2.2.2 g hg]
    exact ⟨Iff.rfl, Iff.rfl⟩
  have dy : zDn d y.toNatClampNeg := ⟨q.2.1, d2⟩
  constructor
  · intro hz
    refine hz (fun v => zMk b v ∨ v = y.toNatClampNeg) (fun g hg => ?_) (fun u t hu hd he => ?_)
    · by_cases e : g = y.toNatClampNeg
      · exact Or.inr e
      · exact Or.inl (zM_in ((nn g e).1.mp hg))
    · by_cases e : u = y.toNatClampNeg
      · exact absurd (by rw [e]; exact dy) hd
      · by_cases e2 : t = y.toNatClampNeg
        · exact Or.inr e2
        · refine Or.inl (zM_cl (hu.elim id (fun z => absurd z e)) (fun z => hd ((nn u e).2.mpr z)) ?_)
          obtain ⟨w1, j, w2, w3⟩ := (Ed_wp Id.2.2.2.2.2).mp he
          have au : xAl b u := ((Al_ad h hA).mp w2.1).elim id (fun z => absurd z e)
          have w4 := w2.2
          rw [hA.2.1 128 u (by decide) (by decide) e] at w4
          have W : qWp b u j := ⟨au, w4.1, w4.2⟩
          rw [rf_ad h hA W] at w3
          exact (Ed_wp h.1.2.2.2.2.2).mpr ⟨((Al_ad h hA).mp w1).elim id (fun z => absurd z e2), j, W, w3⟩
  · rintro (hz | hz)
    · refine hz _ (fun g hg => ?_) (fun u t hu hd he => ?_)
      · by_cases e : g = y.toNatClampNeg
        · rw [e]
          exact zM_in (Dn_Nn dy)
        · exact zM_in ((nn g e).1.mpr hg)
      · obtain ⟨w1, j, w2, w3⟩ := (Ed_wp h.1.2.2.2.2.2).mp he
        have e := ne_al h w2.1
        refine zM_cl hu (fun z => hd ((nn u e).2.mp z)) ((Ed_wp Id.2.2.2.2.2).mpr ⟨(Al_ad h hA).mpr (Or.inl w1), j, ⟨(Al_ad h hA).mpr (Or.inl w2.1), w2.2.1, ?_⟩, ?_⟩)
        · rw [hA.2.1 128 u (by decide) (by decide) e]
          exact w2.2.2
        · rw [rf_ad h hA w2]
          exact w3
    · rw [hz]
      exact zM_in (Dn_Nn dy)
theorem Dn_ad (h : qNe b y w pl) (h7 : qA7 b d y) (hm : b 87 8 ≠ 0) : zDn d u ↔ zDn b u ∨ u = y.toNatClampNeg := by
  by_cases e : u = y.toNatClampNeg
  · refine ⟨fun _ => Or.inr e, fun _ => ?_⟩
    rw [e]
    exact ⟨(Ne_b h).2.1, h7.2.2.1 hm⟩
  · unfold zDn
    rw [h7.2.2.2 u e]
    exact ⟨Or.inl, fun z => z.elim id (fun z2 => absurd z2 e)⟩
theorem Sm_ad (h : qSm a b) (hN : qNe b y w pl) : qSm (aMd (aAd a y (zFn y kk (w + 1) pl) L) y) (aMd (aAd b y (zFn y kk (w + 1) pl) L) y) := by
  have q := Ne_b hN
  have wb := hN.2.2.2.1
  have o := Ad_zo (y := y) (F := zFn y kk (w + 1) pl) (L := L) h.1
  have hNa := Ne_zo h.1 hN
  have Aa := Ad_of (b := a) (kk := kk) (L := L) q.1 wb.1 wb.2 q.2.2.2.1 (by have := q.2.2.2.2.1; omega)
  have Ab := Ad_of (b := b) (kk := kk) (L := L) q.1 wb.1 wb.2 q.2.2.2.1 (by have := q.2.2.2.2.1; omega)
  have s7 : qA7 a (aMd (aAd a y (zFn y kk (w + 1) pl) L) y) y := A7_of
  have t7 : qA7 b (aMd (aAd b y (zFn y kk (w + 1) pl) L) y) y := A7_of
  generalize aMd (aAd a y (zFn y kk (w + 1) pl) L) y = A at *
  generalize aMd (aAd b y (zFn y kk (w + 1) pl) L) y = B at *
  refine ⟨o, fun m => ?_⟩
  have f7 : ∀ k, k ≠ 2 → B 87 k = b 87 k := Ab.2.2.2.2.2.2.1
  rw [f7 8 (by decide)] at m
  rw [f7 7 (by decide)]
  have ma : a 87 8 ≠ 0 := by
    rw [h.1 87 8 (by decide) (by decide) (by decide)]
    exact m
  have g := h.2 m
  have nb : ¬ xAl b y.toNatClampNeg := Ne_al hN
  have db : ¬ zDn b y.toNatClampNeg := fun z => nb (g.2.1 _ (Dn_Nn z))
  have da : ¬ zDn a y.toNatClampNeg := fun z => nb (Mk_al g.2.1 ((g.1.2.2.2.2.1 _).mp (zM_in (Dn_Nn z))))
  have WB := WQ_ad hN Ab t7 m g.1.2.2.1
  refine ⟨⟨o, WQ_ad hNa Aa s7 ma g.1.2.1, WB, ?_, fun x => ?_, ?_⟩, fun x hx => ?_, fun w7 => ?_⟩
  · rw [s7.1, t7.1]
    exact g.1.2.2.2.1
  · rw [Mk_ad hNa Aa s7 ma, Mk_ad hN Ab t7 m, g.1.2.2.2.2.1 x]
  · rw [cD_up q.2.1 da (fun u => Dn_ad hNa s7 ma), cD_up q.2.1 db (fun u => Dn_ad hN t7 m), g.1.2.2.2.2.2]
  · refine (Al_ad hN Ab).mpr ?_
    by_cases e : x = y.toNatClampNeg
    · exact Or.inr e
    · unfold zNn at hx
      rw [t7.2.2.2 x e] at hx
      exact Or.inl (g.2.1 x hx)
  · have J := g.2.2 w7
    refine ⟨o, ?_⟩
    rw [s7.1, s7.2.1, t7.1, t7.2.1]
    refine ⟨J.2.1, fun k hk => ?_, J.2.2.2⟩
    by_cases e : k = y.toNatClampNeg
    · rw [e, s7.2.2.1 ma, t7.2.2.1 m]
    · rw [s7.2.2.2 k e, t7.2.2.2 k e]
      exact J.2.2.1 k hk
theorem pl_of {v z r : Int} (h0 : 0 ≤ v) (h1 : v + z ≤ r) (hr : r ≤ 4500) (hz : 1 ≤ z) : (Int32.ofInt v).toInt = v := Int32.toInt_ofInt_of_le (by omega) (by omega)
theorem Sm_mk (h : qSm a b) (hK : qK b) (h0 : 0 ≤ w.toInt) (h6 : w.toInt ≤ 60) : qSm (aMk a kk w L rt) (aMk b kk w L rt) := by
  have hz : 1 ≤ (w + 1).toInt := by
    rw [i_p1 (i := w) (by omega)]
    omega
  have rs := Sm_rs (p := (w + 1).toInt) h hK
  unfold aMk
  rw [h.1 69 6 (by decide) (by decide) (by decide), rs.2.2]
  split
  · rename_i w6
    split
    · exact rs.1
    · rename_i w1
      rw [rs.1.1 69 6 (by decide) (by decide) (by decide)]
      have f := Ft_fs rs.2.1.1 (z := (w + 1).toInt) hz w1
      have ep : (Int32.ofInt (aRp b (w + 1).toInt)).toInt = aRp b (w + 1).toInt := pl_of f.1 f.2.1 rs.2.1.1.2.2.2.1.2.2.1.2 hz
      refine Sm_rt (Sm_ad rs.1 (Ne_of rs.2.1.1 ep ?_ h0 h6 rfl ?_))
      · rw [ep]
        exact f.1
      · rw [w6rs]
        exact w6
  · exact h
end SM2

/-! from 95.j03 -/
/-! EVERY CALL: alike in both -/
section SM3
variable {a b c a₉ b₉ d : Nat → Nat → Int32} {x y z i r o t : Int32} {n k u v : Nat} {p q : Int}
theorem Hw_of (h : zOf a b) : zHw a o i ↔ zHw b o i := by
  unfold zHw
  rw [h 128 _ (by decide) (by decide) (by decide)]
theorem Ir_of (h : zOf a b) : zIr a o i ↔ zIr b o i := by
  unfold zIr
  rw [h (1000 + o.toNatClampNeg) _ (by omega) (by omega) (by omega)]
theorem Rq_wp (h : zRq b o) (hw : zHw b o i) : qWp b o.toNatClampNeg i := by
  have c := tn_cast h.1
  exact ⟨⟨by have := h.2.1; omega, h.2.2.1⟩, hw.1, hw.2⟩
theorem Wp_of (h : zOf a b) : qWp a n i ↔ qWp b n i := by
  unfold qWp
  rw [Of_al h, h 128 _ (by decide) (by decide) (by decide)]
theorem Sm_if {P Q : Prop} (e : P ↔ Q) (h1 : Q → qSm a₉ b₉) (h2 : qSm a b) : qSm (qIf P a₉ a) (qIf Q b₉ b) := by
  by_cases w : Q
  · rw [qIf_y w, qIf_y (e.mpr w)]
    exact h1 w
  · rw [qIf_n w, qIf_n (fun q => w (e.mp q))]
    exact h2
theorem Sm_pu (h : qSm a b) (hI : qI b) : qSm (xPu a o i x) (xPu b o i x) := by
  refine Sm_if ?_ (fun w => ?_) h
  · rw [Of_Rq h.1, Hw_of h.1, Ir_of h.1]
  · have W := Rq_wp w.1 w.2.1
    have Wa := (Wp_of h.1).mpr W
    have Ia := qI_of hI (Of_sy h.1)
    have r0 : b (1000 + o.toNatClampNeg) i.toNatClampNeg = 0 := Decidable.byContradiction (fun q => w.2.2 q)
    have r1 : a (1000 + o.toNatClampNeg) i.toNatClampNeg = 0 := by
      rw [h.1 (1000 + o.toNatClampNeg) _ (by omega) (by omega) (by omega)]
      exact r0
    have ga := Ed_pu (x := x) Ia Wa r1
    have gb := Ed_pu (x := x) hI W r0
    rw [Ci_eq hI W, Ci_eq Ia Wa]
    rw [h.1 130 _ (by decide) (by decide) (by decide)] at ga ⊢
    exact Sm_g h (of_u h.1) (un (by decide)) (un (by decide)) (un (by decide)) (un (by decide)) (un (by decide)) (un (by decide)) (un (by decide)) (un (by decide)) (un (by decide)) (un (by decide)) ga gb (un (by decide))
theorem JJ_nc (h : zJJ a b) : zJJ (aNc a y z) (aNc b y z) := by
  unfold aNc
  rw [h.1 87 8 (by decide) (by decide) (by decide), h.1 87 7 (by decide) (by decide) (by decide), Nm_of h.1, Nm_of (y := z) h.1]
  split
  · exact JJ_cm h
  · exact h
theorem NC_wn (hw : zWQ a) (hn : zNA a) : zWQ (aNc a y z) ∧ zNA (aNc a y z) := by
  unfold aNc
  split
  · exact ⟨WQ_cm hw, NA_gr hn (gr_cm hw)⟩
  · exact ⟨hw, hn⟩
theorem u_id (h : a n k = x) : ma_u a n k x = a := by
  funext c₉ k₉
  by_cases w : c₉ = n ∧ k₉ = k
  · rw [w.1, w.2, xu_s, h]
  · rw [xu_o w]
theorem MI_pp (h : zPP a b) (h7 : b 87 7 ≠ 1) (hM : qMI b) : qMI a := by
  have e7 := h.1 87 7 (by decide) (by decide) (by decide)
  have m := h.2.2.2.2.1
  have q := hM.2 h7
  refine ⟨fun w => absurd (by rw [← e7]; exact w) h7, fun _ => ⟨fun u hu => (m u).mpr (q.1 u ((Rt_of h.1).mpr hu)), fun u y hu he => (m y).mpr (q.2 u y ((m u).mp hu) ((Of_ed h.1).mpr he))⟩⟩
theorem Sm_ln (h : qSm a b) (hI : qI b) (hM : b 87 8 ≠ 0 → qMI b) (h70 : b 87 7 = 0 ∨ b 87 7 = 1) (W : qWp b n i) (hr : b (1000 + n) i.toNatClampNeg ≠ 0) (hd : aNm b (aRef b n i) = aRef b n i) (hy : y = -1 ∨ zRq b y) : qSm (aLn a n i y) (aLn b n i y) := by
  have Wa := (Wp_of h.1).mpr W
  have Ia := qI_of hI (Of_sy h.1)
  have ny : aNm b y = y := by
    unfold aNm
    rcases hy with w | w
    · rw [w, if_neg (fun q => absurd q.1 (by decide))]
    · rw [if_pos ⟨w.1, w.2.1, w.2.2.1⟩]
  have ra : aRef a n i = aRef b n i := Of_ref h.1
  unfold aLn
  rw [Nm_of h.1, ny, ra, Ci_eq hI W, Ci_eq Ia Wa, h.1 130 _ (by decide) (by decide) (by decide)]
  have wr := wp_rf hI W
  rw [if_pos hr] at wr
  have fr : aRef a n i = a 71 (b 130 n + 1 + i).toNatClampNeg := by
    rw [ra, wr, h.1 71 _ (by decide) (by decide) (by decide)]
  by_cases s : aRef b n i = y
  · rw [u_id (by rw [← fr, ra]; exact s), u_id (by rw [← wr]; exact s), s, NC_s, NC_s]
    exact h
  · have ob : zOf (ma_u a 71 (b 130 n + 1 + i).toNatClampNeg y) (ma_u b 71 (b 130 n + 1 + i).toNatClampNeg y) := of_u h.1
    have e8 : ∀ (d : Nat → Nat → Int32) (j l : Nat) (v : Int32), ma_u d 71 j v 87 l = d 87 l := fun d j l v => xu_o (by omega)
    by_cases m : b 87 8 = 0
    · rw [NC_0 (by rw [e8, h.1 87 8 (by decide) (by decide) (by decide)]; exact m), NC_0 (by rw [e8]; exact m)]
      exact Sm_0 ob (by rw [e8]; exact m)
    · have g := h.2 m
      have hw2 : zWQ (ma_u b 71 (b 130 n + 1 + i).toNatClampNeg y) := WQ_u g.1.2.2.1 (by decide)
      have hn2 : zNA (ma_u b 71 (b 130 n + 1 + i).toNatClampNeg y) := NA_g g.2.1 (un (by decide)) (un (by decide))
      by_cases h7 : b 87 7 = 1
      · have J : zJJ (ma_u a 71 (b 130 n + 1 + i).toNatClampNeg y) (ma_u b 71 (b 130 n + 1 + i).toNatClampNeg y) := JJ_g (g.2.2 h7) ob (un (by decide)) (un (by decide)) (un (by decide)) (un (by decide)) (un (by decide)) (un (by decide))
        have w := NC_wn (y := aRef b n i) (z := y) hw2 hn2
        exact Sm_J (JJ_nc J) w.1 w.2
      · have h0 : b 87 7 = 0 := h70.elim id (fun w => absurd w h7)
        have n71 : ∀ (d : Nat → Nat → Int32) (j : Nat) (v e : Int32), aNm (ma_u d 71 j v) e = aNm d e := fun d j v e => by
          unfold aNm
          rw [un (n := 126) (by decide)]
        rw [aNc_y (a := ma_u b 71 (b 130 n + 1 + i).toNatClampNeg y) (by rw [e8]; exact m) (by rw [n71, n71, hd, ny]; exact s), aNc_y (a := ma_u a 71 (b 130 n + 1 + i).toNatClampNeg y) (by rw [e8, h.1 87 8 (by decide) (by decide) (by decide)]; exact m) (by rw [n71, n71, Nm_of h.1, Nm_of (y := y) h.1, hd, ny]; exact s), e8, e8, h.1 87 7 (by decide) (by decide) (by decide), if_pos h0]
        have Mb := hM m
        have Ma := MI_pp g.1 h7 Mb
        have xb : y.toInt < 0 ∨ zMk b y.toNatClampNeg := by
          rcases hy with w | w
          · exact Or.inl (by rw [w]; decide)
          · have q := Mb.2 h7
            exact Or.inr (zM_rch q.1 q.2 ((Rq_ch hI).mp w).2.2.2)
        have xa : y.toInt < 0 ∨ zMk a y.toNatClampNeg := xb.imp id (fun w => (g.1.2.2.2.2.1 _).mpr w)
        have a7 : a 87 7 ≠ 1 := by
          rw [h.1 87 7 (by decide) (by decide) (by decide)]
          exact h7
        have ar : a (1000 + n) i.toNatClampNeg ≠ 0 := by
          rw [h.1 (1000 + n) _ (by omega) (by omega) (by omega)]
          exact hr
        have La := Mk_li (x := y) Ia g.1.2.1 Ma a7 Wa ar xa
        have Lb := Mk_li (x := y) hI g.1.2.2.1 Mb h7 W hr xb
        rw [ra, h.1 130 _ (by decide) (by decide) (by decide)] at La
        have P := PP_cm (y := aRef b n i) g.1
        have wa : zWQ (ma_u a 71 (b 130 n + 1 + i).toNatClampNeg y) := WQ_u g.1.2.1 (by decide)
        refine ⟨of_cm ob, fun _ => ⟨⟨of_cm ob, WQ_cm wa, WQ_cm hw2, ?_, fun x => ?_, ?_⟩, NA_gr hn2 (gr_cm hw2), fun w7 => ?_⟩⟩
        · rw [cm_3, cm_3, un (n := 75) (by decide), un (n := 75) (by decide)]
          exact g.1.2.2.2.1
        · rw [La x, Lb x]
          exact P.2.2.2.2.1 x
        · rw [cD_cg (fun u => Dn_cm (a := ma_u a 71 (b 130 n + 1 + i).toNatClampNeg y) (y := aRef b n i) (u := u)), cD_cg (fun u => Dn_cm (a := ma_u b 71 (b 130 n + 1 + i).toNatClampNeg y) (y := aRef b n i) (u := u))]
          unfold cD
          rw [un (n := 77) (by decide), un (n := 77) (by decide)]
          exact g.1.2.2.2.2.2
        · rw [aCm_o (c := 87) ⟨by decide, by decide, by decide⟩, e8] at w7
          exact absurd w7 h7
theorem Sm_li (h : qSm a b) (hI : qI b) (hM : b 87 8 ≠ 0 → qMI b) (h70 : b 87 7 = 0 ∨ b 87 7 = 1) (hd : ∀ n i, qWp b n i → aNm b (aRef b n i) = aRef b n i) : qSm (xLi a o i t) (xLi b o i t) := by
  refine Sm_if ?_ (fun w => ?_) h
  · rw [Of_Rq h.1, Of_Rq (n := t) h.1, Hw_of h.1, Ir_of h.1]
  · have W := Rq_wp w.1 w.2.2.1
    exact Sm_ln h hI hM h70 W w.2.2.2 (hd _ _ W) w.2.1
theorem Sm_ro (h : qSm a b) : qSm (xRo a i o) (xRo b i o) := Sm_if (by rw [Of_Rq h.1]) (fun _ => Sm_rt h) h
theorem Sm_we (h : qSm a b) : qSm (xWe a i o) (xWe b i o) := Sm_if (by rw [Of_Rq h.1]) (fun _ => by
  rw [Nm_of h.1]
  exact Sm_u h (by decide)) h
theorem Sm_ho (h : qSm a b) : qSm (xHo a o x) (xHo b o x) := Sm_if (by rw [Of_Rq h.1, h.1 133 _ (by decide) (by decide) (by decide)]) (fun _ => by
  rw [h.1 133 _ (by decide) (by decide) (by decide)]
  exact Sm_u h (by decide)) h
theorem Sm_wi (h : qSm a b) : qSm (xWi a o) (xWi b o) := Sm_if (by rw [Of_Rq h.1]) (fun _ => Sm_u h (by decide)) h
theorem Sm_gr (h : qSm a b) : qSm (xGr a r) (xGr b r) := by
  have w := Tw_of h.1
  refine Sm_if Iff.rfl (fun _ => ?_) h
  rw [w.2, Nm_of h.1]
  by_cases e : aNm b (aTy b) = -1
  · rw [qIf_y e, qIf_y e]
    exact Sm_tw h
  · rw [qIf_n e, qIf_n e]
    exact Sm_rt (Sm_tw h)
theorem Sm_xg (h : qSm a b) : qSm (xSg a i r) (ySg b i r) := by
  have e := h.1 73 i.toNatClampNeg (by decide) (by decide) (by decide)
  unfold xSg ySg
  rw [e, Nm_of h.1]
  exact Sm_if Iff.rfl (fun w => Sm_sg h w.2.2) h
end SM3

/-! from 95.j04 -/
/-! WHAT A CALL OF THE CLASS MAKES OF THE HEAP, whether it answers or throws -/
section KX
variable {ab d : Nat → Nat → Int32} {o i x v w t rt n b ki kw kn : Int32} {e : Nat} {L : Int64}
theorem kpu_y (h : zRq ab o ∧ zHw ab o i ∧ ¬ zIr ab o i ∧ d = aCi ab o.toNatClampNeg i x ∧ v = w) : d = xPu ab o i x := h.2.2.2.1.trans (qIf_y ⟨h.1, h.2.1, h.2.2.1⟩).symm
theorem kpu_x (hd : d = ab) (h : (e = 4 ∧ ¬ zRq ab o) ∨ (e = 1 ∧ zRq ab o ∧ ¬ zHw ab o i) ∨ (e = 5 ∧ zRq ab o ∧ zHw ab o i ∧ zIr ab o i)) : d = xPu ab o i x := hd.trans (qIf_n (fun q => by
  rcases h with h | h | h
  · exact h.2 q.1
  · exact h.2.2 q.2.1
  · exact q.2.2 h.2.2.2)).symm
theorem kli_y (h : zRq ab o ∧ (t = -1 ∨ zRq ab t) ∧ zHw ab o i ∧ zIr ab o i ∧ d = aLn ab o.toNatClampNeg i t ∧ v = w) : d = xLi ab o i t := h.2.2.2.2.1.trans (qIf_y ⟨h.1, h.2.1, h.2.2.1, h.2.2.2.1⟩).symm
theorem kli_x (hd : d = ab) (h : (e = 4 ∧ (¬ zRq ab o ∨ (zRq ab o ∧ t ≠ -1 ∧ ¬ zRq ab t))) ∨ (e = 1 ∧ zRq ab o ∧ (t = -1 ∨ zRq ab t) ∧ ¬ zHw ab o i) ∨ (e = 5 ∧ zRq ab o ∧ (t = -1 ∨ zRq ab t) ∧ zHw ab o i ∧ ¬ zIr ab o i)) : d = xLi ab o i t := hd.trans (qIf_n (fun q => by
  rcases h with h | h | h
  · rcases h.2 with h2 | h2
    · exact h2 q.1
    · exact q.2.1.elim h2.2.1 h2.2.2
  · exact h.2.2.2 q.2.2.1
  · exact h.2.2.2.2 q.2.2.2)).symm
theorem kro_y (h : (0 ≤ i.toInt ∧ i.toInt ≤ 15) ∧ (o = -1 ∨ zRq ab o) ∧ d = aRt ab i o ∧ v = w) : d = xRo ab i o := h.2.2.1.trans (qIf_y ⟨h.1, h.2.1⟩).symm
theorem kwe_n (h : (e = 2 ∧ ¬ (0 ≤ i.toInt ∧ i.toInt ≤ 15)) ∨ ((0 ≤ i.toInt ∧ i.toInt ≤ 15) ∧ e = 4 ∧ o ≠ -1 ∧ ¬ zRq ab o)) : ¬ (zSl i ∧ (o = -1 ∨ zRq ab o)) := fun q => by
  rcases h with h | h
  · exact h.2 q.1
  · exact q.2.elim h.2.2.1 h.2.2.2
theorem kro_x (hd : d = ab) (h : (e = 2 ∧ ¬ (0 ≤ i.toInt ∧ i.toInt ≤ 15)) ∨ ((0 ≤ i.toInt ∧ i.toInt ≤ 15) ∧ e = 4 ∧ o ≠ -1 ∧ ¬ zRq ab o)) : d = xRo ab i o := hd.trans (qIf_n (kwe_n h)).symm
theorem kwe_y (h : (0 ≤ i.toInt ∧ i.toInt ≤ 15) ∧ (o = -1 ∨ zRq ab o) ∧ d = ma_u ab 73 i.toNatClampNeg (aNm ab o) ∧ v = w) : d = xWe ab i o := h.2.2.1.trans (qIf_y ⟨h.1, h.2.1⟩).symm
theorem kwe_x (hd : d = ab) (h : (e = 2 ∧ ¬ (0 ≤ i.toInt ∧ i.toInt ≤ 15)) ∨ ((0 ≤ i.toInt ∧ i.toInt ≤ 15) ∧ e = 4 ∧ o ≠ -1 ∧ ¬ zRq ab o)) : d = xWe ab i o := hd.trans (qIf_n (kwe_n h)).symm
theorem kho_y (h : zRq ab o ∧ (¬ b = 0 ∨ ¬ ab 133 o.toNatClampNeg = 0) ∧ d = ma_u ab 133 o.toNatClampNeg (ab 133 o.toNatClampNeg + (if b = 0 then -1 else 1)) ∧ v = w) : d = xHo ab o b := h.2.2.1.trans (qIf_y ⟨h.1, h.2.1⟩).symm
theorem kho_x (hd : d = ab) (h : (e = 4 ∧ ¬ zRq ab o) ∨ (e = 6 ∧ zRq ab o ∧ b = 0 ∧ ab 133 o.toNatClampNeg = 0)) : d = xHo ab o b := hd.trans (qIf_n (fun q => by
  rcases h with h | h
  · exact h.2 q.1
  · exact q.2.elim (fun z => z h.2.2.1) (fun z => z h.2.2.2))).symm
theorem kwi_y (h : zRq ab o ∧ d = ma_u ab 134 o.toNatClampNeg 1 ∧ v = w) : d = xWi ab o := h.2.1.trans (qIf_y h.1).symm
theorem kwi_x (hd : d = ab) (h : e = 4 ∧ ¬ zRq ab o) : d = xWi ab o := hd.trans (qIf_n h.2).symm
theorem ksg_y (h : (0 ≤ i.toInt ∧ i.toInt ≤ 15) ∧ (0 ≤ rt.toInt ∧ rt.toInt ≤ 15) ∧ ((aNm ab (ab 73 i.toNatClampNeg) = -1 ∧ d = ab ∧ v = -1) ∨ (aNm ab (ab 73 i.toNatClampNeg) = ab 73 i.toNatClampNeg ∧ 0 ≤ (ab 73 i.toNatClampNeg).toInt ∧ d = aSt (aRt ab rt (ab 73 i.toNatClampNeg)) (ab 73 i.toNatClampNeg) ∧ v = ab 73 i.toNatClampNeg))) : d = xSg ab i rt := by
  rcases h.2.2 with q | q
  · exact q.2.1.trans (qIf_n (fun z => z.2.2 q.1)).symm
  · refine q.2.2.1.trans (qIf_y ⟨h.1, h.2.1, fun z => ?_⟩).symm
    have q2 := q.2.1
    rw [← q.1, z] at q2
    exact absurd q2 (by decide)
theorem ksg_x (hd : d = ab) (h : e = 2 ∧ ¬ ((0 ≤ i.toInt ∧ i.toInt ≤ 15) ∧ (0 ≤ rt.toInt ∧ rt.toInt ≤ 15))) : d = xSg ab i rt := hd.trans (qIf_n (fun q => h.2 ⟨q.1, q.2.1⟩)).symm
theorem kgr_y (h : (0 ≤ rt.toInt ∧ rt.toInt ≤ 15) ∧ ((aNm ab (aTy ab) = -1 ∧ d = aTw ab ∧ v = -1) ∨ (aNm ab (aTy ab) = aTy ab ∧ 0 ≤ (aTy ab).toInt ∧ d = aRt (aTw ab) rt (aTy ab) ∧ v = aTy ab))) : d = xGr ab rt := by
  unfold xGr
  rw [qIf_y (show zSl rt from h.1)]
  rcases h.2 with q | q
  · rw [qIf_y q.1]
    exact q.2.1
  · refine q.2.2.1.trans (qIf_n (fun z => ?_)).symm
    have q2 := q.2.1
    rw [← q.1, z] at q2
    exact absurd q2 (by decide)
theorem kgr_x (hd : d = ab) (h : e = 2 ∧ ¬ (0 ≤ rt.toInt ∧ rt.toInt ≤ 15)) : d = xGr ab rt := hd.trans (qIf_n h.2).symm
theorem kcl_y (h : d = aCl ab ∧ v = w) : d = aCl ab := h.1
theorem kge_y (h : zRq ab o ∧ zHw ab o i ∧ d = ab ∧ v = w) : d = ab := h.2.2.1
theorem kmk_y (h : (0 ≤ ki.toInt ∧ ki.toInt < kn.toInt ∧ 0 ≤ rt.toInt ∧ rt.toInt ≤ 15) ∧ d = aMk ab ki kw L rt ∧ v = w) : d = qIf (0 ≤ ki.toInt ∧ ki.toInt < kn.toInt ∧ zSl rt) (aMk ab ki kw L rt) ab := h.2.1.trans (qIf_y h.1).symm
theorem kmk_x (hd : d = ab) (h : e = 2 ∧ ¬ (0 ≤ ki.toInt ∧ ki.toInt < kn.toInt ∧ 0 ≤ rt.toInt ∧ rt.toInt ≤ 15)) : d = qIf (0 ≤ ki.toInt ∧ ki.toInt < kn.toInt ∧ zSl rt) (aMk ab ki kw L rt) ab := hd.trans (qIf_n h.2).symm
theorem krw_y (h : (0 ≤ n.toInt ∧ n.toInt ≤ 60 ∧ 0 ≤ rt.toInt ∧ rt.toInt ≤ 15) ∧ d = (if b = 0 then aMk ab 17 n 0 rt else aMk ab 16 n (-1) rt) ∧ v = w) : d = qIf (0 ≤ n.toInt ∧ n.toInt ≤ 60 ∧ zSl rt) (if b = 0 then aMk ab 17 n 0 rt else aMk ab 16 n (-1) rt) ab := h.2.1.trans (qIf_y h.1).symm
theorem krw_x (hd : d = ab) (h : e = 2 ∧ ¬ (0 ≤ n.toInt ∧ n.toInt ≤ 60 ∧ 0 ≤ rt.toInt ∧ rt.toInt ≤ 15)) : d = qIf (0 ≤ n.toInt ∧ n.toInt ≤ 60 ∧ zSl rt) (if b = 0 then aMk ab 17 n 0 rt else aMk ab 16 n (-1) rt) ab := hd.trans (qIf_n h.2).symm
end KX
section KS
variable {S : ma_S} {f : Nat → Nat → Int32} {r : Nat → Nat → Option Nat} {C Z N : Nat} {m₉ : Nat → Nat → Int32}
theorem aF_cg {I I₉ : Nat → Nat → Int32} {R : Nat → Option Nat} {L L₉ : Nat → Nat → Int64} (h : ∀ c k, c < 94 ∨ 124 < c → I c k = I₉ c k) (hL : ∀ c, 126 ≤ c → L c 3 = L₉ c 3) (hR : ∀ n b, R n = some b → 126 ≤ b) : aF 88 I R L = aF 88 I₉ R L₉ := by
  funext c1 k1
  by_cases b : zrl c1 k1 = true
  · have p := zrl_p b
    rw [aF_I b, aF_I b]
    refine h _ _ (Or.inl ?_)
    unfold zcw
    split <;> omega
  · unfold aF
    rw [if_neg b, if_neg b]
    split
    · rfl
    · split
      · rfl
      · split
        · split
          · unfold aTf
            split
            · cases e : R k1 with
              | none => rfl
              | some q =>
                have := hR _ _ e
                exact h q _ (Or.inr (by omega))
            · rfl
          · rfl
        · unfold aTr
          split
          · cases e : R (c1 - 1000) with
            | none => rfl
            | some q =>
              show zbit (L q 3) _ = zbit (L₉ q 3) _
              rw [hL q (hR _ _ e)]
          · rfl
theorem h70 (h : zA f r C Z N S) : ∀ n b, mR S 70 n = some b → 126 ≤ b := fun _ _ e => (zG_70 h (c := 70) (by decide) e).1
theorem aS_o (h : zA f r C Z N S) {x : Int64} : aS 88 (ma_put S 125 0 (.inr (.inl x))) = aS 88 S := aF_cg (fun _ _ _ => rfl) (fun c hc => by
  show (if c = 125 ∧ 3 = 0 then x else mL S c 3) = mL S c 3
  rw [if_neg (by omega)]) (h70 h)
theorem aS_zst (h : zA f r C Z N S) (ho : ∀ c k, c < 94 ∨ 124 < c → m₉ c k = mI S c k) : aS 88 (zst S m₉) = aS 88 S := aF_cg ho (fun _ _ => rfl) (fun n b e => h70 (S := S) h n b e)
theorem xB_zst (h : xB S (mR S 70)) (ho : ∀ c k, c < 94 ∨ 124 < c → m₉ c k = mI S c k) : xB (zst S m₉) (mR (zst S m₉) 70) := ⟨rfl, fun n t hn e => by
  have q := h.2 n t hn e
  exact ⟨q.1, (ho t 0 (Or.inr (by omega))).trans q.2⟩⟩
end KS
theorem zb_k0 : ∀ n, n < 256 → ∀ j, j < 8 → (zbit (Int32.ofNat n).toInt64 (Int32.ofNat j) ≠ 0 ↔ ((Int32.ofNat n >>> (Int32.ofNat j &&& 31)) &&& 1) = 1) := by decide +kernel
theorem zb_k {x : Int32} {j : Nat} (h0 : 0 ≤ x.toInt) (h1 : x.toInt ≤ 255) (hj : j < 8) : zbit x.toInt64 (Int32.ofNat j) ≠ 0 ↔ ((x >>> (Int32.ofNat j &&& 31)) &&& 1) = 1 := by
  have c := tn_cast h0
  have e := zb_k0 x.toNatClampNeg (by omega) j hj
  rw [ofN_tn h0] at e
  exact e

