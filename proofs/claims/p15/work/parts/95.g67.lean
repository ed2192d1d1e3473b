/-! the heap by numbers, the class (written by wip/tools/gen18.py) -/
/-! PICTURE: two walks in another order, alike in what they will have come to -/
section PP
variable {a b : Nat → Nat → Int32} {y : Int32} {N D : Nat → Prop} {E : Nat → Nat → Prop} {x k z : Nat}
/-- one more comes: told by what would come anyhow -/
theorem zM_gy {T : Nat → Prop} (hd : ∀ u, D u → N u) : zM (fun u => N u ∨ T u) D E x ↔ zM (fun u => zM N D E u ∨ T u) (zM N D E) E x := by
  constructor
  · intro h
    refine h _ (fun g w => zM_in (w.elim (fun q => Or.inl (zM_in q)) Or.inr)) (fun u y hu hn e => ?_)
    by_cases w : zM N D E u
    · exact zM_in (Or.inl (zM_cl w hn e))
    · exact zM_cl hu w e
  · intro h
    refine h _ (fun g w => ?_) (fun u y hu hn e => zM_cl hu (fun q => hn (zM_in (hd u q))) e)
    rcases w with w | w
    · exact w _ (fun u q => zM_in (Or.inl q)) (fun u y hu hn e => zM_cl hu hn e)
    · exact zM_in (Or.inr w)
theorem Dn_Nn {u : Nat} (h : zDn a u) : zNn a u := ⟨h.1, by rw [h.2]; decide⟩
theorem Mk_cm (h : zWQ a) : zMk (aCm a y) x ↔ zM (fun u => zMk a u ∨ (xAl a u ∧ y = Int32.ofNat u)) (zMk a) (zEd a) x := by
  have g := gr_cm (y := y) h
  exact (zM_cg g.2.2.2.1 g.2.2.1 (fun u y => Of_ed g.2.1)).trans (zM_gy (fun u w => Dn_Nn w))
def cD (a : Nat → Nat → Int32) : Nat := cnt (fun x => if a 77 x = 2 then 1 else 0) 512
theorem cD_0 {j : Nat} : (if a 77 j = 2 then (1 : Int32) else 0) = 0 ↔ ¬ a 77 j = 2 := by
  by_cases h : a 77 j = 2
  · rw [if_pos h]
    exact ⟨fun w => absurd w (by decide), fun w => absurd h w⟩
  · rw [if_neg h]
    exact ⟨fun _ => h, fun _ => rfl⟩
theorem cD_cg (h : ∀ u, zDn a u ↔ zDn b u) : cD a = cD b := by
  refine cnt_congr (fun j hj => ?_)
  rw [cD_0, cD_0]
  have q := h j
  unfold zDn at q
  constructor
  · intro w w2
    exact w (q.mpr ⟨hj, w2⟩).2
  · intro w w2
    exact w (q.mp ⟨hj, w2⟩).2
theorem cD_up (hz : z < 512) (hn : ¬ zDn a z) (h : ∀ u, zDn b u ↔ zDn a u ∨ u = z) : cD b = cD a + 1 := by
  have q := cnt_up (m := fun _ x => if a 77 x = 2 then (1 : Int32) else 0) (c := 0) (k := z) (x := 1) (n := 512) hz (cD_0.mpr (fun w => hn ⟨hz, w⟩)) (by decide)
  have q2 : cD b = cnt (ma_u (fun _ x => if a 77 x = 2 then (1 : Int32) else 0) 0 z 1 0) 512 := by
    refine cnt_congr (fun j hj => ?_)
    rw [cD_0]
    by_cases w : j = z
    · rw [w, xu_s]
      exact ⟨fun w2 => absurd ((h z).mpr (Or.inr rfl)).2 w2, fun w2 => absurd w2 (by decide)⟩
    · rw [xu_o (fun w2 => w w2.2), cD_0]
      have p := h j
      constructor
      · intro w2 w3
        exact w2 (p.mpr (Or.inl ⟨hj, w3⟩)).2
      · intro w2 w3
        rcases p.mp ⟨hj, w3⟩ with w4 | w4
        · exact w2 w4.2
        · exact w w4
  rw [q2, q]
  rfl
theorem cD_lt (h : ∀ u, zDn b u → zDn a u) (h1 : zDn a z) (h2 : ¬ zDn b z) : cD b < cD a := by
  have q := cnt_up (m := fun _ x => if b 77 x = 2 then (1 : Int32) else 0) (c := 0) (k := z) (x := 1) (n := 512) h1.1 (cD_0.mpr (fun w => h2 ⟨h1.1, w⟩)) (by decide)
  have q2 : cnt (ma_u (fun _ x => if b 77 x = 2 then (1 : Int32) else 0) 0 z 1 0) 512 ≤ cD a := by
    refine cnt_mono (fun j hj w => ?_)
    intro w3
    rw [cD_0] at w3
    by_cases w2 : j = z
    · rw [w2] at w3
      exact w3 h1.2
    · rw [xu_o (fun w4 => w2 w4.2)] at w
      apply w
      rw [cD_0]
      exact fun w5 => w3 (h j ⟨hj, w5⟩).2
  have e : cnt (fun x => if b 77 x = 2 then (1 : Int32) else 0) 512 = cD b := rfl
  have q3 : cnt (ma_u (fun _ x => if b 77 x = 2 then (1 : Int32) else 0) 0 z 1 0) 512 = cD b + 1 := q
  omega
def zPP (a b : Nat → Nat → Int32) : Prop := zOf a b ∧ zWQ a ∧ zWQ b ∧ a 75 3 = b 75 3 ∧ (∀ x, zMk a x ↔ zMk b x) ∧ cD a = cD b
theorem Of_sy (h : zOf a b) : zOf b a := fun c k w1 w2 w3 => (h c k w1 w2 w3).symm
theorem PP_sy (h : zPP a b) : zPP b a := ⟨Of_sy h.1, h.2.2.1, h.2.1, h.2.2.2.1.symm, fun x => (h.2.2.2.2.1 x).symm, h.2.2.2.2.2.symm⟩
theorem PP_cm (h : zPP a b) : zPP (aCm a y) (aCm b y) := by
  refine ⟨Of_tr (Of_sy cm_of) (Of_tr h.1 cm_of), WQ_cm h.2.1, WQ_cm h.2.2.1, ?_, fun x => ?_, ?_⟩
  · rw [cm_3, cm_3]
    exact h.2.2.2.1
  · rw [Mk_cm h.2.1, Mk_cm h.2.2.1]
    refine zM_cg (fun u => ?_) h.2.2.2.2.1 (fun u y => (Of_ed h.1).symm)
    rw [h.2.2.2.2.1 u, Of_al h.1]
  · rw [cD_cg (fun u => Dn_cm (a := a) (y := y) (u := u)), cD_cg (fun u => Dn_cm (a := b) (y := y) (u := u))]
    exact h.2.2.2.2.2
theorem PP_em1 (h : zPP a b) (he : ¬ (a 75 3).toInt < (a 75 4).toInt) : ¬ (b 75 3).toInt < (b 75 4).toInt := by
  intro hl
  have wb := h.2.2.1
  have ch := tn_cast wb.1.1
  have p := wb.2.1 (b 75 3).toNatClampNeg (by omega) (by omega)
  have cq := tn_cast p.1
  generalize b 76 (b 75 3).toNatClampNeg = q at *
  have hz : q.toNatClampNeg < 512 := by
    have := p.2.1
    omega
  have nb : zNn b q.toNatClampNeg := ⟨hz, by rw [p.2.2.2]; decide⟩
  have ma : ∀ u, zNn b u → zDn a u := fun u w => by
    have w1 := (h.2.2.2.2.1 u).mpr (zM_in w)
    have w2 := (Nn_end h.2.1 he).mp w1
    refine ⟨w2.1, ?_⟩
    rcases h.2.1.2.2.2.2.1 u w2.1 with w3 | w3 | w3
    · exact absurd w3 w2.2
    · obtain ⟨j, j1, j2, _⟩ := h.2.1.2.2.2.1 u w2.1 w3
      omega
    · exact w3
  have := cD_lt (a := a) (b := b) (z := q.toNatClampNeg) (fun u w => ma u (Dn_Nn w)) (ma _ nb) (fun w => by
    have := w.2
    rw [p.2.2.2] at this
    exact absurd this (by decide))
  have := h.2.2.2.2.2
  omega
theorem PP_em (h : zPP a b) : (a 75 3).toInt < (a 75 4).toInt ↔ (b 75 3).toInt < (b 75 4).toInt := by
  constructor
  · intro w
    exact Classical.byContradiction (fun q => PP_em1 (PP_sy h) q w)
  · intro w
    exact Classical.byContradiction (fun q => PP_em1 h q w)
theorem PP_pop (h : zPP a b) (hl : (a 75 3).toInt < (a 75 4).toInt) : zPP (aPop a) (aPop b) := by
  have pa := pop_all h.2.1 hl
  have pb := pop_all h.2.2.1 ((PP_em h).mp hl)
  obtain ⟨z1, z2, z3, z4⟩ := pa.2.2.2.2
  obtain ⟨y1, y2, y3, y4⟩ := pb.2.2.2.2
  refine ⟨Of_tr (Of_sy pa.2.1) (Of_tr h.1 pb.2.1), pa.1, pb.1, ?_, fun x => ?_, ?_⟩
  · apply Int32.toInt_inj.mp
    rw [pa.2.2.2.1, pb.2.2.2.1, h.2.2.2.1]
  · rw [pa.2.2.1 x, pb.2.2.1 x]
    exact h.2.2.2.2.1 x
  · rw [cD_up z2 z3 z4, cD_up y2 y3 y4, h.2.2.2.2.2]
theorem PP_sp : ∀ (k : Nat) (a b : Nat → Nat → Int32), zPP a b → zPP (aSp k a) (aSp k b) ∧ aSn k a = aSn k b := by
  intro k
  induction k with
  | zero => intro a b h; exact ⟨h, rfl⟩
  | succ k ih =>
    intro a b h
    by_cases hl : (a 75 3).toInt < (a 75 4).toInt
    · have hb := (PP_em h).mp hl
      rw [aSp_go hl, aSp_go hb, aSn_go hl, aSn_go hb]
      have q := ih _ _ (PP_pop h hl)
      exact ⟨q.1, by rw [q.2]⟩
    · have hb : ¬ (b 75 3).toInt < (b 75 4).toInt := fun w => hl ((PP_em h).mpr w)
      rw [aSp_st (Or.inr hl), aSp_st (Or.inr hb), aSn_st (Or.inr hl), aSn_st (Or.inr hb)]
      exact ⟨h, rfl⟩
end PP
