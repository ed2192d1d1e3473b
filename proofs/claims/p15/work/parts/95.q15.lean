/-! the moving collectors, the class (written by wip/tools/gen15.py) -/
/-! THE WHOLE QUEUE OF A WALK: each that came is in it, once -/
def zFQ (a : Nat → Nat → Int32) : Prop := (∀ j : Nat, (j : Int) < (a 75 4).toInt → 0 ≤ (a 76 j).toInt ∧ (a 76 j).toInt < 512 ∧ a 77 (a 76 j).toNatClampNeg ≠ 0 ∧ a 126 (a 76 j).toNatClampNeg ≠ 0) ∧ (∀ j j' : Nat, j < j' → (j' : Int) < (a 75 4).toInt → a 76 j ≠ a 76 j') ∧ (∀ x : Nat, x < 512 → a 77 x ≠ 0 → ∃ j : Nat, (j : Int) < (a 75 4).toInt ∧ a 76 j = Int32.ofNat x) ∧ (0 ≤ (a 75 3).toInt ∧ (a 75 3).toInt ≤ (a 75 4).toInt ∧ (a 75 4).toInt ≤ 512)
section F6
variable {a b : Nat → Nat → Int32} {y i x : Int32} {m k n : Nat}
theorem FQ_cg (h : zFQ a) (e3 : b 75 3 = a 75 3) (e4 : b 75 4 = a 75 4) (e6 : b 76 = a 76) (e7 : ∀ x, x < 512 → (b 77 x ≠ 0 ↔ a 77 x ≠ 0)) (e8 : b 126 = a 126) : zFQ b := by
  obtain ⟨h1, h2, h3, h4⟩ := h
  unfold zFQ
  rw [e3, e4, e6, e8]
  refine ⟨fun j hj => ?_, h2, fun x hx w => h3 x hx ((e7 x hx).mp w), h4⟩
  have q := h1 j hj
  have t := tn_cast q.1
  exact ⟨q.1, q.2.1, (e7 _ (by omega)).mpr q.2.2.1, q.2.2.2⟩
theorem FQ_wh (h : 0 ≤ 0) : zFQ (aWh a x) := by
  have r3 : aWh a x 75 3 = 0 := by
    unfold aWh
    rw [xu_o (by omega), xu_o (by omega), xu_s]
  have r4 : aWh a x 75 4 = 0 := by
    unfold aWh
    rw [xu_o (by omega), xu_s]
  have r7 : ∀ k, k < 512 → aWh a x 77 k = 0 := fun k hk => by
    unfold aWh
    rw [xu_o (by omega), xu_o (by omega), xu_o (by omega)]
    unfold zFl
    rw [if_pos ⟨rfl, by omega⟩]
  have i0 : (0 : Int32).toInt = 0 := rfl
  unfold zFQ
  rw [r3, r4, i0]
  exact ⟨fun j hj => absurd hj (by omega), fun j j' _ hj => absurd hj (by omega), fun x hx w => absurd (r7 x hx) w, by omega⟩
theorem FQ_cm (h : zFQ a) : zFQ (aCm a y) := by
  by_cases hc : aCc a y
  · rw [aCm_y hc]
    obtain ⟨q1, q2, q3, q4⟩ := h
    obtain ⟨c0, c1, c2, c3, c4, c5⟩ := hc
    have cy := tn_cast c0
    have hn : y.toNatClampNeg < 512 := by omega
    have e1 : (a 75 4 + 1).toInt = (a 75 4).toInt + 1 := i_p1 (by omega)
    have et := tn_cast (x := a 75 4) (by omega)
    generalize ht : (a 75 4).toNatClampNeg = t at *
    generalize hv : a 75 4 + 1 = v at *
    have r3 : (ma_u (ma_u (ma_u a 77 y.toNatClampNeg 1) 76 t y) 75 4 v) 75 3 = a 75 3 := by rw [xu_o (by omega), xu_o (by omega), xu_o (by omega)]
    have r4 : (ma_u (ma_u (ma_u a 77 y.toNatClampNeg 1) 76 t y) 75 4 v) 75 4 = v := xu_s
    have r6 : ∀ j, j ≠ t → (ma_u (ma_u (ma_u a 77 y.toNatClampNeg 1) 76 t y) 75 4 v) 76 j = a 76 j := fun j w => by rw [xu_o (by omega), xu_o (fun z => w z.2), xu_o (by omega)]
    have r6t : (ma_u (ma_u (ma_u a 77 y.toNatClampNeg 1) 76 t y) 75 4 v) 76 t = y := by rw [xu_o (by omega), xu_s]
    have r7 : ∀ j, j ≠ y.toNatClampNeg → (ma_u (ma_u (ma_u a 77 y.toNatClampNeg 1) 76 t y) 75 4 v) 77 j = a 77 j := fun j w => by rw [xu_o (by omega), xu_o (by omega), xu_o (fun z => w z.2)]
    have r7t : (ma_u (ma_u (ma_u a 77 y.toNatClampNeg 1) 76 t y) 75 4 v) 77 y.toNatClampNeg = 1 := by rw [xu_o (by omega), xu_o (by omega), xu_s]
    have r8 : ∀ j, (ma_u (ma_u (ma_u a 77 y.toNatClampNeg 1) 76 t y) 75 4 v) 126 j = a 126 j := fun j => by rw [xu_o (by omega), xu_o (by omega), xu_o (by omega)]
    generalize ma_u (ma_u (ma_u a 77 y.toNatClampNeg 1) 76 t y) 75 4 v = B at *
    have m7 : ∀ z, a 77 z ≠ 0 → B 77 z ≠ 0 := fun z w => by
      by_cases zz : z = y.toNatClampNeg
      · rw [zz, r7t]
        decide
      · rw [r7 z zz]
        exact w
    refine ⟨fun j hj => ?_, fun j j' hjj hj' => ?_, fun z hz w => ?_, by rw [r3, r4]; omega⟩
    · rw [r4] at hj
      by_cases w : j = t
      · rw [w, r6t, r7t, r8]
        exact ⟨c0, c1, by decide, c2⟩
      · have q := q1 j (by omega)
        rw [r6 j w, r8]
        exact ⟨q.1, q.2.1, m7 _ q.2.2.1, q.2.2.2⟩
    · rw [r4] at hj'
      have nj : j ≠ t := by omega
      rw [r6 j nj]
      by_cases w : j' = t
      · rw [w, r6t]
        intro e
        have q := q1 j (by omega)
        rw [e] at q
        exact q.2.2.1 c5
      · rw [r6 j' w]
        exact q2 j j' hjj (by omega)
    · by_cases zz : z = y.toNatClampNeg
      · refine ⟨t, by rw [r4]; omega, ?_⟩
        rw [r6t, zz]
        exact (ofN_tn c0).symm
      · rw [r7 z zz] at w
        obtain ⟨j, hj, e⟩ := q3 z hz w
        refine ⟨j, by rw [r4]; omega, ?_⟩
        rw [r6 j (by omega)]
        exact e
  · rw [aCm_n hc]
    exact h
theorem FQ_cwf : ∀ (f : Nat) (i : Int32) (a : Nat → Nat → Int32), zFQ a → zFQ (aCwf m f i a) := by
  intro f
  induction f with
  | zero => intro i a h; exact h
  | succ f ih =>
    intro i a h
    exact ih _ _ (FQ_cm h)
theorem FQ_pop (h : zFQ a) (hl : (a 75 3).toInt < (a 75 4).toInt) : zFQ (aPop a) := by
  have q4 := h.2.2.2
  have e1 : (a 75 3 + 1).toInt = (a 75 3).toInt + 1 := i_p1 (by omega)
  have s0 : zFQ (ma_u a 75 3 (a 75 3 + 1)) := by
    obtain ⟨h1, h2, h3, h4⟩ := h
    have r4 : ma_u a 75 3 (a 75 3 + 1) 75 4 = a 75 4 := xu_o (by decide)
    unfold zFQ
    rw [r4, xu_s, un (n := 76) (by decide), un (n := 77) (by decide), un (n := 126) (by decide), e1]
    exact ⟨h1, h2, h3, by omega⟩
  unfold aPop
  split
  · have t := tn_cast (x := a 75 3) q4.1
    have q := h.1 (a 75 3).toNatClampNeg (by omega)
    refine FQ_cwf _ _ _ (FQ_cg s0 (xu_o (by omega)) (xu_o (by omega)) (un (by decide)) (fun x hx => ?_) (un (by decide)))
    rw [un (n := 77) (k := 3) (by decide)]
    by_cases w : x = (a 76 (a 75 3).toNatClampNeg).toNatClampNeg
    · rw [w, xu_s]
      exact ⟨fun _ => q.2.2.1, fun _ => by decide⟩
    · rw [xu_o (fun z => w z.2), un (n := 77) (by decide)]
  · exact s0
theorem FQ_sp : ∀ (f : Nat) (a : Nat → Nat → Int32), zFQ a → zFQ (aSp f a) := by
  intro f
  induction f with
  | zero => intro a h; exact h
  | succ f ih =>
    intro a h
    show zFQ (if (a 75 3).toInt < (a 75 4).toInt then aSp f (aPop a) else a)
    split
    · next w => exact ih _ (FQ_pop h w)
    · exact h
theorem FQ_hf : ∀ (f : Nat) (n : Int32) (a : Nat → Nat → Int32), zFQ a → zFQ (aHf f n a) := by
  intro f
  induction f with
  | zero => intro n a h; exact h
  | succ f ih =>
    intro n a h
    refine ih _ _ ?_
    split
    · exact FQ_cm h
    · exact h
theorem FQ_wf : ∀ (f : Nat) (n : Int32) (a : Nat → Nat → Int32), zFQ a → zFQ (aWf f n a) := by
  intro f
  induction f with
  | zero => intro n a h; exact FQ_hf _ _ _ h
  | succ f ih => intro n a h; exact ih _ _ (FQ_cm h)
theorem FQ_rf : ∀ (f : Nat) (n : Int32) (a : Nat → Nat → Int32), zFQ a → zFQ (aRf f n a) := by
  intro f
  induction f with
  | zero => intro n a h; exact FQ_wf _ _ _ h
  | succ f ih => intro n a h; exact ih _ _ (FQ_cm h)
theorem FQ_gr (h : zFQ a) : zFQ (aGr a y) := FQ_cg h (congrFun (gr_r (by decide) (by decide) (by decide) (by decide)) 3) (congrFun (gr_r (by decide) (by decide) (by decide) (by decide)) 4) (gr_r (by decide) (by decide) (by decide) (by decide)) (fun x _ => by rw [gr_r (n := 77) (by decide) (by decide) (by decide) (by decide)]) (gr_r (by decide) (by decide) (by decide) (by decide))
theorem FQ_gf : ∀ (f : Nat) (x : Int32) (a : Nat → Nat → Int32), zFQ a → zFQ (aGf f x a) := by
  intro f
  induction f with
  | zero => intro x a h; exact h
  | succ f ih =>
    intro x a h
    by_cases w : aGc a x
    · rw [aGf_y w]
      exact ih _ _ (FQ_sp _ _ (FQ_cm (FQ_gr h)))
    · rw [aGf_n w]
      exact ih _ _ h
theorem FQ_gw : zFQ (aGw (aRA a) 0) := FQ_gf _ _ _ (FQ_sp _ _ (FQ_rf _ _ _ (FQ_wh (by decide))))
/-- who is there behind a cleaning is in the queue, once -/
theorem FQ_sw (hI : qI a) : zFQ (aSw a) ∧ ∀ n, xAl (aSw a) n → aSw a 77 n ≠ 0 := by
  have g := I_gf ((aRA a 69 6).toInt - (0 : Int32).toInt).toNat 0 _ (qI_of hI RA_zo) (E0_ra hI)
  have e : aGf ((aRA a 69 6).toInt - (0 : Int32).toInt).toNat 0 (aRA a) = aGw (aRA a) 0 := rfl
  rw [e] at g
  have m := Md_mv g.1 g.2.1.2.2.2.2.2.1
  have r : ∀ c, c = 75 ∨ c = 76 ∨ c = 77 → aSw a c = aGw (aRA a) 0 c := fun c hc => m.2.1.1 c (by omega) (by omega) (by omega) (by omega)
  have q := FQ_gw (a := a)
  have al := fun n => Md_al (n := n) g.1 m
  refine ⟨?_, fun n hn => ?_⟩
  · unfold zFQ at q ⊢
    rw [r 75 (by decide), r 76 (by decide), r 77 (by decide)]
    refine ⟨fun j hj => ?_, q.2⟩
    have z := q.1 j hj
    have t := tn_cast z.1
    exact ⟨z.1, z.2.1, z.2.2.1, ((al _).mpr ⟨⟨by omega, z.2.2.2⟩, z.2.2.1⟩).2⟩
  · rw [r 77 (by decide)]
    exact ((al n).mp hn).2
end F6
