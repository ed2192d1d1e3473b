/-! A NEW ONE: alike in both -/
section SM2
variable {a b c a' b' d : Nat → Nat → Int32} {x y z i w pl kk rt : Int32} {n k u v : Nat} {p q : Int} {L : Int64} {F : Nat → Int32}
theorem w6gf : ∀ (f : Nat) (x : Int32) (a : Nat → Nat → Int32), aGf f x a 69 6 = a 69 6 := by
  intro f
  induction f with
  | zero => intro x a; rfl
  | succ f ih =>
    intro x a
    by_cases w : aGc a x
    · rw [aGf_y w, ih, aSp_o ⟨by decide, by decide, by decide⟩, aCm_o ⟨by decide, by decide, by decide⟩, aGr_o ⟨by decide, by decide, by decide, by decide⟩]
    · rw [aGf_n w, ih]
theorem w6mf : ∀ (f : Nat) (x : Int32) (a : Nat → Nat → Int32), aMf f x a 69 6 = a 69 6 := by
  intro f
  induction f with
  | zero => intro x a; rfl
  | succ f ih =>
    intro x a
    by_cases w : aMc a x
    · rw [aMf_y w, ih, aRm_o (by decide) ⟨by decide, by decide, by decide, by decide⟩]
    · rw [aMf_n w, ih]
theorem w6fi : aFi a 69 6 = a 69 6 := by
  unfold aFi aMv
  rw [w6mf]
  unfold aGw
  rw [w6gf, xu_o (by omega)]
theorem w6nw : aNw a 69 6 = a 69 6 := by
  unfold aNw
  split
  · exact aRo_o ⟨by decide, by decide, by decide⟩
  · rfl
theorem w6sp : aSp n a 69 6 = a 69 6 := aSp_o ⟨by decide, by decide, by decide⟩ _ _
theorem w6go : aGo a n 69 6 = a 69 6 := by
  unfold aGo aLk
  split
  · rfl
  · split
    · exact w6sp
    · split
      · rw [w6nw, w6sp]
      · rw [w6fi, w6nw, w6sp]
theorem w6b0 : aB0 a 69 6 = a 69 6 := by
  rw [← B0_of 69 6 (by decide) (by decide) (by decide), xu_o (by omega)]
theorem w6c2 : ∀ (k : Nat) (a : Nat → Nat → Int32), aC2 k a 69 6 = a 69 6 := by
  intro k
  induction k with
  | zero => intro a; rfl
  | succ k ih =>
    intro a
    by_cases h : (aNw a 75 3).toInt < (aNw a 75 4).toInt
    · rw [aC2_y h, ih, w6sp, w6nw]
    · rw [aC2_n h, w6nw]
theorem w6cl : aCl a 69 6 = a 69 6 := by
  unfold aCl aC1
  rw [w6fi, w6c2, w6sp]
  unfold aBg
  split
  · exact w6b0
  · rfl
theorem w6f1 : aF1 a 69 6 = a 69 6 := by
  unfold aF1
  rw [w6go]
  unfold aF0
  split
  · exact w6b0
  · rfl
theorem w6rs : aRs a p 69 6 = a 69 6 := by
  unfold aRs
  split
  · split
    · rw [w6cl, w6cl, w6f1]
    · rw [w6cl, w6f1]
  · exact w6f1
theorem Ad_zo (h : zOf a b) : zOf (aMd (aAd a y F L) y) (aMd (aAd b y F L) y) := by
  have n0 : ∀ m : Nat, zOf (zNw a m F L) (zNw b m F L) := fun m c' k' q1 q2 q3 => by
    unfold zNw
    rw [h c' k' q1 q2 q3]
  have n1 : ∀ (d e : Nat → Nat → Int32) (p j : Int), zOf d e → zOf (zIw d p L j) (zIw e p L j) := fun d e p j o c' k' q1 q2 q3 => by
    unfold zIw
    rw [o c' k' q1 q2 q3]
  have A : zOf (aAd a y F L) (aAd b y F L) := by
    unfold aAd
    rw [h 69 6 (by decide) (by decide) (by decide), h 69 8 (by decide) (by decide) (by decide)]
    exact of_u (of_u (n1 _ _ _ _ (of_u (n0 _))))
  generalize aAd a y F L = A1 at *
  generalize aAd b y F L = B1 at *
  unfold aMd
  rw [A 87 8 (by decide) (by decide) (by decide), A 130 _ (by decide) (by decide) (by decide), A 128 _ (by decide) (by decide) (by decide)]
  split
  · exact of_u A
  · exact of_u (of_u A)
theorem Ne_zo (h : zOf a b) (hN : qNe b y w pl) : qNe a y w pl := by
  obtain ⟨h1, h2, h3, h4, h5⟩ := hN
  refine ⟨qI_of h1 (Of_sy h), ?_, h3, h4, ?_⟩
  · rw [h 69 6 (by decide) (by decide) (by decide)]
    exact h2
  · unfold qFs at h5 ⊢
    refine ⟨h5.1, ?_, fun n hn => ?_⟩
    · rw [h 87 0 (by decide) (by decide) (by decide)]
      exact h5.2.1
    · rw [h 130 _ (by decide) (by decide) (by decide), h 128 _ (by decide) (by decide) (by decide)]
      exact h5.2.2 n ((Of_al h).mpr hn)
theorem Mk_ad (h : qNe b y w pl) (hA : qAd b d y kk w pl L) (h7 : qA7 b d y) (hm : b 87 8 ≠ 0) : zMk d v ↔ zMk b v ∨ v = y.toNatClampNeg := by
  have q := Ne_b h
  have Id := I_ad h hA
  have d2 := h7.2.2.1 hm
  have nn : ∀ g, g ≠ y.toNatClampNeg → (zNn d g ↔ zNn b g) ∧ (zDn d g ↔ zDn b g) := fun g hg => by
    unfold zNn zDn
    rw [h7.2.2.2 g hg]
    exact ⟨Iff.rfl, Iff.rfl⟩
  have dy : zDn d y.toNatClampNeg := ⟨q.2.1, d2⟩
  constructor
  · intro hz
    refine hz (fun v => zMk b v ∨ v = y.toNatClampNeg) (fun g hg => ?_) (fun u t hu hd he => ?_)
    · by_cases e : g = y.toNatClampNeg
      · exact Or.inr e
      · exact Or.inl (zM_in ((nn g e).1.mp hg))
    · by_cases e : u = y.toNatClampNeg
      · exact absurd (by rw [e]; exact dy) hd
      · by_cases e2 : t = y.toNatClampNeg
        · exact Or.inr e2
        · refine Or.inl (zM_cl (hu.elim id (fun z => absurd z e)) (fun z => hd ((nn u e).2.mpr z)) ?_)
          obtain ⟨w1, j, w2, w3⟩ := (Ed_wp Id.2.2.2.2.2).mp he
          have au : xAl b u := ((Al_ad h hA).mp w2.1).elim id (fun z => absurd z e)
          have w4 := w2.2
          rw [hA.2.1 128 u (by decide) (by decide) e] at w4
          have W : qWp b u j := ⟨au, w4.1, w4.2⟩
          rw [rf_ad h hA W] at w3
          exact (Ed_wp h.1.2.2.2.2.2).mpr ⟨((Al_ad h hA).mp w1).elim id (fun z => absurd z e2), j, W, w3⟩
  · rintro (hz | hz)
    · refine hz _ (fun g hg => ?_) (fun u t hu hd he => ?_)
      · by_cases e : g = y.toNatClampNeg
        · rw [e]
          exact zM_in (Dn_Nn dy)
        · exact zM_in ((nn g e).1.mpr hg)
      · obtain ⟨w1, j, w2, w3⟩ := (Ed_wp h.1.2.2.2.2.2).mp he
        have e := ne_al h w2.1
        refine zM_cl hu (fun z => hd ((nn u e).2.mp z)) ((Ed_wp Id.2.2.2.2.2).mpr ⟨(Al_ad h hA).mpr (Or.inl w1), j, ⟨(Al_ad h hA).mpr (Or.inl w2.1), w2.2.1, ?_⟩, ?_⟩)
        · rw [hA.2.1 128 u (by decide) (by decide) e]
          exact w2.2.2
        · rw [rf_ad h hA w2]
          exact w3
    · rw [hz]
      exact zM_in (Dn_Nn dy)
theorem Dn_ad (h : qNe b y w pl) (h7 : qA7 b d y) (hm : b 87 8 ≠ 0) : zDn d u ↔ zDn b u ∨ u = y.toNatClampNeg := by
  by_cases e : u = y.toNatClampNeg
  · refine ⟨fun _ => Or.inr e, fun _ => ?_⟩
    rw [e]
    exact ⟨(Ne_b h).2.1, h7.2.2.1 hm⟩
  · unfold zDn
    rw [h7.2.2.2 u e]
    exact ⟨Or.inl, fun z => z.elim id (fun z2 => absurd z2 e)⟩
theorem Sm_ad (h : qSm a b) (hN : qNe b y w pl) : qSm (aMd (aAd a y (zFn y kk (w + 1) pl) L) y) (aMd (aAd b y (zFn y kk (w + 1) pl) L) y) := by
  have q := Ne_b hN
  have wb := hN.2.2.2.1
  have o := Ad_zo (y := y) (F := zFn y kk (w + 1) pl) (L := L) h.1
  have hNa := Ne_zo h.1 hN
  have Aa := Ad_of (b := a) (kk := kk) (L := L) q.1 wb.1 wb.2 q.2.2.2.1 (by have := q.2.2.2.2.1; omega)
  have Ab := Ad_of (b := b) (kk := kk) (L := L) q.1 wb.1 wb.2 q.2.2.2.1 (by have := q.2.2.2.2.1; omega)
  have s7 : qA7 a (aMd (aAd a y (zFn y kk (w + 1) pl) L) y) y := A7_of
  have t7 : qA7 b (aMd (aAd b y (zFn y kk (w + 1) pl) L) y) y := A7_of
  generalize aMd (aAd a y (zFn y kk (w + 1) pl) L) y = A at *
  generalize aMd (aAd b y (zFn y kk (w + 1) pl) L) y = B at *
  refine ⟨o, fun m => ?_⟩
  have f7 : ∀ k, k ≠ 2 → B 87 k = b 87 k := Ab.2.2.2.2.2.2.1
  rw [f7 8 (by decide)] at m
  rw [f7 7 (by decide)]
  have ma : a 87 8 ≠ 0 := by
    rw [h.1 87 8 (by decide) (by decide) (by decide)]
    exact m
  have g := h.2 m
  have nb : ¬ xAl b y.toNatClampNeg := Ne_al hN
  have db : ¬ zDn b y.toNatClampNeg := fun z => nb (g.2.1 _ (Dn_Nn z))
  have da : ¬ zDn a y.toNatClampNeg := fun z => nb (Mk_al g.2.1 ((g.1.2.2.2.2.1 _).mp (zM_in (Dn_Nn z))))
  have WB := WQ_ad hN Ab t7 m g.1.2.2.1
  refine ⟨⟨o, WQ_ad hNa Aa s7 ma g.1.2.1, WB, ?_, fun x => ?_, ?_⟩, fun x hx => ?_, fun w7 => ?_⟩
  · rw [s7.1, t7.1]
    exact g.1.2.2.2.1
  · rw [Mk_ad hNa Aa s7 ma, Mk_ad hN Ab t7 m, g.1.2.2.2.2.1 x]
  · rw [cD_up q.2.1 da (fun u => Dn_ad hNa s7 ma), cD_up q.2.1 db (fun u => Dn_ad hN t7 m), g.1.2.2.2.2.2]
  · refine (Al_ad hN Ab).mpr ?_
    by_cases e : x = y.toNatClampNeg
    · exact Or.inr e
    · unfold zNn at hx
      rw [t7.2.2.2 x e] at hx
      exact Or.inl (g.2.1 x hx)
  · have J := g.2.2 w7
    refine ⟨o, ?_⟩
    rw [s7.1, s7.2.1, t7.1, t7.2.1]
    refine ⟨J.2.1, fun k hk => ?_, J.2.2.2⟩
    by_cases e : k = y.toNatClampNeg
    · rw [e, s7.2.2.1 ma, t7.2.2.1 m]
    · rw [s7.2.2.2 k e, t7.2.2.2 k e]
      exact J.2.2.1 k hk
theorem pl_of {v z r : Int} (h0 : 0 ≤ v) (h1 : v + z ≤ r) (hr : r ≤ 4500) (hz : 1 ≤ z) : (Int32.ofInt v).toInt = v := Int32.toInt_ofInt_of_le (by omega) (by omega)
theorem Sm_mk (h : qSm a b) (hK : qK b) (h0 : 0 ≤ w.toInt) (h6 : w.toInt ≤ 60) : qSm (aMk a kk w L rt) (aMk b kk w L rt) := by
  have hz : 1 ≤ (w + 1).toInt := by
    rw [i_p1 (i := w) (by omega)]
    omega
  have rs := Sm_rs (p := (w + 1).toInt) h hK
  unfold aMk
  rw [h.1 69 6 (by decide) (by decide) (by decide), rs.2.2]
  split
  · rename_i w6
    split
    · exact rs.1
    · rename_i w1
      rw [rs.1.1 69 6 (by decide) (by decide) (by decide)]
      have f := Ft_fs rs.2.1.1 (z := (w + 1).toInt) hz w1
      have ep : (Int32.ofInt (aRp b (w + 1).toInt)).toInt = aRp b (w + 1).toInt := pl_of f.1 f.2.1 rs.2.1.1.2.2.2.1.2.2.1.2 hz
      refine Sm_rt (Sm_ad rs.1 (Ne_of rs.2.1.1 ep ?_ h0 h6 rfl ?_))
      · rw [ep]
        exact f.1
      · rw [w6rs]
        exact w6
  · exact h
end SM2
