/-! the reference by numbers (written by wip/tools/gen18r.py) -/
section QP
variable {b d : Nat → Nat → Int32} {us nr kr kd ws at' ho wd wi ow rt wk wl co gr : Nat → Int32} {wm nu ro fo le ra pi y i ga gm kk w pl mk : Int32} {n k u s t x : Nat} {L : Int64}
/-- what is asked of a new one -/
def qNe (b : Nat → Nat → Int32) (y w pl : Int32) : Prop := qI b ∧ y = b 69 6 ∧ y.toInt < 512 ∧ (0 ≤ w.toInt ∧ w.toInt ≤ 60) ∧ qFs b (w.toInt + 1) pl.toInt
theorem Ne_b (h : qNe b y w pl) : 0 ≤ y.toInt ∧ y.toNatClampNeg < 512 ∧ ((y.toNatClampNeg : Nat) : Int) = y.toInt ∧ 0 ≤ pl.toInt ∧ pl.toInt + w.toInt + 1 ≤ 4500 ∧ (w + 1).toInt = w.toInt + 1 ∧ (pl + (w + 1)).toInt = pl.toInt + w.toInt + 1 := by
  obtain ⟨hI, h1, h2, h3, h4⟩ := h
  have i4 := hI.2.2.2.1
  have a1 := i4.1.1
  rw [← h1] at a1
  have c := tn_cast a1
  have r5 := i4.2.2.1
  have p0 := h4.1
  have p1 := h4.2.1
  have e1 := i_p1 (i := w) (by omega)
  have e2 : (pl + (w + 1)).toInt = pl.toInt + (w + 1).toInt := i_add (by omega) (by omega)
  omega
theorem Ne_al (h : qNe b y w pl) : ¬ xAl b y.toNatClampNeg := fun z => by
  have q := Ne_b h
  have i := (h.1.1 _ z).1.1
  rw [← h.2.1] at i
  omega
theorem Al_ad (h : qNe b y w pl) (hA : qAd b d y kk w pl L) : xAl d x ↔ xAl b x ∨ x = y.toNatClampNeg := by
  have q := Ne_b h
  unfold xAl
  by_cases z : x = y.toNatClampNeg
  · rw [z, hA.1.1]
    exact ⟨fun _ => Or.inr rfl, fun _ => ⟨q.2.1, by decide⟩⟩
  · rw [hA.2.1 126 x (by decide) (by decide) z]
    exact ⟨Or.inl, fun w => w.elim id (fun w2 => absurd w2 z)⟩
theorem ne_al (h : qNe b y w pl) (hx : xAl b x) : x ≠ y.toNatClampNeg := fun z => Ne_al h (z ▸ hx)
theorem I_ad (h : qNe b y w pl) (hA : qAd b d y kk w pl L) : qI d := by
  have q := Ne_b h
  have al := fun x => Al_ad (x := x) h hA
  have nal := Ne_al h
  obtain ⟨hI, hy, hy5, hw, hF⟩ := h
  obtain ⟨⟨a1, a2, a3, a4, a5⟩, b1, ⟨c1, c2⟩, ⟨d1, d2, d3⟩, ⟨e1, e2, e3, e4⟩, ⟨f1, f2⟩, g1, g2⟩ := hA
  have i4 := hI.2.2.2.1
  have e6 : (b 69 6 + 1).toInt = (b 69 6).toInt + 1 := i_p1 (by rw [← hy]; omega)
  have b0 : b 126 y.toNatClampNeg = 0 := by
    by_cases z : b 126 y.toNatClampNeg = 0
    · exact z
    · exact absurd ⟨q.2.1, z⟩ nal
  have old : ∀ x, xAl b x → x ≠ y.toNatClampNeg := fun x hx z => nal (z ▸ hx)
  have g87 : ∀ k, k ≠ 2 → d 87 k = b 87 k := g1
  refine ⟨fun x hx => ?_, fun x x' hx hx' hne => ?_, fun p hp hc => ?_, ⟨?_, ?_, ?_, ?_, ?_, ?_⟩, ?_, fun x hx k => ?_⟩
  · rcases (al x).mp hx with z | z
    · have o := old x z
      have i := hI.1 x z
      have fs := hF.2.2 x z
      have cx := tn_cast i.1.2
      rw [b1 130 x (by decide) (by decide) o, b1 128 x (by decide) (by decide) o, f1, e6, g87 0 (by decide), d3 _ (by have := i.2.1.1; omega)]
      exact ⟨⟨by omega, i.1.2⟩, i.2⟩
    · rw [z, a2, a3, f1, e6, g87 0 (by decide), d1, ← hy, q.2.2.2.2.2.1]
      exact ⟨⟨by omega, q.2.2.2.1⟩, ⟨by omega, by omega⟩, by have := hF.2.1; omega, (ofN_tn q.1).symm⟩
  · rcases (al x).mp hx with z | z
    · rcases (al x').mp hx' with z' | z'
      · rw [b1 130 x (by decide) (by decide) (old x z), b1 128 x (by decide) (by decide) (old x z), b1 130 x' (by decide) (by decide) (old x' z'), b1 128 x' (by decide) (by decide) (old x' z')]
        exact hI.2.1 x x' z z' hne
      · rw [b1 130 x (by decide) (by decide) (old x z), b1 128 x (by decide) (by decide) (old x z), z', a2, a3, q.2.2.2.2.2.1]
        have := hF.2.2 x z
        omega
    · rcases (al x').mp hx' with z' | z'
      · rw [b1 130 x' (by decide) (by decide) (old x' z'), b1 128 x' (by decide) (by decide) (old x' z'), z, a2, a3, q.2.2.2.2.2.1]
        have := hF.2.2 x' z'
        omega
      · exact absurd (z.trans z'.symm) hne
  · have hn := hc y.toNatClampNeg ((al _).mpr (Or.inr rfl))
    rw [a2, a3, q.2.2.2.2.2.1] at hn
    rw [d3 p (by omega)]
    refine hI.2.2.1 p hp (fun x hx w => ?_)
    have := hc x ((al x).mpr (Or.inl hx))
    rw [b1 130 x (by decide) (by decide) (old x hx), b1 128 x (by decide) (by decide) (old x hx)] at this
    exact this w
  · rw [f1, e6]
    have := i4.1
    rw [← hy] at this ⊢
    omega
  · rw [e4]
    exact i4.2.1
  · rw [g87 0 (by decide)]
    exact i4.2.2.1
  · rw [g2, g87 0 (by decide), q.2.2.2.2.2.2]
    have := hF.2.1
    omega
  · rw [g2, q.2.2.2.2.2.2]
    intro x hx w2
    rcases (al x).mp hx with z | z
    · rw [b1 130 x (by decide) (by decide) (old x z), b1 128 x (by decide) (by decide) (old x z)] at w2
      have := hF.2.2 x z
      omega
    · rw [z, a2, a3, q.2.2.2.2.2.1] at w2
      omega
  · rw [g87 6 (by decide)]
    exact i4.2.2.2.2.2
  · have su := Su_dn (a := d) (b := b) (k := y.toNatClampNeg) (n := 512) q.2.1 (by rw [a1]; decide) b0 (fun x _ hx => ⟨b1 126 x (by decide) (by decide) hx, b1 128 x (by decide) (by decide) hx⟩)
    rw [a2] at su
    rw [f2, hI.2.2.2.2.1, su, show qSu d 512 = (qSu d 512 - (w + 1).toInt) + (w + 1).toInt by omega, Int32.ofInt_add, Int32.ofInt_toInt]
    rw [show qSu d 512 - (w + 1).toInt + (w + 1).toInt - (w + 1).toInt = qSu d 512 - (w + 1).toInt by omega]
  · have nx : x ≠ y.toNatClampNeg := fun z => hx ((al x).mpr (Or.inr z))
    rw [c2 x nx]
    exact hI.2.2.2.2.2 x (fun z => hx ((al x).mpr (Or.inl z))) k
/-- words of those that were there stay -/
theorem rf_ad (h : qNe b y w pl) (hA : qAd b d y kk w pl L) (hW : qWp b x i) : aRef d x i = aRef b x i := by
  have q := Ne_b h
  have o := ne_al h hW.1
  have p := wp_i h.1 hW
  have cp := tn_cast p.2.1
  have fs := h.2.2.2.2.2.2 x hW.1
  have i0 := hW.2
  unfold aRef
  rw [hA.2.2.1.2 x o, hA.2.1 130 x (by decide) (by decide) o, hA.2.2.2.1.2.2 (b 130 x + 1 + i).toNatClampNeg (by omega)]
/-- the new one refers to nothing -/
theorem rf_nw (h : qNe b y w pl) (hA : qAd b d y kk w pl L) (h0 : 0 ≤ i.toInt) (h1 : i.toInt < w.toInt) : aRef d y.toNatClampNeg i = -1 := by
  unfold aRef
  split
  · next z =>
    rw [hA.1.2.2.1, hA.2.2.2.1.2.1 i h0 h1, if_neg]
    rw [hA.2.2.1.1, ofN_tn h0] at z
    exact z.1
  · rfl
theorem RB_ad (h : qNe b y w pl) (hA : qAd b d y kk w pl L) (hR : qRB (zmk us s) nr kr kd ws at' ho wd wi ow rt wk wl wm nu ro fo le ra pi b) (hs : s < 3100) (hu : us s ≠ 0) (hn : nr s = y) (hw : ws s = w) (hp : at' s = pl) (hh : ho s = 0) (hi : wi s = 0) (hO : ow pl.toNatClampNeg = Int32.ofNat s) (hz : ∀ j : Nat, (j : Int) < (ws s).toInt → (zrf kr kd wd s j).toInt = -1) (hb : ∀ j : Nat, (j : Int) < w.toInt → (zbit L (Int32.ofNat j) ≠ 0 ↔ qIr kr kd s j)) : qRB us nr kr kd ws at' ho wd wi ow rt wk wl wm (nu + 1) ro fo (pl + (w + 1)) ra pi d := by
  have q := Ne_b h
  have zk : ∀ t, t ≠ s → zmk us s t = us t := fun t ht => if_neg ht
  have us2 : ∀ t, us t ≠ 0 → t ≠ s → zmk us s t ≠ 0 := fun t h1 h2 => by
    rw [zk t h2]
    exact h1
  have uU : ∀ x : Int32, qU (zmk us s) x → qU us x := fun x hx => hx.imp id (fun z => ⟨z.1, fun w => z.2 (by
    unfold zmk
    by_cases e : x.toNatClampNeg = s
    · rw [if_pos e]
    · rw [if_neg e]
      exact w)⟩)
  have old : ∀ t, t < 3100 → us t ≠ 0 → t ≠ s → (nr t).toNatClampNeg ≠ y.toNatClampNeg := fun t ht hv e => ne_al h (R1_al hR.1 ht (us2 t hv e))
  refine ⟨⟨fun t ht hv => ?_, fun t t' ht ht' hv hv' e => ?_, fun x hx ha => ?_⟩, fun t ht hv j hj => ?_, fun k hk => ?_, fun k hk => ?_, ⟨?_, fun k hk => ?_⟩, fun t ht hv => ?_, fun t ht hv => ?_, ?_⟩
  · by_cases e : t = s
    · rw [e, hn, hw, hp, hh, hA.1.1, hA.1.2.1, hA.1.2.2.1, hA.1.2.2.2.1]
      exact ⟨⟨q.1, h.2.2.1⟩, by decide, rfl, rfl, rfl, h.2.2.2.1, q.2.2.2.1⟩
    · have o := old t ht hv e
      rw [hA.2.1 126 _ (by decide) (by decide) o, hA.2.1 128 _ (by decide) (by decide) o, hA.2.1 130 _ (by decide) (by decide) o, hA.2.1 133 _ (by decide) (by decide) o]
      exact hR.1.1 t ht (us2 t hv e)
  · by_cases e1 : t = s
    · by_cases e2 : t' = s
      · rw [e1, e2]
      · rw [e1, hn] at e
        exact absurd (by rw [← e]) (old t' ht' hv' e2)
    · by_cases e2 : t' = s
      · rw [e2, hn] at e
        exact absurd (by rw [e]) (old t ht hv e1)
      · exact hR.1.2.1 t t' ht ht' (us2 t hv e1) (us2 t' hv' e2) e
  · rcases (Al_ad h hA).mp (show xAl d x from ⟨hx, ha⟩) with z | z
    · obtain ⟨t, ht, hv, en⟩ := hR.1.2.2 x hx z.2
      have ts : t ≠ s := fun e => hv (by unfold zmk; rw [if_pos e])
      rw [zk t ts] at hv
      exact ⟨t, ht, hv, en⟩
    · refine ⟨s, hs, hu, ?_⟩
      rw [hn, z]
      exact (ofN_tn q.1).symm
  · by_cases e : t = s
    · rw [e] at hj ⊢
      have zr : zrf kr kd wd s j = -1 := Int32.toInt_inj.mp (hz j hj)
      rw [hw] at hj
      have ej : (Int32.ofNat j).toInt = (j : Int) := Int32.toInt_ofNat_of_lt (by have := h.2.2.2.1; omega)
      rw [zr, hn, rf_nw h hA (i := Int32.ofNat j) (by omega) (by omega), hA.2.2.1.1]
      exact ⟨Or.inl (by decide), (No_n (by decide)).symm, hb j hj⟩
    · have r := hR.2.1 t ht (us2 t hv e) j hj
      have tt := hR.1.1 t ht (us2 t hv e)
      have ej : (Int32.ofNat j).toInt = (j : Int) := Int32.toInt_ofNat_of_lt (by have := tt.2.2.2.2.2.1; omega)
      rw [rf_ad h hA (Wp_s hR ht (us2 t hv e) (i := Int32.ofNat j) (by omega) (by omega)), hA.2.2.1.2 _ (old t ht hv e)]
      exact ⟨uU _ r.1, r.2⟩
  · have r := hR.2.2.1 k hk
    rw [hA.2.2.2.2.1.1]
    exact ⟨uU _ r.1, r.2⟩
  · have r := hR.2.2.2.1 k hk
    rw [hA.2.2.2.2.1.2.1]
    exact ⟨uU _ r.1, r.2⟩
  · rw [hA.2.2.2.2.1.2.2.2]
    exact hR.2.2.2.2.1.1
  · have r := hR.2.2.2.2.1.2 k hk
    rw [hA.2.2.2.2.1.2.2.1]
    have u := uU (wl k) (Or.inr r.1.2)
    exact ⟨⟨r.1.1, (U_y u r.1.1).1, (U_y u r.1.1).2⟩, r.2⟩
  · by_cases e : t = s
    · rw [e, hn, hi]
      exact hA.1.2.2.2.2
    · rw [hA.2.1 134 _ (by decide) (by decide) (old t ht hv e)]
      exact hR.2.2.2.2.2.1 t ht (us2 t hv e)
  · by_cases e : t = s
    · rw [e, hp]
      exact hO
    · exact hR.2.2.2.2.2.2.1 t ht (us2 t hv e)
  · have g := hR.2.2.2.2.2.2.2
    have g1 := hA.2.2.2.2.2.2.1
    refine ⟨?_, ?_, ?_, hA.2.2.2.2.2.2.2, ?_, ?_⟩
    · rw [hA.2.2.2.2.2.1.1, g.1]
    · rw [g1 0 (by decide)]
      exact g.2.1
    · rw [g1 1 (by decide)]
      exact g.2.2.1
    · rw [g1 6 (by decide)]
      exact g.2.2.2.2.1
    · rw [g1 7 (by decide)]
      exact g.2.2.2.2.2
end QP
