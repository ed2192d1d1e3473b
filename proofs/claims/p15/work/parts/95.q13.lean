/-! the moving collectors, the class (written by wip/tools/gen15.py) -/
/-! SLIDE: going down, by numbers -/
def zSf (lim : Int) : Nat → (Nat → Nat → Int32) → Int → Int → (Nat → Nat → Int32) × Int
  | 0, a, _, e => (a, e)
  | f + 1, a, p, e => if p < lim then (if (zOb a p).toInt < 0 then zSf lim f a (p + 1) e
      else if a 133 (zOb a p).toNatClampNeg = 0 then zSf lim f (aMo a (zOb a p).toNatClampNeg (Int32.ofInt e)) (p + (a 128 (zOb a p).toNatClampNeg).toInt) (e + (a 128 (zOb a p).toNatClampNeg).toInt)
      else zSf lim f a (p + (a 128 (zOb a p).toNatClampNeg).toInt) (p + (a 128 (zOb a p).toNatClampNeg).toInt)) else (a, e)
def zSd (a : Nat → Nat → Int32) (lim p e : Int) : (Nat → Nat → Int32) × Int := zSf lim (lim - p).toNat a p e
def zS1 (a : Nat → Nat → Int32) : Prop := ∀ n, xAl a n → 1 ≤ (a 128 n).toInt
/-- those below p are done, up to e -/
def qJs (a : Nat → Nat → Int32) (p e : Int) : Prop := qI a ∧ (0 ≤ e ∧ e ≤ p ∧ e ≤ (a 87 0).toInt) ∧ qGd a p ∧ ∀ n, xAl a n → (a 130 n).toInt < p → (a 130 n).toInt + (a 128 n).toInt ≤ e
section F3
variable {a b : Nat → Nat → Int32} {lim p e : Int} {n : Nat} {to : Int32}
theorem Ob_xl (h : 0 ≤ (zOb a p).toInt) : xAl a (zOb a p).toNatClampNeg := by
  unfold zOb at h ⊢
  split at h
  · next z =>
    rw [if_pos z]
    have t := tn_cast z.2.2.1
    exact ⟨by omega, z.2.2.2.2⟩
  · exact absurd h (by decide)
theorem S1_I (h : qI a) : zS1 a := fun n hn => (h.1 n hn).2.1.1
theorem S1_mo (h : zS1 a) : zS1 (aMo a n to) := fun m hm => by
  rw [Mo_r (c := 128) (by decide) (by decide)]
  exact h m (Mo_al.1 hm)
theorem Sf_n {f : Nat} (h : ¬ p < lim) : zSf lim f a p e = (a, e) := by
  cases f with
  | zero => rfl
  | succ f => exact if_neg h
theorem Sf_fr {f : Nat} (h : p < lim) (hf : (zOb a p).toInt < 0) : zSf lim (f + 1) a p e = zSf lim f a (p + 1) e := by
  show (if p < lim then _ else (a, e)) = _
  rw [if_pos h, if_pos hf]
theorem Sf_mv {f : Nat} (h : p < lim) (hf : 0 ≤ (zOb a p).toInt) (hh : a 133 (zOb a p).toNatClampNeg = 0) : zSf lim (f + 1) a p e = zSf lim f (aMo a (zOb a p).toNatClampNeg (Int32.ofInt e)) (p + (a 128 (zOb a p).toNatClampNeg).toInt) (e + (a 128 (zOb a p).toNatClampNeg).toInt) := by
  show (if p < lim then _ else (a, e)) = _
  rw [if_pos h, if_neg (by omega), if_pos hh]
theorem Sf_ho {f : Nat} (h : p < lim) (hf : 0 ≤ (zOb a p).toInt) (hh : a 133 (zOb a p).toNatClampNeg ≠ 0) : zSf lim (f + 1) a p e = zSf lim f a (p + (a 128 (zOb a p).toNatClampNeg).toInt) (p + (a 128 (zOb a p).toNatClampNeg).toInt) := by
  show (if p < lim then _ else (a, e)) = _
  rw [if_pos h, if_neg (by omega), if_neg hh]
theorem Sf_fu : ∀ (f g : Nat) (a : Nat → Nat → Int32) (p e : Int), zS1 a → (lim - p).toNat ≤ f → (lim - p).toNat ≤ g → zSf lim f a p e = zSf lim g a p e := by
  intro f
  induction f with
  | zero =>
    intro g a p e h hf hg
    rw [Sf_n (by omega), Sf_n (by omega)]
  | succ f ih =>
    intro g a p e h hf hg
    by_cases c : p < lim
    · cases g with
      | zero => omega
      | succ g =>
        by_cases d : (zOb a p).toInt < 0
        · rw [Sf_fr c d, Sf_fr c d]
          exact ih g _ _ _ h (by omega) (by omega)
        · have s := h _ (Ob_xl (a := a) (p := p) (by omega))
          by_cases w : a 133 (zOb a p).toNatClampNeg = 0
          · rw [Sf_mv c (by omega) w, Sf_mv c (by omega) w]
            exact ih g _ _ _ (S1_mo h) (by omega) (by omega)
          · rw [Sf_ho c (by omega) w, Sf_ho c (by omega) w]
            exact ih g _ _ _ h (by omega) (by omega)
    · rw [Sf_n c, Sf_n c]
theorem Sd_n (h : ¬ p < lim) : zSd a lim p e = (a, e) := Sf_n h
theorem Sd_fr (h1 : zS1 a) (h : p < lim) (hf : (zOb a p).toInt < 0) : zSd a lim p e = zSd a lim (p + 1) e := by
  unfold zSd
  rw [show (lim - p).toNat = (lim - (p + 1)).toNat + 1 from by omega]
  exact Sf_fr h hf
theorem Sd_mv (h1 : zS1 a) (h : p < lim) (hf : 0 ≤ (zOb a p).toInt) (hh : a 133 (zOb a p).toNatClampNeg = 0) : zSd a lim p e = zSd (aMo a (zOb a p).toNatClampNeg (Int32.ofInt e)) lim (p + (a 128 (zOb a p).toNatClampNeg).toInt) (e + (a 128 (zOb a p).toNatClampNeg).toInt) := by
  have s := h1 _ (Ob_xl (a := a) (p := p) hf)
  unfold zSd
  rw [show (lim - p).toNat = (lim - (p + 1)).toNat + 1 from by omega, Sf_mv h hf hh]
  exact Sf_fu _ _ _ _ _ (S1_mo h1) (by omega) (by omega)
theorem Sd_ho (h1 : zS1 a) (h : p < lim) (hf : 0 ≤ (zOb a p).toInt) (hh : a 133 (zOb a p).toNatClampNeg ≠ 0) : zSd a lim p e = zSd a lim (p + (a 128 (zOb a p).toNatClampNeg).toInt) (p + (a 128 (zOb a p).toNatClampNeg).toInt) := by
  have s := h1 _ (Ob_xl (a := a) (p := p) hf)
  unfold zSd
  rw [show (lim - p).toNat = (lim - (p + 1)).toNat + 1 from by omega, Sf_ho h hf hh]
  exact Sf_fu _ _ _ _ _ h1 (by omega) (by omega)
theorem Js_0 (hI : qI a) : qJs a 0 0 := ⟨hI, ⟨Int.le_refl _, Int.le_refl _, hI.2.2.2.1.2.2.1.1⟩, Gd_0 hI, fun n hn h => by
  have := (hI.1 n hn).1.2
  omega⟩
theorem Ob_pl (hI : qI a) (hn : xAl a n) (hp : (a 130 n).toInt = p) : zOb a p = Int32.ofNat n := by
  have q := hI.1 n hn
  have b4 := hI.2.2.2.1.2.2.1
  have t := tn_cast q.1.2
  have e1 : p.toNat = (a 130 n).toNatClampNeg := by omega
  have hn5 := hn.1
  have e2 : (Int32.ofNat n).toInt = (n : Int) := Int32.toInt_ofNat_of_lt (by omega)
  have e3 := ofN_tn (y := Int32.ofNat n) (by omega)
  have e4 : (Int32.ofNat n).toNatClampNeg = n := by
    have t2 := tn_cast (x := Int32.ofNat n) (by omega)
    omega
  unfold zOb
  rw [e1, q.2.2.2, if_pos ⟨by omega, by omega, by omega, by omega, by rw [e4]; exact hn.2⟩]
theorem Js_fr (h : qJs a p e) (hf : (zOb a p).toInt < 0) (h5 : p < 4500) : qJs a (p + 1) e := by
  have g := Gd_s h.1 h.2.2.1 hf (by have := h.2.1; omega) h5
  refine ⟨h.1, ⟨h.2.1.1, by have := h.2.1; omega, h.2.1.2.2⟩, g, fun n hn hp => ?_⟩
  by_cases w : (a 130 n).toInt < p
  · exact h.2.2.2 n hn w
  · have z := Ob_pl h.1 hn (p := p) (by omega)
    have hn5 := hn.1
    rw [z, Int32.toInt_ofNat_of_lt (by omega)] at hf
    omega
theorem Js_ob (h : qJs a p e) (hf : 0 ≤ (zOb a p).toInt) : xAl a (zOb a p).toNatClampNeg ∧ (a 130 (zOb a p).toNatClampNeg).toInt = p ∧ ∀ m, xAl a m → m ≠ (zOb a p).toNatClampNeg → (a 130 m).toInt < p ∨ p + (a 128 (zOb a p).toNatClampNeg).toInt ≤ (a 130 m).toInt := by
  obtain ⟨n, hn, e1, e2, e3⟩ := OB_al h.1 h.2.2.1 hf
  rw [e3]
  refine ⟨hn, e2, fun m hm hne => ?_⟩
  have d := h.1.2.1 m n hm hn hne
  have s := (h.1.1 m hm).2.1.1
  omega
theorem Js_ho (h : qJs a p e) (hf : 0 ≤ (zOb a p).toInt) : qJs a (p + (a 128 (zOb a p).toNatClampNeg).toInt) (p + (a 128 (zOb a p).toNatClampNeg).toInt) := by
  have g := Gd_nx h.1 h.2.2.1 hf
  have o := Js_ob h hf
  refine ⟨h.1, ⟨by have := h.2.1; omega, Int.le_refl _, g.2.2⟩, g.1, fun m hm hp => ?_⟩
  by_cases w : m = (zOb a p).toNatClampNeg
  · rw [w, o.2.1]
    exact Int.le_refl _
  · have d := o.2.2 m hm w
    have r : (a 130 m).toInt < p := by omega
    have := h.2.2.2 m hm r
    have := h.2.1
    omega
theorem Js_fq (h : qJs a p e) (hf : 0 ≤ (zOb a p).toInt) (he : to.toInt = e) : qFr a (zOb a p).toNatClampNeg to ∧ qMv a (zOb a p).toNatClampNeg to ∧ to.toInt + (a 128 (zOb a p).toNatClampNeg).toInt ≤ (a 87 0).toInt := by
  have g := Gd_nx h.1 h.2.2.1 hf
  have o := Js_ob h hf
  have b := h.2.1
  have q := h.1.1 _ o.1
  have b4 := h.1.2.2.2.1.2.2.1
  refine ⟨fun m hm hne => ?_, ⟨by omega, by omega, by omega, by omega, by omega, Or.inl (by omega)⟩, by omega⟩
  rcases o.2.2 m hm hne with w | w
  · exact Or.inr (by have := h.2.2.2 m hm w; omega)
  · exact Or.inl (by omega)
theorem Js_mv (h : qJs a p e) (hf : 0 ≤ (zOb a p).toInt) (he : to.toInt = e) (hz : (a 87 2).toInt = 0) : qJs (aMo a (zOb a p).toNatClampNeg to) (p + (a 128 (zOb a p).toNatClampNeg).toInt) (e + (a 128 (zOb a p).toNatClampNeg).toInt) := by
  have g := Gd_nx h.1 h.2.2.1 hf
  have o := Js_ob h hf
  have b := h.2.1
  have fq := Js_fq h hf he
  refine ⟨I_mo h.1 o.1 (by omega) fq.2.2 fq.1 hz, ⟨by omega, by omega, by rw [Mo_r (c := 87) (by decide) (by decide)]; omega⟩, fun m hm => ?_, fun m hm hp => ?_⟩
  · have hm' := Mo_al.1 hm
    rw [Mo_r (c := 128) (by decide) (by decide)]
    by_cases w : m = (zOb a p).toNatClampNeg
    · rw [w, Mo_pn]
      omega
    · rw [Mo_po w]
      exact g.1 m hm'
  · have hm' := Mo_al.1 hm
    rw [Mo_r (c := 128) (by decide) (by decide)]
    by_cases w : m = (zOb a p).toNatClampNeg
    · rw [w, Mo_pn, he]
      exact Int.le_refl _
    · rw [Mo_po w] at hp ⊢
      have d := o.2.2 m hm' w
      have r : (a 130 m).toInt < p := by omega
      have := h.2.2.2 m hm' r
      omega
theorem Sf_r {c k : Nat} (h1 : c ≠ 71) (h2 : c ≠ 130) : ∀ (f : Nat) (a : Nat → Nat → Int32) (p e : Int), (zSf lim f a p e).1 c k = a c k := by
  intro f
  induction f with
  | zero => intro a p e; rfl
  | succ f ih =>
    intro a p e
    by_cases c : p < lim
    · by_cases d : (zOb a p).toInt < 0
      · rw [Sf_fr c d]
        exact ih _ _ _
      · by_cases w : a 133 (zOb a p).toNatClampNeg = 0
        · rw [Sf_mv c (by omega) w, ih, Mo_r h1 h2]
        · rw [Sf_ho c (by omega) w]
          exact ih _ _ _
    · rw [Sf_n c]
end F3
