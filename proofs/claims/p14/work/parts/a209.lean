/-! from 95.q13 -/
/-! the moving collectors, the class (written by wip/tools/gen15.py) -/
/-! SLIDE: going down, by numbers -/
def zSf (lim : Int) : Nat → (Nat → Nat → Int32) → Int → Int → (Nat → Nat → Int32) × Int
  | 0, a, _, e => (a, e)
  | f + 1, a, p, e => if p < lim then (if (zOb a p).toInt < 0 then zSf lim f a (p + 1) e
      else if a 133 (zOb a p).toNatClampNeg = 0 then zSf lim f (aMo a (zOb a p).toNatClampNeg (Int32.ofInt e)) (p + (a 128 (zOb a p).toNatClampNeg).toInt) (e + (a 128 (zOb a p).toNatClampNeg).toInt)
      else zSf lim f a (p + (a 128 (zOb a p).toNatClampNeg).toInt) (p + (a 128 (zOb a p).toNatClampNeg).toInt)) else (a, e)
def zSd (a : Nat → Nat → Int32) (lim p e : Int) : (Nat → Nat → Int32) × Int := zSf lim (lim - p).toNat a p e
def zS1 (a : Nat → Nat → Int32) : Prop := ∀ n, xAl a n → 1 ≤ (a 128 n).toInt
/-- those below p are done, up to e -/
def qJs (a : Nat → Nat → Int32) (p e : Int) : Prop := qI a ∧ (0 ≤ e ∧ e ≤ p ∧ e ≤ (a 87 0).toInt) ∧ qGd a p ∧ ∀ n, xAl a n → (a 130 n).toInt < p → (a 130 n).toInt + (a 128 n).toInt ≤ e
section F3
variable {a b : Nat → Nat → Int32} {lim p e : Int} {n : Nat} {to : Int32}
theorem Ob_xl (h : 0 ≤ (zOb a p).toInt) : xAl a (zOb a p).toNatClampNeg := by
  unfold zOb at h ⊢
  split at h
  · next z =>
    rw [if_pos z]
    have t := tn_cast z.2.2.1
    exact ⟨by omega, z.2.2.2.2⟩
  · exact absurd h (by decide)
theorem S1_I (h : qI a) : zS1 a := fun n hn => (h.1 n hn).2.1.1
theorem S1_mo (h : zS1 a) : zS1 (aMo a n to) := fun m hm => by
  rw [Mo_r (c := 128) (by decide) (by decide)]
  exact h m (Mo_al.1 hm)
theorem Sf_n {f : Nat} (h : ¬ p < lim) : zSf lim f a p e = (a, e) := by
  cases f with
  | zero => rfl
  | succ f => exact if_neg h
theorem Sf_fr {f : Nat} (h : p < lim) (hf : (zOb a p).toInt < 0) : zSf lim (f + 1) a p e = zSf lim f a (p + 1) e := by
  show (if p < lim then _ else (a, e)) = _
  rw [if_pos h, if_pos hf]
theorem Sf_mv {f : Nat} (h : p < lim) (hf : 0 ≤ (zOb a p).toInt) (hh : a 133 (zOb a p).toNatClampNeg = 0) : zSf lim (f + 1) a p e = zSf lim f (aMo a (zOb a p).toNatClampNeg (Int32.ofInt e)) (p + (a 128 (zOb a p).toNatClampNeg).toInt) (e + (a 128 (zOb a p).toNatClampNeg).toInt) := by
  show (if p < lim then _ else (a, e)) = _
  rw [if_pos h, if_neg (by omega), if_pos hh]
theorem Sf_ho {f : Nat} (h : p < lim) (hf : 0 ≤ (zOb a p).toInt) (hh : a 133 (zOb a p).toNatClampNeg ≠ 0) : zSf lim (f + 1) a p e = zSf lim f a (p + (a 128 (zOb a p).toNatClampNeg).toInt) (p + (a 128 (zOb a p).toNatClampNeg).toInt) := by
  show (if p < lim then _ else (a, e)) = _
  rw [if_pos h, if_neg (by omega), if_neg hh]
theorem Sf_fu : ∀ (f g : Nat) (a : Nat → Nat → Int32) (p e : Int), zS1 a → (lim - p).toNat ≤ f → (lim - p).toNat ≤ g → zSf lim f a p e = zSf lim g a p e := by
  intro f
  induction f with
  | zero =>
    intro g a p e h hf hg
    rw [Sf_n (by omega), Sf_n (by omega)]
  | succ f ih =>
    intro g a p e h hf hg
    by_cases c : p < lim
    · cases g with
      | zero => omega
      | succ g =>
        by_cases d : (zOb a p).toInt < 0
        · rw [Sf_fr c d, Sf_fr c d]
          exact ih g _ _ _ h (by omega) (by omega)
        · have s := h _ (Ob_xl (a := a) (p := p) (by omega))
          by_cases w : a 133 (zOb a p).toNatClampNeg = 0
          · rw [Sf_mv c (by omega) w, Sf_mv c (by omega) w]
            exact ih g _ _ _ (S1_mo h) (by omega) (by omega)
          · rw [Sf_ho c (by omega) w, Sf_ho c (by omega) w]
            exact ih g _ _ _ h (by omega) (by omega)
    · rw [Sf_n c, Sf_n c]
theorem Sd_n (h : ¬ p < lim) : zSd a lim p e = (a, e) := Sf_n h
theorem Sd_fr (h1 : zS1 a) (h : p < lim) (hf : (zOb a p).toInt < 0) : zSd a lim p e = zSd a lim (p + 1) e := by
  unfold zSd
  rw [show (lim - p).toNat = (lim - (p + 1)).toNat + 1 from by omega]
  exact Sf_fr h hf
theorem Sd_mv (h1 : zS1 a) (h : p < lim) (hf : 0 ≤ (zOb a p).toInt) (hh : a 133 (zOb a p).toNatClampNeg = 0) : zSd a lim p e = zSd (aMo a (zOb a p).toNatClampNeg (Int32.ofInt e)) lim (p + (a 128 (zOb a p).toNatClampNeg).toInt) (e + (a 128 (zOb a p).toNatClampNeg).toInt) := by
  have s := h1 _ (Ob_xl (a := a) (p := p) hf)
  unfold zSd
  rw [show (lim - p).toNat = (lim - (p + 1)).toNat + 1 from by omega, Sf_mv h hf hh]
  exact Sf_fu _ _ _ _ _ (S1_mo h1) (by omega) (by omega)
theorem Sd_ho (h1 : zS1 a) (h : p < lim) (hf : 0 ≤ (zOb a p).toInt) (hh : a 133 (zOb a p).toNatClampNeg ≠ 0) : zSd a lim p e = zSd a lim (p + (a 128 (zOb a p).toNatClampNeg).toInt) (p + (a 128 (zOb a p).toNatClampNeg).toInt) := by
  have s := h1 _ (Ob_xl (a := a) (p := p) hf)
  unfold zSd
  rw [show (lim - p).toNat = (lim - (p + 1)).toNat + 1 from by omega, Sf_ho h hf hh]
  exact Sf_fu _ _ _ _ _ h1 (by omega) (by omega)
theorem Js_0 (hI : qI a) : qJs a 0 0 := ⟨hI, ⟨Int.le_refl _, Int.le_refl _, hI.2.2.2.1.2.2.1.1⟩, Gd_0 hI, fun n hn h => by
  have := (hI.1 n hn).1.2
  omega⟩
theorem Ob_pl (hI : qI a) (hn : xAl a n) (hp : (a 130 n).toInt = p) : zOb a p = Int32.ofNat n := by
  have q := hI.1 n hn
  have b4 := hI.2.2.2.1.2.2.1
  have t := tn_cast q.1.2
  have e1 : p.toNat = (a 130 n).toNatClampNeg := by omega
  have hn5 := hn.1
  have e2 : (Int32.ofNat n).toInt = (n : Int) := Int32.toInt_ofNat_of_lt (by omega)
  have e3 := ofN_tn (y := Int32.ofNat n) (by omega)
  have e4 : (Int32.ofNat n).toNatClampNeg = n := by
    have t2 := tn_cast (x := Int32.ofNat n) (by omega)
    omega
  unfold zOb
  rw [e1, q.2.2.2, if_pos ⟨by omega, by omega, by omega, by omega, by rw [e4]; exact hn.2⟩]
theorem Js_fr (h : qJs a p e) (hf : (zOb a p).toInt < 0) (h5 : p < 4500) : qJs a (p + 1) e := by
  have g := Gd_s h.1 h.2.2.1 hf (by have := h.2.1; omega) h5
  refine ⟨h.1, ⟨h.2.1.1, by have := h.2.1; omega, h.2.1.2.2⟩, g, fun n hn hp => ?_⟩
  by_cases w : (a 130 n).toInt < p
  · exact h.2.2.2 n hn w
  · have z := Ob_pl h.1 hn (p := p) (by omega)
    have hn5 := hn.1
    rw [z, Int32.toInt_ofNat_of_lt (by omega)] at hf
    omega
theorem Js_ob (h : qJs a p e) (hf : 0 ≤ (zOb a p).toInt) : xAl a (zOb a p).toNatClampNeg ∧ (a 130 (zOb a p).toNatClampNeg).toInt = p ∧ ∀ m, xAl a m → m ≠ (zOb a p).toNatClampNeg → (a 130 m).toInt < p ∨ p + (a 128 (zOb a p).toNatClampNeg).toInt ≤ (a 130 m).toInt := by
  obtain ⟨n, hn, e1, e2, e3⟩ := OB_al h.1 h.2.2.1 hf
  rw [e3]
  refine ⟨hn, e2, fun m hm hne => ?_⟩
  have d := h.1.2.1 m n hm hn hne
  have s := (h.1.1 m hm).2.1.1
  omega
theorem Js_ho (h : qJs a p e) (hf : 0 ≤ (zOb a p).toInt) : qJs a (p + (a 128 (zOb a p).toNatClampNeg).toInt) (p + (a 128 (zOb a p).toNatClampNeg).toInt) := by
  have g := Gd_nx h.1 h.2.2.1 hf
  have o := Js_ob h hf
  refine ⟨h.1, ⟨by have := h.2.1; omega, Int.le_refl _, g.2.2⟩, g.1, fun m hm hp => ?_⟩
  by_cases w : m = (zOb a p).toNatClampNeg
  · rw [w, o.2.1]
    exact Int.le_refl _
  · have d := o.2.2 m hm w
    have r : (a 130 m).toInt < p := by omega
    have := h.2.2.2 m hm r
    have := h.2.1
    omega
theorem Js_fq (h : qJs a p e) (hf : 0 ≤ (zOb a p).toInt) (he : to.toInt = e) : qFr a (zOb a p).toNatClampNeg to ∧ qMv a (zOb a p).toNatClampNeg to ∧ to.toInt + (a 128 (zOb a p).toNatClampNeg).toInt ≤ (a 87 0).toInt := by
  have g := Gd_nx h.1 h.2.2.1 hf
  have o := Js_ob h hf
  have b := h.2.1
  have q := h.1.1 _ o.1
  have b4 := h.1.2.2.2.1.2.2.1
  refine ⟨fun m hm hne => ?_, ⟨by omega, by omega, by omega, by omega, by omega, Or.inl (by omega)⟩, by omega⟩
  rcases o.2.2 m hm hne with w | w
  · exact Or.inr (by have := h.2.2.2 m hm w; omega)
  · exact Or.inl (by omega)
theorem Js_mv (h : qJs a p e) (hf : 0 ≤ (zOb a p).toInt) (he : to.toInt = e) (hz : (a 87 2).toInt = 0) : qJs (aMo a (zOb a p).toNatClampNeg to) (p + (a 128 (zOb a p).toNatClampNeg).toInt) (e + (a 128 (zOb a p).toNatClampNeg).toInt) := by
  have g := Gd_nx h.1 h.2.2.1 hf
  have o := Js_ob h hf
  have b := h.2.1
  have fq := Js_fq h hf he
  refine ⟨I_mo h.1 o.1 (by omega) fq.2.2 fq.1 hz, ⟨by omega, by omega, by rw [Mo_r (c := 87) (by decide) (by decide)]; omega⟩, fun m hm => ?_, fun m hm hp => ?_⟩
  · have hm₉ := Mo_al.1 hm
    rw [Mo_r (c := 128) (by decide) (by decide)]
    by_cases w : m = (zOb a p).toNatClampNeg
    · rw [w, Mo_pn]
      omega
    · rw [Mo_po w]
      exact g.1 m hm₉
  · have hm₉ := Mo_al.1 hm
    rw [Mo_r (c := 128) (by decide) (by decide)]
    by_cases w : m = (zOb a p).toNatClampNeg
    · rw [w, Mo_pn, he]
      exact Int.le_refl _
    · rw [Mo_po w] at hp ⊢
      have d := o.2.2 m hm₉ w
      have r : (a 130 m).toInt < p := by omega
      have := h.2.2.2 m hm₉ r
      omega
theorem Sf_r {c k : Nat} (h1 : c ≠ 71) (h2 : c ≠ 130) : ∀ (f : Nat) (a : Nat → Nat → Int32) (p e : Int), (zSf lim f a p e).1 c k = a c k := by
  intro f
  induction f with
  | zero => intro a p e; rfl
  | succ f ih =>
    intro a p e
    by_cases c : p < lim
    · by_cases d : (zOb a p).toInt < 0
      · rw [Sf_fr c d]
        exact ih _ _ _
      · by_cases w : a 133 (zOb a p).toNatClampNeg = 0
        · rw [Sf_mv c (by omega) w, ih, Mo_r h1 h2]
        · rw [Sf_ho c (by omega) w]
          exact ih _ _ _
    · rw [Sf_n c]
end F3

/-! from 95.q14 -/
/-! the moving collectors, the class (written by wip/tools/gen15.py) -/
/-! SLIDE: cleaning and room, by numbers (87: 0 the ROOM, 2 the top) -/
def zf8 (I : Nat → Nat → Int32) (k : Nat) : Int32 := if k = 0 then I 80 2 else if k = 2 then I 80 3 else 0
def zf0 (I : Nat → Nat → Int32) (k : Nat) : Int32 := if k = 0 then I 80 2 else 0
def aL (S : ma_S) : Nat → Nat → Int32 := aM (zf8 (mI S)) S
def lSd (a : Nat → Nat → Int32) : (Nat → Nat → Int32) × Int := zSd (ma_u a 87 2 0) (a 87 0).toInt 0 0
def lCl (a : Nat → Nat → Int32) : Nat → Nat → Int32 := ma_u (lSd (aSw a)).1 87 2 (Int32.ofInt (lSd (aSw a)).2)
def lRs (a : Nat → Nat → Int32) (z : Int) : Nat → Nat → Int32 := if (a 87 0).toInt < (a 87 2).toInt + z then lCl a else a
def lRp (a : Nat → Nat → Int32) (z : Int) : Int := if (lRs a z 87 0).toInt < (lRs a z 87 2).toInt + z then -1 else (lRs a z 87 2).toInt
/-- all end at or below the top -/
def qTp (a : Nat → Nat → Int32) : Prop := ∀ n, xAl a n → (a 130 n).toInt + (a 128 n).toInt ≤ (a 87 2).toInt
section F4
variable {a b : Nat → Nat → Int32} {S S₉ : ma_S} {R : Nat → Option Nat} {x y w pl i : Int32} {c k n : Nat} {z p e : Int} {F : Nat → Int32} {L : Int64} {q : Nat → Int32}
theorem aL_o (h : c ≠ 87) : aL S c k = aS 75 S c k := if_neg h
theorem aL_7 : aL S 87 k = zf8 (mI S) k := aM_7
theorem aL_70 : aL S 87 0 = mI S 80 2 := rfl
theorem L_8 : aL S 87 8 = 0 := rfl
theorem zf_80 (h : mI S₉ 80 = mI S 80) : zf8 (mI S₉) = zf8 (mI S) := by
  funext k
  unfold zf8
  rw [h]
theorem L_of (h : zO7 (aS 75 S₉) b) (h7 : ∀ k, b 87 k = zf8 (mI S₉) k) : aL S₉ = b := by
  funext c k
  by_cases w : c = 87
  · rw [w, h7]
    exact aL_7
  · rw [aL_o w]
    exact h c k w
theorem L_o7 : zO7 (aS 75 S) (aL S) := fun c k q => (aL_o q).symm
theorem L_ad (h : aS 75 S₉ = aAd (aS 75 S) y F L) (h2 : zf8 (mI S₉) = zf8 (mI S)) : aL S₉ = aAd (aL S) y F L := L_of (by rw [h]; exact o7_ad L_o7) (fun k => by rw [ad_87, aL_7, h2])
theorem L_r0 (h : aS 75 S₉ = aR0 (aS 75 S) i y) (h2 : zf8 (mI S₉) = zf8 (mI S)) : aL S₉ = aR0 (aL S) i y := by
  refine L_of ?_ (fun k => ?_)
  · rw [h]
    unfold aR0
    have e : aNm (aL S) y = aNm (aS 75 S) y := by
      unfold aNm
      rw [aL_o (c := 126) (by decide)]
    rw [e]
    exact o7_u L_o7
  · unfold aR0
    rw [xu_o (by omega), aL_7, h2]
theorem L_th {nu kd sz pl : Int32} {rr : Int64} (hN : 126 ≤ mN S) (hr : ∀ n c, mR S 70 n = some c → c < mN S) : aL (zTh S nu kd sz rr pl) = aL S := by
  refine L_of ?_ (fun k => ?_)
  · rw [mk_a (Or.inl rfl) hN hr]
    exact L_o7
  · rw [aL_7]
    unfold zf8
    rw [zTh_lo (by decide) hN, zTh_lo (by decide) hN]
theorem aL_p (hR : xB S R) : aL (ma_put S 80 3 (.inl x)) = ma_u (aL S) 87 2 x := by
  have e := (xC_n (W := 75) (c := 80) (k := 3) (x := x) (xC_o hR) ⟨by decide, Or.inl ⟨rfl, rfl⟩⟩).1
  refine L_of (fun c k hc => ?_) (fun k => ?_)
  · rw [e, xu_o (fun w => hc w.1), aL_o hc]
  · by_cases w2 : k = 2
    · rw [w2, xu_s]
      rfl
    · rw [xu_o (fun w => w2 w.2), aL_7]
      unfold zf8
      by_cases w0 : k = 0
      · rw [if_pos w0, if_pos w0]
        rfl
      · rw [if_neg w0, if_neg w0, if_neg w2, if_neg w2]
/-- behind a sliding: the top is set -/
theorem aL_q (hR : xB S R) (h2 : mI S 80 2 = q 0) (h : ∀ k, k ≠ 0 → q k = 0) : aL (ma_put S 80 3 (.inl x)) = ma_u (aM q S) 87 2 x := by
  rw [aL_p hR]
  funext c k
  show (if c = 87 ∧ k = 2 then x else aL S c k) = (if c = 87 ∧ k = 2 then x else aM q S c k)
  split
  · rfl
  · next w =>
    by_cases c7 : c = 87
    · rw [c7, aL_7, aM_7]
      unfold zf8
      by_cases w0 : k = 0
      · rw [if_pos w0, w0, h2]
      · rw [if_neg w0, if_neg (fun z => w ⟨c7, z⟩), h k w0]
    · rw [aL_o c7, aM_o c7]
theorem M0_u (h : aS 75 S₉ = aSw (aS 75 S)) (h2 : mI S₉ 80 2 = mI S 80 2) : aM (zf0 (mI S₉)) S₉ = ma_u (aSw (aL S)) 87 2 0 := by
  funext c k
  show _ = if c = 87 ∧ k = 2 then 0 else aSw (aL S) c k
  by_cases w : c = 87
  · rw [w, aM_7]
    unfold zf0
    by_cases w0 : k = 0
    · rw [if_pos w0, if_neg (by omega), sw_87, w0, h2]
      rfl
    · rw [if_neg w0]
      by_cases w2 : k = 2
      · rw [if_pos ⟨rfl, w2⟩]
      · rw [if_neg (fun z => w2 z.2), sw_87, aL_7]
        unfold zf8
        rw [if_neg w0, if_neg w2]
  · rw [aM_o w, if_neg (fun z => w z.1), h]
    exact o7_sw L_o7 c k w
theorem L_sv : aSv (aS 75 S) = aSv (aL S) := sv_eq (fun c k w => (aL_o w).symm)
theorem I_sw (hI : qI a) : qI (aSw a) := by
  have g := I_gf ((aRA a 69 6).toInt - (0 : Int32).toInt).toNat 0 _ (qI_of hI RA_zo) (E0_ra hI)
  exact I_mv g.1 g.2.1.2.2.2.2.2.1
theorem Gf_r (h1 : c ≠ 69) (h2 : c ≠ 73) (h3 : c ≠ 74) (h4 : c ≠ 134) (h5 : c ≠ 75) (h6 : c ≠ 76) (h7 : c ≠ 77) : ∀ (f : Nat) (x : Int32) (a : Nat → Nat → Int32), aGf f x a c k = a c k := by
  intro f
  induction f with
  | zero => intro x a; rfl
  | succ f ih =>
    intro x a
    by_cases w : aGc a x
    · rw [aGf_y w, ih, aSp_o ⟨h5, h6, h7⟩, ← cm_of (a := aGr a x) (y := x) c k h5 h6 h7, gr_r h2 h4 h3 h1]
    · rw [aGf_n w]
      exact ih _ _
/-- who is there behind a cleaning was there, where it is -/
theorem Al_sw (hI : qI a) (h : xAl (aSw a) n) : xAl a n ∧ aSw a 130 n = a 130 n ∧ aSw a 128 n = a 128 n ∧ aSw a 133 n = a 133 n := by
  have g := I_gf ((aRA a 69 6).toInt - (0 : Int32).toInt).toNat 0 _ (qI_of hI RA_zo) (E0_ra hI)
  have r : ∀ c k, c ≠ 69 → c ≠ 73 → c ≠ 74 → c ≠ 134 → c ≠ 75 → c ≠ 76 → c ≠ 77 → aGw (aRA a) 0 c k = a c k := fun c k h1 h2 h3 h4 h5 h6 h7 => (Gf_r h1 h2 h3 h4 h5 h6 h7 _ _ _).trans (RA_zo c k h5 h6 h7).symm
  have m := Md_mv g.1 g.2.1.2.2.2.2.2.1
  have al := (Md_al g.1 m).mp h
  have f := (Md_f m al.1.1 al.2).1
  have e : aGf ((aRA a 69 6).toInt - (0 : Int32).toInt).toNat 0 (aRA a) = aGw (aRA a) 0 := rfl
  rw [e] at f al
  refine ⟨⟨al.1.1, ?_⟩, ?_, ?_, ?_⟩
  · rw [← r 126 n (by decide) (by decide) (by decide) (by decide) (by decide) (by decide) (by decide)]
    exact al.1.2
  · exact (f 130 (by decide) (by decide)).trans (r 130 n (by decide) (by decide) (by decide) (by decide) (by decide) (by decide) (by decide))
  · exact (f 128 (by decide) (by decide)).trans (r 128 n (by decide) (by decide) (by decide) (by decide) (by decide) (by decide) (by decide))
  · exact (f 133 (by decide) (by decide)).trans (r 133 n (by decide) (by decide) (by decide) (by decide) (by decide) (by decide) (by decide))
theorem I_872 (h : qI a) (h0 : 0 ≤ x.toInt) (h1 : x.toInt ≤ (a 87 0).toInt) (g : qGd a x.toInt) : qI (ma_u a 87 2 x) := by
  have e : ∀ c, c ≠ 87 → ma_u a 87 2 x c = a c := fun c hc => ma_u_ne _ _ _ hc
  have e2 : ∀ k, k ≠ 2 → ma_u a 87 2 x 87 k = a 87 k := fun k hk => xu_o (fun z => hk z.2)
  have e3 : ma_u a 87 2 x 87 2 = x := xu_s
  have al : xAl (ma_u a 87 2 x) = xAl a := by
    funext n
    unfold xAl
    rw [e 126 (by decide)]
  have su := Su_cg (a := ma_u a 87 2 x) (b := a) (e 126 (by decide)) (e 128 (by decide)) 512
  have e8 : qI6 (ma_u a 87 2 x) := fun n hn k => by
    rw [e (1000 + n) (by omega)]
    exact h.2.2.2.2.2 n (by rw [← al]; exact hn) k
  unfold qI qI1 qI2 qI3 qI4 at h ⊢
  unfold qGd at g h ⊢
  rw [al, su, e 69 (by decide), e 128 (by decide), e 130 (by decide), e 71 (by decide), e2 0 (by decide), e2 6 (by decide), e3]
  exact ⟨h.1, h.2.1, h.2.2.1, ⟨h.2.2.2.1.1, h.2.2.2.1.2.1, h.2.2.2.1.2.2.1, ⟨h0, h1⟩, g, h.2.2.2.1.2.2.2.2.2⟩, h.2.2.2.2.1, e8⟩
theorem I_s0 (hI : qI a) : qI (ma_u (aSw a) 87 2 0) := I_872 (I_sw hI) (by decide) (I_sw hI).2.2.2.1.2.2.1.1 (Gd_0 (I_sw hI))
theorem lRs_1 (h : ¬ (a 87 0).toInt < (a 87 2).toInt + z) : lRs a z = a := if_neg h
theorem lRs_2 (h : (a 87 0).toInt < (a 87 2).toInt + z) : lRs a z = lCl a := if_pos h
theorem lRp_1 (h : lRs a z = b) (h2 : (b 87 0).toInt < (b 87 2).toInt + z) : lRp a z = -1 := by
  unfold lRp
  rw [h, if_pos h2]
theorem lRp_2 (h : lRs a z = b) (h2 : ¬ (b 87 0).toInt < (b 87 2).toInt + z) : lRp a z = (b 87 2).toInt := by
  unfold lRp
  rw [h, if_neg h2]
theorem lC_87 (h : k ≠ 2) : lCl a 87 k = a 87 k := by
  unfold lCl lSd zSd
  rw [xu_o (fun w => h w.2), Sf_r (by decide) (by decide), xu_o (fun w => h w.2), sw_87]
theorem Rs_87 (h : k ≠ 2) : lRs a z 87 k = a 87 k := by
  unfold lRs
  split
  · exact lC_87 h
  · rfl
def lMk (a : Nat → Nat → Int32) (kd wd : Int32) (L : Int64) (rt : Int32) : Nat → Nat → Int32 := if (a 69 6).toInt < 512 then (if lRp a (wd + 1).toInt = -1 then lRs a (wd + 1).toInt else aRt (aMd (aAd (lRs a (wd + 1).toInt) (lRs a (wd + 1).toInt 69 6) (zFn (lRs a (wd + 1).toInt 69 6) kd (wd + 1) (Int32.ofInt (lRp a (wd + 1).toInt))) L) (lRs a (wd + 1).toInt 69 6)) rt (lRs a (wd + 1).toInt 69 6)) else a
def lMn (a : Nat → Nat → Int32) (wd : Int32) : Int32 := if (a 69 6).toInt < 512 then (if lRp a (wd + 1).toInt = -1 then -1 else lRs a (wd + 1).toInt 69 6) else -1
theorem lMk_0 {kd wd rt : Int32} {L : Int64} (h : ¬ (a 69 6).toInt < 512) : lMk a kd wd L rt = a ∧ lMn a wd = -1 := ⟨if_neg h, if_neg h⟩
theorem lMk_1 {kd wd rt : Int32} {L : Int64} (h : (a 69 6).toInt < 512) (h1 : lRp a (wd + 1).toInt = -1) : lMk a kd wd L rt = lRs a (wd + 1).toInt ∧ lMn a wd = -1 := by
  unfold lMk lMn
  rw [if_pos h, if_pos h, if_pos h1, if_pos h1]
  exact ⟨rfl, rfl⟩
theorem lMk_2 {kd wd rt : Int32} {L : Int64} {b : Nat → Nat → Int32} (h : (a 69 6).toInt < 512) (e : b = lRs a (wd + 1).toInt) (h1 : pl.toInt = lRp a (wd + 1).toInt) (h2 : ¬ pl.toInt = -1) (hy : y = b 69 6) : lMk a kd wd L rt = aRt (aMd (aAd b y (zFn y kd (wd + 1) pl) L) y) rt y ∧ lMn a wd = y := by
  unfold lMk lMn
  rw [if_pos h, if_pos h, ← h1, if_neg h2, if_neg h2, ← e, hy, Int32.ofInt_toInt]
  exact ⟨rfl, rfl⟩
end F4

/-! from 95.q15 -/
/-! the moving collectors, the class (written by wip/tools/gen15.py) -/
/-! THE WHOLE QUEUE OF A WALK: each that came is in it, once -/
def zFQ (a : Nat → Nat → Int32) : Prop := (∀ j : Nat, (j : Int) < (a 75 4).toInt → 0 ≤ (a 76 j).toInt ∧ (a 76 j).toInt < 512 ∧ a 77 (a 76 j).toNatClampNeg ≠ 0 ∧ a 126 (a 76 j).toNatClampNeg ≠ 0) ∧ (∀ j j₉ : Nat, j < j₉ → (j₉ : Int) < (a 75 4).toInt → a 76 j ≠ a 76 j₉) ∧ (∀ x : Nat, x < 512 → a 77 x ≠ 0 → ∃ j : Nat, (j : Int) < (a 75 4).toInt ∧ a 76 j = Int32.ofNat x) ∧ (0 ≤ (a 75 3).toInt ∧ (a 75 3).toInt ≤ (a 75 4).toInt ∧ (a 75 4).toInt ≤ 512)
section F6
variable {a b : Nat → Nat → Int32} {y i x : Int32} {m k n : Nat}
theorem FQ_cg (h : zFQ a) (e3 : b 75 3 = a 75 3) (e4 : b 75 4 = a 75 4) (e6 : b 76 = a 76) (e7 : ∀ x, x < 512 → (b 77 x ≠ 0 ↔ a 77 x ≠ 0)) (e8 : b 126 = a 126) : zFQ b := by
  obtain ⟨h1, h2, h3, h4⟩ := h
  unfold zFQ
  rw [e3, e4, e6, e8]
  refine ⟨fun j hj => ?_, h2, fun x hx w => h3 x hx ((e7 x hx).mp w), h4⟩
  have q := h1 j hj
  have t := tn_cast q.1
  exact ⟨q.1, q.2.1, (e7 _ (by omega)).mpr q.2.2.1, q.2.2.2⟩
theorem FQ_wh (h : 0 ≤ 0) : zFQ (aWh a x) := by
  have r3 : aWh a x 75 3 = 0 := by
    unfold aWh
    rw [xu_o (by omega), xu_o (by omega), xu_s]
  have r4 : aWh a x 75 4 = 0 := by
    unfold aWh
    rw [xu_o (by omega), xu_s]
  have r7 : ∀ k, k < 512 → aWh a x 77 k = 0 := fun k hk => by
    unfold aWh
    rw [xu_o (by omega), xu_o (by omega), xu_o (by omega)]
    unfold zFl
    rw [if_pos ⟨rfl, by omega⟩]
  have i0 : (0 : Int32).toInt = 0 := rfl
  unfold zFQ
  rw [r3, r4, i0]
  exact ⟨fun j hj => absurd hj (by omega), fun j j₉ _ hj => absurd hj (by omega), fun x hx w => absurd (r7 x hx) w, by omega⟩
theorem FQ_cm (h : zFQ a) : zFQ (aCm a y) := by
  by_cases hc : aCc a y
  · rw [aCm_y hc]
    obtain ⟨q1, q2, q3, q4⟩ := h
    obtain ⟨c0, c1, c2, c3, c4, c5⟩ := hc
    have cy := tn_cast c0
    have hn : y.toNatClampNeg < 512 := by omega
    have e1 : (a 75 4 + 1).toInt = (a 75 4).toInt + 1 := i_p1 (by omega)
    have et := tn_cast (x := a 75 4) (by omega)
    generalize ht : (a 75 4).toNatClampNeg = t at *
    generalize hv : a 75 4 + 1 = v at *
    have r3 : (ma_u (ma_u (ma_u a 77 y.toNatClampNeg 1) 76 t y) 75 4 v) 75 3 = a 75 3 := by rw [xu_o (by omega), xu_o (by omega), xu_o (by omega)]
    have r4 : (ma_u (ma_u (ma_u a 77 y.toNatClampNeg 1) 76 t y) 75 4 v) 75 4 = v := xu_s
    have r6 : ∀ j, j ≠ t → (ma_u (ma_u (ma_u a 77 y.toNatClampNeg 1) 76 t y) 75 4 v) 76 j = a 76 j := fun j w => by rw [xu_o (by omega), xu_o (fun z => w z.2), xu_o (by omega)]
    have r6t : (ma_u (ma_u (ma_u a 77 y.toNatClampNeg 1) 76 t y) 75 4 v) 76 t = y := by rw [xu_o (by omega), xu_s]
    have r7 : ∀ j, j ≠ y.toNatClampNeg → (ma_u (ma_u (ma_u a 77 y.toNatClampNeg 1) 76 t y) 75 4 v) 77 j = a 77 j := fun j w => by rw [xu_o (by omega), xu_o (by omega), xu_o (fun z => w z.2)]
    have r7t : (ma_u (ma_u (ma_u a 77 y.toNatClampNeg 1) 76 t y) 75 4 v) 77 y.toNatClampNeg = 1 := by rw [xu_o (by omega), xu_o (by omega), xu_s]
    have r8 : ∀ j, (ma_u (ma_u (ma_u a 77 y.toNatClampNeg 1) 76 t y) 75 4 v) 126 j = a 126 j := fun j => by rw [xu_o (by omega), xu_o (by omega), xu_o (by omega)]
    generalize ma_u (ma_u (ma_u a 77 y.toNatClampNeg 1) 76 t y) 75 4 v = B at *
    have m7 : ∀ z, a 77 z ≠ 0 → B 77 z ≠ 0 := fun z w => by
      by_cases zz : z = y.toNatClampNeg
      · rw [zz, r7t]
        decide
      · rw [r7 z zz]
        exact w
    refine ⟨fun j hj => ?_, fun j j₉ hjj hj₉ => ?_, fun z hz w => ?_, by rw [r3, r4]; omega⟩
    · rw [r4] at hj
      by_cases w : j = t
      · rw [w, r6t, r7t, r8]
        exact ⟨c0, c1, by decide, c2⟩
      · have q := q1 j (by omega)
        rw [r6 j w, r8]
        exact ⟨q.1, q.2.1, m7 _ q.2.2.1, q.2.2.2⟩
    · rw [r4] at hj₉
      have nj : j ≠ t := by omega
      rw [r6 j nj]
      by_cases w : j₉ = t
      · rw [w, r6t]
        intro e
        have q := q1 j (by omega)
        rw [e] at q
        exact q.2.2.1 c5
      · rw [r6 j₉ w]
        exact q2 j j₉ hjj (by omega)
    · by_cases zz : z = y.toNatClampNeg
      · refine ⟨t, by rw [r4]; omega, ?_⟩
        rw [r6t, zz]
        exact (ofN_tn c0).symm
      · rw [r7 z zz] at w
        obtain ⟨j, hj, e⟩ := q3 z hz w
        refine ⟨j, by rw [r4]; omega, ?_⟩
        rw [r6 j (by omega)]
        exact e
  · rw [aCm_n hc]
    exact h
theorem FQ_cwf : ∀ (f : Nat) (i : Int32) (a : Nat → Nat → Int32), zFQ a → zFQ (aCwf m f i a) := by
  intro f
  induction f with
  | zero => intro i a h; exact h
  | succ f ih =>
    intro i a h
    exact ih _ _ (FQ_cm h)
theorem FQ_pop (h : zFQ a) (hl : (a 75 3).toInt < (a 75 4).toInt) : zFQ (aPop a) := by
  have q4 := h.2.2.2
  have e1 : (a 75 3 + 1).toInt = (a 75 3).toInt + 1 := i_p1 (by omega)
  have s0 : zFQ (ma_u a 75 3 (a 75 3 + 1)) := by
    obtain ⟨h1, h2, h3, h4⟩ := h
    have r4 : ma_u a 75 3 (a 75 3 + 1) 75 4 = a 75 4 := xu_o (by decide)
    unfold zFQ
    rw [r4, xu_s, un (n := 76) (by decide), un (n := 77) (by decide), un (n := 126) (by decide), e1]
    exact ⟨h1, h2, h3, by omega⟩
  unfold aPop
  split
  · have t := tn_cast (x := a 75 3) q4.1
    have q := h.1 (a 75 3).toNatClampNeg (by omega)
    refine FQ_cwf _ _ _ (FQ_cg s0 (xu_o (by omega)) (xu_o (by omega)) (un (by decide)) (fun x hx => ?_) (un (by decide)))
    rw [un (n := 77) (k := 3) (by decide)]
    by_cases w : x = (a 76 (a 75 3).toNatClampNeg).toNatClampNeg
    · rw [w, xu_s]
      exact ⟨fun _ => q.2.2.1, fun _ => by decide⟩
    · rw [xu_o (fun z => w z.2), un (n := 77) (by decide)]
  · exact s0
theorem FQ_sp : ∀ (f : Nat) (a : Nat → Nat → Int32), zFQ a → zFQ (aSp f a) := by
  intro f
  induction f with
  | zero => intro a h; exact h
  | succ f ih =>
    intro a h
    show zFQ (if (a 75 3).toInt < (a 75 4).toInt then aSp f (aPop a) else a)
    split
    · next w => exact ih _ (FQ_pop h w)
    · exact h
theorem FQ_hf : ∀ (f : Nat) (n : Int32) (a : Nat → Nat → Int32), zFQ a → zFQ (aHf f n a) := by
  intro f
  induction f with
  | zero => intro n a h; exact h
  | succ f ih =>
    intro n a h
    refine ih _ _ ?_
    split
    · exact FQ_cm h
    · exact h
theorem FQ_wf : ∀ (f : Nat) (n : Int32) (a : Nat → Nat → Int32), zFQ a → zFQ (aWf f n a) := by
  intro f
  induction f with
  | zero => intro n a h; exact FQ_hf _ _ _ h
  | succ f ih => intro n a h; exact ih _ _ (FQ_cm h)
theorem FQ_rf : ∀ (f : Nat) (n : Int32) (a : Nat → Nat → Int32), zFQ a → zFQ (aRf f n a) := by
  intro f
  induction f with
  | zero => intro n a h; exact FQ_wf _ _ _ h
  | succ f ih => intro n a h; exact ih _ _ (FQ_cm h)
theorem FQ_gr (h : zFQ a) : zFQ (aGr a y) := FQ_cg h (congrFun (gr_r (by decide) (by decide) (by decide) (by decide)) 3) (congrFun (gr_r (by decide) (by decide) (by decide) (by decide)) 4) (gr_r (by decide) (by decide) (by decide) (by decide)) (fun x _ => by rw [gr_r (n := 77) (by decide) (by decide) (by decide) (by decide)]) (gr_r (by decide) (by decide) (by decide) (by decide))
theorem FQ_gf : ∀ (f : Nat) (x : Int32) (a : Nat → Nat → Int32), zFQ a → zFQ (aGf f x a) := by
  intro f
  induction f with
  | zero => intro x a h; exact h
  | succ f ih =>
    intro x a h
    by_cases w : aGc a x
    · rw [aGf_y w]
      exact ih _ _ (FQ_sp _ _ (FQ_cm (FQ_gr h)))
    · rw [aGf_n w]
      exact ih _ _ h
theorem FQ_gw : zFQ (aGw (aRA a) 0) := FQ_gf _ _ _ (FQ_sp _ _ (FQ_rf _ _ _ (FQ_wh (by decide))))
/-- who is there behind a cleaning is in the queue, once -/
theorem FQ_sw (hI : qI a) : zFQ (aSw a) ∧ ∀ n, xAl (aSw a) n → aSw a 77 n ≠ 0 := by
  have g := I_gf ((aRA a 69 6).toInt - (0 : Int32).toInt).toNat 0 _ (qI_of hI RA_zo) (E0_ra hI)
  have e : aGf ((aRA a 69 6).toInt - (0 : Int32).toInt).toNat 0 (aRA a) = aGw (aRA a) 0 := rfl
  rw [e] at g
  have m := Md_mv g.1 g.2.1.2.2.2.2.2.1
  have r : ∀ c, c = 75 ∨ c = 76 ∨ c = 77 → aSw a c = aGw (aRA a) 0 c := fun c hc => m.2.1.1 c (by omega) (by omega) (by omega) (by omega)
  have q := FQ_gw (a := a)
  have al := fun n => Md_al (n := n) g.1 m
  refine ⟨?_, fun n hn => ?_⟩
  · unfold zFQ at q ⊢
    rw [r 75 (by decide), r 76 (by decide), r 77 (by decide)]
    refine ⟨fun j hj => ?_, q.2⟩
    have z := q.1 j hj
    have t := tn_cast z.1
    exact ⟨z.1, z.2.1, z.2.2.1, ((al _).mpr ⟨⟨by omega, z.2.2.2⟩, z.2.2.1⟩).2⟩
  · rw [r 77 (by decide)]
    exact ((al n).mp hn).2
end F6

/-! from 95.q16 -/
/-! the moving collectors, the class (written by wip/tools/gen15.py) -/
/-! HALVES: those of the queue go to the other half, one behind another -/
def zPs (a : Nat → Nat → Int32) (st : Int) : Nat → Int
  | 0 => st
  | j + 1 => zPs a st j + (a 128 (a 76 j).toNatClampNeg).toInt
def hQc (a : Nat → Nat → Int32) (j : Nat) : Prop := 0 ≤ (a 76 j).toInt ∧ (a 76 j).toInt < 512 ∧ a 126 (a 76 j).toNatClampNeg ≠ 0
def hMf : Nat → Nat → (Nat → Nat → Int32) → Int → (Nat → Nat → Int32) × Int
  | 0, _, a, t => (a, t)
  | f + 1, j, a, t => if 0 ≤ (a 76 j).toInt ∧ (a 76 j).toInt < 512 ∧ a 126 (a 76 j).toNatClampNeg ≠ 0 then hMf f (j + 1) (aMo a (a 76 j).toNatClampNeg (Int32.ofInt t)) (t + (a 128 (a 76 j).toNatClampNeg).toInt) else hMf f (j + 1) a t
/-- who of the queue's first j -/
def zIn (a : Nat → Nat → Int32) (j n : Nat) : Prop := ∃ i : Nat, i < j ∧ a 76 i = Int32.ofNat n
/-- the first j are moved, up to t -/
def qJh (a : Nat → Nat → Int32) (st ot r : Int) (j : Nat) (t : Int) : Prop :=
  qI a ∧ zFQ a ∧ (a 87 2).toInt = 0 ∧ (0 ≤ st ∧ st + r ≤ (a 87 0).toInt ∧ (ot + r ≤ st ∨ st + r ≤ ot)) ∧ (t = zPs a st j ∧ (j : Int) ≤ (a 75 4).toInt ∧ zPs a st (a 75 4).toInt.toNat ≤ st + r) ∧
  (∀ n, xAl a n → zIn a j n → st ≤ (a 130 n).toInt ∧ (a 130 n).toInt + (a 128 n).toInt ≤ t) ∧
  ∀ n, xAl a n → ¬ zIn a j n → ot ≤ (a 130 n).toInt ∧ (a 130 n).toInt + (a 128 n).toInt ≤ ot + r
section F7
variable {a b : Nat → Nat → Int32} {st ot r t : Int} {j k n f : Nat} {to : Int32}
theorem hMf_y (h : hQc a j) : hMf (f + 1) j a t = hMf f (j + 1) (aMo a (a 76 j).toNatClampNeg (Int32.ofInt t)) (t + (a 128 (a 76 j).toNatClampNeg).toInt) := if_pos h
theorem hMf_n (h : ¬ hQc a j) : hMf (f + 1) j a t = hMf f (j + 1) a t := if_neg h
theorem Ps_cg (e1 : b 76 = a 76) (e2 : b 128 = a 128) : ∀ j, zPs b st j = zPs a st j
  | 0 => rfl
  | j + 1 => by
    unfold zPs
    rw [Ps_cg e1 e2 j, e1, e2]
theorem FQ_al (h : zFQ a) (hj : (j : Int) < (a 75 4).toInt) : xAl a (a 76 j).toNatClampNeg ∧ Int32.ofNat (a 76 j).toNatClampNeg = a 76 j := by
  have q := h.1 j hj
  have t := tn_cast q.1
  exact ⟨⟨by omega, q.2.2.2⟩, ofN_tn q.1⟩
theorem Ps_le (hI : qI a) (h : zFQ a) : ∀ k : Nat, (k : Int) ≤ (a 75 4).toInt → ∀ j : Nat, j ≤ k → zPs a st j ≤ zPs a st k := by
  intro k
  induction k with
  | zero =>
    intro _ j hj
    rw [show j = 0 by omega]
    exact Int.le_refl _
  | succ k ih =>
    intro hk j hj
    have q := (hI.1 _ (FQ_al h (j := k) (by omega)).1).2.1.1
    show zPs a st j ≤ zPs a st k + (a 128 (a 76 k).toNatClampNeg).toInt
    by_cases w : j = k + 1
    · rw [w]
      exact Int.le_refl _
    · have := ih (by omega) j (by omega)
      omega
theorem In_s : zIn a (j + 1) n ↔ zIn a j n ∨ a 76 j = Int32.ofNat n := by
  constructor
  · rintro ⟨i, hi, e⟩
    by_cases w : i = j
    · exact Or.inr (w ▸ e)
    · exact Or.inl ⟨i, by omega, e⟩
  · rintro (⟨i, hi, e⟩ | e)
    · exact ⟨i, by omega, e⟩
    · exact ⟨j, by omega, e⟩
theorem ofN_j (h : n < 512) (h2 : k < 512) (e : Int32.ofNat n = Int32.ofNat k) : n = k := by
  have z := congrArg Int32.toInt e
  rw [Int32.toInt_ofNat_of_lt (by omega), Int32.toInt_ofNat_of_lt (by omega)] at z
  omega
theorem In_no (h : zFQ a) (hj : (j : Int) < (a 75 4).toInt) : ¬ zIn a j (a 76 j).toNatClampNeg := by
  rintro ⟨i, hi, e⟩
  rw [(FQ_al h hj).2] at e
  exact h.2.1 i j hi hj e
theorem FQ_mo (h : zFQ a) : zFQ (aMo a n to) := FQ_cg h (Mo_r (by decide) (by decide)) (Mo_r (by decide) (by decide)) (Mo_c (by decide) (by decide)) (fun x _ => by rw [Mo_r (c := 77) (by decide) (by decide)]) (Mo_c (by decide) (by decide))
/-- the next of the queue -/
theorem Jh_nx (h : qJh a st ot r j t) (hj : (j : Int) < (a 75 4).toInt) (he : to.toInt = t) : hQc a j ∧ qMv a (a 76 j).toNatClampNeg to ∧ qFr a (a 76 j).toNatClampNeg to ∧ to.toInt + (a 128 (a 76 j).toNatClampNeg).toInt ≤ (a 87 0).toInt ∧ 0 ≤ to.toInt ∧ (a 130 (a 76 j).toNatClampNeg).toInt ≠ t := by
  obtain ⟨hI, hF, hz, ⟨s0, s1, s2⟩, ⟨t0, t1, t2⟩, m1, m2⟩ := h
  have al := FQ_al hF hj
  have no := In_no hF hj
  have p := m2 _ al.1 no
  have q := hI.1 _ al.1
  have b4 := hI.2.2.2.1.2.2.1
  have l1 : st ≤ zPs a st j := Ps_le (st := st) hI hF j (by omega) 0 (by omega)
  have l2 := Ps_le (st := st) hI hF (a 75 4).toInt.toNat (by omega) (j + 1) (by omega)
  have l3 : zPs a st (j + 1) = zPs a st j + (a 128 (a 76 j).toNatClampNeg).toInt := rfl
  have f := hF.1 j hj
  refine ⟨⟨f.1, f.2.1, f.2.2.2⟩, ⟨by omega, by omega, by omega, by omega, by omega, by omega⟩, fun n₉ hn₉ hne => ?_, by omega, by omega, by omega⟩
  by_cases w : zIn a j n₉
  · have := m1 n₉ hn₉ w
    omega
  · have := m2 n₉ hn₉ w
    omega
theorem Jh_go (h : qJh a st ot r j t) (hj : (j : Int) < (a 75 4).toInt) (he : to.toInt = t) : qJh (aMo a (a 76 j).toNatClampNeg to) st ot r (j + 1) (t + (a 128 (a 76 j).toNatClampNeg).toInt) := by
  have nx := Jh_nx h hj he
  obtain ⟨hI, hF, hz, ⟨s0, s1, s2⟩, ⟨t0, t1, t2⟩, m1, m2⟩ := h
  have al := FQ_al hF hj
  have q := hI.1 _ al.1
  have l1 : st ≤ zPs a st j := Ps_le (st := st) hI hF j (by omega) 0 (by omega)
  have e4 : aMo a (a 76 j).toNatClampNeg to 75 4 = a 75 4 := Mo_r (by decide) (by decide)
  have e6 : aMo a (a 76 j).toNatClampNeg to 76 = a 76 := Mo_c (by decide) (by decide)
  have e8 : aMo a (a 76 j).toNatClampNeg to 128 = a 128 := Mo_c (by decide) (by decide)
  have e7 : ∀ k, aMo a (a 76 j).toNatClampNeg to 87 k = a 87 k := fun k => Mo_r (by decide) (by decide)
  have inn : ∀ n, zIn (aMo a (a 76 j).toNatClampNeg to) (j + 1) n ↔ zIn a (j + 1) n := fun n => by
    unfold zIn
    rw [e6]
  refine ⟨I_mo hI al.1 nx.2.2.2.2.1 nx.2.2.2.1 nx.2.2.1 hz, FQ_mo hF, by rw [e7]; exact hz, ⟨s0, by rw [e7]; exact s1, s2⟩, ⟨?_, by rw [e4]; omega, by rw [e4, Ps_cg e6 e8]; exact t2⟩, fun n hn w => ?_, fun n hn w => ?_⟩
  · rw [Ps_cg e6 e8]
    show _ = zPs a st j + (a 128 (a 76 j).toNatClampNeg).toInt
    rw [t0]
  · have hn₉ := Mo_al.1 hn
    rw [e8]
    by_cases z : n = (a 76 j).toNatClampNeg
    · rw [z, Mo_pn]
      omega
    · rw [Mo_po z]
      rcases In_s.mp ((inn n).mp w) with w2 | w2
      · have := m1 n hn₉ w2
        omega
      · rw [← al.2] at w2
        exact absurd (ofN_j hn₉.1 al.1.1 w2.symm) z
  · have hn₉ := Mo_al.1 hn
    have w1 : ¬ zIn a (j + 1) n := fun z => w ((inn n).mpr z)
    have z : n ≠ (a 76 j).toNatClampNeg := fun z => w1 (In_s.mpr (Or.inr (by rw [z]; exact al.2.symm)))
    rw [e8, Mo_po z]
    exact m2 n hn₉ (fun z2 => w1 (In_s.mpr (Or.inl z2)))
/-! how much it is -/
noncomputable def zSj (a : Nat → Nat → Int32) (j : Nat) : Nat → Int
  | 0 => 0
  | n + 1 => zSj a j n + (if @decide (zIn a j n) (Classical.propDecidable _) = true then (a 128 n).toInt else 0)
theorem dc_y {P : Prop} (h : P) : @decide P (Classical.propDecidable _) = true := @decide_eq_true P (Classical.propDecidable _) h
theorem dc_n {P : Prop} (h : ¬ P) : ¬ @decide P (Classical.propDecidable _) = true := fun z => h (@of_decide_eq_true P (Classical.propDecidable _) z)
theorem Sj_s (h : zFQ a) (hj : (j : Int) < (a 75 4).toInt) : ∀ n, n ≤ 512 → zSj a (j + 1) n = zSj a j n + (if (a 76 j).toNatClampNeg < n then (a 128 (a 76 j).toNatClampNeg).toInt else 0) := by
  have al := FQ_al h hj
  have no := In_no h hj
  intro n
  induction n with
  | zero =>
    intro _
    rw [if_neg (by omega)]
    rfl
  | succ n ih =>
    intro hn
    have q := ih (by omega)
    show zSj a (j + 1) n + (if @decide (zIn a (j + 1) n) (Classical.propDecidable _) = true then (a 128 n).toInt else 0) = zSj a j n + (if @decide (zIn a j n) (Classical.propDecidable _) = true then (a 128 n).toInt else 0) + _
    rw [q]
    by_cases w : n = (a 76 j).toNatClampNeg
    · rw [if_pos (dc_y (In_s.mpr (Or.inr (by rw [w]; exact al.2.symm)))), if_neg (dc_n (by rw [w]; exact no)), if_neg (by omega), if_pos (by omega), w]
    · have e : zIn a (j + 1) n ↔ zIn a j n := by
        constructor
        · intro z
          rcases In_s.mp z with z2 | z2
          · exact z2
          · rw [← al.2] at z2
            exact absurd (ofN_j (by omega) al.1.1 z2.symm) w
        · exact fun z => In_s.mpr (Or.inl z)
      have e2 : (if (a 76 j).toNatClampNeg < n + 1 then (a 128 (a 76 j).toNatClampNeg).toInt else 0) = (if (a 76 j).toNatClampNeg < n then (a 128 (a 76 j).toNatClampNeg).toInt else 0) := by
        by_cases z : (a 76 j).toNatClampNeg < n
        · rw [if_pos z, if_pos (by omega)]
        · rw [if_neg z, if_neg (by omega)]
      rw [e2]
      by_cases z : zIn a j n
      · rw [if_pos (dc_y z), if_pos (dc_y (e.mpr z))]
        omega
      · rw [if_neg (dc_n z), if_neg (dc_n (fun y => z (e.mp y)))]
        omega
theorem Sj_0 : ∀ n, zSj a 0 n = 0
  | 0 => rfl
  | n + 1 => by
    show zSj a 0 n + _ = 0
    rw [Sj_0 n, if_neg (dc_n (by rintro ⟨i, hi, _⟩; omega))]
    rfl
theorem Ps_sj (h : zFQ a) : ∀ j : Nat, (j : Int) ≤ (a 75 4).toInt → zPs a st j = st + zSj a j 512 := by
  intro j
  induction j with
  | zero =>
    intro _
    rw [Sj_0]
    show st = st + 0
    omega
  | succ j ih =>
    intro hj
    have al := FQ_al h (j := j) (by omega)
    rw [Sj_s h (by omega) 512 (by omega), if_pos al.1.1]
    show zPs a st j + _ = _
    rw [ih (by omega)]
    omega
theorem Sj_su (h : zFQ a) (hk : ∀ n, xAl a n → a 77 n ≠ 0) : ∀ n, n ≤ 512 → zSj a (a 75 4).toInt.toNat n = qSu a n := by
  intro n
  induction n with
  | zero => intro _; rfl
  | succ n ih =>
    intro hn
    show zSj a (a 75 4).toInt.toNat n + _ = qSu a n + (if a 126 n ≠ 0 then (a 128 n).toInt else 0)
    rw [ih (by omega)]
    by_cases w : a 126 n ≠ 0
    · obtain ⟨j, hj, e⟩ := h.2.2.1 n (by omega) (hk n ⟨by omega, w⟩)
      rw [if_pos w, if_pos (dc_y ⟨j, by omega, e⟩)]
    · rw [if_neg w, if_neg (dc_n ?_)]
      rintro ⟨i, hi, e⟩
      have q := h.1 i (by omega)
      have e2 : (a 76 i).toNatClampNeg = n := by
        have t := tn_cast q.1
        rw [e, Int32.toInt_ofNat_of_lt (by omega)] at t
        rw [e]
        omega
      rw [e2] at q
      exact w q.2.2.2
/-- all of the queue: the sum of the words there -/
theorem Ps_su (h : zFQ a) (hk : ∀ n, xAl a n → a 77 n ≠ 0) : zPs a st (a 75 4).toInt.toNat = st + qSu a 512 := by
  have q4 := h.2.2.2
  rw [Ps_sj h _ (by omega), Sj_su h hk 512 (by omega)]
theorem Su_le (h1 : ∀ n, n < 512 → b 126 n ≠ 0 → a 126 n ≠ 0 ∧ b 128 n = a 128 n) (h2 : ∀ n, xAl a n → 0 ≤ (a 128 n).toInt) : ∀ n, n ≤ 512 → qSu b n ≤ qSu a n := by
  intro n
  induction n with
  | zero => intro _; exact Int.le_refl _
  | succ n ih =>
    intro hn
    have q := ih (by omega)
    unfold qSu
    by_cases w : b 126 n ≠ 0
    · have z := h1 n (by omega) w
      rw [if_pos w, if_pos z.1, z.2]
      omega
    · rw [if_neg w]
      by_cases v : a 126 n ≠ 0
      · rw [if_pos v]
        have := h2 n ⟨by omega, v⟩
        omega
      · rw [if_neg v]
        omega
end F7

/-! from 95.q17 -/
/-! the moving collectors, the class (written by wip/tools/gen15.py) -/
/-! HALVES: cleaning and room, by numbers (87: 0 all words, 3 the half's beginning, 4 the top, 5 the ROOM) -/
def zfH (I : Nat → Nat → Int32) (k : Nat) : Int32 := if k = 0 then I 81 2 + I 81 2 else if k = 3 then I 81 3 else if k = 4 then I 81 4 else if k = 5 then I 81 2 else 0
def aH (S : ma_S) : Nat → Nat → Int32 := aM (zfH (mI S)) S
def hFo (a : Nat → Nat → Int32) : (Nat → Nat → Int32) × Int := hMf (a 75 4).toInt.toNat 0 a (a 87 5 - a 87 3).toInt
def hCl (a : Nat → Nat → Int32) : Nat → Nat → Int32 := ma_u (ma_u (hFo (aSw a)).1 87 3 (a 87 5 - a 87 3)) 87 4 (Int32.ofInt (hFo (aSw a)).2)
def hOk (a : Nat → Nat → Int32) (z : Int) : Prop := (a 87 4).toInt + z ≤ (a 87 3).toInt + (a 87 5).toInt
def hRs (a : Nat → Nat → Int32) (z : Int) : Nat → Nat → Int32 := if (a 87 4).toInt + z ≤ (a 87 3).toInt + (a 87 5).toInt then a else hCl a
def hRp (a : Nat → Nat → Int32) (z : Int) : Int := if (hRs a z 87 4).toInt + z ≤ (hRs a z 87 3).toInt + (hRs a z 87 5).toInt then (hRs a z 87 4).toInt else -1
def qHv (a : Nat → Nat → Int32) : Prop := qI a ∧ a 87 2 = 0 ∧ ((a 87 0).toInt = 2 * (a 87 5).toInt ∧ 0 ≤ (a 87 5).toInt ∧ (a 87 5).toInt ≤ 1500) ∧ ((a 87 3).toInt = 0 ∨ (a 87 3).toInt = (a 87 5).toInt) ∧ ((a 87 4).toInt = (a 87 3).toInt + qSu a 512 ∧ (a 87 4).toInt ≤ (a 87 3).toInt + (a 87 5).toInt) ∧ (∀ n, xAl a n → (a 87 3).toInt ≤ (a 130 n).toInt ∧ (a 130 n).toInt + (a 128 n).toInt ≤ (a 87 4).toInt) ∧ ∀ n, xAl a n → a 133 n = 0
section F8
variable {a b c : Nat → Nat → Int32} {st ot r t z : Int} {j k n f : Nat} {to x y w pl i : Int32} {S S₉ : ma_S} {R : Nat → Option Nat} {F : Nat → Int32} {L : Int64}
theorem I_87k (h : qI a) (h0 : k ≠ 0) (h2 : k ≠ 2) (h6 : k ≠ 6) : qI (ma_u a 87 k x) := by
  have e : ∀ c, c ≠ 87 → ma_u a 87 k x c = a c := fun c hc => ma_u_ne _ _ _ hc
  have e2 : ∀ k₉, k₉ ≠ k → ma_u a 87 k x 87 k₉ = a 87 k₉ := fun k₉ hk => xu_o (fun z => hk z.2)
  have al : xAl (ma_u a 87 k x) = xAl a := by
    funext n
    unfold xAl
    rw [e 126 (by decide)]
  have su := Su_cg (a := ma_u a 87 k x) (b := a) (e 126 (by decide)) (e 128 (by decide)) 512
  have e8 : qI6 (ma_u a 87 k x) := fun n hn k₉ => by
    rw [e (1000 + n) (by omega)]
    exact h.2.2.2.2.2 n (by rw [← al]; exact hn) k₉
  unfold qI qI1 qI2 qI3 qI4 qGd at h ⊢
  rw [al, su, e 69 (by decide), e 128 (by decide), e 130 (by decide), e 71 (by decide), e2 0 (by omega), e2 2 (by omega), e2 6 (by omega)]
  exact ⟨h.1, h.2.1, h.2.2.1, h.2.2.2.1, h.2.2.2.2.1, e8⟩
theorem hMf_J : ∀ (f j : Nat) (a : Nat → Nat → Int32) (t : Int), qJh a st ot r j t → (j : Int) + f = (a 75 4).toInt → qJh (hMf f j a t).1 st ot r (j + f) (hMf f j a t).2 := by
  intro f
  induction f with
  | zero => intro j a t h _; exact h
  | succ f ih =>
    intro j a t h e
    have b4 := h.1.2.2.2.1.2.2.1
    have to : (Int32.ofInt t).toInt = t := by
      have p := h.2.2.2.2.1
      have l1 : st ≤ zPs a st j := Ps_le (st := st) h.1 h.2.1 j (by omega) 0 (by omega)
      have l2 := Ps_le (st := st) h.1 h.2.1 (a 75 4).toInt.toNat (by omega) j (by omega)
      have s := h.2.2.2.1
      exact Int32.toInt_ofInt_of_le (by omega) (by omega)
    have nx := Jh_nx h (j := j) (by omega) to
    rw [hMf_y nx.1, show j + (f + 1) = (j + 1) + f from by omega]
    exact ih _ _ _ (Jh_go h (by omega) to) (by rw [Mo_r (by decide) (by decide)]; omega)
theorem hMf_r {c k : Nat} (h1 : c ≠ 71) (h2 : c ≠ 130) : ∀ (f j : Nat) (a : Nat → Nat → Int32) (t : Int), (hMf f j a t).1 c k = a c k := by
  intro f
  induction f with
  | zero => intro j a t; rfl
  | succ f ih =>
    intro j a t
    by_cases w : hQc a j
    · rw [hMf_y w, ih, Mo_r h1 h2]
    · rw [hMf_n w]
      exact ih _ _ _
theorem Fo_r {c k : Nat} (h1 : c ≠ 71) (h2 : c ≠ 130) : (hFo a).1 c k = a c k := by
  unfold hFo
  exact hMf_r h1 h2 _ _ _ _
/-- where each comes to, and that what it refers to stays -/
theorem hMf_pl : ∀ (f j : Nat) (a : Nat → Nat → Int32) (t : Int), qJh a st ot r j t → (j : Int) + f = (a 75 4).toInt → (hMf f j a t).2 = zPs a st (j + f) ∧ (∀ k, j ≤ k → k < j + f → (hMf f j a t).1 130 (a 76 k).toNatClampNeg = Int32.ofInt (zPs a st k)) ∧ (∀ n, (∀ k, j ≤ k → k < j + f → n ≠ (a 76 k).toNatClampNeg) → (hMf f j a t).1 130 n = a 130 n) ∧ ∀ n (i : Int32), xAl a n → 0 ≤ i.toInt → i.toInt < (a 128 n).toInt - 1 → aRef (hMf f j a t).1 n i = aRef a n i := by
  intro f
  induction f with
  | zero =>
    intro j a t h e
    exact ⟨h.2.2.2.2.1.1, fun k h1 h2 => absurd h2 (by omega), fun n _ => rfl, fun n i _ _ _ => rfl⟩
  | succ f ih =>
    intro j a t h e
    have b4 := h.1.2.2.2.1.2.2.1
    have to : (Int32.ofInt t).toInt = t := by
      have p := h.2.2.2.2.1
      have l1 : st ≤ zPs a st j := Ps_le (st := st) h.1 h.2.1 j (by omega) 0 (by omega)
      have l2 := Ps_le (st := st) h.1 h.2.1 (a 75 4).toInt.toNat (by omega) j (by omega)
      have s := h.2.2.2.1
      exact Int32.toInt_ofInt_of_le (by omega) (by omega)
    have nx := Jh_nx h (j := j) (by omega) to
    have al := FQ_al h.2.1 (j := j) (by omega)
    have e4 : aMo a (a 76 j).toNatClampNeg (Int32.ofInt t) 75 4 = a 75 4 := Mo_r (by decide) (by decide)
    have e6 : aMo a (a 76 j).toNatClampNeg (Int32.ofInt t) 76 = a 76 := Mo_c (by decide) (by decide)
    have e8 : aMo a (a 76 j).toNatClampNeg (Int32.ofInt t) 128 = a 128 := Mo_c (by decide) (by decide)
    have q := ih (j + 1) _ _ (Jh_go h (by omega) to) (by rw [e4]; omega)
    rw [e6, e8] at q
    have ps : ∀ k, zPs (aMo a (a 76 j).toNatClampNeg (Int32.ofInt t)) st k = zPs a st k := Ps_cg e6 e8
    rw [hMf_y nx.1]
    refine ⟨by rw [q.1, ps, show j + (f + 1) = (j + 1) + f from by omega], fun k h1 h2 => ?_, fun n hn => ?_, fun n i hn h0 h1 => ?_⟩
    · by_cases w : k = j
      · rw [w, q.2.2.1 _ (fun k2 g1 g2 z => ?_), Mo_pn, h.2.2.2.2.1.1]
        have q1 := h.2.1.1 j (by omega)
        have q2 := h.2.1.1 k2 (by omega)
        refine h.2.1.2.1 j k2 (by omega) (by omega) ?_
        rw [← (FQ_al h.2.1 (j := j) (by omega)).2, ← (FQ_al h.2.1 (j := k2) (by omega)).2, z]
      · rw [q.2.1 k (by omega) (by omega), ps]
    · rw [q.2.2.1 n (fun k2 g1 g2 => hn k2 (by omega) (by omega)), Mo_po (hn j (by omega) (by omega))]
    · rw [q.2.2.2 n i (Mo_al.2 hn) h0 h1]
      exact Mo_ref h.1 al.1 nx.2.2.2.2.1 nx.2.2.2.1 nx.2.2.1 hn h0 h1
theorem Jh_0 (h : qHv a) : qJh (aSw a) (a 87 5 - a 87 3).toInt (a 87 3).toInt (a 87 5).toInt 0 (a 87 5 - a 87 3).toInt := by
  obtain ⟨hI, h2, ⟨h3, h4, h5⟩, h6, ⟨h7, h8⟩, h9, h10⟩ := h
  have s : (a 87 5 - a 87 3).toInt = (a 87 5).toInt - (a 87 3).toInt := i_sub (by omega) (by omega)
  have fq := FQ_sw hI
  have al : ∀ n, xAl (aSw a) n → _ := fun n hn => Al_sw hI hn
  have su : qSu (aSw a) 512 ≤ qSu a 512 := Su_le (fun n hn w => ⟨(al n ⟨hn, w⟩).1.2, (al n ⟨hn, w⟩).2.2.1⟩) (fun n hn => by have := (hI.1 n hn).2.1.1; omega) 512 (by omega)
  refine ⟨I_sw hI, fq.1, by rw [sw_87, h2]; rfl, ⟨by omega, by rw [sw_87]; omega, by omega⟩, ⟨rfl, ?_, ?_⟩, fun n _ w => ?_, fun n hn _ => ?_⟩
  · have := fq.1.2.2.2
    omega
  · rw [Ps_su fq.1 fq.2]
    omega
  · obtain ⟨i, hi, _⟩ := w
    omega
  · have q := al n hn
    have z := h9 n q.1
    rw [q.2.1, q.2.2.1]
    omega
theorem Fo_J (h : qHv a) : qJh (hFo (aSw a)).1 (a 87 5 - a 87 3).toInt (a 87 3).toInt (a 87 5).toInt (aSw a 75 4).toInt.toNat (hFo (aSw a)).2 := by
  have j := Jh_0 h
  have q := j.2.1.2.2.2
  have e : aSw a 87 5 - aSw a 87 3 = a 87 5 - a 87 3 := by rw [sw_87, sw_87]
  have z := hMf_J (aSw a 75 4).toInt.toNat 0 _ _ j (by omega)
  unfold hFo
  rw [e]
  rw [Nat.zero_add] at z
  exact z
theorem cl_7 (h3 : k ≠ 3) (h4 : k ≠ 4) : hCl a 87 k = a 87 k := by
  unfold hCl hFo
  rw [xu_o (fun w => h4 w.2), xu_o (fun w => h3 w.2), hMf_r (by decide) (by decide), sw_87]
theorem Hv_cl (h : qHv a) : qHv (hCl a) := by
  have j := Fo_J h
  obtain ⟨hI, h2, ⟨h3, h4, h5⟩, h6, ⟨h7, h8⟩, h9, h10⟩ := h
  obtain ⟨j1, j2, j3, ⟨j4, j5, j6⟩, ⟨j7, j8, j9⟩, m1, m2⟩ := j
  have s : (a 87 5 - a 87 3).toInt = (a 87 5).toInt - (a 87 3).toInt := i_sub (by omega) (by omega)
  have fq := FQ_sw hI
  have e4 : (hFo (aSw a)).1 75 4 = aSw a 75 4 := Fo_r (by decide) (by decide)
  have e6 : (hFo (aSw a)).1 76 = aSw a 76 := funext (fun k => Fo_r (by decide) (by decide))
  have e26 : (hFo (aSw a)).1 126 = aSw a 126 := funext (fun k => Fo_r (by decide) (by decide))
  have e28 : (hFo (aSw a)).1 128 = aSw a 128 := funext (fun k => Fo_r (by decide) (by decide))
  have e33 : (hFo (aSw a)).1 133 = aSw a 133 := funext (fun k => Fo_r (by decide) (by decide))
  have ps : (hFo (aSw a)).2 = (a 87 5 - a 87 3).toInt + qSu (aSw a) 512 := by
    rw [j7, Ps_cg e6 e28]
    exact Ps_su fq.1 fq.2
  rw [e4, Ps_cg e6 e28, Ps_su fq.1 fq.2] at j9
  have su0 : 0 ≤ qSu (aSw a) 512 := by
    have g := Ps_le (st := (a 87 5 - a 87 3).toInt) (I_sw hI) fq.1 (aSw a 75 4).toInt.toNat (by have := fq.1.2.2.2; omega) 0 (by omega)
    rw [Ps_su fq.1 fq.2] at g
    have g2 : (a 87 5 - a 87 3).toInt ≤ (a 87 5 - a 87 3).toInt + qSu (aSw a) 512 := g
    omega
  have to : (Int32.ofInt (hFo (aSw a)).2).toInt = (hFo (aSw a)).2 := Int32.toInt_ofInt_of_le (by omega) (by omega)
  have r3 : hCl a 87 3 = a 87 5 - a 87 3 := by
    unfold hCl
    rw [xu_o (by decide), xu_s]
  have r4 : hCl a 87 4 = Int32.ofInt (hFo (aSw a)).2 := xu_s
  have rr : ∀ c, c ≠ 87 → hCl a c = (hFo (aSw a)).1 c := fun c hc => funext (fun k => by
    unfold hCl
    rw [xu_o (fun w => hc w.1), xu_o (fun w => hc w.1)])
  have sue : qSu (hCl a) 512 = qSu (aSw a) 512 := Su_cg ((rr 126 (by decide)).trans e26) ((rr 128 (by decide)).trans e28) 512
  have al : ∀ n, xAl (hCl a) n → xAl (hFo (aSw a)).1 n ∧ xAl (aSw a) n := fun n hn => by
    unfold xAl at hn ⊢
    rw [rr 126 (by decide)] at hn
    rw [← e26]
    exact ⟨hn, hn⟩
  refine ⟨I_87k (I_87k j1 (by decide) (by decide) (by decide)) (by decide) (by decide) (by decide), ?_, ⟨?_, ?_, ?_⟩, ?_, ⟨?_, ?_⟩, fun n hn => ?_, fun n hn => ?_⟩
  · rw [cl_7 (by decide) (by decide)]
    exact h2
  · rw [cl_7 (by decide) (by decide), cl_7 (by decide) (by decide)]
    exact h3
  · rw [cl_7 (by decide) (by decide)]
    exact h4
  · rw [cl_7 (by decide) (by decide)]
    exact h5
  · rw [r3, cl_7 (by decide) (by decide)]
    omega
  · rw [r4, r3, sue, to, ps]
  · rw [r4, r3, to, cl_7 (by decide) (by decide), ps]
    omega
  · have w := al n hn
    obtain ⟨i, hi, e⟩ := fq.1.2.2.1 n w.2.1 (fq.2 n w.2)
    have g := m1 n w.1 ⟨i, by omega, by rw [e6]; exact e⟩
    rw [r3, r4, to, rr 130 (by decide), rr 128 (by decide)]
    exact g
  · have w := al n hn
    have q := Al_sw hI w.2
    rw [rr 133 (by decide), e33, q.2.2.2]
    exact h10 n q.1
theorem hRs_1 (h : hOk a z) : hRs a z = a := if_pos h
theorem hRs_2 (h : ¬ hOk a z) : hRs a z = hCl a := if_neg h
theorem hRp_1 (h : hRs a z = b) (h2 : hOk b z) : hRp a z = (b 87 4).toInt := by
  unfold hRp
  rw [h]
  exact if_pos h2
theorem hRp_2 (h : hRs a z = b) (h2 : ¬ hOk b z) : hRp a z = -1 := by
  unfold hRp
  rw [h]
  exact if_neg h2
def hMd (a : Nat → Nat → Int32) (y : Int32) : Nat → Nat → Int32 := ma_u a 87 4 (a 130 y.toNatClampNeg + a 128 y.toNatClampNeg)
def hMk (a : Nat → Nat → Int32) (kd wd : Int32) (L : Int64) (rt : Int32) : Nat → Nat → Int32 := if (a 69 6).toInt < 512 then (if hRp a (wd + 1).toInt = -1 then hRs a (wd + 1).toInt else aR0 (hMd (aAd (hRs a (wd + 1).toInt) (hRs a (wd + 1).toInt 69 6) (zFn (hRs a (wd + 1).toInt 69 6) kd (wd + 1) (Int32.ofInt (hRp a (wd + 1).toInt))) L) (hRs a (wd + 1).toInt 69 6)) rt (hRs a (wd + 1).toInt 69 6)) else a
def hMn (a : Nat → Nat → Int32) (wd : Int32) : Int32 := if (a 69 6).toInt < 512 then (if hRp a (wd + 1).toInt = -1 then -1 else hRs a (wd + 1).toInt 69 6) else -1
theorem hMk_0 {kd wd rt : Int32} (h : ¬ (a 69 6).toInt < 512) : hMk a kd wd L rt = a ∧ hMn a wd = -1 := ⟨if_neg h, if_neg h⟩
theorem hMk_1 {kd wd rt : Int32} (h : (a 69 6).toInt < 512) (h1 : hRp a (wd + 1).toInt = -1) : hMk a kd wd L rt = hRs a (wd + 1).toInt ∧ hMn a wd = -1 := by
  unfold hMk hMn
  rw [if_pos h, if_pos h, if_pos h1, if_pos h1]
  exact ⟨rfl, rfl⟩
theorem hMk_2 {kd wd rt : Int32} (h : (a 69 6).toInt < 512) (e : b = hRs a (wd + 1).toInt) (h1 : pl.toInt = hRp a (wd + 1).toInt) (h2 : ¬ pl.toInt = -1) (hy : y = b 69 6) : hMk a kd wd L rt = aR0 (hMd (aAd b y (zFn y kd (wd + 1) pl) L) y) rt y ∧ hMn a wd = y := by
  unfold hMk hMn
  rw [if_pos h, if_pos h, ← h1, if_neg h2, if_neg h2, ← e, hy, Int32.ofInt_toInt]
  exact ⟨rfl, rfl⟩
/-! the class -/
theorem aH_o {c : Nat} (h : c ≠ 87) : aH S c k = aS 75 S c k := if_neg h
theorem aH_7 : aH S 87 k = zfH (mI S) k := aM_7
theorem zf_81 (h : mI S₉ 81 = mI S 81) : zfH (mI S₉) = zfH (mI S) := by
  funext k
  unfold zfH
  rw [h]
theorem H_of (h : zO7 (aS 75 S₉) b) (h7 : ∀ k, b 87 k = zfH (mI S₉) k) : aH S₉ = b := by
  funext c k
  by_cases w : c = 87
  · rw [w, h7]
    exact aH_7
  · rw [aH_o w]
    exact h c k w
theorem H_o7 : zO7 (aS 75 S) (aH S) := fun c k q => (aH_o q).symm
theorem H_ad (h : aS 75 S₉ = aAd (aS 75 S) y F L) (h2 : zfH (mI S₉) = zfH (mI S)) : aH S₉ = aAd (aH S) y F L := H_of (by rw [h]; exact o7_ad H_o7) (fun k => by rw [ad_87, aH_7, h2])
theorem H_r0 (h : aS 75 S₉ = aR0 (aS 75 S) i y) (h2 : zfH (mI S₉) = zfH (mI S)) : aH S₉ = aR0 (aH S) i y := by
  refine H_of ?_ (fun k => ?_)
  · rw [h]
    unfold aR0
    have e : aNm (aH S) y = aNm (aS 75 S) y := by
      unfold aNm
      rw [aH_o (c := 126) (by decide)]
    rw [e]
    exact o7_u H_o7
  · unfold aR0
    rw [xu_o (by omega), aH_7, h2]
theorem H_th {nu kd sz pl : Int32} {rr : Int64} (hN : 126 ≤ mN S) (hr : ∀ n c, mR S 70 n = some c → c < mN S) : aH (zTh S nu kd sz rr pl) = aH S := by
  refine H_of ?_ (fun k => ?_)
  · rw [mk_a (Or.inl rfl) hN hr]
    exact H_o7
  · rw [aH_7]
    unfold zfH
    rw [zTh_lo (by decide) hN, zTh_lo (by decide) hN, zTh_lo (by decide) hN]
theorem aH_p (hR : xB S R) : aH (ma_put S 81 4 (.inl x)) = ma_u (aH S) 87 4 x := by
  have e := (xC_n (W := 75) (c := 81) (k := 4) (x := x) (xC_o hR) ⟨by decide, Or.inl ⟨rfl, rfl⟩⟩).1
  refine H_of (fun c k hc => ?_) (fun k => ?_)
  · rw [e, xu_o (fun w => hc w.1), aH_o hc]
  · by_cases w4 : k = 4
    · rw [w4, xu_s]
      rfl
    · rw [xu_o (fun w => w4 w.2), aH_7]
      unfold zfH
      rw [if_neg w4, if_neg w4]
      rfl
/-- behind the moves -/
theorem aH_q (h : aM (a 87) S = b) (h2 : mI S 81 2 = a 87 5) (h0 : a 87 0 = a 87 5 + a 87 5) (h3 : mI S 81 3 = x) (h4 : mI S 81 4 = y) (hk : ∀ k, k ≠ 0 → k ≠ 3 → k ≠ 4 → k ≠ 5 → a 87 k = 0) : aH S = ma_u (ma_u b 87 3 x) 87 4 y := by
  refine H_of (fun c k hc => ?_) (fun k => ?_)
  · rw [xu_o (fun w => hc w.1), xu_o (fun w => hc w.1), ← h, aM_o hc]
  · by_cases w4 : k = 4
    · rw [w4, xu_s, ← h4]
      rfl
    · rw [xu_o (fun w => w4 w.2)]
      by_cases w3 : k = 3
      · rw [w3, xu_s, ← h3]
        rfl
      · rw [xu_o (fun w => w3 w.2), ← h, aM_7]
        unfold zfH
        by_cases w0 : k = 0
        · rw [if_pos w0, w0, h2, h0]
        · rw [if_neg w0, if_neg w3, if_neg w4]
          by_cases w5 : k = 5
          · rw [if_pos w5, w5, h2]
          · rw [if_neg w5, hk k w0 w3 w4 w5]
theorem H_sv : aSv (aS 75 S) = aSv (aH S) := sv_eq (fun c k w => (aH_o w).symm)
theorem M_75 (h : j = 3 ∨ j = 4 ∨ j = 5) {q : Nat → Int32} : aM q S 75 j = mI S 75 j := (aM_o (by decide)).trans (by rcases h with h | h | h <;> rw [h] <;> rfl)
theorem M_76 {q : Nat → Int32} : aM q S 76 = mI S 76 := (aM_r (by decide)).trans (funext (fun k => aS_I rfl rfl))
def qK7 (a : Nat → Nat → Int32) : Prop := a 87 0 = a 87 5 + a 87 5 ∧ ∀ k, k ≠ 0 → k ≠ 3 → k ≠ 4 → k ≠ 5 → a 87 k = 0
theorem K7_H (h : aH S = a) : qK7 a := by
  rw [← h]
  refine ⟨rfl, fun k h0 h3 h4 h5 => ?_⟩
  rw [aH_7]
  unfold zfH
  rw [if_neg h0, if_neg h3, if_neg h4, if_neg h5]
theorem H_id (h : aH S = a) : aM (a 87) S = a := by
  rw [← h]
  funext c k
  by_cases w : c = 87
  · rw [w, aM_7]
  · rw [aM_o w, aH_o w]
theorem Fo_0 (h : aM (a 87) S₉ = aSw a) (hx : x = a 87 5 - a 87 3) : hMf ((mI S₉ 75 4).toInt - (0 : Int32).toInt).toNat (0 : Int32).toNatClampNeg (aM (a 87) S₉) x.toInt = hFo (aSw a) := by
  have e : aSw a 75 4 = mI S₉ 75 4 := by rw [← h, M_75 (Or.inr (Or.inl rfl))]
  unfold hFo
  rw [sw_87, sw_87, e, hx, h, show (0 : Int32).toInt = 0 from rfl, Int.sub_zero]
  rfl
theorem Jh_1 (h : qHv a) (hm : aM (a 87) S₉ = aSw a) (hx : x = a 87 5 - a 87 3) : qJh (aM (a 87) S₉) (a 87 5 - a 87 3).toInt (a 87 3).toInt (a 87 5).toInt (0 : Int32).toNatClampNeg x.toInt := by
  rw [hm, hx]
  exact Jh_0 h
theorem Jh_q {q : Nat → Int32} (h : qJh (aM q S) st ot r x.toNatClampNeg t) (h0 : 0 ≤ x.toInt) (hl : x.toInt < (mI S 75 4).toInt) (he : to.toInt = t) : hQc (aM q S) x.toNatClampNeg ∧ qMv (aS 75 S) (mI S 76 x.toNatClampNeg).toNatClampNeg to := by
  have c := tn_cast h0
  have nx := Jh_nx h (by rw [M_75 (Or.inr (Or.inl rfl))]; omega) he
  rw [M_76] at nx
  exact ⟨nx.1, Mv_S nx.2.1⟩
theorem Jh_no {q : Nat → Int32} (h : hQc (aM q S) x.toNatClampNeg) (hC : xB S R) (rn : zTa R (mI S 76 x.toNatClampNeg) = none) : False := by
  have z := xB_nt (W := 75) hC rn
  unfold hQc at h
  rw [M_76, aM_o (c := 126) (by decide)] at h
  exact z h
theorem Fo_s {q : Nat → Int32} {T : (Nat → Nat → Int32) × Int} {v : Int32} (h : hMf ((mI S 75 4).toInt - x.toInt).toNat x.toNatClampNeg (aM q S) to.toInt = T) (h0 : 0 ≤ x.toInt) (hl : x.toInt < (mI S 75 4).toInt) (h5 : (mI S 75 4).toInt ≤ 512) (hc : hQc (aM q S) x.toNatClampNeg) (hm : aS 75 S₉ = aMo (aS 75 S) (mI S 76 x.toNatClampNeg).toNatClampNeg to) (ht : v.toInt = to.toInt + (aS 75 S 128 (mI S 76 x.toNatClampNeg).toNatClampNeg).toInt) (hx : y.toInt = x.toInt + 1) : hMf ((mI S₉ 75 4).toInt - y.toInt).toNat y.toNatClampNeg (aM q S₉) v.toInt = T := by
  have c := tn_cast h0
  have c2 := tn_cast (x := y) (by omega)
  have e4 : mI S₉ 75 4 = mI S 75 4 := by
    have g : aM q S₉ 75 4 = aM q S 75 4 := by rw [M_mo hm, Mo_r (by decide) (by decide)]
    rw [M_75 (Or.inr (Or.inl rfl)), M_75 (Or.inr (Or.inl rfl))] at g
    exact g
  rw [show ((mI S 75 4).toInt - x.toInt).toNat = ((mI S 75 4).toInt - y.toInt).toNat + 1 from by omega, hMf_y hc] at h
  rw [e4, M_mo hm, ← h, M_76, Int32.ofInt_toInt, aM_o (c := 128) (by decide), ht, show y.toNatClampNeg = x.toNatClampNeg + 1 from by omega]
theorem Jh_s {q : Nat → Int32} {v : Int32} (h : qJh (aM q S) st ot r x.toNatClampNeg to.toInt) (h0 : 0 ≤ x.toInt) (hl : x.toInt < (mI S 75 4).toInt) (hm : aS 75 S₉ = aMo (aS 75 S) (mI S 76 x.toNatClampNeg).toNatClampNeg to) (ht : v.toInt = to.toInt + (aS 75 S 128 (mI S 76 x.toNatClampNeg).toNatClampNeg).toInt) (hx : y.toInt = x.toInt + 1) : qJh (aM q S₉) st ot r y.toNatClampNeg v.toInt := by
  have c := tn_cast h0
  have c2 := tn_cast (x := y) (by omega)
  have g := Jh_go h (by rw [M_75 (Or.inr (Or.inl rfl))]; omega) rfl
  rw [M_76, aM_o (c := 128) (by decide)] at g
  rw [M_mo hm, ht, show y.toNatClampNeg = x.toNatClampNeg + 1 from by omega]
  exact g
theorem Fo_e {q : Nat → Int32} {T : (Nat → Nat → Int32) × Int} (h : hMf ((mI S 75 4).toInt - x.toInt).toNat x.toNatClampNeg (aM q S) to.toInt = T) (hl : ¬ x.toInt < (mI S 75 4).toInt) : aM q S = T.1 ∧ to = Int32.ofInt T.2 := by
  rw [show ((mI S 75 4).toInt - x.toInt).toNat = 0 from by omega] at h
  rw [← h]
  exact ⟨rfl, (Int32.ofInt_toInt _).symm⟩
theorem Hcl_e (h : aM (a 87) S = (hFo (aSw a)).1) (h4 : mI S 81 4 = Int32.ofInt (hFo (aSw a)).2) (h3 : mI S 81 3 = a 87 5 - a 87 3) (h2 : mI S 81 2 = a 87 5) (hk : qK7 a) : aH S = hCl a := aH_q h h2 hk.1 h3 h4 hk.2
end F8

