/-! AGES, the class (written by wip/tools/gen15y.py) -/
/-! AGES: the class, step by step -/
section F21
variable {a b ab : Nat → Nat → Int32} {S S' : ma_S} {R : Nat → Option Nat} {x x2 y y2 i i2 to : Int32} {c d k n f j m : Nat} {p e : Int}
theorem cx_ix {pl cd : Int32} (h0 : 0 ≤ pl.toInt) (h1 : pl.toInt ≤ 200000) (i0 : 0 ≤ i.toInt) (i6 : i.toInt ≤ 61) (hc : 1 ≤ cd.toInt) : ((pl + 1 + i) / cd).toInt = (pl.toInt + 1 + i.toInt) / cd.toInt ∧ 0 ≤ ((pl + 1 + i) / cd).toInt := by
  have e1 : (pl + 1).toInt = pl.toInt + 1 := i_p1 (by omega)
  have e2 : (pl + 1 + i).toInt = pl.toInt + 1 + i.toInt := by
    rw [i_add (by omega) (by omega), e1]
  have d := i_div (x := pl + 1 + i) (y := cd) (by omega) hc
  rw [d.2.2.1, e2]
  exact ⟨rfl, by rw [← e2, ← d.2.2.1]; exact d.1⟩
/-! words that grow OLD -/
theorem Gr_s : gGr a (n + 1) = gGr a n + (if a 126 n ≠ 0 ∧ (a 87 9).toInt ≤ (a 130 n).toInt ∧ (a 87 11).toInt ≤ (a 131 n).toInt + 1 then (a 128 n).toInt else 0) := rfl
theorem Gr_b (hI : qI a) : ∀ n : Nat, n ≤ 512 → 0 ≤ gGr a n ∧ gGr a n ≤ 61 * (n : Int) := by
  intro n
  induction n with
  | zero => intro _; exact ⟨by show (0 : Int) ≤ 0; decide, by show (0 : Int) ≤ 61 * 0; decide⟩
  | succ n ih =>
    intro hn
    have q := ih (by omega)
    rw [Gr_s]
    split
    · next w =>
      have i := (hI.1 n ⟨by omega, w.1⟩).2.1
      omega
    · omega
theorem Gr_g (hI : qI a) : ∀ n m : Nat, (a 69 6).toInt ≤ (n : Int) → n ≤ m → m ≤ 512 → gGr a m = gGr a n := by
  intro n m hn hm h5
  induction m with
  | zero => rw [show n = 0 by omega]
  | succ m ih =>
    by_cases w : n = m + 1
    · rw [w]
    · rw [Gr_s, ih (by omega) (by omega), if_neg (fun z => ?_), Int.add_zero]
      have q := (hI.1 m ⟨by omega, z.1⟩).1.1
      omega
theorem gGr_0 (h : x.toInt = gGr (aG S) y.toNatClampNeg) (hn : ¬ (aG S 126 y.toNatClampNeg ≠ 0 ∧ (aG S 87 9).toInt ≤ (aG S 130 y.toNatClampNeg).toInt ∧ (aG S 87 11).toInt ≤ (aG S 131 y.toNatClampNeg).toInt + 1)) (h0 : 0 ≤ y.toInt) (hy : y2.toInt = y.toInt + 1) : x.toInt = gGr (aG S) y2.toNatClampNeg := by
  have t := tn_cast h0
  have t2 := tn_cast (x := y2) (by omega)
  rw [show y2.toNatClampNeg = y.toNatClampNeg + 1 from by omega, Gr_s, if_neg hn, Int.add_zero]
  exact h
theorem Gr_no (h : x.toInt = gGr (aG S) y.toNatClampNeg) (hC : xB S R) (rn : zTa R y = none) (h0 : 0 ≤ y.toInt) (h5 : y.toInt < 512) (hy : y2.toInt = y.toInt + 1) : x.toInt = gGr (aG S) y2.toNatClampNeg := gGr_0 h (fun z => xB_nt (W := 75) hC rn ⟨h0, h5, by rw [← aG_o (by decide) (by decide)]; exact z.1⟩) h0 hy
theorem Gr_n1 (h : x.toInt = gGr (aG S) y.toNatClampNeg) (hC : xB S R) (rg : zTa R y = some c) (hp : (mI S c 4).toInt < (mI S 82 3).toInt) (hy : y2.toInt = y.toInt + 1) : x.toInt = gGr (aG S) y2.toNatClampNeg := by
  have ty := xB_th (W := 75) hC rg
  refine gGr_0 h (fun z => ?_) ty.1 hy
  have z2 := z.2.1
  rw [aG_o (c := 130) (by decide) (by decide), ← ty.2.2.2.2.2.1] at z2
  have z3 : (mI S 82 3).toInt ≤ (mI S c 4).toInt := z2
  omega
theorem Gr_n2 (h : x.toInt = gGr (aG S) y.toNatClampNeg) (hC : xB S R) (rg : zTa R y = some c) (hp : (mI S c 5).toInt + 1 < (mI S 82 4).toInt) (hy : y2.toInt = y.toInt + 1) : x.toInt = gGr (aG S) y2.toNatClampNeg := by
  have ty := xB_th (W := 75) hC rg
  refine gGr_0 h (fun z => ?_) ty.1 hy
  have z2 := z.2.2
  rw [← xB_5 hC rg] at z2
  have z3 : (mI S 82 4).toInt ≤ (mI S c 5).toInt + 1 := z2
  omega
theorem gGr_y (h : x.toInt = gGr (aG S) y.toNatClampNeg) (hC : xB S R) (rg : zTa R y = some c) (hp : (mI S 82 3).toInt ≤ (mI S c 4).toInt) (ha : (mI S 82 4).toInt ≤ (mI S c 5).toInt + 1) (hx : x2.toInt = x.toInt + (mI S c 2).toInt) (hy : y2.toInt = y.toInt + 1) : x2.toInt = gGr (aG S) y2.toNatClampNeg := by
  have ty := xB_th (W := 75) hC rg
  have t := tn_cast ty.1
  have t2 := tn_cast (x := y2) (by omega)
  have e4 : (aG S 130 y.toNatClampNeg).toInt = (mI S c 4).toInt := by rw [aG_o (by decide) (by decide), ← ty.2.2.2.2.2.1]
  have e2 : (aG S 128 y.toNatClampNeg).toInt = (mI S c 2).toInt := by rw [aG_o (by decide) (by decide), ← ty.2.2.2.2.1]
  have e5 : (aG S 131 y.toNatClampNeg).toInt = (mI S c 5).toInt := by rw [← xB_5 hC rg]
  have e9 : (aG S 87 9).toInt = (mI S 82 3).toInt := rfl
  have e11 : (aG S 87 11).toInt = (mI S 82 4).toInt := rfl
  rw [show y2.toNatClampNeg = y.toNatClampNeg + 1 from by omega, Gr_s, if_pos ⟨by rw [aG_o (by decide) (by decide), ty.2.2.2.2.2.2.2.2]; decide, by omega, by omega⟩]
  omega
theorem AV_5 (hv : qAv (aG S)) (hC : xB S R) (rg : zTa R y = some c) : 0 ≤ (mI S c 5).toInt ∧ (mI S c 5).toInt ≤ 1000 := by
  have ty := xB_th (W := 75) hC rg
  have q := (hv.2.2.2.2.2.2.1 _ (show xAl (aG S) y.toNatClampNeg from ⟨zTa_n rg, by rw [aG_o (by decide) (by decide), ty.2.2.2.2.2.2.2.2]; decide⟩)).1
  rw [← xB_5 hC rg] at q
  have := hv.2.2.1.2.2.2.1
  exact ⟨q.1, by omega⟩
/-! what lies on dirty cards -/
theorem gDw_st (h : ¬ i.toInt < (a 128 n).toInt - 1) : gDw a n i = a := by
  unfold gDw
  rw [show ((a 128 n).toInt - 1 - i.toInt).toNat = 0 from by omega]
  rfl
theorem gDw_go (h : i.toInt < (a 128 n).toInt - 1) (hx : (i + 1).toInt = i.toInt + 1) : gDw a n i = gDw (if 0 < (a 87 12).toInt ∧ gCx a n i.toInt < 375 ∧ a 83 (gCx a n i.toInt).toNat ≠ 0 then aCm a (aRef a n i) else a) n (i + 1) := by
  have e : (if 0 < (a 87 12).toInt ∧ gCx a n i.toInt < 375 ∧ a 83 (gCx a n i.toInt).toNat ≠ 0 then aCm a (aRef a n i) else a) 128 n = a 128 n := by
    split
    · exact aCm_o ⟨by decide, by decide, by decide⟩
    · rfl
  unfold gDw
  rw [e, hx, show ((a 128 n).toInt - 1 - i.toInt).toNat = ((a 128 n).toInt - 1 - (i.toInt + 1)).toNat + 1 from by omega]
  rfl
theorem gDw_y (h : i.toInt < (a 128 n).toInt - 1) (hx : (i + 1).toInt = i.toInt + 1) (hd : gDy a n i.toInt) : gDw a n i = gDw (aCm a (aRef a n i)) n (i + 1) := by
  unfold gDy at hd
  rw [gDw_go h hx, if_pos hd]
theorem gDw_n (h : i.toInt < (a 128 n).toInt - 1) (hx : (i + 1).toInt = i.toInt + 1) (hd : ¬ gDy a n i.toInt) : gDw a n i = gDw a n (i + 1) := by
  unfold gDy at hd
  rw [gDw_go h hx, if_neg hd]
theorem gDc_o (h : c ≠ 75 ∧ c ≠ 76 ∧ c ≠ 77) : ∀ (f : Nat) (i : Int32) (a : Nat → Nat → Int32), gDc m f i a c k = a c k := by
  intro f
  induction f with
  | zero => intro i a; rfl
  | succ f ih =>
    intro i a
    show gDc m f (i + 1) (if _ then aCm a (aRef a m i) else a) c k = a c k
    rw [ih]
    split
    · exact aCm_o h
    · rfl
theorem gDw_o (h : c ≠ 75 ∧ c ≠ 76 ∧ c ≠ 77) : gDw a n i c k = a c k := gDc_o h _ _ _
theorem gOb_cg (h1 : b 71 = a 71) (h2 : b 126 = a 126) : zOb b p = zOb a p := by
  unfold zOb
  rw [h1, h2]
theorem gDw_r (h : c ≠ 75 ∧ c ≠ 76 ∧ c ≠ 77) : gDw a n i c = a c := funext (fun _ => gDw_o h)
theorem gDf_e (h : ¬ p < e) : gDf e f a p = a := by
  cases f with
  | zero => rfl
  | succ f => exact if_neg h
theorem gDf_fr (h : p < e) (hf : (zOb a p).toInt < 0) : gDf e (f + 1) a p = gDf e f a (p + 1) := by
  show (if p < e then _ else _) = _
  rw [if_pos h, if_pos hf]
theorem gDf_go (h : p < e) (hf : 0 ≤ (zOb a p).toInt) : gDf e (f + 1) a p = gDf e f (gDw a (zOb a p).toNatClampNeg 0) (p + (a 128 (zOb a p).toNatClampNeg).toInt) := by
  show (if p < e then _ else _) = _
  rw [if_pos h, if_neg (by omega)]
theorem S1_dw (h : zS1 a) : zS1 (gDw a n i) := fun m hm => by
  unfold xAl at hm
  rw [gDw_o ⟨by decide, by decide, by decide⟩] at hm
  rw [gDw_o ⟨by decide, by decide, by decide⟩]
  exact h m hm
theorem gDf_fu : ∀ (f g : Nat) (a : Nat → Nat → Int32) (p : Int), zS1 a → (e - p).toNat ≤ f → (e - p).toNat ≤ g → gDf e f a p = gDf e g a p := by
  intro f
  induction f with
  | zero =>
    intro g a p h hf hg
    rw [gDf_e (by omega), gDf_e (by omega)]
  | succ f ih =>
    intro g a p h hf hg
    by_cases c : p < e
    · cases g with
      | zero => omega
      | succ g =>
        by_cases d : (zOb a p).toInt < 0
        · rw [gDf_fr c d, gDf_fr c d]
          exact ih g _ _ h (by omega) (by omega)
        · have s := h _ (Ob_xl (a := a) (p := p) (by omega))
          rw [gDf_go c (by omega), gDf_go c (by omega)]
          exact ih g _ _ (S1_dw h) (by omega) (by omega)
    · rw [gDf_e c, gDf_e c]
theorem Dp_e (h : ¬ p < e) : gDp a e p = a := gDf_e h
theorem Dp_fr (h : p < e) (hf : (zOb a p).toInt < 0) : gDp a e p = gDp a e (p + 1) := by
  unfold gDp
  rw [show (e - p).toNat = (e - (p + 1)).toNat + 1 from by omega]
  exact gDf_fr h hf
theorem Dp_go (h1 : zS1 a) (h : p < e) (hf : 0 ≤ (zOb a p).toInt) : gDp a e p = gDp (gDw a (zOb a p).toNatClampNeg 0) e (p + (a 128 (zOb a p).toNatClampNeg).toInt) := by
  have s := h1 _ (Ob_xl (a := a) (p := p) hf)
  unfold gDp
  rw [show (e - p).toNat = (e - (p + 1)).toNat + 1 from by omega, gDf_go h hf]
  exact gDf_fu _ _ _ _ (S1_dw h1) (by omega) (by omega)
theorem o9_cm' (h : zO9 a b) : zO9 (aCm a y) (aCm b y) := o9_cm h
theorem G_cm (h : aS 75 S' = aCm (aS 75 S) y) (e1 : mI S' 82 = mI S 82) (e2 : mI S' 83 = mI S 83) : aG S' = aCm (aG S) y := G_f (f := fun a => aCm a y) (o9_cm G_o9) (fun _ _ _ w => aCm_o ⟨by omega, by omega, by omega⟩) h e1 e2
theorem G_rf : aRef (aS 75 S) n i = aRef (aG S) n i := o9_ref G_o9
theorem yb_e : zOb (aG S) = zOb (aS 75 S) := by
  funext p
  unfold zOb
  rw [aG_o (c := 71) (by decide) (by decide), aG_o (c := 126) (by decide) (by decide)]
theorem yb_y (hC : xB S R) (rg : zTa R (mI S 71 x.toNatClampNeg) = some c) (h0 : 0 ≤ x.toInt) (h1 : x.toInt < 4500) : zOb (aG S) x.toInt = mI S 71 x.toNatClampNeg ∧ aG S 128 (mI S 71 x.toNatClampNeg).toNatClampNeg = mI S c 2 := by
  rw [yb_e, aG_o (c := 128) (by decide) (by decide)]
  exact ob_y hC rg h0 h1
theorem yb_n2 (h : (mI S 71 x.toNatClampNeg).toInt < 0 ∨ 512 ≤ (mI S 71 x.toNatClampNeg).toInt) : zOb (aG S) x.toInt = -1 := by
  rw [yb_e]
  exact ob_n2 h
theorem yb_n3 (hC : xB S R) (rn : zTa R (mI S 71 x.toNatClampNeg) = none) : zOb (aG S) x.toInt = -1 := by
  rw [yb_e]
  exact ob_n3 hC rn
/-- the card that the class finds -/
theorem dy_e (hC : xB S R) (rg : zTa R y = some c) (hp : 0 ≤ (mI S c 4).toInt ∧ (mI S c 4).toInt ≤ 200000) (i0 : 0 ≤ i.toInt) (i6 : i.toInt ≤ 61) (hc : 1 ≤ (mI S 82 5).toInt) : ((mI S c 4 + 1 + i) / mI S 82 5).toInt = gCx (aG S) y.toNatClampNeg i.toInt ∧ 0 ≤ gCx (aG S) y.toNatClampNeg i.toInt := by
  have ty := xB_th (W := 75) hC rg
  have q := cx_ix (pl := mI S c 4) (cd := mI S 82 5) hp.1 hp.2 i0 i6 hc
  have e : gCx (aG S) y.toNatClampNeg i.toInt = ((mI S c 4).toInt + 1 + i.toInt) / (mI S 82 5).toInt := by
    unfold gCx
    rw [aG_o (c := 130) (by decide) (by decide), ← ty.2.2.2.2.2.1]
    rfl
  rw [e]
  exact ⟨q.1, by rw [← q.1]; exact q.2⟩
theorem dy_y (hC : xB S R) (rg : zTa R y = some c) (hp : 0 ≤ (mI S c 4).toInt ∧ (mI S c 4).toInt ≤ 200000) (i0 : 0 ≤ i.toInt) (i6 : i.toInt ≤ 61) (hc : 0 < (mI S 82 5).toInt) (h3 : ((mI S c 4 + 1 + i) / mI S 82 5).toInt < 375) (hd : (mI S 83 ((mI S c 4 + 1 + i) / mI S 82 5).toNatClampNeg).toInt ≠ 0) : gDy (aG S) y.toNatClampNeg i.toInt := by
  have q := dy_e hC rg hp i0 i6 (by omega)
  refine ⟨hc, by omega, ?_⟩
  rw [aG_8]
  have e : (gCx (aG S) y.toNatClampNeg i.toInt).toNat = ((mI S c 4 + 1 + i) / mI S 82 5).toNatClampNeg := by
    have := tn_cast (x := (mI S c 4 + 1 + i) / mI S 82 5) (by omega)
    omega
  rw [e]
  exact i_nz2 hd
theorem dy_n (hC : xB S R) (rg : zTa R y = some c) (hp : 0 ≤ (mI S c 4).toInt ∧ (mI S c 4).toInt ≤ 200000) (i0 : 0 ≤ i.toInt) (i6 : i.toInt ≤ 61) (h : (mI S 82 5).toInt ≤ 0 ∨ 375 ≤ ((mI S c 4 + 1 + i) / mI S 82 5).toInt ∨ (mI S 83 ((mI S c 4 + 1 + i) / mI S 82 5).toNatClampNeg).toInt = 0) : ¬ gDy (aG S) y.toNatClampNeg i.toInt := by
  rintro ⟨h1, h2, h3⟩
  have h1' : 0 < (mI S 82 5).toInt := h1
  have q := dy_e hC rg hp i0 i6 (by omega)
  rw [aG_8] at h3
  have e : (gCx (aG S) y.toNatClampNeg i.toInt).toNat = ((mI S c 4 + 1 + i) / mI S 82 5).toNatClampNeg := by
    have := tn_cast (x := (mI S c 4 + 1 + i) / mI S 82 5) (by omega)
    omega
  rw [e] at h3
  rcases h with w | w | w
  · omega
  · omega
  · exact h3 (i_zer w)
/-! dirty cards are found -/
def gNr (a : Nat → Nat → Int32) (n : Nat) (i : Int) (y : Int32) : Nat → Nat → Int32 := if (0 ≤ y.toInt ∧ y.toInt < 512 ∧ a 126 y.toNatClampNeg ≠ 0 ∧ (a 87 9).toInt ≤ (a 130 y.toNatClampNeg).toInt) ∧ (a 130 n).toInt < (a 87 9).toInt ∧ 0 < (a 87 12).toInt ∧ gCx a n i < 375 then ma_u a 83 (gCx a n i).toNat 1 else a
def gF1 (a : Nat → Nat → Int32) (n : Nat) : Nat → Nat → Int32 := fun c k => if c = 83 ∧ k < 375 then gNk a k n else a c k
def gF2 (a : Nat → Nat → Int32) (n i : Nat) : Nat → Nat → Int32 := fun c k => if c = 83 ∧ k < 375 then (if gWk a k n i ≠ 0 then 1 else gNk a k n) else a c k
theorem F2_r (h : c ≠ 83) : gF2 a n j c = a c := funext (fun k => if_neg (fun w => h w.1))
theorem F1_r (h : c ≠ 83) : gF1 a n c = a c := funext (fun k => if_neg (fun w => h w.1))
theorem Wk_01 : ∀ i, gWk a k n i = 0 ∨ gWk a k n i = 1 := by
  intro i
  induction i with
  | zero => exact Or.inl rfl
  | succ i ih =>
    show (if _ then (1 : Int32) else gWk a k n i) = 0 ∨ (if _ then (1 : Int32) else gWk a k n i) = 1
    split
    · exact Or.inr rfl
    · exact ih
theorem gF1_0 : gF1 a 0 = zFl a 83 0 375 := by
  funext c k
  unfold gF1 zFl
  by_cases w : c = 83 ∧ k < 375
  · rw [if_pos w, if_pos ⟨w.1, by omega⟩]
    rfl
  · rw [if_neg w, if_neg (fun z => w ⟨z.1, by omega⟩)]
theorem F2_0 : gF2 a n 0 = gF1 a n := by
  funext c k
  unfold gF2 gF1
  by_cases w : c = 83 ∧ k < 375
  · rw [if_pos w, if_pos w]
    exact if_neg (fun z => z rfl)
  · rw [if_neg w, if_neg w]
theorem F2_e (h6 : a 126 n ≠ 0) (ho : (a 130 n).toInt < (a 87 9).toInt) (hj : (j : Int) = (a 128 n).toInt - 1) : gF2 a n j = gF1 a (n + 1) := by
  funext c k
  unfold gF2 gF1
  by_cases w : c = 83 ∧ k < 375
  · rw [if_pos w, if_pos w]
    show _ = (if (a 126 n ≠ 0 ∧ (a 130 n).toInt < (a 87 9).toInt) ∧ gWk a k n ((a 128 n).toInt - 1).toNat ≠ 0 then 1 else gNk a k n)
    rw [show ((a 128 n).toInt - 1).toNat = j from by omega]
    by_cases z : gWk a k n j ≠ 0
    · rw [if_pos z, if_pos ⟨⟨h6, ho⟩, z⟩]
    · rw [if_neg z, if_neg (fun y => z y.2)]
  · rw [if_neg w, if_neg w]
theorem gF1_n (h : ¬ (a 126 n ≠ 0 ∧ (a 130 n).toInt < (a 87 9).toInt)) : gF1 a (n + 1) = gF1 a n := by
  funext c k
  unfold gF1
  by_cases w : c = 83 ∧ k < 375
  · rw [if_pos w, if_pos w]
    exact if_neg (fun z => h z.1)
  · rw [if_neg w, if_neg w]
theorem Nk_g (hI : qI a) : ∀ n m : Nat, (a 69 6).toInt ≤ (n : Int) → n ≤ m → m ≤ 512 → gNk a k m = gNk a k n := by
  intro n m hn hm h5
  induction m with
  | zero => rw [show n = 0 by omega]
  | succ m ih =>
    by_cases w : n = m + 1
    · rw [w]
    · refine (if_neg (fun z => ?_)).trans (ih (by omega) (by omega))
      have q := (hI.1 m ⟨by omega, z.1.1⟩).1.1
      omega
theorem F1_end (hI : qI a) (hn : (a 69 6).toInt ≤ (n : Int)) (h5 : n ≤ 512) : gF1 a n = gFd a := by
  funext c k
  unfold gF1 gFd
  by_cases w : c = 83 ∧ k < 375
  · rw [if_pos w, if_pos w, Nk_g hI n 512 hn h5 (Nat.le_refl _)]
  · rw [if_neg w, if_neg w]
theorem Nr_cg (h1 : b 126 = a 126) (h2 : b 130 = a 130) (h3 : b 87 = a 87) (h4 : b 71 = a 71) (h5 : ∀ n, b (1000 + n) = a (1000 + n)) : (∀ n i, aRef b n i = aRef a n i) ∧ ∀ n i, gCx b n i = gCx a n i := by
  refine ⟨fun n i => rf_cg (h5 n) h2 h4, fun n i => ?_⟩
  unfold gCx
  rw [h2, h3]
theorem Nr_s (ho : (a 130 n).toInt < (a 87 9).toInt) (hi : Int32.ofNat j = i) (hp : 0 ≤ (a 130 n).toInt) : gNr (gF2 a n j) n (j : Int) (aRef (gF2 a n j) n i) = gF2 a n (j + 1) := by
  have q := Nr_cg (a := a) (b := gF2 a n j) (F2_r (by decide)) (F2_r (by decide)) (F2_r (by decide)) (F2_r (by decide)) (fun n => F2_r (by omega))
  unfold gNr
  rw [q.1, F2_r (c := 126) (by decide), F2_r (c := 130) (by decide), F2_r (c := 87) (by decide), q.2]
  by_cases w : (0 ≤ (aRef a n i).toInt ∧ (aRef a n i).toInt < 512 ∧ a 126 (aRef a n i).toNatClampNeg ≠ 0 ∧ (a 87 9).toInt ≤ (a 130 (aRef a n i).toNatClampNeg).toInt) ∧ (a 130 n).toInt < (a 87 9).toInt ∧ 0 < (a 87 12).toInt ∧ gCx a n (j : Int) < 375
  · rw [if_pos w]
    have c0 : 0 ≤ gCx a n (j : Int) := Int.ediv_nonneg (by omega) (by omega)
    funext c' k'
    show (if c' = 83 ∧ k' = (gCx a n (j : Int)).toNat then 1 else gF2 a n j c' k') = gF2 a n (j + 1) c' k'
    unfold gF2
    by_cases z : c' = 83 ∧ k' < 375
    · rw [if_pos z, if_pos z]
      by_cases y : k' = (gCx a n (j : Int)).toNat
      · have e1 : gWk a k' n (j + 1) = 1 := if_pos ⟨by rw [hi]; exact w.1, w.2.2.1, by omega⟩
        rw [if_pos ⟨z.1, y⟩, e1, if_pos (by decide)]
      · have e1 : gWk a k' n (j + 1) = gWk a k' n j := if_neg (fun v => by have := v.2.2; omega)
        rw [if_neg (fun v => y v.2), e1]
    · rw [if_neg z, if_neg z, if_neg (fun v => z ⟨v.1, by have := v.2; omega⟩)]
  · rw [if_neg w]
    funext c' k'
    unfold gF2
    by_cases z : c' = 83 ∧ k' < 375
    · rw [if_pos z, if_pos z]
      have e1 : gWk a k' n (j + 1) = gWk a k' n j := if_neg (fun v => w ⟨by rw [← hi]; exact v.1, ho, v.2.1, by have := v.2.2; omega⟩)
      rw [e1]
    · rw [if_neg z, if_neg z]
end F21
