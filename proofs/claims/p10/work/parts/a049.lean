/-! from 95.u11 -/
/-! AGES, the class (written by wip/tools/gen15y.py) -/
/-! AGES: the class, step by step -/
section F21
variable {a b ab : Nat → Nat → Int32} {S S₉ : ma_S} {R : Nat → Option Nat} {x x2 y y2 i i2 to : Int32} {c d k n f j m : Nat} {p e : Int}
theorem cx_ix {pl cd : Int32} (h0 : 0 ≤ pl.toInt) (h1 : pl.toInt ≤ 200000) (i0 : 0 ≤ i.toInt) (i6 : i.toInt ≤ 61) (hc : 1 ≤ cd.toInt) : ((pl + 1 + i) / cd).toInt = (pl.toInt + 1 + i.toInt) / cd.toInt ∧ 0 ≤ ((pl + 1 + i) / cd).toInt := by
  have e1 : (pl + 1).toInt = pl.toInt + 1 := i_p1 (by omega)
  have e2 : (pl + 1 + i).toInt = pl.toInt + 1 + i.toInt := by
    rw [i_add (by omega) (by omega), e1]
  have d := i_div (x := pl + 1 + i) (y := cd) (by omega) hc
  rw [d.2.2.1, e2]
  exact ⟨rfl, by rw [← e2, ← d.2.2.1]; exact d.1⟩
/-! words that grow OLD -/
theorem Gr_s : gGr a (n + 1) = gGr a n + (if a 126 n ≠ 0 ∧ (a 87 9).toInt ≤ (a 130 n).toInt ∧ (a 87 11).toInt ≤ (a 131 n).toInt + 1 then (a 128 n).toInt else 0) := rfl
theorem Gr_g (hI : qI a) : ∀ n m : Nat, (a 69 6).toInt ≤ (n : Int) → n ≤ m → m ≤ 512 → gGr a m = gGr a n := by
  intro n m hn hm h5
  induction m with
  | zero => rw [show n = 0 by omega]
  | succ m ih =>
    by_cases w : n = m + 1
    · rw [w]
    · rw [Gr_s, ih (by omega) (by omega), if_neg (fun z => ?_), Int.add_zero]
      have q := (hI.1 m ⟨by omega, z.1⟩).1.1
      omega
theorem gGr_0 (h : x.toInt = gGr (aG S) y.toNatClampNeg) (hn : ¬ (aG S 126 y.toNatClampNeg ≠ 0 ∧ (aG S 87 9).toInt ≤ (aG S 130 y.toNatClampNeg).toInt ∧ (aG S 87 11).toInt ≤ (aG S 131 y.toNatClampNeg).toInt + 1)) (h0 : 0 ≤ y.toInt) (hy : y2.toInt = y.toInt + 1) : x.toInt = gGr (aG S) y2.toNatClampNeg := by
  have t := tn_cast h0
  have t2 := tn_cast (x := y2) (by omega)
  rw [show y2.toNatClampNeg = y.toNatClampNeg + 1 from by omega, Gr_s, if_neg hn, Int.add_zero]
  exact h
theorem Gr_no (h : x.toInt = gGr (aG S) y.toNatClampNeg) (hC : xB S R) (rn : zTa R y = none) (h0 : 0 ≤ y.toInt) (h5 : y.toInt < 512) (hy : y2.toInt = y.toInt + 1) : x.toInt = gGr (aG S) y2.toNatClampNeg := gGr_0 h (fun z => xB_nt (W := 75) hC rn ⟨h0, h5, by rw [← aG_o (by decide) (by decide)]; exact z.1⟩) h0 hy
theorem Gr_n1 (h : x.toInt = gGr (aG S) y.toNatClampNeg) (hC : xB S R) (rg : zTa R y = some c) (hp : (mI S c 4).toInt < (mI S 82 3).toInt) (hy : y2.toInt = y.toInt + 1) : x.toInt = gGr (aG S) y2.toNatClampNeg := by
  have ty := xB_th (W := 75) hC rg
  refine gGr_0 h (fun z => ?_) ty.1 hy
  have z2 := z.2.1
  rw [aG_o (c := 130) (by decide) (by decide), ← ty.2.2.2.2.2.1] at z2
  have z3 : (mI S 82 3).toInt ≤ (mI S c 4).toInt := z2
  omega
theorem Gr_n2 (h : x.toInt = gGr (aG S) y.toNatClampNeg) (hC : xB S R) (rg : zTa R y = some c) (hp : (mI S c 5).toInt + 1 < (mI S 82 4).toInt) (hy : y2.toInt = y.toInt + 1) : x.toInt = gGr (aG S) y2.toNatClampNeg := by
  have ty := xB_th (W := 75) hC rg
  refine gGr_0 h (fun z => ?_) ty.1 hy
  have z2 := z.2.2
  rw [← xB_5 hC rg] at z2
  have z3 : (mI S 82 4).toInt ≤ (mI S c 5).toInt + 1 := z2
  omega
theorem gGr_y (h : x.toInt = gGr (aG S) y.toNatClampNeg) (hC : xB S R) (rg : zTa R y = some c) (hp : (mI S 82 3).toInt ≤ (mI S c 4).toInt) (ha : (mI S 82 4).toInt ≤ (mI S c 5).toInt + 1) (hx : x2.toInt = x.toInt + (mI S c 2).toInt) (hy : y2.toInt = y.toInt + 1) : x2.toInt = gGr (aG S) y2.toNatClampNeg := by
  have ty := xB_th (W := 75) hC rg
  have t := tn_cast ty.1
  have t2 := tn_cast (x := y2) (by omega)
  have e4 : (aG S 130 y.toNatClampNeg).toInt = (mI S c 4).toInt := by rw [aG_o (by decide) (by decide), ← ty.2.2.2.2.2.1]
  have e2 : (aG S 128 y.toNatClampNeg).toInt = (mI S c 2).toInt := by rw [aG_o (by decide) (by decide), ← ty.2.2.2.2.1]
  have e5 : (aG S 131 y.toNatClampNeg).toInt = (mI S c 5).toInt := by rw [← xB_5 hC rg]
  have e9 : (aG S 87 9).toInt = (mI S 82 3).toInt := rfl
  have e11 : (aG S 87 11).toInt = (mI S 82 4).toInt := rfl
  rw [show y2.toNatClampNeg = y.toNatClampNeg + 1 from by omega, Gr_s, if_pos ⟨by rw [aG_o (by decide) (by decide), ty.2.2.2.2.2.2.2.2]; decide, by omega, by omega⟩]
  omega
theorem AV_5 (hv : qAv (aG S)) (hC : xB S R) (rg : zTa R y = some c) : 0 ≤ (mI S c 5).toInt ∧ (mI S c 5).toInt ≤ 1000 := by
  have ty := xB_th (W := 75) hC rg
  have q := (hv.2.2.2.2.2.2.1 _ (show xAl (aG S) y.toNatClampNeg from ⟨zTa_n rg, by rw [aG_o (by decide) (by decide), ty.2.2.2.2.2.2.2.2]; decide⟩)).1
  rw [← xB_5 hC rg] at q
  have := hv.2.2.1.2.2.2.1
  exact ⟨q.1, by omega⟩
/-! what lies on dirty cards -/
theorem gDw_st (h : ¬ i.toInt < (a 128 n).toInt - 1) : gDw a n i = a := by
  unfold gDw
  rw [show ((a 128 n).toInt - 1 - i.toInt).toNat = 0 from by omega]
  rfl
theorem gDw_go (h : i.toInt < (a 128 n).toInt - 1) (hx : (i + 1).toInt = i.toInt + 1) : gDw a n i = gDw (if 0 < (a 87 12).toInt ∧ gCx a n i.toInt < 375 ∧ a 83 (gCx a n i.toInt).toNat ≠ 0 then aCm a (aRef a n i) else a) n (i + 1) := by
  have e : (if 0 < (a 87 12).toInt ∧ gCx a n i.toInt < 375 ∧ a 83 (gCx a n i.toInt).toNat ≠ 0 then aCm a (aRef a n i) else a) 128 n = a 128 n := by
    split
    · exact aCm_o ⟨by decide, by decide, by decide⟩
    · rfl
  unfold gDw
  rw [e, hx, show ((a 128 n).toInt - 1 - i.toInt).toNat = ((a 128 n).toInt - 1 - (i.toInt + 1)).toNat + 1 from by omega]
  rfl
theorem gDw_y (h : i.toInt < (a 128 n).toInt - 1) (hx : (i + 1).toInt = i.toInt + 1) (hd : gDy a n i.toInt) : gDw a n i = gDw (aCm a (aRef a n i)) n (i + 1) := by
  unfold gDy at hd
  rw [gDw_go h hx, if_pos hd]
theorem gDw_n (h : i.toInt < (a 128 n).toInt - 1) (hx : (i + 1).toInt = i.toInt + 1) (hd : ¬ gDy a n i.toInt) : gDw a n i = gDw a n (i + 1) := by
  unfold gDy at hd
  rw [gDw_go h hx, if_neg hd]
theorem gDc_o (h : c ≠ 75 ∧ c ≠ 76 ∧ c ≠ 77) : ∀ (f : Nat) (i : Int32) (a : Nat → Nat → Int32), gDc m f i a c k = a c k := by
  intro f
  induction f with
  | zero => intro i a; rfl
  | succ f ih =>
    intro i a
    show gDc m f (i + 1) (if _ then aCm a (aRef a m i) else a) c k = a c k
    rw [ih]
    split
    · exact aCm_o h
    · rfl
theorem gDw_o (h : c ≠ 75 ∧ c ≠ 76 ∧ c ≠ 77) : gDw a n i c k = a c k := gDc_o h _ _ _
theorem gOb_cg (h1 : b 71 = a 71) (h2 : b 126 = a 126) : zOb b p = zOb a p := by
  unfold zOb
  rw [h1, h2]
theorem gDf_e (h : ¬ p < e) : gDf e f a p = a := by
  cases f with
  | zero => rfl
  | succ f => exact if_neg h
theorem gDf_fr (h : p < e) (hf : (zOb a p).toInt < 0) : gDf e (f + 1) a p = gDf e f a (p + 1) := by
  show (if p < e then _ else _) = _
  rw [if_pos h, if_pos hf]
theorem gDf_go (h : p < e) (hf : 0 ≤ (zOb a p).toInt) : gDf e (f + 1) a p = gDf e f (gDw a (zOb a p).toNatClampNeg 0) (p + (a 128 (zOb a p).toNatClampNeg).toInt) := by
  show (if p < e then _ else _) = _
  rw [if_pos h, if_neg (by omega)]
theorem S1_dw (h : zS1 a) : zS1 (gDw a n i) := fun m hm => by
  unfold xAl at hm
  rw [gDw_o ⟨by decide, by decide, by decide⟩] at hm
  rw [gDw_o ⟨by decide, by decide, by decide⟩]
  exact h m hm
theorem gDf_fu : ∀ (f g : Nat) (a : Nat → Nat → Int32) (p : Int), zS1 a → (e - p).toNat ≤ f → (e - p).toNat ≤ g → gDf e f a p = gDf e g a p := by
  intro f
  induction f with
  | zero =>
    intro g a p h hf hg
    rw [gDf_e (by omega), gDf_e (by omega)]
  | succ f ih =>
    intro g a p h hf hg
    by_cases c : p < e
    · cases g with
      | zero => omega
      | succ g =>
        by_cases d : (zOb a p).toInt < 0
        · rw [gDf_fr c d, gDf_fr c d]
          exact ih g _ _ h (by omega) (by omega)
        · have s := h _ (Ob_xl (a := a) (p := p) (by omega))
          rw [gDf_go c (by omega), gDf_go c (by omega)]
          exact ih g _ _ (S1_dw h) (by omega) (by omega)
    · rw [gDf_e c, gDf_e c]
theorem Dp_e (h : ¬ p < e) : gDp a e p = a := gDf_e h
theorem Dp_fr (h : p < e) (hf : (zOb a p).toInt < 0) : gDp a e p = gDp a e (p + 1) := by
  unfold gDp
  rw [show (e - p).toNat = (e - (p + 1)).toNat + 1 from by omega]
  exact gDf_fr h hf
theorem Dp_go (h1 : zS1 a) (h : p < e) (hf : 0 ≤ (zOb a p).toInt) : gDp a e p = gDp (gDw a (zOb a p).toNatClampNeg 0) e (p + (a 128 (zOb a p).toNatClampNeg).toInt) := by
  have s := h1 _ (Ob_xl (a := a) (p := p) hf)
  unfold gDp
  rw [show (e - p).toNat = (e - (p + 1)).toNat + 1 from by omega, gDf_go h hf]
  exact gDf_fu _ _ _ _ (S1_dw h1) (by omega) (by omega)
theorem G_cm (h : aS 75 S₉ = aCm (aS 75 S) y) (e1 : mI S₉ 82 = mI S 82) (e2 : mI S₉ 83 = mI S 83) : aG S₉ = aCm (aG S) y := G_f (f := fun a => aCm a y) (o9_cm G_o9) (fun _ _ _ w => aCm_o ⟨by omega, by omega, by omega⟩) h e1 e2
theorem G_rf : aRef (aS 75 S) n i = aRef (aG S) n i := o9_ref G_o9
theorem yb_e : zOb (aG S) = zOb (aS 75 S) := by
  funext p
  unfold zOb
  rw [aG_o (c := 71) (by decide) (by decide), aG_o (c := 126) (by decide) (by decide)]
theorem yb_y (hC : xB S R) (rg : zTa R (mI S 71 x.toNatClampNeg) = some c) (h0 : 0 ≤ x.toInt) (h1 : x.toInt < 4500) : zOb (aG S) x.toInt = mI S 71 x.toNatClampNeg ∧ aG S 128 (mI S 71 x.toNatClampNeg).toNatClampNeg = mI S c 2 := by
  rw [yb_e, aG_o (c := 128) (by decide) (by decide)]
  exact ob_y hC rg h0 h1
theorem yb_n2 (h : (mI S 71 x.toNatClampNeg).toInt < 0 ∨ 512 ≤ (mI S 71 x.toNatClampNeg).toInt) : zOb (aG S) x.toInt = -1 := by
  rw [yb_e]
  exact ob_n2 h
theorem yb_n3 (hC : xB S R) (rn : zTa R (mI S 71 x.toNatClampNeg) = none) : zOb (aG S) x.toInt = -1 := by
  rw [yb_e]
  exact ob_n3 hC rn
/-- the card that the class finds -/
theorem dy_e (hC : xB S R) (rg : zTa R y = some c) (hp : 0 ≤ (mI S c 4).toInt ∧ (mI S c 4).toInt ≤ 200000) (i0 : 0 ≤ i.toInt) (i6 : i.toInt ≤ 61) (hc : 1 ≤ (mI S 82 5).toInt) : ((mI S c 4 + 1 + i) / mI S 82 5).toInt = gCx (aG S) y.toNatClampNeg i.toInt ∧ 0 ≤ gCx (aG S) y.toNatClampNeg i.toInt := by
  have ty := xB_th (W := 75) hC rg
  have q := cx_ix (pl := mI S c 4) (cd := mI S 82 5) hp.1 hp.2 i0 i6 hc
  have e : gCx (aG S) y.toNatClampNeg i.toInt = ((mI S c 4).toInt + 1 + i.toInt) / (mI S 82 5).toInt := by
    unfold gCx
    rw [aG_o (c := 130) (by decide) (by decide), ← ty.2.2.2.2.2.1]
    rfl
  rw [e]
  exact ⟨q.1, by rw [← q.1]; exact q.2⟩
theorem dy_y (hC : xB S R) (rg : zTa R y = some c) (hp : 0 ≤ (mI S c 4).toInt ∧ (mI S c 4).toInt ≤ 200000) (i0 : 0 ≤ i.toInt) (i6 : i.toInt ≤ 61) (hc : 0 < (mI S 82 5).toInt) (h3 : ((mI S c 4 + 1 + i) / mI S 82 5).toInt < 375) (hd : (mI S 83 ((mI S c 4 + 1 + i) / mI S 82 5).toNatClampNeg).toInt ≠ 0) : gDy (aG S) y.toNatClampNeg i.toInt := by
  have q := dy_e hC rg hp i0 i6 (by omega)
  refine ⟨hc, by omega, ?_⟩
  rw [aG_8]
  have e : (gCx (aG S) y.toNatClampNeg i.toInt).toNat = ((mI S c 4 + 1 + i) / mI S 82 5).toNatClampNeg := by
    have := tn_cast (x := (mI S c 4 + 1 + i) / mI S 82 5) (by omega)
    omega
  rw [e]
  exact i_nz2 hd
theorem dy_n (hC : xB S R) (rg : zTa R y = some c) (hp : 0 ≤ (mI S c 4).toInt ∧ (mI S c 4).toInt ≤ 200000) (i0 : 0 ≤ i.toInt) (i6 : i.toInt ≤ 61) (h : (mI S 82 5).toInt ≤ 0 ∨ 375 ≤ ((mI S c 4 + 1 + i) / mI S 82 5).toInt ∨ (mI S 83 ((mI S c 4 + 1 + i) / mI S 82 5).toNatClampNeg).toInt = 0) : ¬ gDy (aG S) y.toNatClampNeg i.toInt := by
  rintro ⟨h1, h2, h3⟩
  have h1₉ : 0 < (mI S 82 5).toInt := h1
  have q := dy_e hC rg hp i0 i6 (by omega)
  rw [aG_8] at h3
  have e : (gCx (aG S) y.toNatClampNeg i.toInt).toNat = ((mI S c 4 + 1 + i) / mI S 82 5).toNatClampNeg := by
    have := tn_cast (x := (mI S c 4 + 1 + i) / mI S 82 5) (by omega)
    omega
  rw [e] at h3
  rcases h with w | w | w
  · omega
  · omega
  · exact h3 (i_zer w)
/-! dirty cards are found -/
def gNr (a : Nat → Nat → Int32) (n : Nat) (i : Int) (y : Int32) : Nat → Nat → Int32 := if (0 ≤ y.toInt ∧ y.toInt < 512 ∧ a 126 y.toNatClampNeg ≠ 0 ∧ (a 87 9).toInt ≤ (a 130 y.toNatClampNeg).toInt) ∧ (a 130 n).toInt < (a 87 9).toInt ∧ 0 < (a 87 12).toInt ∧ gCx a n i < 375 then ma_u a 83 (gCx a n i).toNat 1 else a
def gF1 (a : Nat → Nat → Int32) (n : Nat) : Nat → Nat → Int32 := fun c k => if c = 83 ∧ k < 375 then gNk a k n else a c k
def gF2 (a : Nat → Nat → Int32) (n i : Nat) : Nat → Nat → Int32 := fun c k => if c = 83 ∧ k < 375 then (if gWk a k n i ≠ 0 then 1 else gNk a k n) else a c k
theorem F2_r (h : c ≠ 83) : gF2 a n j c = a c := funext (fun k => if_neg (fun w => h w.1))
theorem F1_r (h : c ≠ 83) : gF1 a n c = a c := funext (fun k => if_neg (fun w => h w.1))
theorem gF1_0 : gF1 a 0 = zFl a 83 0 375 := by
  funext c k
  unfold gF1 zFl
  by_cases w : c = 83 ∧ k < 375
  · rw [if_pos w, if_pos ⟨w.1, by omega⟩]
    rfl
  · rw [if_neg w, if_neg (fun z => w ⟨z.1, by omega⟩)]
theorem F2_0 : gF2 a n 0 = gF1 a n := by
  funext c k
  unfold gF2 gF1
  by_cases w : c = 83 ∧ k < 375
  · rw [if_pos w, if_pos w]
    exact if_neg (fun z => z rfl)
  · rw [if_neg w, if_neg w]
theorem F2_e (h6 : a 126 n ≠ 0) (ho : (a 130 n).toInt < (a 87 9).toInt) (hj : (j : Int) = (a 128 n).toInt - 1) : gF2 a n j = gF1 a (n + 1) := by
  funext c k
  unfold gF2 gF1
  by_cases w : c = 83 ∧ k < 375
  · rw [if_pos w, if_pos w]
    show _ = (if (a 126 n ≠ 0 ∧ (a 130 n).toInt < (a 87 9).toInt) ∧ gWk a k n ((a 128 n).toInt - 1).toNat ≠ 0 then 1 else gNk a k n)
    rw [show ((a 128 n).toInt - 1).toNat = j from by omega]
    by_cases z : gWk a k n j ≠ 0
    · rw [if_pos z, if_pos ⟨⟨h6, ho⟩, z⟩]
    · rw [if_neg z, if_neg (fun y => z y.2)]
  · rw [if_neg w, if_neg w]
theorem gF1_n (h : ¬ (a 126 n ≠ 0 ∧ (a 130 n).toInt < (a 87 9).toInt)) : gF1 a (n + 1) = gF1 a n := by
  funext c k
  unfold gF1
  by_cases w : c = 83 ∧ k < 375
  · rw [if_pos w, if_pos w]
    exact if_neg (fun z => h z.1)
  · rw [if_neg w, if_neg w]
theorem Nk_g (hI : qI a) : ∀ n m : Nat, (a 69 6).toInt ≤ (n : Int) → n ≤ m → m ≤ 512 → gNk a k m = gNk a k n := by
  intro n m hn hm h5
  induction m with
  | zero => rw [show n = 0 by omega]
  | succ m ih =>
    by_cases w : n = m + 1
    · rw [w]
    · refine (if_neg (fun z => ?_)).trans (ih (by omega) (by omega))
      have q := (hI.1 m ⟨by omega, z.1.1⟩).1.1
      omega
theorem F1_end (hI : qI a) (hn : (a 69 6).toInt ≤ (n : Int)) (h5 : n ≤ 512) : gF1 a n = gFd a := by
  funext c k
  unfold gF1 gFd
  by_cases w : c = 83 ∧ k < 375
  · rw [if_pos w, if_pos w, Nk_g hI n 512 hn h5 (Nat.le_refl _)]
  · rw [if_neg w, if_neg w]
theorem Nr_cg (h1 : b 126 = a 126) (h2 : b 130 = a 130) (h3 : b 87 = a 87) (h4 : b 71 = a 71) (h5 : ∀ n, b (1000 + n) = a (1000 + n)) : (∀ n i, aRef b n i = aRef a n i) ∧ ∀ n i, gCx b n i = gCx a n i := by
  refine ⟨fun n i => rf_cg (h5 n) h2 h4, fun n i => ?_⟩
  unfold gCx
  rw [h2, h3]
theorem Nr_s (ho : (a 130 n).toInt < (a 87 9).toInt) (hi : Int32.ofNat j = i) (hp : 0 ≤ (a 130 n).toInt) : gNr (gF2 a n j) n (j : Int) (aRef (gF2 a n j) n i) = gF2 a n (j + 1) := by
  have q := Nr_cg (a := a) (b := gF2 a n j) (F2_r (by decide)) (F2_r (by decide)) (F2_r (by decide)) (F2_r (by decide)) (fun n => F2_r (by omega))
  unfold gNr
  rw [q.1, F2_r (c := 126) (by decide), F2_r (c := 130) (by decide), F2_r (c := 87) (by decide), q.2]
  by_cases w : (0 ≤ (aRef a n i).toInt ∧ (aRef a n i).toInt < 512 ∧ a 126 (aRef a n i).toNatClampNeg ≠ 0 ∧ (a 87 9).toInt ≤ (a 130 (aRef a n i).toNatClampNeg).toInt) ∧ (a 130 n).toInt < (a 87 9).toInt ∧ 0 < (a 87 12).toInt ∧ gCx a n (j : Int) < 375
  · rw [if_pos w]
    have c0 : 0 ≤ gCx a n (j : Int) := Int.ediv_nonneg (by omega) (by omega)
    funext c₉ k₉
    show (if c₉ = 83 ∧ k₉ = (gCx a n (j : Int)).toNat then 1 else gF2 a n j c₉ k₉) = gF2 a n (j + 1) c₉ k₉
    unfold gF2
    by_cases z : c₉ = 83 ∧ k₉ < 375
    · rw [if_pos z, if_pos z]
      by_cases y : k₉ = (gCx a n (j : Int)).toNat
      · have e1 : gWk a k₉ n (j + 1) = 1 := if_pos ⟨by rw [hi]; exact w.1, w.2.2.1, by omega⟩
        rw [if_pos ⟨z.1, y⟩, e1, if_pos (by decide)]
      · have e1 : gWk a k₉ n (j + 1) = gWk a k₉ n j := if_neg (fun v => by have := v.2.2; omega)
        rw [if_neg (fun v => y v.2), e1]
    · rw [if_neg z, if_neg z, if_neg (fun v => z ⟨v.1, by have := v.2; omega⟩)]
  · rw [if_neg w]
    funext c₉ k₉
    unfold gF2
    by_cases z : c₉ = 83 ∧ k₉ < 375
    · rw [if_pos z, if_pos z]
      have e1 : gWk a k₉ n (j + 1) = gWk a k₉ n j := if_neg (fun v => w ⟨by rw [← hi]; exact v.1, ho, v.2.1, by have := v.2.2; omega⟩)
      rw [e1]
    · rw [if_neg z, if_neg z]
end F21

/-! from 95.u12 -/
/-! AGES, the class (written by wip/tools/gen15y.py) -/
/-! AGES: a walk with a floor is one without, where those below are BLACK already -/
def aPc (a : Nat → Nat → Int32) : Nat → Nat → Int32 := fun c k => if c = 75 ∧ k = 5 then 0 else if c = 77 ∧ k < 512 ∧ a 126 k ≠ 0 ∧ (a 130 k).toInt < (a 75 5).toInt then 2 else a c k
section F22
variable {a b : Nat → Nat → Int32} {x y i : Int32} {c k n m f c0 k0 : Nat} {p e : Int}
theorem Pc_o (h : c ≠ 75) (h2 : c ≠ 77) : aPc a c k = a c k := (if_neg (fun w => h w.1)).trans (if_neg (fun w => h2 w.1))
theorem Pc_r (h : c ≠ 75) (h2 : c ≠ 77) : aPc a c = a c := funext (fun _ => Pc_o h h2)
theorem Pc_5 : aPc a 75 5 = 0 := if_pos ⟨rfl, rfl⟩
theorem Pc_75 (h : k ≠ 5) : aPc a 75 k = a 75 k := (if_neg (fun w => h w.2)).trans (if_neg (fun w => absurd w.1 (by decide)))
theorem Pc_7o (h : k < 512) (h6 : a 126 k ≠ 0) (hp : (a 130 k).toInt < (a 75 5).toInt) : aPc a 77 k = 2 := (if_neg (fun w => absurd w.1 (by decide))).trans (if_pos ⟨rfl, h, h6, hp⟩)
theorem Pc_7y (h : ¬ (k < 512 ∧ a 126 k ≠ 0 ∧ (a 130 k).toInt < (a 75 5).toInt)) : aPc a 77 k = a 77 k := (if_neg (fun w => absurd w.1 (by decide))).trans (if_neg (fun w => h w.2))
theorem Pc_u1 (h1 : c0 ≠ 126) (h2 : c0 ≠ 130) (h3 : ¬ (c0 = 75 ∧ k0 = 5)) (h4 : ¬ (c0 = 77 ∧ k0 < 512 ∧ a 126 k0 ≠ 0 ∧ (a 130 k0).toInt < (a 75 5).toInt) ∨ (c0 = 77 ∧ x = 2)) : aPc (ma_u a c0 k0 x) = ma_u (aPc a) c0 k0 x := by
  have r1 : ma_u a c0 k0 x 126 = a 126 := ma_u_ne _ _ _ (fun z => h1 z.symm)
  have r2 : ma_u a c0 k0 x 130 = a 130 := ma_u_ne _ _ _ (fun z => h2 z.symm)
  have r3 : ma_u a c0 k0 x 75 5 = a 75 5 := xu_o (fun z => h3 ⟨z.1.symm, z.2.symm⟩)
  funext c k
  unfold aPc
  rw [r1, r2, r3]
  show (if c = 75 ∧ k = 5 then 0 else if c = 77 ∧ k < 512 ∧ a 126 k ≠ 0 ∧ (a 130 k).toInt < (a 75 5).toInt then 2 else (if c = c0 ∧ k = k0 then x else a c k)) = (if c = c0 ∧ k = k0 then x else (if c = 75 ∧ k = 5 then 0 else if c = 77 ∧ k < 512 ∧ a 126 k ≠ 0 ∧ (a 130 k).toInt < (a 75 5).toInt then 2 else a c k))
  by_cases w0 : c = c0 ∧ k = k0
  · rw [if_pos w0, if_pos w0, if_neg (fun z => h3 ⟨w0.1 ▸ z.1, w0.2 ▸ z.2⟩)]
    by_cases w1 : c = 77 ∧ k < 512 ∧ a 126 k ≠ 0 ∧ (a 130 k).toInt < (a 75 5).toInt
    · rw [if_pos w1]
      rcases h4 with z | z
      · rw [w0.1, w0.2] at w1
        exact absurd w1 z
      · exact z.2.symm
    · rw [if_neg w1]
  · rw [if_neg w0, if_neg w0]
theorem Pc_al : xAl (aPc a) n ↔ xAl a n := by
  unfold xAl
  rw [Pc_o (by decide) (by decide)]
theorem Pc_rf : aRef (aPc a) n i = aRef a n i := rf_cg (Pc_r (by omega) (by omega)) (Pc_r (by decide) (by decide)) (Pc_r (by decide) (by decide))
/-- WHITE ones -/
theorem Pc_w (h0 : 0 ≤ (a 75 5).toInt) (hn : n < 512) (h6 : a 126 n ≠ 0) : ((a 75 5).toInt ≤ (a 130 n).toInt ∧ a 77 n = 0) ↔ ((aPc a 75 5).toInt ≤ (aPc a 130 n).toInt ∧ aPc a 77 n = 0) := by
  rw [Pc_5, Pc_o (c := 130) (by decide) (by decide)]
  have z0 : (0 : Int32).toInt = 0 := rfl
  by_cases w : (a 130 n).toInt < (a 75 5).toInt
  · rw [Pc_7o hn h6 w]
    exact ⟨fun z => by omega, fun z => absurd z.2 (by decide)⟩
  · rw [Pc_7y (fun z => w z.2.2)]
    exact ⟨fun z => ⟨by omega, z.2⟩, fun z => ⟨by omega, z.2⟩⟩
theorem Pc_cm (h0 : 0 ≤ (a 75 5).toInt) : aPc (aCm a y) = aCm (aPc a) y := by
  unfold aCm
  rw [Pc_o (c := 126) (by decide) (by decide), Pc_75 (k := 4) (by decide)]
  by_cases w : 0 ≤ y.toInt ∧ y.toInt < 512 ∧ a 126 y.toNatClampNeg ≠ 0 ∧ (a 75 5).toInt ≤ (a 130 y.toNatClampNeg).toInt ∧ (a 75 4).toInt < 512 ∧ a 77 y.toNatClampNeg = 0
  · have hn : y.toNatClampNeg < 512 := by
      have := tn_cast w.1
      omega
    have q := (Pc_w h0 hn w.2.2.1).mp ⟨w.2.2.2.1, w.2.2.2.2.2⟩
    rw [if_pos w, if_pos ⟨w.1, w.2.1, w.2.2.1, q.1, w.2.2.2.2.1, q.2⟩]
    rw [Pc_u1 (by decide) (by decide) (by decide) (Or.inl (by omega)), Pc_u1 (by decide) (by decide) (by omega) (Or.inl (by omega)), Pc_u1 (by decide) (by decide) (by omega) (Or.inl (fun z => by omega))]
  · rw [if_neg w, if_neg (fun z => w ?_)]
    have hn : y.toNatClampNeg < 512 := by
      have := tn_cast z.1
      omega
    have q := (Pc_w h0 hn z.2.2.1).mpr ⟨z.2.2.2.1, z.2.2.2.2.2⟩
    exact ⟨z.1, z.2.1, z.2.2.1, q.1, z.2.2.2.2.1, q.2⟩
theorem cm_5 : aCm a y 75 5 = a 75 5 := aCm_5
theorem Pc_cwf : ∀ (f : Nat) (i : Int32) (a : Nat → Nat → Int32), 0 ≤ (a 75 5).toInt → aPc (aCwf m f i a) = aCwf m f i (aPc a) := by
  intro f
  induction f with
  | zero => intro i a _; rfl
  | succ f ih =>
    intro i a h
    show aPc (aCwf m f (i + 1) (aCm a (aRef a m i))) = aCwf m f (i + 1) (aCm (aPc a) (aRef (aPc a) m i))
    rw [ih _ _ (by rw [aCm_5]; exact h), Pc_cm h, Pc_rf]
theorem cwf_5 : ∀ (f : Nat) (i : Int32) (a : Nat → Nat → Int32), aCwf m f i a 75 5 = a 75 5 := by
  intro f
  induction f with
  | zero => intro i a; rfl
  | succ f ih =>
    intro i a
    show aCwf m f (i + 1) (aCm a (aRef a m i)) 75 5 = a 75 5
    rw [ih, aCm_5]
theorem pop_5 : aPop a 75 5 = a 75 5 := by
  unfold aPop
  split
  · unfold aCw
    rw [cwf_5, xu_o (by omega), xu_o (by omega)]
  · rw [xu_o (by omega)]
theorem Pc_pop (h : 0 ≤ (a 75 5).toInt) : aPc (aPop a) = aPop (aPc a) := by
  unfold aPop
  rw [Pc_75 (k := 3) (by decide), Pc_o (c := 76) (by decide) (by decide), Pc_o (c := 126) (by decide) (by decide)]
  split
  · unfold aCw
    rw [Pc_cwf _ _ _ (by rw [xu_o (by omega), xu_o (by omega)]; exact h), Pc_u1 (by decide) (by decide) (by omega) (Or.inr ⟨rfl, rfl⟩), Pc_u1 (by decide) (by decide) (by decide) (Or.inl (by omega)), xu_o (c := 128) (by omega), xu_o (c := 128) (by omega), xu_o (c := 128) (by omega), xu_o (c := 128) (by omega), Pc_o (c := 128) (by decide) (by decide)]
  · rw [Pc_u1 (by decide) (by decide) (by decide) (Or.inl (by omega))]
theorem sp_5 : ∀ (f : Nat) (a : Nat → Nat → Int32), aSp f a 75 5 = a 75 5 := by
  intro f
  induction f with
  | zero => intro a; rfl
  | succ f ih =>
    intro a
    show (if (a 75 3).toInt < (a 75 4).toInt then aSp f (aPop a) else a) 75 5 = a 75 5
    split
    · rw [ih, pop_5]
    · rfl
theorem Pc_sp : ∀ (f : Nat) (a : Nat → Nat → Int32), 0 ≤ (a 75 5).toInt → aPc (aSp f a) = aSp f (aPc a) := by
  intro f
  induction f with
  | zero => intro a _; rfl
  | succ f ih =>
    intro a h
    show aPc (if (a 75 3).toInt < (a 75 4).toInt then aSp f (aPop a) else a) = (if (aPc a 75 3).toInt < (aPc a 75 4).toInt then aSp f (aPop (aPc a)) else aPc a)
    rw [Pc_75 (k := 3) (by decide), Pc_75 (k := 4) (by decide)]
    split
    · rw [ih _ (by rw [pop_5]; exact h), Pc_pop h]
    · rfl
theorem Pc_hf : ∀ (f : Nat) (n : Int32) (a : Nat → Nat → Int32), 0 ≤ (a 75 5).toInt → aPc (aHf f n a) = aHf f n (aPc a) := by
  intro f
  induction f with
  | zero => intro n a _; rfl
  | succ f ih =>
    intro n a h
    show aPc (aHf f (n + 1) (if 0 ≤ n.toInt ∧ n.toInt < 512 ∧ a 126 n.toNatClampNeg ≠ 0 ∧ 0 < (a 133 n.toNatClampNeg).toInt then aCm a n else a)) = aHf f (n + 1) (if 0 ≤ n.toInt ∧ n.toInt < 512 ∧ aPc a 126 n.toNatClampNeg ≠ 0 ∧ 0 < (aPc a 133 n.toNatClampNeg).toInt then aCm (aPc a) n else aPc a)
    rw [Pc_o (c := 126) (by decide) (by decide), Pc_o (c := 133) (by decide) (by decide)]
    split
    · rw [ih _ _ (by rw [aCm_5]; exact h), Pc_cm h]
    · exact ih _ _ h
theorem Pc_wf : ∀ (f : Nat) (n : Int32) (a : Nat → Nat → Int32), 0 ≤ (a 75 5).toInt → aPc (aWf f n a) = aWf f n (aPc a) := by
  intro f
  induction f with
  | zero =>
    intro n a h
    show aPc (aHo a 0) = aHo (aPc a) 0
    unfold aHo
    rw [Pc_o (c := 69) (by decide) (by decide)]
    exact Pc_hf _ _ _ h
  | succ f ih =>
    intro n a h
    show aPc (aWf f (n + 1) (aCm a (a 74 n.toNatClampNeg))) = aWf f (n + 1) (aCm (aPc a) (aPc a 74 n.toNatClampNeg))
    rw [ih _ _ (by rw [aCm_5]; exact h), Pc_cm h, Pc_o (c := 74) (by decide) (by decide)]
theorem Pc_rof : ∀ (f : Nat) (n : Int32) (a : Nat → Nat → Int32), 0 ≤ (a 75 5).toInt → aPc (aRf f n a) = aRf f n (aPc a) := by
  intro f
  induction f with
  | zero =>
    intro n a h
    show aPc (aWi a 0) = aWi (aPc a) 0
    unfold aWi
    rw [Pc_o (c := 69) (by decide) (by decide)]
    exact Pc_wf _ _ _ h
  | succ f ih =>
    intro n a h
    show aPc (aRf f (n + 1) (aCm a (a 72 n.toNatClampNeg))) = aRf f (n + 1) (aCm (aPc a) (aPc a 72 n.toNatClampNeg))
    rw [ih _ _ (by rw [aCm_5]; exact h), Pc_cm h, Pc_o (c := 72) (by decide) (by decide)]
theorem Pc_gr : aPc (aGr a y) = aGr (aPc a) y := by
  have r : ∀ c, c ≠ 73 → c ≠ 74 → c ≠ 69 → c ≠ 134 → aGr a y c = a c := fun c h1 h2 h3 h4 => gr_r h1 h4 h2 h3
  have uw : zUw (aPc a) y 16 = fun (c k : Nat) => if c = 73 ∧ (k : Int) < 16 ∧ a 73 k = y then -1 else aPc a c k := by
    funext c k
    unfold zUw
    rw [Pc_o (c := 73) (by decide) (by decide)]
  funext c k
  by_cases w5 : c = 75 ∧ k = 5
  · rw [w5.1, w5.2, Pc_5, gr_r (by decide) (by decide) (by decide) (by decide), Pc_5]
  · by_cases w : c = 75 ∨ c = 77
    · rw [show aGr (aPc a) y c = aPc a c from gr_r (by omega) (by omega) (by omega) (by omega)]
      unfold aPc
      rw [r 126 (by decide) (by decide) (by decide) (by decide), r 130 (by decide) (by decide) (by decide) (by decide), r 75 (by decide) (by decide) (by decide) (by decide), r c (by omega) (by omega) (by omega) (by omega)]
    · rw [Pc_o (by omega) (by omega)]
      have o : ∀ c₉ k₉, c₉ ≠ 75 → c₉ ≠ 77 → aPc a c₉ k₉ = a c₉ k₉ := fun c₉ k₉ h1 h2 => Pc_o h1 h2
      unfold aGr
      rw [o 69 5 (by decide) (by decide)]
      split
      · show (if c = 69 ∧ k = 5 then _ else if c = 74 ∧ k = _ then _ else if c = 134 ∧ k = _ then _ else zUw a y 16 c k) = (if c = 69 ∧ k = 5 then _ else if c = 74 ∧ k = _ then _ else if c = 134 ∧ k = _ then _ else zUw (aPc a) y 16 c k)
        unfold zUw
        rw [o 73 k (by decide) (by decide), o c k (by omega) (by omega)]
      · show (if c = 134 ∧ k = _ then _ else zUw a y 16 c k) = (if c = 134 ∧ k = _ then _ else zUw (aPc a) y 16 c k)
        unfold zUw
        rw [o 73 k (by decide) (by decide), o c k (by omega) (by omega)]
theorem gr_5c : aGr a y 75 5 = a 75 5 := congrFun (gr_r (by decide) (by decide) (by decide) (by decide)) 5
theorem Pc_gc (h : 0 ≤ (a 75 5).toInt) : aGc (aPc a) x ↔ aGc a x := by
  unfold aGc
  rw [Pc_o (c := 126) (by decide) (by decide), Pc_o (c := 134) (by decide) (by decide)]
  constructor
  · intro z
    have hn : x.toNatClampNeg < 512 := by
      have := tn_cast z.1
      have := z.2.1
      omega
    have q := (Pc_w h hn z.2.2.1).mpr ⟨z.2.2.2.2.1, z.2.2.2.2.2⟩
    exact ⟨z.1, z.2.1, z.2.2.1, z.2.2.2.1, q.1, q.2⟩
  · intro z
    have hn : x.toNatClampNeg < 512 := by
      have := tn_cast z.1
      have := z.2.1
      omega
    have q := (Pc_w h hn z.2.2.1).mp ⟨z.2.2.2.2.1, z.2.2.2.2.2⟩
    exact ⟨z.1, z.2.1, z.2.2.1, z.2.2.2.1, q.1, q.2⟩
theorem gf_5 : ∀ (f : Nat) (n : Int32) (a : Nat → Nat → Int32), aGf f n a 75 5 = a 75 5 := by
  intro f
  induction f with
  | zero => intro n a; rfl
  | succ f ih =>
    intro n a
    by_cases w : aGc a n
    · rw [aGf_y w, ih, sp_5, aCm_5, gr_5c]
    · rw [aGf_n w, ih]
theorem Pc_gf : ∀ (f : Nat) (n : Int32) (a : Nat → Nat → Int32), 0 ≤ (a 75 5).toInt → aPc (aGf f n a) = aGf f n (aPc a) := by
  intro f
  induction f with
  | zero => intro n a _; rfl
  | succ f ih =>
    intro n a h
    by_cases w : aGc a n
    · rw [aGf_y w, aGf_y ((Pc_gc h).mpr w), ih _ _ (by rw [sp_5, aCm_5, gr_5c]; exact h), Pc_sp _ _ (by rw [aCm_5, gr_5c]; exact h), Pc_cm (by rw [gr_5c]; exact h), Pc_gr]
    · rw [aGf_n w, aGf_n (fun z => w ((Pc_gc h).mp z))]
      exact ih _ _ h
theorem Pc_gw (h : 0 ≤ (a 75 5).toInt) : aPc (aGw a 0) = aGw (aPc a) 0 := by
  unfold aGw
  rw [Pc_o (c := 69) (by decide) (by decide)]
  exact Pc_gf _ _ _ h
theorem Pc_cx {j : Int} : gCx (aPc a) n j = gCx a n j := by
  unfold gCx
  rw [Pc_o (c := 130) (by decide) (by decide), Pc_o (c := 87) (by decide) (by decide)]
theorem Pc_dc : ∀ (f : Nat) (i : Int32) (a : Nat → Nat → Int32), 0 ≤ (a 75 5).toInt → aPc (gDc m f i a) = gDc m f i (aPc a) := by
  intro f
  induction f with
  | zero => intro i a _; rfl
  | succ f ih =>
    intro i a h
    show aPc (gDc m f (i + 1) (if 0 < (a 87 12).toInt ∧ gCx a m i.toInt < 375 ∧ a 83 (gCx a m i.toInt).toNat ≠ 0 then aCm a (aRef a m i) else a)) = gDc m f (i + 1) (if 0 < (aPc a 87 12).toInt ∧ gCx (aPc a) m i.toInt < 375 ∧ aPc a 83 (gCx (aPc a) m i.toInt).toNat ≠ 0 then aCm (aPc a) (aRef (aPc a) m i) else aPc a)
    rw [Pc_cx, Pc_o (c := 87) (by decide) (by decide), Pc_o (c := 83) (by decide) (by decide), Pc_rf]
    split
    · rw [ih _ _ (by rw [aCm_5]; exact h), Pc_cm h]
    · exact ih _ _ h
theorem dc_5 : ∀ (f : Nat) (i : Int32) (a : Nat → Nat → Int32), gDc m f i a 75 5 = a 75 5 := by
  intro f
  induction f with
  | zero => intro i a; rfl
  | succ f ih =>
    intro i a
    show gDc m f (i + 1) (if _ then aCm a (aRef a m i) else a) 75 5 = a 75 5
    rw [ih]
    split
    · exact aCm_5
    · rfl
theorem Pc_dw (h : 0 ≤ (a 75 5).toInt) : aPc (gDw a n i) = gDw (aPc a) n i := by
  unfold gDw
  rw [Pc_o (c := 128) (by decide) (by decide)]
  exact Pc_dc _ _ _ h
theorem Pc_df : ∀ (f : Nat) (a : Nat → Nat → Int32) (p : Int), 0 ≤ (a 75 5).toInt → aPc (gDf e f a p) = gDf e f (aPc a) p := by
  intro f
  induction f with
  | zero => intro a p _; rfl
  | succ f ih =>
    intro a p h
    have ob : zOb (aPc a) p = zOb a p := gOb_cg (Pc_r (by decide) (by decide)) (Pc_r (by decide) (by decide))
    by_cases c : p < e
    · by_cases d : (zOb a p).toInt < 0
      · rw [gDf_fr c d, gDf_fr c (by rw [ob]; exact d)]
        exact ih _ _ h
      · rw [gDf_go c (by omega), gDf_go c (by rw [ob]; omega), ob, ih _ _ (by unfold gDw; rw [dc_5]; exact h), Pc_dw h, Pc_o (c := 128) (by decide) (by decide)]
    · rw [gDf_e c, gDf_e c]
theorem Pc_dp (h : 0 ≤ (a 75 5).toInt) : aPc (gDp a e p) = gDp (aPc a) e p := Pc_df _ _ _ h
theorem df_5 : ∀ (f : Nat) (a : Nat → Nat → Int32) (p : Int), gDf e f a p 75 5 = a 75 5 := by
  intro f
  induction f with
  | zero => intro a p; rfl
  | succ f ih =>
    intro a p
    by_cases c : p < e
    · by_cases d : (zOb a p).toInt < 0
      · rw [gDf_fr c d, ih]
      · rw [gDf_go c (by omega), ih]
        exact dc_5 _ _ _
    · rw [gDf_e c]
theorem Pc_rm (hy : y.toNatClampNeg < 512) (hp : (a 75 5).toInt ≤ (a 130 y.toNatClampNeg).toInt) : aPc (aRm a y) = aRm (aPc a) y := by
  have o : ∀ c₉ k₉, c₉ ≠ 75 → c₉ ≠ 77 → aPc a c₉ k₉ = a c₉ k₉ := fun c₉ k₉ h1 h2 => Pc_o h1 h2
  have r5 : aRm a y 75 5 = a 75 5 := aRm_o (by decide) ⟨by decide, by decide, by decide, by decide⟩
  have t : ∀ f n, 126 ≤ f → f < 1000 → n ≠ y.toNatClampNeg → aRm a y f n = a f n := fun f n h1 h2 h3 => by
    unfold aRm
    rw [xu_o (by omega), xu_o (by omega)]
    unfold zNo
    rw [if_neg (by omega)]
    unfold zFr
    rw [if_neg (by omega)]
    unfold zUw
    rw [if_neg (by omega)]
  have t0 : aRm a y 126 y.toNatClampNeg = 0 := by
    unfold aRm
    rw [xu_o (by omega), xu_o (by omega)]
    unfold zNo
    rw [if_pos (Or.inl ⟨by decide, by decide, rfl⟩)]
  funext c k
  by_cases w : c = 75 ∨ c = 77
  · have e1 : aRm (aPc a) y c k = aPc a c k := aRm_o (by omega) ⟨by omega, by omega, by omega, by omega⟩
    have e2 : aRm a y c k = a c k := aRm_o (by omega) ⟨by omega, by omega, by omega, by omega⟩
    rw [e1]
    unfold aPc
    rw [r5, e2]
    by_cases z : k = y.toNatClampNeg
    · rw [z, t0, if_neg (c := c = 77 ∧ _) (fun q => q.2.2.1 rfl), if_neg (c := c = 77 ∧ _) (fun q => by omega)]
    · rw [t 126 k (by decide) (by decide) z, t 130 k (by decide) (by decide) z]
  · rw [Pc_o (by omega) (by omega)]
    have uw : ∀ c₉ k₉, c₉ ≠ 75 → c₉ ≠ 77 → zUw (aPc a) y 16 c₉ k₉ = zUw a y 16 c₉ k₉ := fun c₉ k₉ h1 h2 => by
      unfold zUw
      rw [o 73 k₉ (by decide) (by decide), o c₉ k₉ h1 h2]
    unfold aRm
    rw [o 130 _ (by decide) (by decide), o 128 _ (by decide) (by decide), o 69 _ (by decide) (by decide), o 69 _ (by decide) (by decide)]
    show (if c = 69 ∧ k = 11 then _ else if c = 69 ∧ k = 8 then _ else zNo (zFr (zUw a y 16) _ _) _ c k) = (if c = 69 ∧ k = 11 then _ else if c = 69 ∧ k = 8 then _ else zNo (zFr (zUw (aPc a) y 16) _ _) _ c k)
    have e3 : zNo (zFr (zUw (aPc a) y 16) (a 130 y.toNatClampNeg).toInt (zMin (a 130 y.toNatClampNeg + a 128 y.toNatClampNeg).toInt)) y.toNatClampNeg c k = zNo (zFr (zUw a y 16) (a 130 y.toNatClampNeg).toInt (zMin (a 130 y.toNatClampNeg + a 128 y.toNatClampNeg).toInt)) y.toNatClampNeg c k := by
      unfold zNo zFr
      rw [uw c k (by omega) (by omega)]
    rw [e3]
theorem Pc_mc (h : 0 ≤ (a 75 5).toInt) : aMc (aPc a) x ↔ aMc a x := by
  unfold aMc
  rw [Pc_o (c := 126) (by decide) (by decide)]
  constructor
  · intro z
    have hn : x.toNatClampNeg < 512 := by
      have := tn_cast z.1
      have := z.2.1
      omega
    have q := (Pc_w h hn z.2.2.1).mpr ⟨z.2.2.2.1, z.2.2.2.2⟩
    exact ⟨z.1, z.2.1, z.2.2.1, q.1, q.2⟩
  · intro z
    have hn : x.toNatClampNeg < 512 := by
      have := tn_cast z.1
      have := z.2.1
      omega
    have q := (Pc_w h hn z.2.2.1).mp ⟨z.2.2.2.1, z.2.2.2.2⟩
    exact ⟨z.1, z.2.1, z.2.2.1, q.1, q.2⟩
theorem rm_5 : aRm a y 75 5 = a 75 5 := aRm_o (by decide) ⟨by decide, by decide, by decide, by decide⟩
theorem Pc_mf : ∀ (f : Nat) (n : Int32) (a : Nat → Nat → Int32), 0 ≤ (a 75 5).toInt → aPc (aMf f n a) = aMf f n (aPc a) := by
  intro f
  induction f with
  | zero => intro n a _; rfl
  | succ f ih =>
    intro n a h
    by_cases w : aMc a n
    · have hn : n.toNatClampNeg < 512 := by
        have := tn_cast w.1
        have := w.2.1
        omega
      rw [aMf_y w, aMf_y ((Pc_mc h).mpr w), ih _ _ (by rw [rm_5]; exact h), Pc_rm hn w.2.2.2.1]
    · rw [aMf_n w, aMf_n (fun z => w ((Pc_mc h).mp z))]
      exact ih _ _ h
theorem Pc_mv (h : 0 ≤ (a 75 5).toInt) : aPc (aMv a 0) = aMv (aPc a) 0 := by
  unfold aMv
  rw [Pc_o (c := 69) (by decide) (by decide)]
  exact Pc_mf _ _ _ h
theorem Pc_ro (h : 0 ≤ (a 75 5).toInt) : aPc (aRo a 0) = aRo (aPc a) 0 := Pc_rof _ _ _ h
end F22

/-! from 95.u13 -/
/-! AGES, the class (written by wip/tools/gen15y.py) -/
/-! AGES: the minor cleaning, what is kept -/
def zFY (a : Nat → Nat → Int32) : Prop := zFQ a ∧ ∀ x : Nat, x < 512 → a 77 x ≠ 0 → (a 75 5).toInt ≤ (a 130 x).toInt
section F23
variable {a b c : Nat → Nat → Int32} {y i x z : Int32} {m k n u f : Nat} {p e : Int}
theorem FY_cg (h : zFY a) (e3 : b 75 3 = a 75 3) (e4 : b 75 4 = a 75 4) (e5 : b 75 5 = a 75 5) (e6 : b 76 = a 76) (e7 : ∀ x, x < 512 → (b 77 x ≠ 0 ↔ a 77 x ≠ 0)) (e8 : b 126 = a 126) (e9 : b 130 = a 130) : zFY b := ⟨FQ_cg h.1 e3 e4 e6 e7 e8, fun x hx w => by
  rw [e5, e9]
  exact h.2 x hx ((e7 x hx).mp w)⟩
theorem FY_wh : zFY (aWh a x) := ⟨FQ_wh (by decide), fun k hk w => by
  refine absurd ?_ w
  unfold aWh
  rw [xu_o (by omega), xu_o (by omega), xu_o (by omega)]
  unfold zFl
  rw [if_pos ⟨rfl, by omega⟩]⟩
theorem FY_cm (h : zFY a) : zFY (aCm a y) := by
  refine ⟨FQ_cm h.1, fun k hk w => ?_⟩
  rw [aCm_5, aCm_o (c := 130) ⟨by decide, by decide, by decide⟩]
  by_cases d : 0 ≤ y.toInt ∧ y.toInt < 512 ∧ a 126 y.toNatClampNeg ≠ 0 ∧ (a 75 5).toInt ≤ (a 130 y.toNatClampNeg).toInt ∧ (a 75 4).toInt < 512 ∧ a 77 y.toNatClampNeg = 0
  · have e : aCm a y = ma_u (ma_u (ma_u a 77 y.toNatClampNeg 1) 76 (a 75 4).toNatClampNeg y) 75 4 (a 75 4 + 1) := if_pos d
    rw [e, xu_o (by omega), xu_o (by omega)] at w
    by_cases z : k = y.toNatClampNeg
    · rw [z]
      exact d.2.2.2.1
    · rw [xu_o (fun q => z q.2)] at w
      exact h.2 k hk w
  · have e : aCm a y = a := if_neg d
    rw [e] at w
    exact h.2 k hk w
theorem FY_pop (h : zFY a) (hl : (a 75 3).toInt < (a 75 4).toInt) : zFY (aPop a) := by
  refine ⟨FQ_pop h.1 hl, ?_⟩
  have q4 := h.1.2.2.2
  have s0 : ∀ x : Nat, x < 512 → ma_u a 75 3 (a 75 3 + 1) 77 x ≠ 0 → (ma_u a 75 3 (a 75 3 + 1) 75 5).toInt ≤ (ma_u a 75 3 (a 75 3 + 1) 130 x).toInt := fun x hx w => by
    rw [xu_o (by omega)] at w
    rw [xu_o (by omega), xu_o (by omega)]
    exact h.2 x hx w
  have t := tn_cast (x := a 75 3) q4.1
  have q := h.1.1 (a 75 3).toNatClampNeg (by omega)
  have tq := tn_cast q.1
  unfold aPop
  split
  · have cw : ∀ (f : Nat) (i : Int32) (b : Nat → Nat → Int32), (∀ x : Nat, x < 512 → b 77 x ≠ 0 → (b 75 5).toInt ≤ (b 130 x).toInt) → ∀ x : Nat, x < 512 → aCwf (a 76 (a 75 3).toNatClampNeg).toNatClampNeg f i b 77 x ≠ 0 → (aCwf (a 76 (a 75 3).toNatClampNeg).toNatClampNeg f i b 75 5).toInt ≤ (aCwf (a 76 (a 75 3).toNatClampNeg).toNatClampNeg f i b 130 x).toInt := by
      intro f
      induction f with
      | zero => intro i b hb; exact hb
      | succ f ih =>
        intro i b hb
        refine ih (i + 1) (aCm b (aRef b _ i)) (fun x hx w => ?_)
        generalize aRef b (a 76 (a 75 3).toNatClampNeg).toNatClampNeg i = y at *
        rw [aCm_5, aCm_o (c := 130) ⟨by decide, by decide, by decide⟩]
        by_cases d : 0 ≤ y.toInt ∧ y.toInt < 512 ∧ b 126 y.toNatClampNeg ≠ 0 ∧ (b 75 5).toInt ≤ (b 130 y.toNatClampNeg).toInt ∧ (b 75 4).toInt < 512 ∧ b 77 y.toNatClampNeg = 0
        · have e : aCm b y = ma_u (ma_u (ma_u b 77 y.toNatClampNeg 1) 76 (b 75 4).toNatClampNeg y) 75 4 (b 75 4 + 1) := if_pos d
          rw [e, xu_o (by omega), xu_o (by omega)] at w
          by_cases z : x = y.toNatClampNeg
          · rw [z]
            exact d.2.2.2.1
          · rw [xu_o (fun q => z q.2)] at w
            exact hb x hx w
        · have e : aCm b y = b := if_neg d
          rw [e] at w
          exact hb x hx w
    refine cw _ _ _ (fun x hx w => ?_)
    rw [xu_o (c := 75) (by omega), xu_o (c := 130) (by omega)]
    by_cases z : x = (a 76 (a 75 3).toNatClampNeg).toNatClampNeg
    · rw [xu_o (by omega), xu_o (by omega), z]
      exact h.2 _ (by omega) q.2.2.1
    · rw [xu_o (fun q => z q.2)] at w
      exact s0 x hx w
  · exact s0
theorem FY_sp : ∀ (f : Nat) (a : Nat → Nat → Int32), zFY a → zFY (aSp f a) := by
  intro f
  induction f with
  | zero => intro a h; exact h
  | succ f ih =>
    intro a h
    show zFY (if (a 75 3).toInt < (a 75 4).toInt then aSp f (aPop a) else a)
    split
    · next w => exact ih _ (FY_pop h w)
    · exact h
theorem FY_hf : ∀ (f : Nat) (n : Int32) (a : Nat → Nat → Int32), zFY a → zFY (aHf f n a) := by
  intro f
  induction f with
  | zero => intro n a h; exact h
  | succ f ih =>
    intro n a h
    refine ih _ _ ?_
    split
    · exact FY_cm h
    · exact h
theorem FY_wf : ∀ (f : Nat) (n : Int32) (a : Nat → Nat → Int32), zFY a → zFY (aWf f n a) := by
  intro f
  induction f with
  | zero => intro n a h; exact FY_hf _ _ _ h
  | succ f ih => intro n a h; exact ih _ _ (FY_cm h)
theorem FY_rf : ∀ (f : Nat) (n : Int32) (a : Nat → Nat → Int32), zFY a → zFY (aRf f n a) := by
  intro f
  induction f with
  | zero => intro n a h; exact FY_wf _ _ _ h
  | succ f ih => intro n a h; exact ih _ _ (FY_cm h)
theorem FY_gr (h : zFY a) : zFY (aGr a y) := FY_cg h (congrFun (gr_r (by decide) (by decide) (by decide) (by decide)) 3) (congrFun (gr_r (by decide) (by decide) (by decide) (by decide)) 4) (congrFun (gr_r (by decide) (by decide) (by decide) (by decide)) 5) (gr_r (by decide) (by decide) (by decide) (by decide)) (fun x _ => by rw [gr_r (n := 77) (by decide) (by decide) (by decide) (by decide)]) (gr_r (by decide) (by decide) (by decide) (by decide)) (gr_r (by decide) (by decide) (by decide) (by decide))
theorem FY_gf : ∀ (f : Nat) (x : Int32) (a : Nat → Nat → Int32), zFY a → zFY (aGf f x a) := by
  intro f
  induction f with
  | zero => intro x a h; exact h
  | succ f ih =>
    intro x a h
    by_cases w : aGc a x
    · rw [aGf_y w]
      exact ih _ _ (FY_sp _ _ (FY_cm (FY_gr h)))
    · rw [aGf_n w]
      exact ih _ _ h
theorem FY_dc : ∀ (f : Nat) (i : Int32) (a : Nat → Nat → Int32), zFY a → zFY (gDc m f i a) := by
  intro f
  induction f with
  | zero => intro i a h; exact h
  | succ f ih =>
    intro i a h
    refine ih _ _ ?_
    split
    · exact FY_cm h
    · exact h
theorem FY_df : ∀ (f : Nat) (a : Nat → Nat → Int32) (p : Int), zFY a → zFY (gDf e f a p) := by
  intro f
  induction f with
  | zero => intro a p h; exact h
  | succ f ih =>
    intro a p h
    by_cases c : p < e
    · by_cases d : (zOb a p).toInt < 0
      · rw [gDf_fr c d]
        exact ih _ _ h
      · rw [gDf_go c (by omega)]
        exact ih _ _ (FY_dc _ _ _ h)
    · rw [gDf_e c]
      exact h
theorem FY_kp : zFY (gKp a) := FY_gf _ _ _ (FY_sp _ _ (FY_df _ _ _ (FY_rf _ _ _ FY_wh)))
/-! without a floor -/
theorem wh_5 : aWh a x 75 5 = x := by
  unfold aWh
  rw [xu_s]
theorem wh_of : zOf a (aWh a x) := fun c k q1 q2 q3 => by
  unfold aWh
  rw [xu_o (fun z => q1 z.1), xu_o (fun z => q1 z.1), xu_o (fun z => q1 z.1)]
  unfold zFl
  rw [if_neg (fun z => q3 z.1)]
theorem wh_7 (h : k < 512) : aWh a x 77 k = 0 := by
  unfold aWh
  rw [xu_o (by omega), xu_o (by omega), xu_o (by omega)]
  unfold zFl
  rw [if_pos ⟨rfl, by omega⟩]
theorem Pc_of (h : zOf a b) : zOf a (aPc b) := fun c k q1 q2 q3 => (h c k q1 q2 q3).trans (Pc_o q1 q3).symm
/-- those below the floor alone are BLACK -/
theorem WQ_pw (hp : ∀ x, xAl a x → 0 ≤ (a 130 x).toInt) : zWQ (aPc (aWh a x)) ∧ zOf a (aPc (aWh a x)) ∧ (∀ u, zNn (aPc (aWh a x)) u ↔ zDn (aPc (aWh a x)) u) ∧ ∀ u, zDn (aPc (aWh a x)) u ↔ (xAl a u ∧ (a 130 u).toInt < x.toInt) := by
  have of : zOf a (aPc (aWh a x)) := Pc_of wh_of
  have c7 : ∀ u, u < 512 → (xAl a u ∧ (a 130 u).toInt < x.toInt) → aPc (aWh a x) 77 u = 2 := fun u hu w => Pc_7o hu (by rw [← wh_of (a := a) (x := x) 126 u (by decide) (by decide) (by decide)]; exact w.1.2) (by rw [← wh_of (a := a) (x := x) 130 u (by decide) (by decide) (by decide), wh_5]; exact w.2)
  have n7 : ∀ u, u < 512 → ¬ (xAl a u ∧ (a 130 u).toInt < x.toInt) → aPc (aWh a x) 77 u = 0 := fun u hu w => by
    rw [Pc_7y (fun z => w ⟨⟨hu, ?_⟩, ?_⟩), wh_7 hu]
    · rw [wh_of (a := a) (x := x) 126 u (by decide) (by decide) (by decide)]
      exact z.2.1
    · have z2 := z.2.2
      rw [wh_5, ← wh_of (a := a) (x := x) 130 u (by decide) (by decide) (by decide)] at z2
      exact z2
  have r3 : aPc (aWh a x) 75 3 = 0 := by
    rw [Pc_75 (by decide)]
    unfold aWh
    rw [xu_o (by omega), xu_o (by omega), xu_s]
  have r4 : aPc (aWh a x) 75 4 = 0 := by
    rw [Pc_75 (by decide)]
    unfold aWh
    rw [xu_o (by omega), xu_s]
  have i0 : (0 : Int32).toInt = 0 := rfl
  have dn : ∀ u, zDn (aPc (aWh a x)) u ↔ (xAl a u ∧ (a 130 u).toInt < x.toInt) := fun u => by
    constructor
    · intro w
      by_cases d : xAl a u ∧ (a 130 u).toInt < x.toInt
      · exact d
      · have q := w.2
        rw [n7 u w.1 d] at q
        exact absurd q (by decide)
    · intro w
      exact ⟨w.1.1, c7 u w.1.1 w⟩
  refine ⟨⟨⟨?_, ?_, ?_⟩, ?_, ?_, ?_, ?_, ?_, ?_⟩, of, fun u => ?_, dn⟩
  · rw [r3]
    decide
  · rw [r3, r4]
    decide
  · rw [r4]
    omega
  · intro j j1 j2
    rw [r4] at j2
    omega
  · intro j j₉ j1 j2 j3
    rw [r4] at j3
    omega
  · intro u hu h1
    by_cases d : xAl a u ∧ (a 130 u).toInt < x.toInt
    · rw [c7 u hu d] at h1
      exact absurd h1 (by decide)
    · rw [n7 u hu d] at h1
      exact absurd h1 (by decide)
  · intro u hu
    by_cases d : xAl a u ∧ (a 130 u).toInt < x.toInt
    · exact Or.inr (Or.inr (c7 u hu d))
    · exact Or.inl (n7 u hu d)
  · rw [Pc_5]
    decide
  · intro u hu
    rw [Of_al of] at hu
    rw [← of 130 u (by decide) (by decide) (by decide)]
    exact hp u hu
  · constructor
    · intro w
      by_cases d : xAl a u ∧ (a 130 u).toInt < x.toInt
      · exact ⟨w.1, c7 u w.1 d⟩
      · exact absurd (n7 u w.1 d) w.2
    · intro w
      exact ⟨w.1, by rw [w.2]; decide⟩
/-- more have come -/
def zGq (a b : Nat → Nat → Int32) : Prop := zWQ b ∧ zOf a b ∧ (∀ u, zDn b u ↔ zDn a u) ∧ ∀ u, zNn a u → zNn b u
theorem gq_rf (h : zWQ a) : zGq a a := ⟨h, Of_rf, fun _ => Iff.rfl, fun _ w => w⟩
theorem gq_tr (h : zGq a b) (h2 : zGq b c) : zGq a c := ⟨h2.1, Of_tr h.2.1 h2.2.1, fun u => (h2.2.2.1 u).trans (h.2.2.1 u), fun u w => h2.2.2.2 u (h.2.2.2 u w)⟩
theorem gq_cm (h : zWQ a) : zGq a (aCm a y) := by
  have g := gr_cm (y := y) h
  exact ⟨g.1, g.2.1, g.2.2.1, fun u w => (g.2.2.2.1 u).mpr (Or.inl w)⟩
theorem gq_dc : ∀ (f : Nat) (i : Int32) (a : Nat → Nat → Int32), zWQ a → zGq a (gDc m f i a) := by
  intro f
  induction f with
  | zero => intro i a h; exact gq_rf h
  | succ f ih =>
    intro i a h
    show zGq a (gDc m f (i + 1) (if 0 < (a 87 12).toInt ∧ gCx a m i.toInt < 375 ∧ a 83 (gCx a m i.toInt).toNat ≠ 0 then aCm a (aRef a m i) else a))
    split
    · exact gq_tr (gq_cm h) (ih _ _ (WQ_cm h))
    · exact ih _ _ h
theorem dc_in : ∀ (f : Nat) (i : Int32) (a : Nat → Nat → Int32), zWQ a → 0 ≤ i.toInt → i.toInt + f ≤ 512 → ∀ j : Nat, i.toInt ≤ (j : Int) → (j : Int) < i.toInt + f → gDy a m (j : Int) → ∀ u, xAl a u → aRef a m (Int32.ofNat j) = Int32.ofNat u → zNn (gDc m f i a) u := by
  intro f
  induction f with
  | zero => intro i a h h0 h5 j h1 h2; omega
  | succ f ih =>
    intro i a h h0 h5 j h1 h2 hd u hu hr
    have ip : (i + 1).toInt = i.toInt + 1 := i_p1 (by omega)
    show zNn (gDc m f (i + 1) (if 0 < (a 87 12).toInt ∧ gCx a m i.toInt < 375 ∧ a 83 (gCx a m i.toInt).toNat ≠ 0 then aCm a (aRef a m i) else a)) u
    by_cases w : (j : Int) = i.toInt
    · have e : Int32.ofNat j = i := by
        have t := tn_cast h0
        rw [show j = i.toNatClampNeg from by omega]
        exact ofN_tn h0
      have hd₉ : 0 < (a 87 12).toInt ∧ gCx a m i.toInt < 375 ∧ a 83 (gCx a m i.toInt).toNat ≠ 0 := by
        rw [← w]
        exact hd
      rw [if_pos hd₉]
      rw [e] at hr
      have g := gr_cm (y := aRef a m i) h
      exact (gq_dc f (i + 1) _ g.1).2.2.2 u ((g.2.2.2.1 u).mpr (Or.inr ⟨hu, hr⟩))
    · have key : ∀ d : Nat → Nat → Int32, zWQ d → zOf a d → zNn (gDc m f (i + 1) d) u := fun d hd2 o => by
        have o1 : ∀ c k, c ≠ 75 → c ≠ 76 → c ≠ 77 → d c k = a c k := fun c k q1 q2 q3 => (o c k q1 q2 q3).symm
        refine ih (i + 1) d hd2 (by omega) (by omega) j (by omega) (by omega) ?_ u ((Of_al o).mpr hu) ?_
        · unfold gDy gCx at hd ⊢
          rw [o1 87 12 (by decide) (by decide) (by decide), o1 130 m (by decide) (by decide) (by decide), o1 83 _ (by decide) (by decide) (by decide)]
          exact hd
        · rw [← hr]
          exact rf_cg (funext (fun k => o1 _ k (by omega) (by omega) (by omega))) (funext (fun k => o1 _ k (by decide) (by decide) (by decide))) (funext (fun k => o1 _ k (by decide) (by decide) (by decide)))
      split
      · exact key _ (WQ_cm h) cm_of
      · exact key _ h Of_rf
theorem gq_df : ∀ (f : Nat) (a : Nat → Nat → Int32) (p : Int), zWQ a → zGq a (gDf e f a p) := by
  intro f
  induction f with
  | zero => intro a p h; exact gq_rf h
  | succ f ih =>
    intro a p h
    by_cases c : p < e
    · by_cases d : (zOb a p).toInt < 0
      · rw [gDf_fr c d]
        exact ih _ _ h
      · rw [gDf_go c (by omega)]
        have g := gq_dc (m := (zOb a p).toNatClampNeg) ((a 128 (zOb a p).toNatClampNeg).toInt - 1 - (0 : Int32).toInt).toNat 0 a h
        exact gq_tr g (ih _ _ g.1)
    · rw [gDf_e c]
      exact gq_rf h
/-- what the OLD ones refer to on dirty cards has come -/
theorem df_in : ∀ (f : Nat) (a : Nat → Nat → Int32) (p : Int), qI a → zWQ a → qGd a p → 0 ≤ p → e ≤ 4500 → (e - p).toNat ≤ f → ∀ n, xAl a n → p ≤ (a 130 n).toInt → (a 130 n).toInt < e → ∀ j : Nat, (j : Int) < (a 128 n).toInt - 1 → gDy a n (j : Int) → ∀ u, xAl a u → aRef a n (Int32.ofNat j) = Int32.ofNat u → zNn (gDf e f a p) u := by
  intro f
  induction f with
  | zero => intro a p hI h g h0 h4 hf n hn h1 h2; omega
  | succ f ih =>
    intro a p hI h g h0 h4 hf n hn h1 h2 j hj hd u hu hr
    have sz := (hI.1 n hn).2.1
    have pe : p < e := by omega
    by_cases d : (zOb a p).toInt < 0
    · rw [gDf_fr pe d]
      have ne : (a 130 n).toInt ≠ p := fun w => by
        rw [Ob_pl hI hn w, Int32.toInt_ofNat_of_lt (by have := hn.1; omega)] at d
        omega
      exact ih a (p + 1) hI h (Gd_s hI g d h0 (by omega)) (by omega) h4 (by omega) n hn (by omega) h2 j hj hd u hu hr
    · obtain ⟨n₉, al, e1, e2, e3⟩ := OB_al hI g (show 0 ≤ (zOb a p).toInt by omega)
      rw [gDf_go pe (by omega), e3]
      have sz₉ := (hI.1 n₉ al).2.1
      have gq := gq_dc (m := n₉) ((a 128 n₉).toInt - 1 - (0 : Int32).toInt).toNat 0 a h
      have z0 : (0 : Int32).toInt = 0 := rfl
      by_cases w : n = n₉
      · rw [w] at hj hd hr
        exact (gq_df f _ _ gq.1).2.2.2 u (dc_in _ _ _ h (by decide) (by omega) j (by omega) (by omega) hd u hu hr)
      · have o := gq.2.1
        have o1 : ∀ c k, c ≠ 75 → c ≠ 76 → c ≠ 77 → gDw a n₉ 0 c k = a c k := fun c k q1 q2 q3 => (o c k q1 q2 q3).symm
        have dis := hI.2.1 n n₉ hn al w
        refine ih (gDw a n₉ 0) (p + (a 128 n₉).toInt) (qI_of hI o) gq.1 (fun m hm w2 => ?_) (by omega) h4 (by omega) n ((Of_al o).mpr hn) ?_ ?_ j ?_ ?_ u ((Of_al o).mpr hu) ?_
        · have hm₉ := (Of_al o).mp hm
          rw [o1 130 m (by decide) (by decide) (by decide), o1 128 m (by decide) (by decide) (by decide)] at w2
          by_cases q : m = n₉
          · rw [q] at w2
            omega
          · have dm := hI.2.1 m n₉ hm₉ al q
            have sm := (hI.1 m hm₉).2.1
            omega
        · rw [o1 130 n (by decide) (by decide) (by decide)]
          omega
        · rw [o1 130 n (by decide) (by decide) (by decide)]
          exact h2
        · rw [o1 128 n (by decide) (by decide) (by decide)]
          exact hj
        · unfold gDy gCx at hd ⊢
          rw [o1 87 12 (by decide) (by decide) (by decide), o1 130 n (by decide) (by decide) (by decide), o1 83 _ (by decide) (by decide) (by decide)]
          exact hd
        · rw [← hr]
          exact rf_cg (funext (fun k => o1 _ k (by omega) (by omega) (by omega))) (funext (fun k => o1 _ k (by decide) (by decide) (by decide))) (funext (fun k => o1 _ k (by decide) (by decide) (by decide)))
end F23

/-! from 95.u14 -/
/-! AGES, the class (written by wip/tools/gen15y.py) -/
/-! AGES: the minor cleaning, who is left -/
section F24
variable {a b : Nat → Nat → Int32} {y i x : Int32} {m k n u f : Nat} {p e : Int}
theorem hf_5 : ∀ (f : Nat) (n : Int32) (a : Nat → Nat → Int32), aHf f n a 75 5 = a 75 5 := by
  intro f
  induction f with
  | zero => intro n a; rfl
  | succ f ih =>
    intro n a
    show aHf f (n + 1) (if _ then aCm a n else a) 75 5 = a 75 5
    rw [ih]
    split
    · exact aCm_5
    · rfl
theorem wf_5 : ∀ (f : Nat) (n : Int32) (a : Nat → Nat → Int32), aWf f n a 75 5 = a 75 5 := by
  intro f
  induction f with
  | zero => intro n a; exact hf_5 _ _ _
  | succ f ih =>
    intro n a
    show aWf f (n + 1) (aCm a (a 74 n.toNatClampNeg)) 75 5 = a 75 5
    rw [ih, aCm_5]
theorem rf_5 : ∀ (f : Nat) (n : Int32) (a : Nat → Nat → Int32), aRf f n a 75 5 = a 75 5 := by
  intro f
  induction f with
  | zero => intro n a; exact wf_5 _ _ _
  | succ f ih =>
    intro n a
    show aRf f (n + 1) (aCm a (a 72 n.toNatClampNeg)) 75 5 = a 75 5
    rw [ih, aCm_5]
theorem ro_5 : aRo a 0 75 5 = a 75 5 := rf_5 _ _ _
def gB1 (a : Nat → Nat → Int32) : Nat → Nat → Int32 := aRo (aPc (aWh a (a 87 9))) 0
def gB2 (a : Nat → Nat → Int32) : Nat → Nat → Int32 := gDp (gB1 a) (a 87 10).toInt 0
def gB3 (a : Nat → Nat → Int32) : Nat → Nat → Int32 := aSp 512 (gB2 a)
theorem Kp_b (h : 0 ≤ (a 87 9).toInt) : aPc (gKp a) = aGw (gB3 a) 0 := by
  have h0 : 0 ≤ (aWh a (a 87 9) 75 5).toInt := by
    rw [wh_5]
    exact h
  have h1 : 0 ≤ (aRo (aWh a (a 87 9)) 0 75 5).toInt := by
    rw [ro_5]
    exact h0
  have h2 : 0 ≤ (gDp (aRo (aWh a (a 87 9)) 0) (a 87 10).toInt 0 75 5).toInt := by
    unfold gDp
    rw [df_5]
    exact h1
  have h3 : 0 ≤ (aSp 512 (gDp (aRo (aWh a (a 87 9)) 0) (a 87 10).toInt 0) 75 5).toInt := by
    rw [sp_5]
    exact h2
  unfold gKp gB3 gB2 gB1
  rw [Pc_gw h3, Pc_sp _ _ h2, Pc_dp h1, Pc_ro h0]
theorem B3_all (h : qAv a) : qE0 (gB3 a) ∧ zOf a (gB3 a) ∧ qCl (gB3 a) ∧ (∀ u, xAl a u → (a 130 u).toInt < (a 87 9).toInt → zNn (gB3 a) u) := by
  have hI := h.1
  have nm := h.2.2.1
  have g0 := WQ_pw (a := a) (x := a 87 9) (fun x hx => (hI.1 x hx).1.2)
  have o0 := g0.2.1
  have g1 := gr_ro g0.1 (by rw [← o0 69 6 (by decide) (by decide) (by decide)]; exact hI.2.2.2.1.1.2) (by rw [← o0 69 5 (by decide) (by decide) (by decide)]; exact hI.2.2.2.1.2.1.2)
  have o1 : zOf a (gB1 a) := Of_tr o0 g1.2.1
  have g2 := gq_df (e := (a 87 10).toInt) ((a 87 10).toInt - 0).toNat (gB1 a) 0 g1.1
  have o2 : zOf a (gB2 a) := Of_tr o1 g2.2.1
  have s3 := E0_sp g2.1
  have o3 : zOf a (gB3 a) := Of_tr o2 s3.2
  have nn3 : ∀ u, zNn (gB2 a) u → zNn (gB3 a) u := fun u w => (sp_Nn g2.1).mpr (zM_in w)
  have old0 : ∀ u, xAl a u → (a 130 u).toInt < (a 87 9).toInt → zNn (gB3 a) u := fun u hu hp => nn3 u (g2.2.2.2 u ((g1.2.2.2.1 u).mpr (Or.inl ((g0.2.2.1 u).mpr ((g0.2.2.2 u).mpr ⟨hu, hp⟩)))))
  refine ⟨s3.1, o3, ⟨fun u hu hr => ?_, fun u y hn hu he => ?_⟩, old0⟩
  · have al : xAl a u := (Of_al o3).mp hu
    have r : ∀ c, c ≠ 75 → c ≠ 76 → c ≠ 77 → gB3 a c = a c := fun c q1 q2 q3 => funext (fun k => (o3 c k q1 q2 q3).symm)
    have r0 : ∀ c, c ≠ 75 → c ≠ 76 → c ≠ 77 → aPc (aWh a (a 87 9)) c = a c := fun c q1 q2 q3 => funext (fun k => (o0 c k q1 q2 q3).symm)
    refine nn3 u (g2.2.2.2 u ((g1.2.2.2.1 u).mpr (Or.inr ⟨(Of_al o0).mpr al, ?_⟩)))
    unfold zRl zWl at hr ⊢
    rw [r 72 (by decide) (by decide) (by decide), r 74 (by decide) (by decide) (by decide), r 69 (by decide) (by decide) (by decide)] at hr
    rw [r0 72 (by decide) (by decide) (by decide), r0 74 (by decide) (by decide) (by decide), r0 69 (by decide) (by decide) (by decide)]
    exact hr.elim Or.inl (fun w => Or.inr (Or.inl w))
  · have hm := (sp_Nn g2.1).mp hn
    have he2 : zEd (gB2 a) u y := (Of_ed s3.2).mp he
    by_cases d : zDn (gB2 a) u
    · have ou := (g0.2.2.2 u).mp ((g1.2.2.1 u).mp ((g2.2.2.1 u).mp d))
      obtain ⟨ay, i, i0, i1, ir⟩ := (Of_ed o3).mp he
      by_cases w : (a 130 y).toInt < (a 87 9).toInt
      · exact old0 y ay w
      · refine nn3 y ?_
        have t := tn_cast i0
        have ei : Int32.ofNat i.toNatClampNeg = i := ofN_tn i0
        have sz := (hI.1 u ou.1).2.1
        have pu := (h.2.2.2.2.2.2.1 u ou.1).2.1 ou.2
        have p0 := (hI.1 u ou.1).1.2
        have yt : (Int32.ofNat y).toNatClampNeg = y := tn_of ay.1
        have yi : (Int32.ofNat y).toInt = (y : Int) := Int32.toInt_ofNat_of_lt (by have := ay.1; omega)
        have dr := h.2.2.2.2.2.2.2 u ou.1 ou.2 i.toNatClampNeg (by omega) (by
          unfold gRw
          rw [ei, ir, yt, yi]
          exact ⟨by omega, by have := ay.1; omega, ay.2, by omega⟩)
        have cx : gCx a u (i.toNatClampNeg : Int) < 375 := by
          unfold gCx
          have c4 := nm.2.2.2.2
          have ol := nm.2.1
          have ot := h.2.2.2.2.2.1
          refine Int.ediv_lt_of_lt_mul (by omega) ?_
          have m4 : 375 * 4 ≤ 375 * (a 87 12).toInt := Int.mul_le_mul_of_nonneg_left c4 (by decide)
          omega
        have ob1 : ∀ c k, c ≠ 75 → c ≠ 76 → c ≠ 77 → gB1 a c k = a c k := fun c k q1 q2 q3 => (o1 c k q1 q2 q3).symm
        refine df_in ((a 87 10).toInt - 0).toNat (gB1 a) 0 (qI_of hI o1) g1.1 (Gd_0 (qI_of hI o1)) (by decide) (by have := h.2.2.2.2.2.1; have := nm.2.1; omega) (Nat.le_refl _) u ((Of_al o1).mpr ou.1) (by rw [ob1 130 u (by decide) (by decide) (by decide)]; exact p0) (by rw [ob1 130 u (by decide) (by decide) (by decide)]; omega) i.toNatClampNeg (by rw [ob1 128 u (by decide) (by decide) (by decide)]; omega) ?_ y ((Of_al o1).mpr ay) ?_
        · unfold gDy
          have cxe : gCx (gB1 a) u (i.toNatClampNeg : Int) = gCx a u (i.toNatClampNeg : Int) := by
            unfold gCx
            rw [ob1 130 u (by decide) (by decide) (by decide), ob1 87 12 (by decide) (by decide) (by decide)]
          rw [cxe, ob1 87 12 (by decide) (by decide) (by decide), ob1 83 _ (by decide) (by decide) (by decide)]
          exact ⟨by have := nm.2.2.2.2; omega, cx, dr⟩
        · rw [ei, ← ir]
          exact rf_cg (funext (fun k => ob1 _ k (by omega) (by omega) (by omega))) (funext (fun k => ob1 _ k (by decide) (by decide) (by decide))) (funext (fun k => ob1 _ k (by decide) (by decide) (by decide)))
    · exact (sp_Nn g2.1).mpr (zM_cl hm d he2)
theorem Kp_I (h : qAv a) : qI (aPc (gKp a)) ∧ qE0 (aPc (gKp a)) := by
  have b3 := B3_all h
  rw [Kp_b h.2.2.1.2.1.1]
  exact I_gf _ 0 _ (qI_of h.1 b3.2.1) b3.1
theorem Mi_b (h : qAv a) : aPc (gMk0 a) = aMv (aPc (gKp a)) 0 := by
  have e5 : 0 ≤ (gKp a 75 5).toInt := by
    unfold gKp aGw
    rw [gf_5, sp_5]
    unfold gDp
    rw [df_5, ro_5, wh_5]
    exact h.2.2.1.2.1.1
  exact Pc_mv e5
theorem Mi_md (h : qAv a) : qMd (aPc (gKp a)) (aPc (gMk0 a)) (aPc (gKp a) 69 6).toInt := by
  rw [Mi_b h]
  exact Md_mv (Kp_I h).1 (Kp_I h).2.1.2.2.2.2.2.1
theorem oPc : zOf (aPc b) b := fun c k q1 _ q3 => Pc_o q1 q3
theorem Mi_I (h : qAv a) : qI (gMk0 a) := by
  refine qI_of ?_ (oPc (b := gMk0 a))
  rw [Mi_b h]
  exact I_mv (Kp_I h).1 (Kp_I h).2.1.2.2.2.2.2.1
theorem Kp_r (h1 : k ≠ 69) (h2 : k ≠ 73) (h3 : k ≠ 74) (h4 : k ≠ 134) (h5 : k ≠ 75) (h6 : k ≠ 76) (h7 : k ≠ 77) : gKp a k = a k := funext (fun j => by
  unfold gKp aGw
  rw [Gf_r h1 h2 h3 h4 h5 h6 h7, aSp_o ⟨h5, h6, h7⟩]
  have d : ∀ (f : Nat) (b : Nat → Nat → Int32) (p e : Int), gDf e f b p k j = b k j := by
    intro f
    induction f with
    | zero => intro b p e; rfl
    | succ f ih =>
      intro b p e
      by_cases c : p < e
      · by_cases q : (zOb b p).toInt < 0
        · rw [gDf_fr c q, ih]
        · rw [gDf_go c (by omega), ih, gDw_o ⟨h5, h6, h7⟩]
      · rw [gDf_e c]
  unfold gDp
  rw [d, aRo_o ⟨h5, h6, h7⟩]
  exact (wh_of (a := a) k j h5 h6 h7).symm)
theorem Kp_7 : gKp a 75 5 = a 87 9 := by
  unfold gKp aGw
  rw [gf_5, sp_5]
  unfold gDp
  rw [df_5, ro_5, wh_5]
theorem Mi_al (h : qAv a) : xAl (gMk0 a) n ↔ xAl a n ∧ ((a 130 n).toInt < (a 87 9).toInt ∨ gKp a 77 n ≠ 0) := by
  have md := Md_al (n := n) (Kp_I h).1 (Mi_md h)
  have r6 : gKp a 126 = a 126 := Kp_r (by decide) (by decide) (by decide) (by decide) (by decide) (by decide) (by decide)
  have r13 : gKp a 130 = a 130 := Kp_r (by decide) (by decide) (by decide) (by decide) (by decide) (by decide) (by decide)
  have al : xAl (gKp a) n ↔ xAl a n := by
    unfold xAl
    rw [r6]
  rw [← Pc_al (a := gMk0 a), md, Pc_al, al]
  constructor
  · rintro ⟨w1, w2⟩
    refine ⟨w1, ?_⟩
    by_cases d : (a 130 n).toInt < (a 87 9).toInt
    · exact Or.inl d
    · refine Or.inr ?_
      rw [Pc_7y (fun z => d ?_)] at w2
      · exact w2
      · have z2 := z.2.2
        rw [r13, Kp_7] at z2
        exact z2
  · rintro ⟨w1, w2⟩
    refine ⟨w1, ?_⟩
    by_cases d : (a 130 n).toInt < (a 87 9).toInt
    · rw [Pc_7o w1.1 (by rw [r6]; exact w1.2) (by rw [r13, Kp_7]; exact d)]
      decide
    · rw [Pc_7y (fun z => d ?_)]
      · exact w2.elim (fun q => absurd q d) id
      · have z2 := z.2.2
        rw [r13, Kp_7] at z2
        exact z2
theorem Mi_f (h : qAv a) (hn : xAl (gMk0 a) n) : (∀ f, 126 ≤ f → f < 1000 → f ≠ 134 → gMk0 a f n = a f n) ∧ gMk0 a (1000 + n) = a (1000 + n) ∧ ∀ p : Nat, (a 130 n).toInt ≤ (p : Int) → (p : Int) < (a 130 n).toInt + (a 128 n).toInt → gMk0 a 71 p = a 71 p := by
  have md := (Md_al (n := n) (Kp_I h).1 (Mi_md h)).mp (Pc_al.mpr hn)
  have q := Md_f (Mi_md h) hn.1 md.2
  have kr : ∀ c, c ≠ 69 → c ≠ 73 → c ≠ 74 → c ≠ 134 → c ≠ 75 → c ≠ 76 → c ≠ 77 → gKp a c = a c := fun c h1 h2 h3 h4 h5 h6 h7 => Kp_r h1 h2 h3 h4 h5 h6 h7
  refine ⟨fun f h1 h2 h3 => ?_, ?_, fun p h1 h2 => ?_⟩
  · have z := q.1 f h1 h2
    rw [Pc_o (by omega) (by omega), Pc_o (by omega) (by omega), kr f (by omega) (by omega) (by omega) h3 (by omega) (by omega) (by omega)] at z
    exact z
  · have z := q.2
    rw [Pc_r (by omega) (by omega), Pc_r (by omega) (by omega), kr (1000 + n) (by omega) (by omega) (by omega) (by omega) (by omega) (by omega) (by omega)] at z
    exact z
  · have z := Md_w (Kp_I h).1 (Mi_md h) md.1 md.2 (p := p) (by rw [Pc_o (by decide) (by decide), kr 130 (by decide) (by decide) (by decide) (by decide) (by decide) (by decide) (by decide)]; exact h1) (by rw [Pc_o (c := 130) (by decide) (by decide), Pc_o (c := 128) (by decide) (by decide), kr 130 (by decide) (by decide) (by decide) (by decide) (by decide) (by decide) (by decide), kr 128 (by decide) (by decide) (by decide) (by decide) (by decide) (by decide) (by decide)]; exact h2)
    rw [Pc_o (by decide) (by decide), Pc_o (by decide) (by decide), kr 71 (by decide) (by decide) (by decide) (by decide) (by decide) (by decide) (by decide)] at z
    exact z
theorem Mi_8 (h : 82 ≤ k ∧ k ≤ 93) : gMk0 a k = a k := funext (fun j => by
  unfold gMk0
  rw [show aMv (gKp a) 0 k j = gKp a k j from mf_9 h _ _ _, Kp_r (by omega) (by omega) (by omega) (by omega) (by omega) (by omega) (by omega)])
theorem Mi_w (h : k = 75 ∨ k = 76 ∨ k = 77) : gMk0 a k = gKp a k := funext (fun j => by
  have mf : ∀ (f : Nat) (x : Int32) (b : Nat → Nat → Int32), aMf f x b k j = b k j := by
    intro f
    induction f with
    | zero => intro x b; rfl
    | succ f ih =>
      intro x b
      by_cases w : aMc b x
      · rw [aMf_y w, ih, aRm_o (by omega) ⟨by omega, by omega, by omega, by omega⟩]
      · rw [aMf_n w, ih]
  exact mf _ _ _)
/-- the queue: each once, YOUNG, there; who is YOUNG and there is in it -/
theorem Mi_FY (h : qAv a) : zFQ (gMk0 a) ∧ (∀ n, n < 512 → gMk0 a 77 n ≠ 0 → xAl (gMk0 a) n ∧ (a 87 9).toInt ≤ (a 130 n).toInt) ∧ ∀ n, xAl (gMk0 a) n → (a 87 9).toInt ≤ (a 130 n).toInt → gMk0 a 77 n ≠ 0 := by
  have fy := FY_kp (a := a)
  have e5 := Mi_w (a := a) (k := 75) (by decide)
  have e6 := Mi_w (a := a) (k := 76) (by decide)
  have e7 := Mi_w (a := a) (k := 77) (by decide)
  have r13 : gKp a 130 = a 130 := Kp_r (by decide) (by decide) (by decide) (by decide) (by decide) (by decide) (by decide)
  have r6 : gKp a 126 = a 126 := Kp_r (by decide) (by decide) (by decide) (by decide) (by decide) (by decide) (by decide)
  have yg : ∀ n, n < 512 → gKp a 77 n ≠ 0 → (a 87 9).toInt ≤ (a 130 n).toInt := fun n hn w => by
    have q := fy.2 n hn w
    rw [Kp_7, r13] at q
    exact q
  have al : ∀ n, n < 512 → a 126 n ≠ 0 → gKp a 77 n ≠ 0 → xAl (gMk0 a) n := fun n hn h6 w => (Mi_al h).mpr ⟨⟨hn, h6⟩, Or.inr w⟩
  have a6 : ∀ n, n < 512 → gKp a 77 n ≠ 0 → a 126 n ≠ 0 := fun n hn w => by
    obtain ⟨j, j1, j2⟩ := fy.1.2.2.1 n hn w
    have q := (fy.1.1 j j1).2.2.2
    rw [j2, tn_of hn, r6] at q
    exact q
  refine ⟨?_, fun n hn w => ?_, fun n hn w => ?_⟩
  · have q := fy.1
    unfold zFQ at q ⊢
    rw [e5, e6, e7]
    refine ⟨fun j hj => ?_, q.2⟩
    have z := q.1 j hj
    have t := tn_cast z.1
    exact ⟨z.1, z.2.1, z.2.2.1, (al _ (by omega) (a6 _ (by omega) z.2.2.1) z.2.2.1).2⟩
  · rw [e7] at w
    exact ⟨al n hn (a6 n hn w) w, yg n hn w⟩
  · rw [e7]
    exact ((Mi_al h).mp hn).2.elim (fun q => by omega) id
end F24

/-! from 95.u15 -/
/-! AGES, the class (written by wip/tools/gen15y.py) -/
/-! AGES: those that are kept grow older and move -/
def gPf (a : Nat → Nat → Int32) (j : Nat) : Int := if (a 87 11).toInt ≤ (a 131 (a 76 j).toNatClampNeg).toInt + 1 then (a 128 (a 76 j).toNatClampNeg).toInt else 0
def gNf (a : Nat → Nat → Int32) (j : Nat) : Int := if (a 87 11).toInt ≤ (a 131 (a 76 j).toNatClampNeg).toInt + 1 then 0 else (a 128 (a 76 j).toNatClampNeg).toInt
def qJg (a : Nat → Nat → Int32) (st ot o0 : Int) (P N : Nat → Int) (j : Nat) : Prop :=
  qI a ∧ zFQ a ∧ a 87 2 = 0 ∧ ((0 ≤ (a 87 5).toInt ∧ (a 87 5).toInt ≤ 1500) ∧ (0 ≤ (a 87 9).toInt ∧ (a 87 9).toInt ≤ 1500) ∧ (a 87 0).toInt = (a 87 9).toInt + 2 * (a 87 5).toInt ∧ (1 ≤ (a 87 11).toInt ∧ (a 87 11).toInt ≤ 1000) ∧ 4 ≤ (a 87 12).toInt) ∧ ((st = (a 87 9).toInt ∧ ot = (a 87 9).toInt + (a 87 5).toInt) ∨ (st = (a 87 9).toInt + (a 87 5).toInt ∧ ot = (a 87 9).toInt)) ∧
  ((a 87 10).toInt = o0 + zsg P j ∧ 0 ≤ o0 ∧ o0 + zsg P (a 75 4).toInt.toNat ≤ (a 87 9).toInt) ∧ ((a 87 4).toInt = st + zsg N j ∧ zsg N (a 75 4).toInt.toNat ≤ (a 87 5).toInt) ∧ (j : Int) ≤ (a 75 4).toInt ∧
  (∀ i : Nat, (i : Int) < (a 75 4).toInt → 0 ≤ P i ∧ 0 ≤ N i) ∧
  (∀ i : Nat, j ≤ i → (i : Int) < (a 75 4).toInt → P i = gPf a i ∧ N i = gNf a i ∧ (ot ≤ (a 130 (a 76 i).toNatClampNeg).toInt ∧ (a 130 (a 76 i).toNatClampNeg).toInt + (a 128 (a 76 i).toNatClampNeg).toInt ≤ ot + (a 87 5).toInt)) ∧
  (∀ i : Nat, i < j → N i = if (a 87 9).toInt ≤ (a 130 (a 76 i).toNatClampNeg).toInt then (a 128 (a 76 i).toNatClampNeg).toInt else 0) ∧
  ∀ n, xAl a n → (0 ≤ (a 131 n).toInt ∧ (a 131 n).toInt ≤ (a 87 11).toInt) ∧ ((a 130 n).toInt < (a 87 9).toInt → (a 130 n).toInt + (a 128 n).toInt ≤ (a 87 10).toInt) ∧ ((a 87 9).toInt ≤ (a 130 n).toInt → a 133 n = 0 ∧ (a 131 n).toInt < (a 87 11).toInt ∧ ((zIn a j n ∧ st ≤ (a 130 n).toInt ∧ (a 130 n).toInt + (a 128 n).toInt ≤ (a 87 4).toInt) ∨ (¬ zIn a j n ∧ zIn a (a 75 4).toInt.toNat n)))
section F25
variable {a b : Nat → Nat → Int32} {st ot o0 : Int} {P N F G : Nat → Int} {j k n m f c : Nat} {to x : Int32}
theorem sg_s : zsg F (n + 1) = zsg F n + F n := rfl
theorem sg_le (h : ∀ i, i < m → 0 ≤ F i) : ∀ n, n ≤ m → ∀ k, k ≤ n → zsg F k ≤ zsg F n := by
  intro n
  induction n with
  | zero => intro _ k hk; rw [show k = 0 by omega]; exact Int.le_refl _
  | succ n ih =>
    intro hn k hk
    rw [sg_s]
    have q := h n (by omega)
    by_cases w : k = n + 1
    · rw [w, sg_s]
      exact Int.le_refl _
    · have := ih (by omega) k (by omega)
      omega
theorem sg_mono : ∀ n, (∀ k, k < n → F k ≤ G k) → zsg F n ≤ zsg G n := by
  intro n
  induction n with
  | zero => intro _; exact Int.le_refl _
  | succ n ih =>
    intro h
    rw [sg_s, sg_s]
    have := ih (fun k hk => h k (by omega))
    have := h n (by omega)
    omega
/-- the queue's sum is one by numbers -/
theorem Fq_sum (h : zFQ a) (F : Nat → Int) : zsg (fun j => F (a 76 j).toNatClampNeg) (a 75 4).toInt.toNat = zsg (fun n => if a 77 n ≠ 0 then F n else 0) 512 := by
  have key : ∀ M : Nat, M ≤ 512 → zsg (fun j => if (a 76 j).toNatClampNeg < M then F (a 76 j).toNatClampNeg else 0) (a 75 4).toInt.toNat = zsg (fun n => if a 77 n ≠ 0 then F n else 0) M := by
    intro M
    induction M with
    | zero =>
      intro _
      exact sg_0 _ (fun k hk => if_neg (by omega))
    | succ M ih =>
      intro hM
      rw [sg_s, ← ih (by omega)]
      have e : zsg (fun j => if (a 76 j).toNatClampNeg < M + 1 then F (a 76 j).toNatClampNeg else 0) (a 75 4).toInt.toNat = zsg (fun j => (if (a 76 j).toNatClampNeg < M then F (a 76 j).toNatClampNeg else 0) + (if (a 76 j).toNatClampNeg = M then F M else 0)) (a 75 4).toInt.toNat := by
        refine sg_cg _ (fun k hk => ?_)
        by_cases c1 : (a 76 k).toNatClampNeg < M
        · rw [if_pos (by omega), if_pos c1, if_neg (by omega), Int.add_zero]
        · rw [if_neg c1, Int.zero_add]
          by_cases c2 : (a 76 k).toNatClampNeg = M
          · rw [if_pos (by omega), if_pos c2, c2]
          · rw [if_neg (by omega), if_neg c2]
      rw [e, sg_ad]
      have key2 : zsg (fun j => if (a 76 j).toNatClampNeg = M then F M else 0) (a 75 4).toInt.toNat = if a 77 M ≠ 0 then F M else 0 := by
        by_cases w : a 77 M ≠ 0
        · obtain ⟨j, hj, ej⟩ := h.2.2.1 M (by omega) w
          have em : (a 76 j).toNatClampNeg = M := by rw [ej, tn_of (by omega)]
          rw [if_pos w, sg_1 _ j (by omega) (fun i hi hne => if_neg (fun z => ?_)), if_pos em]
          have qi := h.1 i (by omega)
          have e2 : a 76 i = a 76 j := by
            rw [ej, ← z]
            exact (ofN_tn qi.1).symm
          by_cases lt : i < j
          · exact h.2.1 i j lt (by omega) e2
          · exact h.2.1 j i (by omega) (by omega) e2.symm
        · rw [if_neg w]
          refine sg_0 _ (fun k hk => if_neg (fun z => w ?_))
          have q := (h.1 k (by omega)).2.2.1
          rw [z] at q
          exact q
      rw [key2]
  rw [← key 512 (Nat.le_refl _)]
  refine sg_cg _ (fun k hk => ?_)
  have q := h.1 k (by omega)
  have t := tn_cast q.1
  exact (if_pos (by omega)).symm
theorem gMf_y (h : hQc a j) : gMf (f + 1) j a = gMf f (j + 1) (gM1 a (a 76 j).toNatClampNeg) := if_pos h
theorem gMf_n (h : ¬ hQc a j) : gMf (f + 1) j a = gMf f (j + 1) a := if_neg h
/-- where the next one goes -/
def gTo (a : Nat → Nat → Int32) (n : Nat) : Int32 := if (a 87 11).toInt ≤ (a 131 n + 1).toInt then a 87 10 else a 87 4
theorem Jg_nx (h : qJg a st ot o0 P N j) (hj : (j : Int) < (a 75 4).toInt) : hQc a j ∧ qMv a (a 76 j).toNatClampNeg (gTo a (a 76 j).toNatClampNeg) ∧ qFr a (a 76 j).toNatClampNeg (gTo a (a 76 j).toNatClampNeg) ∧ (0 ≤ (gTo a (a 76 j).toNatClampNeg).toInt ∧ (gTo a (a 76 j).toNatClampNeg).toInt + (a 128 (a 76 j).toNatClampNeg).toInt ≤ (a 87 0).toInt) ∧ xAl a (a 76 j).toNatClampNeg ∧ (a 131 (a 76 j).toNatClampNeg + 1).toInt = (a 131 (a 76 j).toNatClampNeg).toInt + 1 ∧ (1 ≤ (a 128 (a 76 j).toNatClampNeg).toInt ∧ (a 128 (a 76 j).toNatClampNeg).toInt ≤ 61) ∧ (a 87 9).toInt ≤ (a 130 (a 76 j).toNatClampNeg).toInt ∧ (((a 87 11).toInt ≤ (a 131 (a 76 j).toNatClampNeg).toInt + 1 ∧ P j = (a 128 (a 76 j).toNatClampNeg).toInt ∧ N j = 0 ∧ (a 87 10).toInt + (a 128 (a 76 j).toNatClampNeg).toInt ≤ (a 87 9).toInt ∧ gTo a (a 76 j).toNatClampNeg = a 87 10) ∨ (¬ (a 87 11).toInt ≤ (a 131 (a 76 j).toNatClampNeg).toInt + 1 ∧ P j = 0 ∧ N j = (a 128 (a 76 j).toNatClampNeg).toInt ∧ (a 87 4).toInt + (a 128 (a 76 j).toNatClampNeg).toInt ≤ st + (a 87 5).toInt ∧ st ≤ (a 87 4).toInt ∧ gTo a (a 76 j).toNatClampNeg = a 87 4)) := by
  obtain ⟨hI, hF, h2, nm, hs, hO, hT, hl, hp, hu, hd, ha⟩ := h
  have al := (FQ_al hF hj).1
  have no := In_no hF hj
  have f := hF.1 j hj
  have i := hI.1 _ al
  have v := ha _ al
  have u := hu j (Nat.le_refl _) hj
  have b4 := hI.2.2.2.1.2.2.1
  have lP := sg_le (m := (a 75 4).toInt.toNat) (F := P) (fun i hi => (hp i (by omega)).1) (a 75 4).toInt.toNat (Nat.le_refl _) (j + 1) (by omega)
  have lN := sg_le (m := (a 75 4).toInt.toNat) (F := N) (fun i hi => (hp i (by omega)).2) (a 75 4).toInt.toNat (Nat.le_refl _) (j + 1) (by omega)
  have l0P := sg_le (m := (a 75 4).toInt.toNat) (F := P) (fun i hi => (hp i (by omega)).1) j (by omega) 0 (by omega)
  have l0N := sg_le (m := (a 75 4).toInt.toNat) (F := N) (fun i hi => (hp i (by omega)).2) j (by omega) 0 (by omega)
  have z0P : zsg P 0 = 0 := rfl
  have z0N : zsg N 0 = 0 := rfl
  rw [sg_s] at lP lN
  have e1 : (a 131 (a 76 j).toNatClampNeg + 1).toInt = (a 131 (a 76 j).toNatClampNeg).toInt + 1 := i_p1 (by omega)
  have yo : (a 87 9).toInt ≤ (a 130 (a 76 j).toNatClampNeg).toInt := by omega
  have ot0 : ∀ m, xAl a m → m ≠ (a 76 j).toNatClampNeg → (a 87 9).toInt ≤ (a 130 m).toInt → (st ≤ (a 130 m).toInt ∧ (a 130 m).toInt + (a 128 m).toInt ≤ (a 87 4).toInt) ∨ (ot ≤ (a 130 m).toInt ∧ (a 130 m).toInt + (a 128 m).toInt ≤ ot + (a 87 5).toInt) := fun m hm hne hy => by
    rcases ((ha m hm).2.2 hy).2.2 with w | w
    · exact Or.inl w.2
    · obtain ⟨q, hq, eq⟩ := w.2
      have jq : j ≤ q := by
        by_cases lt : q < j
        · exact absurd ⟨q, lt, eq⟩ w.1
        · omega
      have z := (hu q jq (by omega)).2.2
      rw [eq, tn_of hm.1] at z
      exact Or.inr z
  unfold gTo
  by_cases w : (a 87 11).toInt ≤ (a 131 (a 76 j).toNatClampNeg).toInt + 1
  · have Pj : P j = (a 128 (a 76 j).toNatClampNeg).toInt := u.1.trans (if_pos w)
    have Nj : N j = 0 := u.2.1.trans (if_pos w)
    rw [if_pos (by omega)]
    refine ⟨⟨f.1, f.2.1, f.2.2.2⟩, ⟨by omega, by omega, by omega, by omega, by omega, by omega⟩, fun m hm hne => ?_, by omega, al, e1, i.2.1, yo, Or.inl ⟨w, Pj, Nj, by omega, rfl⟩⟩
    by_cases q : (a 130 m).toInt < (a 87 9).toInt
    · exact Or.inr ((ha m hm).2.1 q)
    · exact Or.inl (by omega)
  · have Pj : P j = 0 := u.1.trans (if_neg w)
    have Nj : N j = (a 128 (a 76 j).toNatClampNeg).toInt := u.2.1.trans (if_neg w)
    rw [if_neg (by omega)]
    refine ⟨⟨f.1, f.2.1, f.2.2.2⟩, ⟨by omega, by omega, by omega, by omega, by omega, by omega⟩, fun m hm hne => ?_, by omega, al, e1, i.2.1, yo, Or.inr ⟨w, Pj, Nj, by omega, by omega, rfl⟩⟩
    by_cases q : (a 130 m).toInt < (a 87 9).toInt
    · have z := (ha m hm).2.1 q
      exact Or.inr (by omega)
    · rcases ot0 m hm hne (by omega) with z | z
      · exact Or.inr (by omega)
      · omega
theorem gM1_r (h1 : c ≠ 71) (h2 : c ≠ 130) (h3 : c ≠ 131) (h4 : c ≠ 87) : gM1 a n c = a c := funext (fun k => by
  unfold gM1
  split
  · rw [xu_o (fun w => h4 w.1), Mo_r h1 h2, xu_o (fun w => h3 w.1)]
  · rw [xu_o (fun w => h4 w.1), Mo_r h1 h2, xu_o (fun w => h3 w.1)])
theorem gM1_7 (h1 : k ≠ 4) (h2 : k ≠ 10) : gM1 a n 87 k = a 87 k := by
  unfold gM1
  split
  · rw [xu_o (fun w => h2 w.2), Mo_r (by decide) (by decide), xu_o (by omega)]
  · rw [xu_o (fun w => h1 w.2), Mo_r (by decide) (by decide), xu_o (by omega)]
theorem gM1_p : gM1 a n 130 n = gTo a n ∧ (∀ m, m ≠ n → gM1 a n 130 m = a 130 m) ∧ gM1 a n 131 n = a 131 n + 1 ∧ ∀ m, m ≠ n → gM1 a n 131 m = a 131 m := by
  unfold gM1 gTo
  by_cases w : (a 87 11).toInt ≤ (a 131 n + 1).toInt
  · rw [if_pos w, if_pos w]
    exact ⟨by rw [xu_o (by omega), Mo_pn], fun m hm => by rw [xu_o (by omega), Mo_po hm, xu_o (by omega)], by rw [xu_o (by omega), Mo_r (by decide) (by decide), xu_s], fun m hm => by rw [xu_o (by omega), Mo_r (by decide) (by decide), xu_o (fun z => hm z.2)]⟩
  · rw [if_neg w, if_neg w]
    exact ⟨by rw [xu_o (by omega), Mo_pn], fun m hm => by rw [xu_o (by omega), Mo_po hm, xu_o (by omega)], by rw [xu_o (by omega), Mo_r (by decide) (by decide), xu_s], fun m hm => by rw [xu_o (by omega), Mo_r (by decide) (by decide), xu_o (fun z => hm z.2)]⟩
theorem I_131 (h : qI a) : qI (ma_u a 131 n x) := I_cg h (un (by decide)) (un (by decide)) (un (by decide)) (un (by decide)) (un (by decide)) (un (by decide)) (fun j => un (by omega))
theorem gM1_I (hI : qI a) (al : xAl a n) (h0 : 0 ≤ (gTo a n).toInt) (h1 : (gTo a n).toInt + (a 128 n).toInt ≤ (a 87 0).toInt) (F : qFr a n (gTo a n)) (h2 : a 87 2 = 0) : qI (gM1 a n) := by
  have r : ∀ c, c ≠ 131 → ma_u a 131 n (a 131 n + 1) c = a c := fun c hc => ma_u_ne _ _ _ hc
  have q := I_mo (to := gTo a n) (I_131 (n := n) (x := a 131 n + 1) hI) (n := n) (by unfold xAl; rw [r 126 (by decide)]; exact al) h0 (by rw [r 128 (by decide), r 87 (by decide)]; exact h1) (fun m hm hne => by
    unfold xAl at hm
    rw [r 126 (by decide)] at hm
    rw [r 128 (by decide), r 130 (by decide)]
    exact F m hm hne) (by rw [r 87 (by decide), h2]; rfl)
  unfold gTo at q
  unfold gM1
  by_cases w : (a 87 11).toInt ≤ (a 131 n + 1).toInt
  · rw [if_pos w] at q ⊢
    exact I_87k q (by decide) (by decide) (by decide)
  · rw [if_neg w] at q ⊢
    exact I_87k q (by decide) (by decide) (by decide)
theorem gM1_rf (hI : qI a) (al : xAl a n) (h0 : 0 ≤ (gTo a n).toInt) (h1 : (gTo a n).toInt + (a 128 n).toInt ≤ (a 87 0).toInt) (F : qFr a n (gTo a n)) {i : Int32} (hm : xAl a m) (i0 : 0 ≤ i.toInt) (i1 : i.toInt < (a 128 m).toInt - 1) : aRef (gM1 a n) m i = aRef a m i := by
  have r : ∀ c, c ≠ 131 → ma_u a 131 n (a 131 n + 1) c = a c := fun c hc => ma_u_ne _ _ _ hc
  have rr : ∀ c, c ≠ 131 → aMo (ma_u a 131 n (a 131 n + 1)) n (gTo a n) c = aMo a n (gTo a n) c := fun c hc => funext (fun k => by
    unfold aMo
    rw [r 128 (by decide), r 130 (by decide), r 71 (by decide), r c hc])
  have g : ∀ c, c ≠ 87 → c ≠ 131 → gM1 a n c = aMo a n (gTo a n) c := fun c h1 h2 => by
    rw [← rr c h2]
    unfold gM1 gTo
    by_cases w : (a 87 11).toInt ≤ (a 131 n + 1).toInt
    · rw [if_pos w, if_pos w, ma_u_ne _ _ _ h1]
    · rw [if_neg w, if_neg w, ma_u_ne _ _ _ h1]
  rw [show aRef (gM1 a n) m i = aRef (aMo a n (gTo a n)) m i from rf_cg (g _ (by omega) (by omega)) (g _ (by decide) (by decide)) (g _ (by decide) (by decide))]
  exact Mo_ref hI al h0 h1 F hm i0 i1
theorem Jg_go (h : qJg a st ot o0 P N j) (hj : (j : Int) < (a 75 4).toInt) : qJg (gM1 a (a 76 j).toNatClampNeg) st ot o0 P N (j + 1) := by
  have nx := Jg_nx h hj
  obtain ⟨hI, hF, h2, nm, hs, hO, hT, hl, hp, hu, hd, ha⟩ := h
  obtain ⟨_, _, F, ⟨t0, t1⟩, al, e1, sz, yo, cs⟩ := nx
  have no := In_no hF hj
  have tj := (FQ_al hF hj).2
  have gp := gM1_p (a := a) (n := (a 76 j).toNatClampNeg)
  have r75 : gM1 a (a 76 j).toNatClampNeg 75 = a 75 := gM1_r (by decide) (by decide) (by decide) (by decide)
  have r76 : gM1 a (a 76 j).toNatClampNeg 76 = a 76 := gM1_r (by decide) (by decide) (by decide) (by decide)
  have r77 : gM1 a (a 76 j).toNatClampNeg 77 = a 77 := gM1_r (by decide) (by decide) (by decide) (by decide)
  have r126 : gM1 a (a 76 j).toNatClampNeg 126 = a 126 := gM1_r (by decide) (by decide) (by decide) (by decide)
  have r128 : gM1 a (a 76 j).toNatClampNeg 128 = a 128 := gM1_r (by decide) (by decide) (by decide) (by decide)
  have r133 : gM1 a (a 76 j).toNatClampNeg 133 = a 133 := gM1_r (by decide) (by decide) (by decide) (by decide)
  have q7 : ∀ k, k ≠ 4 → k ≠ 10 → gM1 a (a 76 j).toNatClampNeg 87 k = a 87 k := fun k h4 h10 => gM1_7 h4 h10
  have ne : ∀ i : Nat, (i : Int) < (a 75 4).toInt → i ≠ j → (a 76 i).toNatClampNeg ≠ (a 76 j).toNatClampNeg := fun i hi hne w => by
    have ti := (FQ_al hF hi).2
    rw [w, tj] at ti
    by_cases lt : i < j
    · exact hF.2.1 i j lt hj ti.symm
    · exact hF.2.1 j i (by omega) hi ti
  have b9 := nm.2.1
  have b5 := nm.1
  have b0 := hI.2.2.2.1.2.2.1
  have t10 : (gM1 a (a 76 j).toNatClampNeg 87 10).toInt = (a 87 10).toInt + P j ∧ (gM1 a (a 76 j).toNatClampNeg 87 4).toInt = (a 87 4).toInt + N j := by
    unfold gM1
    rcases cs with ⟨w, c1, c2, c3, c4⟩ | ⟨w, c1, c2, c3, c4, c5⟩
    · rw [if_pos (by omega), xu_s, xu_o (by decide), Mo_r (by decide) (by decide), xu_o (by omega)]
      rw [c4] at t0
      rw [i_add (by omega) (by omega)]
      exact ⟨by omega, by omega⟩
    · rw [if_neg (by omega), xu_s, xu_o (by decide), Mo_r (by decide) (by decide), xu_o (by omega)]
      rw [c5] at t0
      rw [i_add (by omega) (by omega)]
      exact ⟨by omega, by omega⟩
  have pj := hp j hj
  have inn : ∀ k n, zIn (gM1 a (a 76 j).toNatClampNeg) k n ↔ zIn a k n := fun k n => by
    unfold zIn
    rw [r76]
  unfold qJg
  rw [r75, q7 2 (by decide) (by decide), q7 5 (by decide) (by decide), q7 9 (by decide) (by decide), q7 0 (by decide) (by decide), q7 11 (by decide) (by decide), q7 12 (by decide) (by decide), r76]
  refine ⟨gM1_I hI al t0 t1 F h2, FQ_cg hF (congrFun r75 3) (congrFun r75 4) r76 (fun x _ => by rw [r77]) r126, h2, nm, hs, ⟨by rw [sg_s]; omega, hO.2⟩, ⟨by rw [sg_s]; omega, hT.2⟩, by omega, hp, fun i hi hi2 => ?_, fun i hi => ?_, fun n hn => ?_⟩
  · have z := hu i (by omega) hi2
    have nn := ne i hi2 (by omega)
    unfold gPf gNf at z ⊢
    rw [q7 11 (by decide) (by decide), r76, gp.2.2.2 _ nn, r128, gp.2.1 _ nn]
    exact z
  · by_cases w : i = j
    · rw [w, gp.1, r128]
      rcases cs with ⟨w1, c1, c2, c3, c4⟩ | ⟨w1, c1, c2, c3, c4, c5⟩
      · rw [c4, if_neg (by omega)]
        exact c2
      · rw [c5, if_pos (by omega)]
        exact c2
    · have nn := ne i (by omega) w
      rw [gp.2.1 _ nn, r128]
      exact hd i (by omega)
  · unfold xAl at hn
    rw [r126] at hn
    have v := ha n hn
    rw [r128, r133]
    by_cases w : n = (a 76 j).toNatClampNeg
    · rw [w, gp.1, gp.2.2.1, e1]
      rw [w] at v
      have yv := v.2.2 yo
      rcases cs with ⟨w1, c1, c2, c3, c4⟩ | ⟨w1, c1, c2, c3, c4, c5⟩
      · rw [c4]
        exact ⟨by omega, fun _ => by omega, fun q => by omega⟩
      · rw [c5]
        refine ⟨by omega, fun q => by omega, fun q => ⟨yv.1, by omega, Or.inl ⟨(inn _ _).mpr (In_s.mpr (Or.inr (by rw [tj]))), by omega, by omega⟩⟩⟩
    · rw [gp.2.1 n w, gp.2.2.2 n w]
      refine ⟨v.1, fun q => by have := v.2.1 q; omega, fun q => ?_⟩
      have z := v.2.2 q
      refine ⟨z.1, z.2.1, ?_⟩
      rcases z.2.2 with y | y
      · exact Or.inl ⟨(inn _ _).mpr (In_s.mpr (Or.inl y.1)), y.2.1, by omega⟩
      · refine Or.inr ⟨fun s => ?_, (inn _ _).mpr y.2⟩
        rcases In_s.mp ((inn _ _).mp s) with s | s
        · exact y.1 s
        · exact w (by rw [s, tn_of hn.1])
theorem gMf_J : ∀ (f j : Nat) (a : Nat → Nat → Int32), qJg a st ot o0 P N j → (j : Int) + f = (a 75 4).toInt → qJg (gMf f j a) st ot o0 P N (j + f) := by
  intro f
  induction f with
  | zero => intro j a h _; exact h
  | succ f ih =>
    intro j a h e
    have nx := Jg_nx h (by omega)
    rw [gMf_y nx.1, show j + (f + 1) = (j + 1) + f from by omega]
    exact ih _ _ (Jg_go h (by omega)) (by rw [gM1_r (by decide) (by decide) (by decide) (by decide)]; omega)
end F25

/-! from 95.u16 -/
/-! AGES, the class (written by wip/tools/gen15y.py) -/
/-! AGES: what holds stays so -/
def qDi (a : Nat → Nat → Int32) : Prop := ∀ n, xAl a n → (a 130 n).toInt < (a 87 9).toInt → ∀ i : Nat, (i : Int) < (a 128 n).toInt - 1 → gRw a n (Int32.ofNat i) → a 83 (gCx a n (i : Int)).toNat ≠ 0
def qA1 (a : Nat → Nat → Int32) (n : Nat) : Prop := (0 ≤ (a 131 n).toInt ∧ (a 131 n).toInt ≤ (a 87 11).toInt) ∧ ((a 130 n).toInt < (a 87 9).toInt → (a 130 n).toInt + (a 128 n).toInt ≤ (a 87 10).toInt) ∧ ((a 87 9).toInt ≤ (a 130 n).toInt → ((a 87 3).toInt ≤ (a 130 n).toInt ∧ (a 130 n).toInt + (a 128 n).toInt ≤ (a 87 4).toInt) ∧ (a 131 n).toInt < (a 87 11).toInt ∧ a 133 n = 0)
def qA0 (a : Nat → Nat → Int32) : Prop := qI a ∧ a 87 2 = 0 ∧ ((0 ≤ (a 87 5).toInt ∧ (a 87 5).toInt ≤ 1500) ∧ (0 ≤ (a 87 9).toInt ∧ (a 87 9).toInt ≤ 1500) ∧ (a 87 0).toInt = (a 87 9).toInt + 2 * (a 87 5).toInt ∧ (1 ≤ (a 87 11).toInt ∧ (a 87 11).toInt ≤ 1000) ∧ 4 ≤ (a 87 12).toInt) ∧ ((a 87 3).toInt = (a 87 9).toInt ∨ (a 87 3).toInt = (a 87 9).toInt + (a 87 5).toInt) ∧ ((a 87 3).toInt ≤ (a 87 4).toInt ∧ (a 87 4).toInt ≤ (a 87 3).toInt + (a 87 5).toInt ∧ gSy a 512 ≤ (a 87 4).toInt - (a 87 3).toInt) ∧ (0 ≤ (a 87 10).toInt ∧ (a 87 10).toInt ≤ (a 87 9).toInt) ∧ ∀ n, xAl a n → qA1 a n
section F26
variable {a b : Nat → Nat → Int32} {st ot o0 lim p e : Int} {P N F G : Nat → Int} {i j k n m f c : Nat} {to x : Int32}
theorem Av_mk (h : qA0 a) (d : qDi a) : qAv a := ⟨h.1, h.2.1, h.2.2.1, h.2.2.2.1, h.2.2.2.2.1, h.2.2.2.2.2.1, h.2.2.2.2.2.2, d⟩
theorem Av_0 (h : qAv a) : qA0 a := ⟨h.1, h.2.1, h.2.2.1, h.2.2.2.1, h.2.2.2.2.1, h.2.2.2.2.2.1, h.2.2.2.2.2.2.1⟩
theorem Sy_sg : ∀ n, gSy a n = zsg (fun n => if a 126 n ≠ 0 ∧ (a 87 9).toInt ≤ (a 130 n).toInt then (a 128 n).toInt else 0) n := by
  intro n
  induction n with
  | zero => rfl
  | succ n ih =>
    rw [sg_s, ← ih]
    rfl
theorem Gr_sg : ∀ n, gGr a n = zsg (fun n => if a 126 n ≠ 0 ∧ (a 87 9).toInt ≤ (a 130 n).toInt ∧ (a 87 11).toInt ≤ (a 131 n).toInt + 1 then (a 128 n).toInt else 0) n := by
  intro n
  induction n with
  | zero => rfl
  | succ n ih =>
    rw [sg_s, ← ih]
    rfl
/-! dirty cards -/
theorem Fd_r (h : c ≠ 83) : gFd a c = a c := funext (fun k => if_neg (fun w => h w.1))
theorem Wk_y (hr : gRw a n (Int32.ofNat i)) (hc : 0 < (a 87 12).toInt) (hk : gCx a n (i : Int) = (k : Int)) : ∀ m, i < m → gWk a k n m ≠ 0 := by
  intro m
  induction m with
  | zero => intro h; omega
  | succ m ih =>
    intro h
    show (if (0 ≤ (aRef a n (Int32.ofNat m)).toInt ∧ (aRef a n (Int32.ofNat m)).toInt < 512 ∧ a 126 (aRef a n (Int32.ofNat m)).toNatClampNeg ≠ 0 ∧ (a 87 9).toInt ≤ (a 130 (aRef a n (Int32.ofNat m)).toNatClampNeg).toInt) ∧ 0 < (a 87 12).toInt ∧ gCx a n (m : Int) = (k : Int) then 1 else gWk a k n m) ≠ 0
    by_cases w : i = m
    · rw [← w, if_pos ⟨hr, hc, hk⟩]
      decide
    · split
      · decide
      · exact ih (by omega)
theorem Nk_y (h6 : a 126 n ≠ 0) (ho : (a 130 n).toInt < (a 87 9).toInt) (hw : gWk a k n ((a 128 n).toInt - 1).toNat ≠ 0) : ∀ m, n < m → gNk a k m ≠ 0 := by
  intro m
  induction m with
  | zero => intro h; omega
  | succ m ih =>
    intro h
    show (if (a 126 m ≠ 0 ∧ (a 130 m).toInt < (a 87 9).toInt) ∧ gWk a k m ((a 128 m).toInt - 1).toNat ≠ 0 then 1 else gNk a k m) ≠ 0
    by_cases w : n = m
    · rw [← w, if_pos ⟨⟨h6, ho⟩, hw⟩]
      decide
    · split
      · decide
      · exact ih (by omega)
theorem cx_lt (h : qA0 a) (hn : xAl a n) (ho : (a 130 n).toInt < (a 87 9).toInt) (hi : (i : Int) < (a 128 n).toInt - 1) : 0 ≤ gCx a n (i : Int) ∧ gCx a n (i : Int) < 375 := by
  have p0 := (h.1.1 n hn).1.2
  have c4 := h.2.2.1.2.2.2.2
  have en := (h.2.2.2.2.2.2 n hn).2.1 ho
  have ot := h.2.2.2.2.2.1
  have ol := h.2.2.1.2.1
  unfold gCx
  refine ⟨Int.ediv_nonneg (by omega) (by omega), Int.ediv_lt_of_lt_mul (by omega) ?_⟩
  have m4 : 375 * 4 ≤ 375 * (a 87 12).toInt := Int.mul_le_mul_of_nonneg_left c4 (by decide)
  omega
theorem Fd_rw {i : Int32} : gRw (gFd a) n i ↔ gRw a n i := by
  have q := Nr_cg (a := a) (b := gFd a) (Fd_r (by decide)) (Fd_r (by decide)) (Fd_r (by decide)) (Fd_r (by decide)) (fun n => Fd_r (by omega))
  unfold gRw
  rw [q.1, Fd_r (c := 126) (by decide), Fd_r (c := 130) (by decide), Fd_r (c := 87) (by decide)]
theorem Av_fd (h : qA0 a) : qAv (gFd a) := by
  have r : ∀ c, c ≠ 83 → gFd a c = a c := fun c hc => Fd_r hc
  have q := Nr_cg (a := a) (b := gFd a) (Fd_r (by decide)) (Fd_r (by decide)) (Fd_r (by decide)) (Fd_r (by decide)) (fun n => Fd_r (by omega))
  refine Av_mk ?_ (fun n hn ho i hi hr => ?_)
  · have sy : gSy (gFd a) 512 = gSy a 512 := by
      rw [Sy_sg, Sy_sg, r 126 (by decide), r 130 (by decide), r 128 (by decide), r 87 (by decide)]
    unfold qA0 qA1 xAl
    rw [sy, r 87 (by decide), r 126 (by decide), r 128 (by decide), r 130 (by decide), r 131 (by decide), r 133 (by decide)]
    obtain ⟨h1, h2⟩ := h
    exact ⟨I_cg h1 (r _ (by decide)) (r _ (by decide)) (r _ (by decide)) (r _ (by decide)) (r _ (by decide)) (r _ (by decide)) (fun j => r _ (by omega)), h2⟩
  · unfold xAl at hn
    rw [r 126 (by decide)] at hn
    rw [r 130 (by decide), r 87 (by decide)] at ho
    rw [r 128 (by decide)] at hi
    have cx := cx_lt h hn ho hi
    rw [q.2]
    have hr₉ := Fd_rw.mp hr
    show (if (83 : Nat) = 83 ∧ (gCx a n (i : Int)).toNat < 375 then gNk a (gCx a n (i : Int)).toNat 512 else _) ≠ 0
    rw [if_pos ⟨rfl, by omega⟩]
    exact Nk_y hn.2 ho (Wk_y hr₉ (by have := h.2.2.1.2.2.2.2; omega) (by omega) _ (by omega)) 512 hn.1
/-! the major cleaning -/
theorem sw_f (hI : qI a) (h : xAl (aSw a) n) (h1 : 126 ≤ f) (h2 : f < 1000) (h3 : f ≠ 134) : aSw a f n = a f n := by
  have g := I_gf ((aRA a 69 6).toInt - (0 : Int32).toInt).toNat 0 _ (qI_of hI RA_zo) (E0_ra hI)
  have r : ∀ c k, c ≠ 69 → c ≠ 73 → c ≠ 74 → c ≠ 134 → c ≠ 75 → c ≠ 76 → c ≠ 77 → aGw (aRA a) 0 c k = a c k := fun c k h1 h2 h3 h4 h5 h6 h7 => (Gf_r h1 h2 h3 h4 h5 h6 h7 _ _ _).trans (RA_zo c k h5 h6 h7).symm
  have m := Md_mv g.1 g.2.1.2.2.2.2.2.1
  have al := (Md_al g.1 m).mp h
  have q := (Md_f m al.1.1 al.2).1
  have e : aGf ((aRA a 69 6).toInt - (0 : Int32).toInt).toNat 0 (aRA a) = aGw (aRA a) 0 := rfl
  rw [e] at q
  exact (q f h1 h2).trans (r f n (by omega) (by omega) (by omega) h3 (by omega) (by omega) (by omega))
theorem Sd_inv : ∀ (k : Nat) (a : Nat → Nat → Int32) (p e : Int), (lim - p).toNat ≤ k → lim ≤ 4500 → qJs a p e → a 87 2 = 0 → (∀ n, xAl a n → (a 130 n).toInt < lim → (a 130 n).toInt + (a 128 n).toInt ≤ lim) → e ≤ lim → (∃ p₉, lim ≤ p₉ ∧ qJs (zSd a lim p e).1 p₉ (zSd a lim p e).2) ∧ (zSd a lim p e).2 ≤ lim ∧ (∀ c, c ≠ 71 → c ≠ 130 → (zSd a lim p e).1 c = a c) ∧ (∀ n, xAl a n → lim ≤ (a 130 n).toInt → (zSd a lim p e).1 130 n = a 130 n) ∧ ∀ n, xAl a n → (a 130 n).toInt < lim → ((zSd a lim p e).1 130 n).toInt < lim := by
  intro k
  induction k with
  | zero =>
    intro a p e hk h4 hJ h2 hl he
    rw [Sd_n (by omega)]
    exact ⟨⟨p, by omega, hJ⟩, he, fun _ _ _ => rfl, fun _ _ _ => rfl, fun _ _ w => w⟩
  | succ k ih =>
    intro a p e hk h4 hJ h2 hl he
    by_cases c : p < lim
    · have s1 := S1_I hJ.1
      by_cases d : (zOb a p).toInt < 0
      · rw [Sd_fr s1 c d]
        exact ih a (p + 1) e (by omega) h4 (Js_fr hJ d (by omega)) h2 hl he
      · have ob := Js_ob hJ (show 0 ≤ (zOb a p).toInt by omega)
        have sz := (hJ.1.1 _ ob.1).2.1
        have en := hl _ ob.1 (by omega)
        by_cases hh : a 133 (zOb a p).toNatClampNeg = 0
        · rw [Sd_mv s1 c (by omega) hh]
          have b0 := hJ.1.2.2.2.1.2.2.1
          have te : (Int32.ofInt e).toInt = e := Int32.toInt_ofInt_of_le (by have := hJ.2.1; omega) (by have := hJ.2.1; omega)
          have j2 := Js_mv hJ (show 0 ≤ (zOb a p).toInt by omega) te (by rw [h2]; rfl)
          have q := ih (aMo a (zOb a p).toNatClampNeg (Int32.ofInt e)) (p + (a 128 (zOb a p).toNatClampNeg).toInt) (e + (a 128 (zOb a p).toNatClampNeg).toInt) (by omega) h4 j2 (by rw [Mo_r (by decide) (by decide)]; exact h2) (fun n hn w => ?_) (by have := hJ.2.1; omega)
          · refine ⟨q.1, q.2.1, fun c h1 h3 => (q.2.2.1 c h1 h3).trans (Mo_c h1 h3), fun n hn w => ?_, fun n hn w => ?_⟩
            · have ne : n ≠ (zOb a p).toNatClampNeg := fun z => by
                rw [z] at w
                omega
              rw [q.2.2.2.1 n (Mo_al.mpr hn) (by rw [Mo_po ne]; exact w), Mo_po ne]
            · refine q.2.2.2.2 n (Mo_al.mpr hn) ?_
              by_cases z : n = (zOb a p).toNatClampNeg
              · rw [z, Mo_pn, te]
                have := hJ.2.1
                omega
              · rw [Mo_po z]
                exact w
          · have hn₉ := Mo_al.mp hn
            rw [Mo_r (c := 128) (by decide) (by decide)]
            by_cases z : n = (zOb a p).toNatClampNeg
            · rw [z, Mo_pn, te]
              have := hJ.2.1
              omega
            · rw [Mo_po z] at w ⊢
              exact hl n hn₉ w
        · rw [Sd_ho s1 c (by omega) hh]
          exact ih a _ _ (by omega) h4 (Js_ho hJ (by omega)) h2 hl (by omega)
    · rw [Sd_n c]
      exact ⟨⟨p, by omega, hJ⟩, he, fun _ _ _ => rfl, fun _ _ _ => rfl, fun _ _ w => w⟩
theorem Sy_sub (h : ∀ n, n < 512 → (b 126 n ≠ 0 ∧ (b 87 9).toInt ≤ (b 130 n).toInt) → (a 126 n ≠ 0 ∧ (a 87 9).toInt ≤ (a 130 n).toInt) ∧ b 128 n = a 128 n) (hI : qI a) : gSy b 512 ≤ gSy a 512 := by
  rw [Sy_sg, Sy_sg]
  refine sg_mono _ (fun n hn => ?_)
  by_cases w : b 126 n ≠ 0 ∧ (b 87 9).toInt ≤ (b 130 n).toInt
  · have q := h n hn w
    rw [if_pos w, if_pos q.1, q.2]
    exact Int.le_refl _
  · rw [if_neg w]
    split
    · next z =>
      have := (hI.1 n ⟨hn, z.1⟩).2.1.1
      omega
    · exact Int.le_refl _
theorem A0_ma (h : qAv a) : qA0 (ma_u (gSd a).1 87 10 (Int32.ofInt (gSd a).2)) ∧ (Int32.ofInt (gSd a).2).toInt = (gSd a).2 := by
  have h0 := Av_0 h
  obtain ⟨hI, h2, nm, hs, ht, ho, ha⟩ := h0
  have sI := I_sw hI
  have al : ∀ n, xAl (aSw a) n → xAl a n ∧ aSw a 130 n = a 130 n ∧ aSw a 128 n = a 128 n ∧ aSw a 133 n = a 133 n ∧ aSw a 131 n = a 131 n := fun n hn => by
    have q := Al_sw hI hn
    exact ⟨q.1, q.2.1, q.2.2.1, q.2.2.2, sw_f hI hn (by decide) (by decide) (by decide)⟩
  have s7 : aSw a 87 = a 87 := funext (fun _ => sw_87)
  have q := Sd_inv (lim := (a 87 9).toInt) ((a 87 9).toInt - 0).toNat (aSw a) 0 0 (Nat.le_refl _) (by have := nm.2.1; omega) (Js_0 sI) (by rw [s7]; exact h2) (fun n hn w => by
    have z := al n hn
    rw [z.2.1] at w
    rw [z.2.1, z.2.2.1]
    have := (ha n z.1).2.1 w
    omega) (by have := nm.2.1; omega)
  have e : zSd (aSw a) (a 87 9).toInt 0 0 = gSd a := rfl
  rw [e] at q
  obtain ⟨⟨p₉, hp₉, hJ⟩, q2, q3, q4, q5⟩ := q
  have r : ∀ c, c ≠ 71 → c ≠ 130 → c ≠ 87 → ma_u (gSd a).1 87 10 (Int32.ofInt (gSd a).2) c = aSw a c := fun c h1 h3 h4 => (ma_u_ne _ _ _ h4).trans (q3 c h1 h3)
  have r130 : ma_u (gSd a).1 87 10 (Int32.ofInt (gSd a).2) 130 = (gSd a).1 130 := ma_u_ne _ _ _ (by decide)
  have r7 : ∀ k, k ≠ 10 → ma_u (gSd a).1 87 10 (Int32.ofInt (gSd a).2) 87 k = a 87 k := fun k hk => by
    rw [xu_o (fun z => hk z.2), q3 87 (by decide) (by decide), s7]
  have te : (Int32.ofInt (gSd a).2).toInt = (gSd a).2 := Int32.toInt_ofInt_of_le (by have := hJ.2.1; omega) (by have := nm.2.1; omega)
  have x10 : ma_u (gSd a).1 87 10 (Int32.ofInt (gSd a).2) 87 10 = Int32.ofInt (gSd a).2 := xu_s
  have alx : ∀ n, xAl (ma_u (gSd a).1 87 10 (Int32.ofInt (gSd a).2)) n → xAl (aSw a) n := fun n hn => by
    unfold xAl at hn ⊢
    rw [r 126 (by decide) (by decide) (by decide)] at hn
    exact hn
  have alg : ∀ n, xAl (aSw a) n → xAl (gSd a).1 n := fun n hn => by
    unfold xAl at hn ⊢
    rw [q3 126 (by decide) (by decide)]
    exact hn
  have yv : ∀ n, xAl (aSw a) n → (a 87 9).toInt ≤ ((gSd a).1 130 n).toInt → (a 87 9).toInt ≤ (a 130 n).toInt ∧ (gSd a).1 130 n = a 130 n := fun n hn w => by
    have z := al n hn
    by_cases d : (a 130 n).toInt < (a 87 9).toInt
    · have := q5 n hn (by rw [z.2.1]; exact d)
      omega
    · exact ⟨by omega, (q4 n hn (by rw [z.2.1]; omega)).trans z.2.1⟩
  refine ⟨⟨I_87k hJ.1 (by decide) (by decide) (by decide), ?_, ?_, ?_, ⟨?_, ?_, ?_⟩, ⟨?_, ?_⟩, fun n hn => ?_⟩, te⟩
  · rw [r7 2 (by decide)]
    exact h2
  · rw [r7 5 (by decide), r7 9 (by decide), r7 0 (by decide), r7 11 (by decide), r7 12 (by decide)]
    exact nm
  · rw [r7 3 (by decide), r7 9 (by decide), r7 5 (by decide)]
    exact hs
  · rw [r7 3 (by decide), r7 4 (by decide)]
    exact ht.1
  · rw [r7 3 (by decide), r7 4 (by decide), r7 5 (by decide)]
    exact ht.2.1
  · rw [r7 3 (by decide), r7 4 (by decide)]
    refine Int.le_trans (Sy_sub (a := a) (fun n hn w => ?_) hI) ht.2.2
    rw [r 126 (by decide) (by decide) (by decide), r7 9 (by decide), r130] at w
    have z := al n ⟨hn, w.1⟩
    have y := yv n ⟨hn, w.1⟩ w.2
    exact ⟨⟨z.1.2, y.1⟩, by rw [r 128 (by decide) (by decide) (by decide)]; exact z.2.2.1⟩
  · rw [x10, te]
    exact hJ.2.1.1
  · rw [x10, te, r7 9 (by decide)]
    exact q2
  · have hn₉ := alx n hn
    have z := al n hn₉
    have v := ha n z.1
    unfold qA1 at v ⊢
    rw [x10, te, r7 11 (by decide), r7 9 (by decide), r7 3 (by decide), r7 4 (by decide), r 131 (by decide) (by decide) (by decide), r 133 (by decide) (by decide) (by decide), r130, r 128 (by decide) (by decide) (by decide), z.2.2.2.2, z.2.2.2.1, z.2.2.1]
    refine ⟨v.1, fun w => ?_, fun w => ?_⟩
    · have j := hJ.2.2.2 n (alg n hn₉) (by omega)
      rw [q3 128 (by decide) (by decide), z.2.2.1] at j
      exact j
    · have y := yv n hn₉ w
      rw [y.2]
      exact v.2.2 y.1
theorem Av_ma (h : qAv a) : qAv (gMa a) := Av_fd (A0_ma h).1
/-! the minor cleaning -/
theorem v3_e (h : qAv a) : (a 87 9 + a 87 5 + a 87 9 - a 87 3).toInt = 2 * (a 87 9).toInt + (a 87 5).toInt - (a 87 3).toInt := by
  have nm := h.2.2.1
  have hs := h.2.2.2.1
  have e1 : (a 87 9 + a 87 5).toInt = (a 87 9).toInt + (a 87 5).toInt := i_add (by omega) (by omega)
  have e2 : (a 87 9 + a 87 5 + a 87 9).toInt = (a 87 9).toInt + (a 87 5).toInt + (a 87 9).toInt := by rw [i_add (by omega) (by omega), e1]
  rw [i_sub (by omega) (by omega), e2]
  omega
theorem Jg_0 (h : qAv a) (hf : ¬ gFu a) : qJg (gMk1 a) (2 * (a 87 9).toInt + (a 87 5).toInt - (a 87 3).toInt) (a 87 3).toInt (a 87 10).toInt (gPf (gMk1 a)) (gNf (gMk1 a)) 0 := by
  have v3 := v3_e h
  have h0 := Av_0 h
  obtain ⟨hI, h2, nm, hs, ht, ho, ha⟩ := h0
  have MI := Mi_I h
  have fy := Mi_FY h
  have r : ∀ c, c ≠ 87 → gMk1 a c = gMk0 a c := fun c hc => by
    unfold gMk1
    rw [ma_u_ne _ _ _ hc, ma_u_ne _ _ _ hc]
  have r7 : ∀ k, k ≠ 3 → k ≠ 4 → gMk1 a 87 k = a 87 k := fun k h3 h4 => by
    unfold gMk1
    rw [xu_o (fun z => h4 z.2), xu_o (fun z => h3 z.2), Mi_8 (by decide)]
  have r4 : gMk1 a 87 4 = a 87 9 + a 87 5 + a 87 9 - a 87 3 := xu_s
  have alx : ∀ n, xAl (gMk1 a) n ↔ xAl (gMk0 a) n := fun n => by
    unfold xAl
    rw [r 126 (by decide)]
  have FQ : zFQ (gMk1 a) := FQ_cg fy.1 (congrFun (r 75 (by decide)) 3) (congrFun (r 75 (by decide)) 4) (r 76 (by decide)) (fun x _ => by rw [r 77 (by decide)]) (r 126 (by decide))
  have row : ∀ n, xAl (gMk0 a) n → gMk1 a 128 n = a 128 n ∧ gMk1 a 130 n = a 130 n ∧ gMk1 a 131 n = a 131 n ∧ gMk1 a 133 n = a 133 n := fun n hn => by
    have q := (Mi_f h hn).1
    rw [r 128 (by decide), r 130 (by decide), r 131 (by decide), r 133 (by decide)]
    exact ⟨q 128 (by decide) (by decide) (by decide), q 130 (by decide) (by decide) (by decide), q 131 (by decide) (by decide) (by decide), q 133 (by decide) (by decide) (by decide)⟩
  have qu : ∀ i : Nat, (i : Int) < (gMk1 a 75 4).toInt → xAl (gMk0 a) (gMk1 a 76 i).toNatClampNeg ∧ (a 87 9).toInt ≤ (a 130 (gMk1 a 76 i).toNatClampNeg).toInt := fun i hi => by
    have q := FQ.1 i hi
    have t := tn_cast q.1
    have w := q.2.2.1
    rw [r 77 (by decide)] at w
    exact fy.2.1 _ (by omega) w
  have szn : ∀ n, xAl a n → 0 ≤ (a 128 n).toInt := fun n hn => by
    have := (hI.1 n hn).2.1.1
    omega
  have pos : ∀ i : Nat, (i : Int) < (gMk1 a 75 4).toInt → 0 ≤ gPf (gMk1 a) i ∧ 0 ≤ gNf (gMk1 a) i := fun i hi => by
    have q := qu i hi
    have s := szn _ ((Mi_al h).mp q.1).1
    unfold gPf gNf
    rw [(row _ q.1).1]
    constructor
    · split
      · exact s
      · exact Int.le_refl _
    · split
      · exact Int.le_refl _
      · exact s
  have sP : zsg (gPf (gMk1 a)) (gMk1 a 75 4).toInt.toNat ≤ gGr a 512 := by
    have e := Fq_sum FQ (fun n => if (gMk1 a 87 11).toInt ≤ (gMk1 a 131 n).toInt + 1 then (gMk1 a 128 n).toInt else 0)
    have e2 : zsg (gPf (gMk1 a)) (gMk1 a 75 4).toInt.toNat = zsg (fun j => if (gMk1 a 87 11).toInt ≤ (gMk1 a 131 (gMk1 a 76 j).toNatClampNeg).toInt + 1 then (gMk1 a 128 (gMk1 a 76 j).toNatClampNeg).toInt else 0) (gMk1 a 75 4).toInt.toNat := rfl
    rw [e2, e, Gr_sg]
    refine sg_mono _ (fun n hn => ?_)
    by_cases w : gMk1 a 77 n ≠ 0
    · have w₉ := w
      rw [r 77 (by decide)] at w₉
      have q := fy.2.1 n hn w₉
      have ra := row n q.1
      have aa := ((Mi_al h).mp q.1).1
      rw [if_pos w, ra.2.2.1, ra.1, r7 11 (by decide) (by decide)]
      by_cases d : (a 87 11).toInt ≤ (a 131 n).toInt + 1
      · rw [if_pos d, if_pos ⟨aa.2, q.2, d⟩]
        exact Int.le_refl _
      · rw [if_neg d, if_neg (fun z => d z.2.2)]
        exact Int.le_refl _
    · rw [if_neg w]
      split
      · next z => exact szn n ⟨hn, z.1⟩
      · exact Int.le_refl _
  have sN : zsg (gNf (gMk1 a)) (gMk1 a 75 4).toInt.toNat ≤ gSy a 512 := by
    have e := Fq_sum FQ (fun n => if (gMk1 a 87 11).toInt ≤ (gMk1 a 131 n).toInt + 1 then 0 else (gMk1 a 128 n).toInt)
    have e2 : zsg (gNf (gMk1 a)) (gMk1 a 75 4).toInt.toNat = zsg (fun j => if (gMk1 a 87 11).toInt ≤ (gMk1 a 131 (gMk1 a 76 j).toNatClampNeg).toInt + 1 then 0 else (gMk1 a 128 (gMk1 a 76 j).toNatClampNeg).toInt) (gMk1 a 75 4).toInt.toNat := rfl
    rw [e2, e, Sy_sg]
    refine sg_mono _ (fun n hn => ?_)
    by_cases w : gMk1 a 77 n ≠ 0
    · have w₉ := w
      rw [r 77 (by decide)] at w₉
      have q := fy.2.1 n hn w₉
      have ra := row n q.1
      have aa := ((Mi_al h).mp q.1).1
      rw [if_pos w, ra.2.2.1, ra.1, r7 11 (by decide) (by decide), if_pos (show a 126 n ≠ 0 ∧ (a 87 9).toInt ≤ (a 130 n).toInt from ⟨aa.2, q.2⟩)]
      have s := szn n aa
      split
      · exact s
      · exact Int.le_refl _
    · rw [if_neg w]
      split
      · next z => exact szn n ⟨hn, z.1⟩
      · exact Int.le_refl _
  unfold gFu at hf
  unfold qJg
  rw [r7 2 (by decide) (by decide), r7 5 (by decide) (by decide), r7 9 (by decide) (by decide), r7 0 (by decide) (by decide), r7 11 (by decide) (by decide), r7 12 (by decide) (by decide), r7 10 (by decide) (by decide), r4, v3]
  have zz : ∀ F : Nat → Int, zsg F 0 = 0 := fun _ => rfl
  refine ⟨?_, FQ, h2, nm, by omega, ⟨by rw [zz]; omega, ho.1, by omega⟩, ⟨by rw [zz]; omega, by omega⟩, Int.le_trans FQ.2.2.2.1 FQ.2.2.2.2.1, pos, fun i _ hi => ⟨rfl, rfl, ?_⟩, fun i hi => absurd hi (by omega), fun n hn => ?_⟩
  · unfold gMk1
    exact I_87k (I_87k MI (by decide) (by decide) (by decide)) (by decide) (by decide) (by decide)
  · have q := qu i hi
    have ra := row _ q.1
    rw [ra.1, ra.2.1]
    have v := (ha _ ((Mi_al h).mp q.1).1).2.2 q.2
    omega
  · have hn₉ := (alx n).mp hn
    have ra := row n hn₉
    have aa := ((Mi_al h).mp hn₉).1
    have v := ha n aa
    rw [ra.1, ra.2.1, ra.2.2.1, ra.2.2.2]
    refine ⟨v.1, v.2.1, fun w => ?_⟩
    have y := v.2.2 w
    refine ⟨y.2.2, y.2.1, Or.inr ⟨?_, ?_⟩⟩
    · rintro ⟨i, hi, _⟩
      omega
    · have w7 := fy.2.2 n hn₉ w
      obtain ⟨j, j1, j2⟩ := FQ.2.2.1 n hn.1 (by rw [r 77 (by decide)]; exact w7)
      exact ⟨j, by omega, j2⟩
theorem gMf_7 (h4 : k ≠ 4) (h10 : k ≠ 10) : ∀ (f j : Nat) (a : Nat → Nat → Int32), gMf f j a 87 k = a 87 k := by
  intro f
  induction f with
  | zero => intro j a; rfl
  | succ f ih =>
    intro j a
    by_cases w : hQc a j
    · rw [gMf_y w, ih, gM1_7 h4 h10]
    · rw [gMf_n w, ih]
theorem Jg_end (h : qJg b st ot o0 P N (b 75 4).toInt.toNat) (h3 : (b 87 3).toInt = st) : qA0 b := by
  obtain ⟨hI, hF, h2, nm, hs, hO, hT, hl, hp, hu, hd, ha⟩ := h
  have b4 := hF.2.2.2
  have l0P := sg_le (m := (b 75 4).toInt.toNat) (F := P) (fun i hi => (hp i (by omega)).1) (b 75 4).toInt.toNat (Nat.le_refl _) 0 (by omega)
  have l0N := sg_le (m := (b 75 4).toInt.toNat) (F := N) (fun i hi => (hp i (by omega)).2) (b 75 4).toInt.toNat (Nat.le_refl _) 0 (by omega)
  have z0P : zsg P 0 = 0 := rfl
  have z0N : zsg N 0 = 0 := rfl
  have sy : gSy b 512 = zsg N (b 75 4).toInt.toNat := by
    have e := Fq_sum hF (fun n => if (b 87 9).toInt ≤ (b 130 n).toInt then (b 128 n).toInt else 0)
    have e2 : zsg N (b 75 4).toInt.toNat = zsg (fun j => if (b 87 9).toInt ≤ (b 130 (b 76 j).toNatClampNeg).toInt then (b 128 (b 76 j).toNatClampNeg).toInt else 0) (b 75 4).toInt.toNat := sg_cg _ (fun i hi => hd i hi)
    rw [e2, e, Sy_sg]
    refine sg_cg _ (fun n hn => ?_)
    by_cases w : b 77 n ≠ 0
    · obtain ⟨j, j1, j2⟩ := hF.2.2.1 n hn w
      have a6 := (hF.1 j j1).2.2.2
      rw [j2, tn_of hn] at a6
      rw [if_pos w]
      by_cases y : (b 87 9).toInt ≤ (b 130 n).toInt
      · rw [if_pos y, if_pos ⟨a6, y⟩]
      · rw [if_neg y, if_neg (fun z => y z.2)]
    · rw [if_neg w, if_neg (fun z => w ?_)]
      have v := ((ha n ⟨hn, z.1⟩).2.2 z.2).2.2
      have inn : zIn b (b 75 4).toInt.toNat n := v.elim (fun q => q.1) (fun q => q.2)
      obtain ⟨j, j1, j2⟩ := inn
      have q := (hF.1 j (by omega)).2.2.1
      rw [j2, tn_of hn] at q
      exact q
  refine ⟨hI, h2, nm, by omega, ⟨by omega, by omega, by rw [sy]; omega⟩, ⟨by omega, by omega⟩, fun n hn => ?_⟩
  have v := ha n hn
  refine ⟨v.1, v.2.1, fun w => ?_⟩
  have y := v.2.2 w
  rcases y.2.2 with q | q
  · exact ⟨⟨by omega, q.2.2⟩, y.2.1, y.1⟩
  · exact absurd q.2 q.1
theorem Av_mv (h : qAv a) (hf : ¬ gFu a) : qAv (gMv a) := by
  have j := Jg_0 h hf
  have q4 := j.2.1.2.2.2
  have e := gMf_J (gMk1 a 75 4).toInt.toNat 0 (gMk1 a) j (by omega)
  have r75 : gMf (gMk1 a 75 4).toInt.toNat 0 (gMk1 a) 75 = gMk1 a 75 := by
    have g : ∀ (f j : Nat) (c : Nat → Nat → Int32), gMf f j c 75 = c 75 := by
      intro f
      induction f with
      | zero => intro j c; rfl
      | succ f ih =>
        intro j c
        by_cases w : hQc c j
        · rw [gMf_y w, ih, gM1_r (by decide) (by decide) (by decide) (by decide)]
        · rw [gMf_n w, ih]
    exact g _ _ _
  refine Av_fd (Jg_end (st := 2 * (a 87 9).toInt + (a 87 5).toInt - (a 87 3).toInt) (ot := (a 87 3).toInt) (o0 := (a 87 10).toInt) (P := gPf (gMk1 a)) (N := gNf (gMk1 a)) ?_ ?_)
  · rw [r75]
    rw [Nat.zero_add] at e
    exact e
  · rw [gMf_7 (by decide) (by decide)]
    unfold gMk1
    rw [xu_o (by decide), xu_s]
    exact v3_e h
theorem Av_m0 (h : qAv a) : qAv (gM0 a) := by
  unfold gM0
  split
  · exact Av_ma h
  · exact h
theorem Av_mi (h : qAv a) : qAv (gMi a) := by
  unfold gMi
  split
  · exact Av_m0 h
  · next w => exact Av_mv (Av_m0 h) w
theorem Av_ro {z : Int} (h : qAv a) : qAv (gRo a z) := by
  unfold gRo
  split
  · exact Av_ma h
  · exact h
theorem Av_r1 {z : Int} (h : qAv a) : qAv (gR1 a z) := by
  unfold gR1
  split
  · exact h
  · exact Av_mi h
theorem Av_r2 {z : Int} (h : qAv a) : qAv (gR2 a z) := by
  unfold gR2
  split
  · exact h
  · exact Av_mi (Av_ma h)
theorem Av_rs {z : Int} (h : qAv a) : qAv (gRs a z) := by
  unfold gRs
  split
  · exact Av_ro h
  · exact Av_r2 (Av_r1 h)
end F26

/-! from 95.u17 -/
/-! AGES, the class (written by wip/tools/gen15y.py) -/
/-! AGES: the class's cleaning -/
def gM9 (a : Nat → Nat → Int32) : Nat → Nat → Int32 := ma_u (ma_u a 87 3 (a 87 9 + a 87 5 + a 87 9 - a 87 3)) 87 4 (a 87 9 + a 87 5 + a 87 9 - a 87 3)
section F27
variable {a b ab : Nat → Nat → Int32} {S S₉ S1 S2 S3 S4 : ma_S} {R : Nat → Option Nat} {x y to v : Int32} {c k n j f : Nat} {lim p e st ot o0 : Int} {P N : Nat → Int}
theorem M9_e : gMk1 a = gM9 (gMk0 a) := by
  unfold gMk1 gM9
  rw [show gMk0 a 87 = a 87 from Mi_8 (by decide)]
theorem Mo_cg (h : ∀ c, c ≠ 83 → a c = b c) : (∀ c, c ≠ 83 → aMo a n to c = aMo b n to c) ∧ aMo a n to 83 = a 83 := by
  refine ⟨fun c hc => funext (fun k => ?_), Mo_c (by decide) (by decide)⟩
  unfold aMo
  rw [h 128 (by decide), h 130 (by decide), h 71 (by decide), h c hc]
theorem Sd_cg : ∀ (k : Nat) (a b : Nat → Nat → Int32) (p e : Int), (lim - p).toNat ≤ k → (∀ c, c ≠ 83 → a c = b c) → zS1 a → (zSd a lim p e).2 = (zSd b lim p e).2 ∧ (∀ c, c ≠ 83 → (zSd a lim p e).1 c = (zSd b lim p e).1 c) ∧ (zSd a lim p e).1 83 = a 83 := by
  intro k
  induction k with
  | zero =>
    intro a b p e hk h s1
    rw [Sd_n (by omega), Sd_n (by omega)]
    exact ⟨rfl, h, rfl⟩
  | succ k ih =>
    intro a b p e hk h s1
    have s2 : zS1 b := fun n hn => by
      unfold xAl at hn
      rw [← h 126 (by decide)] at hn
      rw [← h 128 (by decide)]
      exact s1 n hn
    by_cases c : p < lim
    · have ob : zOb b p = zOb a p := gOb_cg (h 71 (by decide)).symm (h 126 (by decide)).symm
      by_cases d : (zOb a p).toInt < 0
      · rw [Sd_fr s1 c d, Sd_fr s2 c (by rw [ob]; exact d)]
        exact ih a b _ _ (by omega) h s1
      · have sz := s1 _ (Ob_xl (a := a) (p := p) (by omega))
        by_cases hh : a 133 (zOb a p).toNatClampNeg = 0
        · rw [Sd_mv s1 c (by omega) hh, Sd_mv s2 c (by rw [ob]; omega) (by rw [ob, ← h 133 (by decide)]; exact hh), ob, ← h 128 (by decide)]
          have m := Mo_cg (n := (zOb a p).toNatClampNeg) (to := Int32.ofInt e) h
          have q := ih _ _ (p + (a 128 (zOb a p).toNatClampNeg).toInt) (e + (a 128 (zOb a p).toNatClampNeg).toInt) (by omega) m.1 (fun n hn => by
            rw [Mo_r (by decide) (by decide)]
            exact s1 n (Mo_al.mp hn))
          exact ⟨q.1, q.2.1, q.2.2.trans m.2⟩
        · rw [Sd_ho s1 c (by omega) hh, Sd_ho s2 c (by rw [ob]; omega) (by rw [ob, ← h 133 (by decide)]; exact hh), ob, ← h 128 (by decide)]
          exact ih a b _ _ (by omega) h s1
    · rw [Sd_n c, Sd_n c]
      exact ⟨rfl, h, rfl⟩
theorem G_aM (hc : c ≠ 83) : aG S c = aM (zfG (mI S)) S c := funext (fun _ => if_neg hc)
theorem G_sd (h : aM (zfG (mI S)) S₉ = (zSd (aM (zfG (mI S)) S) lim 0 0).1) (s1 : zS1 (aG S)) (e1 : mI S₉ 82 = mI S 82) (e2 : mI S₉ 83 = mI S 83) : aG S₉ = (zSd (aG S) lim 0 0).1 ∧ (zSd (aM (zfG (mI S)) S) lim 0 0).2 = (zSd (aG S) lim 0 0).2 := by
  have q := Sd_cg (lim := lim) (lim - 0).toNat (aG S) (aM (zfG (mI S)) S) 0 0 (Nat.le_refl _) (fun c hc => G_aM hc) s1
  have z : zfG (mI S₉) = zfG (mI S) := by
    funext k
    unfold zfG
    rw [e1]
  refine ⟨?_, q.1.symm⟩
  funext c k
  by_cases w : c = 83
  · rw [w, q.2.2, aG_8, aG_8, e2]
  · rw [q.2.1 c w, ← h, G_aM w, z]
/-! one moves -/
theorem Jg_q (h : qJg (aG S) st ot o0 P N x.toNatClampNeg) (h0 : 0 ≤ x.toInt) (hl : x.toInt < (mI S 75 4).toInt) : (x.toNatClampNeg : Int) < (aG S 75 4).toInt ∧ aG S 76 x.toNatClampNeg = mI S 76 x.toNatClampNeg ∧ aG S 75 4 = mI S 75 4 := by
  have c := tn_cast h0
  have e4 : aG S 75 4 = mI S 75 4 := (aG_o (by decide) (by decide)).trans rfl
  refine ⟨by rw [e4]; omega, (aG_o (by decide) (by decide)).trans (aS_I rfl rfl), e4⟩
theorem Jg_no (h : qJg (aG S) st ot o0 P N x.toNatClampNeg) (h0 : 0 ≤ x.toInt) (hl : x.toInt < (mI S 75 4).toInt) (hC : xB S R) (rn : zTa R (mI S 76 x.toNatClampNeg) = none) : False := by
  have q := Jg_q h h0 hl
  have nx := (Jg_nx h q.1).1
  unfold hQc at nx
  rw [q.2.1, aG_o (c := 126) (by decide) (by decide)] at nx
  exact xB_nt (W := 75) hC rn nx
theorem sz_k (hC : xB S R) (hC2 : xB S2 R) (rg : zTa R y = some c) (h : aG S2 128 y.toNatClampNeg = aG S 128 y.toNatClampNeg) : mI S2 c 2 = mI S c 2 := by
  have t := (xB_th (W := 75) hC rg).2.2.2.2.1
  have t2 := (xB_th (W := 75) hC2 rg).2.2.2.2.1
  rw [aG_o (by decide) (by decide), aG_o (by decide) (by decide)] at h
  rw [t, t2, h]
theorem M1_y (hC : xB S R) (rg : zTa R y = some c) (hp : (mI S 82 4).toInt ≤ (mI S c 5 + 1).toInt) (h1 : aG S1 = ma_u (aG S) 131 y.toNatClampNeg (mI S c 5 + 1)) (h2 : aG S2 = aMo (aG S1) y.toNatClampNeg (mI S 82 6)) (hC2 : xB S2 R) (h3 : x = mI S2 82 6 + mI S2 c 2) : ma_u (aG S2) 87 10 x = gM1 (aG S) y.toNatClampNeg := by
  have e5 := xB_5 hC rg
  have za : aG S2 128 y.toNatClampNeg = aG S 128 y.toNatClampNeg := by rw [h2, Mo_r (by decide) (by decide), h1, xu_o (by omega)]
  have zb : aG S2 87 10 = aG S 87 10 := by rw [h2, Mo_r (by decide) (by decide), h1, xu_o (by omega)]
  have e2 : mI S2 c 2 = aG S 128 y.toNatClampNeg := by rw [sz_k hC hC2 rg za, aG_o (by decide) (by decide), ← (xB_th (W := 75) hC rg).2.2.2.2.1]
  have e11 : aG S 87 11 = mI S 82 4 := rfl
  have e10 : aG S 87 10 = mI S 82 6 := rfl
  have e10b : mI S2 82 6 = aG S2 87 10 := rfl
  unfold gM1
  rw [e11, ← e5, if_pos hp, h3, e10b, zb, e2, h2, h1, e10]
theorem M1_n (hC : xB S R) (rg : zTa R y = some c) (hp : ¬ (mI S 82 4).toInt ≤ (mI S c 5 + 1).toInt) (h1 : aG S1 = ma_u (aG S) 131 y.toNatClampNeg (mI S c 5 + 1)) (h2 : aG S2 = aMo (aG S1) y.toNatClampNeg (mI S 82 8)) (hC2 : xB S2 R) (h3 : x = mI S2 82 8 + mI S2 c 2) : ma_u (aG S2) 87 4 x = gM1 (aG S) y.toNatClampNeg := by
  have e5 := xB_5 hC rg
  have za : aG S2 128 y.toNatClampNeg = aG S 128 y.toNatClampNeg := by rw [h2, Mo_r (by decide) (by decide), h1, xu_o (by omega)]
  have zb : aG S2 87 4 = aG S 87 4 := by rw [h2, Mo_r (by decide) (by decide), h1, xu_o (by omega)]
  have e2 : mI S2 c 2 = aG S 128 y.toNatClampNeg := by rw [sz_k hC hC2 rg za, aG_o (by decide) (by decide), ← (xB_th (W := 75) hC rg).2.2.2.2.1]
  have e11 : aG S 87 11 = mI S 82 4 := rfl
  have e4 : aG S 87 4 = mI S 82 8 := rfl
  have e4b : mI S2 82 8 = aG S2 87 4 := rfl
  unfold gM1
  rw [e11, ← e5, if_neg hp, h3, e4b, zb, e2, h2, h1, e4]
theorem To_gy (hC : xB S R) (rg : zTa R y = some c) : gTo (aG S) y.toNatClampNeg = if (mI S 82 4).toInt ≤ (mI S c 5 + 1).toInt then mI S 82 6 else mI S 82 8 := by
  have e5 := xB_5 hC rg
  unfold gTo
  rw [← e5]
  rfl
theorem Qm_g (hJ : qJg (aG S) st ot o0 P N x.toNatClampNeg) (h0 : 0 ≤ x.toInt) (hl : x.toInt < (mI S 75 4).toInt) (hC : xB S R) (rg : zTa R (mI S 76 x.toNatClampNeg) = some c) (h1 : aG S1 = ma_u (aG S) 131 (mI S 76 x.toNatClampNeg).toNatClampNeg (mI S c 5 + 1)) (ht : (if (mI S 82 4).toInt ≤ (mI S c 5 + 1).toInt then mI S 82 6 else mI S 82 8) = to) : qMv (aS 75 S1) (mI S 76 x.toNatClampNeg).toNatClampNeg to := by
  have q := Jg_q hJ h0 hl
  have nx := (Jg_nx hJ q.1).2.1
  rw [q.2.1, To_gy hC rg, ht] at nx
  have r : ∀ k n, k ≠ 131 → k ≠ 87 → k ≠ 83 → aS 75 S1 k n = aG S k n := fun k n h3 h4 h5 => by
    rw [← aG_o h4 h5, h1, xu_o (fun w => h3 w.1)]
  unfold qMv at nx ⊢
  rw [r 130 _ (by decide) (by decide) (by decide), r 128 _ (by decide) (by decide) (by decide)]
  exact nx
theorem Mf_st (h : gMf ((mI S 75 4).toInt - x.toInt).toNat x.toNatClampNeg (aG S) = b) (hJ : qJg (aG S) st ot o0 P N x.toNatClampNeg) (h0 : 0 ≤ x.toInt) (hl : x.toInt < (mI S 75 4).toInt) (he : aG S₉ = gM1 (aG S) (mI S 76 x.toNatClampNeg).toNatClampNeg) (hy : y.toInt = x.toInt + 1) : gMf ((mI S₉ 75 4).toInt - y.toInt).toNat y.toNatClampNeg (aG S₉) = b ∧ qJg (aG S₉) st ot o0 P N y.toNatClampNeg := by
  have q := Jg_q hJ h0 hl
  have nx := (Jg_nx hJ q.1).1
  have go := Jg_go hJ q.1
  have t := tn_cast h0
  have t2 := tn_cast (x := y) (by omega)
  have e4 : mI S₉ 75 4 = mI S 75 4 := by
    have g : aG S₉ 75 4 = aG S 75 4 := by rw [he, gM1_r (by decide) (by decide) (by decide) (by decide)]
    rw [q.2.2] at g
    exact ((aG_o (by decide) (by decide)).trans rfl : aG S₉ 75 4 = mI S₉ 75 4).symm.trans g
  rw [q.2.1] at go
  rw [show ((mI S 75 4).toInt - x.toInt).toNat = ((mI S 75 4).toInt - y.toInt).toNat + 1 from by omega, gMf_y nx, q.2.1] at h
  rw [e4, he, show y.toNatClampNeg = x.toNatClampNeg + 1 from by omega]
  exact ⟨h, go⟩
end F27
theorem g_12_82_sy_0 {X : Nat × (Nat → Int32)} {d w : Nat} {S : ma_S} {Q : Option ma_V ⊕ Nat → ma_S → Prop}  (hd : 1 ≤ d) (hw : 21 ≤ w) (hS : zT S) (h : ma_wp X d w 12 4 [(0, .inr (.inr (some 82))), (1, .inl (0 : Int32)), (2, .inl (0 : Int32))] [] S Q) : ma_wp X d w 12 0 [(0, .inr (.inr (some 82)))] [] S Q := by
  refine zw_push hm_12 dX0_wordsGrowingOld_0 (v := .inl (0 : Int32)) rfl ?_
  refine zw_sto hm_12 dX0_wordsGrowingOld_1 [(1, .inl (0 : Int32)), (0, .inr (.inr (some 82)))] rfl rfl rfl ?_
  refine zw_push hm_12 dX0_wordsGrowingOld_2 (v := .inl (0 : Int32)) rfl ?_
  refine zw_sto hm_12 dX0_wordsGrowingOld_3 [(2, .inl (0 : Int32)), (1, .inl (0 : Int32)), (0, .inr (.inr (some 82)))] rfl rfl rfl ?_
  exact zw_sub (ma_nd_of (ks := [0, 1, 2]) rfl (by decide)) (ma_nd_of (ks := [2, 1, 0]) rfl (by decide)) (ma_le_cons rfl (ma_le_cons rfl (ma_le_cons rfl (ma_le_nil _)))) h
theorem g_12_82_sy_4 {X : Nat × (Nat → Int32)} {d w : Nat} {S : ma_S} {Q : Option ma_V ⊕ Nat → ma_S → Prop} (l1 : Int32) (l2 : Int32) (hd : 1 ≤ d) (hw : 21 ≤ w) (hS : zT S) (h : if (mI S 69 6) ≤ l2 then (Q (.inl (some (.inl l1))) S) else (if l2 < 0 then (ma_wp X d w 12 4 [(0, .inr (.inr (some 82))), (1, .inl l1), (2, .inl (l2 + (1 : Int32)))] [] S Q) else (if (512 : Int32) ≤ l2 then (ma_wp X d w 12 4 [(0, .inr (.inr (some 82))), (1, .inl l1), (2, .inl (l2 + (1 : Int32)))] [] S Q) else ((0 ≤ l2 ∧ l2.toNatClampNeg < 512) ∧ (((mR S 70 l2.toNatClampNeg) = none → ma_wp X d w 12 4 [(0, .inr (.inr (some 82))), (1, .inl l1), (2, .inl (l2 + (1 : Int32)))] [] S Q) ∧ (∀ c1, (mR S 70 l2.toNatClampNeg) = some c1 → (126 ≤ c1 ∧ c1 < mN S) ∧ (if (mI S c1 4) < (mI S 82 3) then (ma_wp X d w 12 4 [(0, .inr (.inr (some 82))), (1, .inl l1), (2, .inl (l2 + (1 : Int32)))] [] S Q) else ((126 ≤ c1 ∧ c1 < mN S) ∧ (if ((mI S c1 5) + (1 : Int32)) < (mI S 82 4) then (ma_wp X d w 12 4 [(0, .inr (.inr (some 82))), (1, .inl l1), (2, .inl (l2 + (1 : Int32)))] [] S Q) else ((126 ≤ c1 ∧ c1 < mN S) ∧ (ma_wp X d w 12 4 [(0, .inr (.inr (some 82))), (1, .inl (l1 + (mI S c1 2))), (2, .inl (l2 + (1 : Int32)))] [] S Q))))))))))) : ma_wp X d w 12 4 [(0, .inr (.inr (some 82))), (1, .inl l1), (2, .inl l2)] [] S Q := by
  refine zw_push hm_12 dX0_wordsGrowingOld_4 (v := .inl l2) rfl ?_
  refine zw_push hm_12 dX0_wordsGrowingOld_5 (v := .inr (.inr (some 82))) rfl ?_
  refine zw_gf hm_12 dX0_wordsGrowingOld_6 (v := .inr (.inr (some 69))) (zT_is hS s_82) (zT_t hS s_82) rfl f_1_80_1 (zT_f hS r_82_0) ?_
  refine zw_gf hm_12 dX0_wordsGrowingOld_9 (v := .inl (mI S 69 6)) (zT_is hS s_69) (zT_t hS s_69) rfl f_1_119_7 rfl ?_
  refine zw_if2 hm_12 dX0_wordsGrowingOld_12 (t := 62) rfl zc2_ge ?_ ?_
  · intro hc
    rw [if_pos hc] at h
    refine zw_push hm_12 dX0_wordsGrowingOld_62 (v := .inl l1) rfl ?_
    exact zw_iret hm_12 dX0_wordsGrowingOld_63 h
  · intro hc
    rw [if_neg hc] at h
    refine zw_push hm_12 dX0_wordsGrowingOld_15 (v := .inr (.inr (some 82))) rfl ?_
    refine zw_gf hm_12 dX0_wordsGrowingOld_16 (v := .inr (.inr (some 69))) (zT_is hS s_82) (zT_t hS s_82) rfl f_1_80_1 (zT_f hS r_82_0) ?_
    refine zw_push hm_12 dX0_wordsGrowingOld_19 (v := .inl l2) rfl ?_
    refine zw_cv hm_12 dX0_wordsGrowingOld_20 v_1_122_7 hm_81 [.inl l2] [] rfl (zT_rt hS s_69 rfl) ⟨by omega, by omega⟩ rfl ?_
    show ma_wp X (d - 1) (w - 21) 81 0 [(0, .inr (.inr (some 69))), (1, .inl l2)] [] S _
    refine zw_push hm_81 dX7_thingAt_0 (v := .inl l2) rfl ?_
    refine zw_if0 hm_81 dX7_thingAt_1 (t := 20) rfl zc0_lt ?_ ?_
    · intro hc
      rw [if_pos hc] at h
      refine zw_push hm_81 dX7_thingAt_20 (v := .inr (.inr none)) rfl ?_
      refine zw_aret hm_81 dX7_thingAt_21 ?_
      show ma_wp X d w 12 23 [(0, .inr (.inr (some 82))), (1, .inl l1), (2, .inl l2)] [.inr (.inr none)] S _
      refine zw_sto hm_12 dX0_wordsGrowingOld_23 [(3, .inr (.inr none)), (0, .inr (.inr (some 82))), (1, .inl l1), (2, .inl l2)] rfl rfl rfl ?_
      refine zw_push hm_12 dX0_wordsGrowingOld_24 (v := .inr (.inr none)) rfl ?_
      refine zw_ifnull hm_12 dX0_wordsGrowingOld_25 (t := 56) rfl (fun _ => ?_) (fun _ z => by cases z)
      refine zw_sto hm_12 dX0_wordsGrowingOld_56 [(2, .inl (l2 + (1 : Int32))), (3, .inr (.inr none)), (0, .inr (.inr (some 82))), (1, .inl l1)] rfl rfl rfl ?_
      refine zw_goto hm_12 dX0_wordsGrowingOld_59 (t := 4) rfl ?_
      exact zw_sub (ma_nd_of (ks := [0, 1, 2]) rfl (by decide)) (ma_nd_of (ks := [2, 3, 0, 1]) rfl (by decide)) (ma_le_cons rfl (ma_le_cons rfl (ma_le_cons rfl (ma_le_nil _)))) h
    · intro hc
      rw [if_neg hc] at h
      refine zw_push hm_81 dX7_thingAt_4 (v := .inl l2) rfl ?_
      refine zw_push hm_81 dX7_thingAt_5 (v := .inl (512 : Int32)) rfl ?_
      refine zw_if2 hm_81 dX7_thingAt_8 (t := 20) rfl zc2_ge ?_ ?_
      · intro hc
        rw [if_pos hc] at h
        refine zw_push hm_81 dX7_thingAt_20 (v := .inr (.inr none)) rfl ?_
        refine zw_aret hm_81 dX7_thingAt_21 ?_
        show ma_wp X d w 12 23 [(0, .inr (.inr (some 82))), (1, .inl l1), (2, .inl l2)] [.inr (.inr none)] S _
        refine zw_sto hm_12 dX0_wordsGrowingOld_23 [(3, .inr (.inr none)), (0, .inr (.inr (some 82))), (1, .inl l1), (2, .inl l2)] rfl rfl rfl ?_
        refine zw_push hm_12 dX0_wordsGrowingOld_24 (v := .inr (.inr none)) rfl ?_
        refine zw_ifnull hm_12 dX0_wordsGrowingOld_25 (t := 56) rfl (fun _ => ?_) (fun _ z => by cases z)
        refine zw_sto hm_12 dX0_wordsGrowingOld_56 [(2, .inl (l2 + (1 : Int32))), (3, .inr (.inr none)), (0, .inr (.inr (some 82))), (1, .inl l1)] rfl rfl rfl ?_
        refine zw_goto hm_12 dX0_wordsGrowingOld_59 (t := 4) rfl ?_
        exact zw_sub (ma_nd_of (ks := [0, 1, 2]) rfl (by decide)) (ma_nd_of (ks := [2, 3, 0, 1]) rfl (by decide)) (ma_le_cons rfl (ma_le_cons rfl (ma_le_cons rfl (ma_le_nil _)))) h
      · intro hc
        rw [if_neg hc] at h
        refine zw_push hm_81 dX7_thingAt_11 (v := .inr (.inr (some 69))) rfl ?_
        refine zw_gf hm_81 dX7_thingAt_12 (v := .inr (.inr (some 70))) (zT_is hS s_69) (zT_t hS s_69) rfl f_7_11_7 (zT_f hS r_69_0) ?_
        refine zw_push hm_81 dX7_thingAt_15 (v := .inl l2) rfl ?_
        obtain ⟨hg, h⟩ := h
        refine zw_aa hm_81 dX7_thingAt_16 (zT_is hS s_70) (zT_h hS s_70) rfl rfl hg rfl ?_
        show ma_wp X (d - 1) (w - 21) 81 17 [(0, .inr (.inr (some 69))), (1, .inl l2)] [.inr (.inr (mR S 70 l2.toNatClampNeg))] S _
        refine zw_goto hm_81 dX7_thingAt_17 (t := 21) rfl ?_
        refine zw_aret hm_81 dX7_thingAt_21 ?_
        show ma_wp X d w 12 23 [(0, .inr (.inr (some 82))), (1, .inl l1), (2, .inl l2)] [.inr (.inr (mR S 70 l2.toNatClampNeg))] S _
        refine zw_sto hm_12 dX0_wordsGrowingOld_23 [(3, .inr (.inr (mR S 70 l2.toNatClampNeg))), (0, .inr (.inr (some 82))), (1, .inl l1), (2, .inl l2)] rfl rfl rfl ?_
        refine zw_push hm_12 dX0_wordsGrowingOld_24 (v := .inr (.inr (mR S 70 l2.toNatClampNeg))) rfl ?_
        refine zw_ifnull hm_12 dX0_wordsGrowingOld_25 (t := 56) rfl ?_ ?_
        · intro hc
          have h := h.1 hc
          (try rw [hc])
          show ma_wp X d w 12 56 [(3, .inr (.inr none)), (0, .inr (.inr (some 82))), (1, .inl l1), (2, .inl l2)] [] S _
          refine zw_sto hm_12 dX0_wordsGrowingOld_56 [(2, .inl (l2 + (1 : Int32))), (3, .inr (.inr none)), (0, .inr (.inr (some 82))), (1, .inl l1)] rfl rfl rfl ?_
          refine zw_goto hm_12 dX0_wordsGrowingOld_59 (t := 4) rfl ?_
          exact zw_sub (ma_nd_of (ks := [0, 1, 2]) rfl (by decide)) (ma_nd_of (ks := [2, 3, 0, 1]) rfl (by decide)) (ma_le_cons rfl (ma_le_cons rfl (ma_le_cons rfl (ma_le_nil _)))) h
        · intro c1 hc
          have h := h.2 c1 hc
          (try rw [hc])
          show ma_wp X d w 12 28 [(3, .inr (.inr (some c1))), (0, .inr (.inr (some 82))), (1, .inl l1), (2, .inl l2)] [] S _
          refine zw_push hm_12 dX0_wordsGrowingOld_28 (v := .inr (.inr (some 82))) rfl ?_
          refine zw_push hm_12 dX0_wordsGrowingOld_29 (v := .inr (.inr (some c1))) rfl ?_
          refine zw_cv hm_12 dX0_wordsGrowingOld_30 v_1_58_1 hm_7 [.inr (.inr (some c1))] [] rfl (zT_rt hS s_82 rfl) ⟨by omega, by omega⟩ rfl ?_
          show ma_wp X (d - 1) (w - 21) 7 0 [(0, .inr (.inr (some 82))), (1, .inr (.inr (some c1)))] [] S _
          refine zw_push hm_7 dX0_isYoung_0 (v := .inr (.inr (some c1))) rfl ?_
          obtain ⟨hg, h⟩ := h
          refine zw_gf hm_7 dX0_isYoung_1 (v := .inl (mI S c1 4)) (zT_tis hS hg) (zT_tt hS hg) rfl f_1_62_9 rfl ?_
          refine zw_push hm_7 dX0_isYoung_4 (v := .inr (.inr (some 82))) rfl ?_
          refine zw_gf hm_7 dX0_isYoung_5 (v := .inl (mI S 82 3)) (zT_is hS s_82) (zT_t hS s_82) rfl f_1_19_1 rfl ?_
          refine zw_if2 hm_7 dX0_isYoung_8 (t := 15) rfl zc2_lt ?_ ?_
          · intro hc
            rw [if_pos hc] at h
            refine zw_push hm_7 dX0_isYoung_15 (v := .inl (0 : Int32)) rfl ?_
            refine zw_bret hm_7 dX0_isYoung_16 (by decide) ?_
            show ma_wp X d w 12 33 [(3, .inr (.inr (some c1))), (0, .inr (.inr (some 82))), (1, .inl l1), (2, .inl l2)] [.inl (0 : Int32)] S _
            refine zw_if0 hm_12 dX0_wordsGrowingOld_33 (t := 56) rfl zc0_eq (fun _ => ?_) (fun hc => absurd (by decide) hc)
            refine zw_sto hm_12 dX0_wordsGrowingOld_56 [(2, .inl (l2 + (1 : Int32))), (3, .inr (.inr (some c1))), (0, .inr (.inr (some 82))), (1, .inl l1)] rfl rfl rfl ?_
            refine zw_goto hm_12 dX0_wordsGrowingOld_59 (t := 4) rfl ?_
            exact zw_sub (ma_nd_of (ks := [0, 1, 2]) rfl (by decide)) (ma_nd_of (ks := [2, 3, 0, 1]) rfl (by decide)) (ma_le_cons rfl (ma_le_cons rfl (ma_le_cons rfl (ma_le_nil _)))) h
          · intro hc
            rw [if_neg hc] at h
            refine zw_push hm_7 dX0_isYoung_11 (v := .inl (1 : Int32)) rfl ?_
            refine zw_goto hm_7 dX0_isYoung_12 (t := 16) rfl ?_
            refine zw_bret hm_7 dX0_isYoung_16 (by decide) ?_
            show ma_wp X d w 12 33 [(3, .inr (.inr (some c1))), (0, .inr (.inr (some 82))), (1, .inl l1), (2, .inl l2)] [.inl (1 : Int32)] S _
            refine zw_if0 hm_12 dX0_wordsGrowingOld_33 (t := 56) rfl zc0_eq (fun hc => absurd hc (by decide)) (fun _ => ?_)
            refine zw_push hm_12 dX0_wordsGrowingOld_36 (v := .inr (.inr (some c1))) rfl ?_
            obtain ⟨hg, h⟩ := h
            refine zw_gf hm_12 dX0_wordsGrowingOld_37 (v := .inl (mI S c1 5)) (zT_tis hS hg) (zT_tt hS hg) rfl f_1_126_9 rfl ?_
            refine zw_push hm_12 dX0_wordsGrowingOld_40 (v := .inl (1 : Int32)) rfl ?_
            refine zw_stk hm_12 dX0_wordsGrowingOld_41 (st₉ := [.inl ((mI S c1 5) + (1 : Int32))]) rfl rfl ?_
            refine zw_push hm_12 dX0_wordsGrowingOld_42 (v := .inr (.inr (some 82))) rfl ?_
            refine zw_gf hm_12 dX0_wordsGrowingOld_43 (v := .inl (mI S 82 4)) (zT_is hS s_82) (zT_t hS s_82) rfl f_1_22_1 rfl ?_
            refine zw_if2 hm_12 dX0_wordsGrowingOld_46 (t := 56) rfl zc2_lt ?_ ?_
            · intro hc
              rw [if_pos hc] at h
              refine zw_sto hm_12 dX0_wordsGrowingOld_56 [(2, .inl (l2 + (1 : Int32))), (3, .inr (.inr (some c1))), (0, .inr (.inr (some 82))), (1, .inl l1)] rfl rfl rfl ?_
              refine zw_goto hm_12 dX0_wordsGrowingOld_59 (t := 4) rfl ?_
              exact zw_sub (ma_nd_of (ks := [0, 1, 2]) rfl (by decide)) (ma_nd_of (ks := [2, 3, 0, 1]) rfl (by decide)) (ma_le_cons rfl (ma_le_cons rfl (ma_le_cons rfl (ma_le_nil _)))) h
            · intro hc
              rw [if_neg hc] at h
              refine zw_push hm_12 dX0_wordsGrowingOld_49 (v := .inl l1) rfl ?_
              refine zw_push hm_12 dX0_wordsGrowingOld_50 (v := .inr (.inr (some c1))) rfl ?_
              obtain ⟨hg, h⟩ := h
              refine zw_gf hm_12 dX0_wordsGrowingOld_51 (v := .inl (mI S c1 2)) (zT_tis hS hg) (zT_tt hS hg) rfl f_1_67_9 rfl ?_
              refine zw_stk hm_12 dX0_wordsGrowingOld_54 (st₉ := [.inl (l1 + (mI S c1 2))]) rfl rfl ?_
              refine zw_sto hm_12 dX0_wordsGrowingOld_55 [(1, .inl (l1 + (mI S c1 2))), (3, .inr (.inr (some c1))), (0, .inr (.inr (some 82))), (2, .inl l2)] rfl rfl rfl ?_
              refine zw_sto hm_12 dX0_wordsGrowingOld_56 [(2, .inl (l2 + (1 : Int32))), (1, .inl (l1 + (mI S c1 2))), (3, .inr (.inr (some c1))), (0, .inr (.inr (some 82)))] rfl rfl rfl ?_
              refine zw_goto hm_12 dX0_wordsGrowingOld_59 (t := 4) rfl ?_
              exact zw_sub (ma_nd_of (ks := [0, 1, 2]) rfl (by decide)) (ma_nd_of (ks := [2, 1, 3, 0]) rfl (by decide)) (ma_le_cons rfl (ma_le_cons rfl (ma_le_cons rfl (ma_le_nil _)))) h
theorem lp_12_82_sy_4 {X : Nat × (Nat → Int32)} {d w : Nat} {f : Nat → Nat → Int32} {r : Nat → Nat → Option Nat} {C Z N : Nat} {Q : Option ma_V ⊕ Nat → ma_S → Prop} {S : ma_S} (hd : 1 ≤ d) (hw : 21 ≤ w) (K : ∀ v S₉, S₉ = S → (0 ≤ v.toInt ∧ v.toInt ≤ 40000) → (v.toInt = gGr (aG S) 512) → Q (.inl (some (.inl v))) S₉) : ∀ (n : Nat) (l1 : Int32) (l2 : Int32), (512 - l2.toInt).toNat = n → zJ82 f r C Z N S → (0 ≤ l2.toInt) → (l2.toInt ≤ 512) → (0 ≤ l1.toInt) → (l1.toInt ≤ 61 * l2.toInt) → (xB S (mR S 70)) → (qAv (aG S)) → (l1.toInt = gGr (aG S) l2.toNatClampNeg) → ma_wp X d w 12 4 [(0, .inr (.inr (some 82))), (1, .inl l1), (2, .inl l2)] [] S Q := by
  intro n
  induction n using Nat.strongRecOn with
  | _ n IH =>
    intro l1 l2 hmu hI  hi0 hi1 hi2 hi3 hi4 hi5 hi6
    refine g_12_82_sy_4 l1 l2 (by omega) (by omega) (zG_T hI) ?_
    have f1 := zG_s hI (0) (512) (c := 69) (k := 6) (by decide)
    have b2 := i_bd l2
    refine zd (fun h3 => ?_) (fun h3 => ?_)
    · skip
      have g4 := i_le h3
      have b5 := i_bd l1
      exact K (l1) _ rfl (by omega) (show l1.toInt = gGr (aG S) 512 from by first | (have r6 := congrArg Int32.toInt (show aG S 69 6 = mI S 69 6 from (aG_o (by decide) (by decide)).trans (aS_I rfl rfl)); have tc := tn_cast (x := l2) (by omega); rw [hi6]; exact (Gr_g hi5.1 _ _ (by omega) (by omega) (by omega)).symm))
    · skip
      have g6 := i_nle h3
      have li7 : (0 : Int32).toInt = 0 := rfl
      refine zd (fun h8 => ?_) (fun h8 => ?_)
      · skip
        have g9 := i_lt h8
        have b10 := i_bd l1
        first | have e11 : (l2 + (1 : Int32)).toInt = l2.toInt + (1) := i_addk rfl (by omega) (by omega) | have b12 := i_bd (l2 + (1 : Int32))
        exact IH _ (by omega) (l1) ((l2 + (1 : Int32))) rfl hI (by omega) (by omega) (by omega) (by omega) (show xB S (mR S 70) from by first | (exact xB_x (xC_o (W := 75) hi4).2)) (show qAv (aG S) from by first | (exact hi5)) (show (l1).toInt = gGr (aG S) ((l2 + (1 : Int32))).toNatClampNeg from by first | (exfalso; omega))
      · skip
        have g13 := i_nlt h8
        have li14 : (512 : Int32).toInt = 512 := rfl
        refine zd (fun h15 => ?_) (fun h15 => ?_)
        · skip
          have g16 := i_le h15
          have b17 := i_bd l1
          first | have e18 : (l2 + (1 : Int32)).toInt = l2.toInt + (1) := i_addk rfl (by omega) (by omega) | have b19 := i_bd (l2 + (1 : Int32))
          exact IH _ (by omega) (l1) ((l2 + (1 : Int32))) rfl hI (by omega) (by omega) (by omega) (by omega) (show xB S (mR S 70) from by first | (exact xB_x (xC_o (W := 75) hi4).2)) (show qAv (aG S) from by first | (exact hi5)) (show (l1).toInt = gGr (aG S) ((l2 + (1 : Int32))).toNatClampNeg from by first | (exfalso; omega))
        · skip
          have g20 := i_nle h15
          refine ⟨i_ix (by omega) (by omega), ?_⟩
          refine ⟨fun hc => ?_, fun c1 hc => ?_⟩
          · skip
            have rn_c1 : zTa (mR S 70) l2 = none := (ta_rd (y := l2) hi4 (by omega) (by omega)).symm.trans hc
            have b21 := i_bd l1
            first | have e22 : (l2 + (1 : Int32)).toInt = l2.toInt + (1) := i_addk rfl (by omega) (by omega) | have b23 := i_bd (l2 + (1 : Int32))
            exact IH _ (by omega) (l1) ((l2 + (1 : Int32))) rfl hI (by omega) (by omega) (by omega) (by omega) (show xB S (mR S 70) from by first | (exact xB_x (xC_o (W := 75) hi4).2)) (show qAv (aG S) from by first | (exact hi5)) (show (l1).toInt = gGr (aG S) ((l2 + (1 : Int32))).toNatClampNeg from by first | (exact Gr_no hi6 hi4 rn_c1 (by omega) (by omega) (by omega)))
          · skip
            have th_c1 := (fun _ z => zG_70 hI (c := 70) (by decide) z) c1 hc
            have rg_c1 : zTa (mR S 70) l2 = some c1 := (ta_rd (y := l2) hi4 (by omega) (by omega)).symm.trans hc
            refine ⟨zG_n hI th_c1, ?_⟩
            have f24 := zG_th hI th_c1
            have x25 : (mI S 82 3).toInt ≤ (mI S 82 7).toInt ∧ (mI S 82 7).toInt ≤ (mI S 82 3).toInt + (mI S 82 2).toInt := zG_x hI
            have f26 := zG_s hI (0) (1500) (c := 82) (k := 3) (by decide)
            refine zd (fun h27 => ?_) (fun h27 => ?_)
            · skip
              have g28 := i_lt h27
              have b29 := i_bd l1
              first | have e30 : (l2 + (1 : Int32)).toInt = l2.toInt + (1) := i_addk rfl (by omega) (by omega) | have b31 := i_bd (l2 + (1 : Int32))
              exact IH _ (by omega) (l1) ((l2 + (1 : Int32))) rfl hI (by omega) (by omega) (by omega) (by omega) (show xB S (mR S 70) from by first | (exact xB_x (xC_o (W := 75) hi4).2)) (show qAv (aG S) from by first | (exact hi5)) (show (l1).toInt = gGr (aG S) ((l2 + (1 : Int32))).toNatClampNeg from by first | (exact Gr_n1 hi6 hi4 rg_c1 (by omega) (by omega)) | (have a5 := AV_5 hi5 hi4 rg_c1; have e5 : (mI S c1 5 + (1 : Int32)).toInt = (mI S c1 5).toInt + 1 := i_p1 (by omega); exact Gr_n2 hi6 hi4 rg_c1 (by omega) (by omega)) | (have a5 := AV_5 hi5 hi4 rg_c1; have e5 : (mI S c1 5 + (1 : Int32)).toInt = (mI S c1 5).toInt + 1 := i_p1 (by omega); exact gGr_y hi6 hi4 rg_c1 (by omega) (by omega) (by omega) (by omega)))
            · skip
              have g32 := i_nlt h27
              refine ⟨zG_n hI th_c1, ?_⟩
              have b33 := i_bd (mI S c1 5)
              first | have e34 : ((mI S c1 5) + (1 : Int32)).toInt = (mI S c1 5).toInt + (1) := i_addk rfl (by omega) (by omega) | have b35 := i_bd ((mI S c1 5) + (1 : Int32))
              have b36 := i_bd (mI S 82 4)
              refine zd (fun h37 => ?_) (fun h37 => ?_)
              · skip
                have g38 := i_lt h37
                have b39 := i_bd l1
                first | have e40 : (l2 + (1 : Int32)).toInt = l2.toInt + (1) := i_addk rfl (by omega) (by omega) | have b41 := i_bd (l2 + (1 : Int32))
                exact IH _ (by omega) (l1) ((l2 + (1 : Int32))) rfl hI (by omega) (by omega) (by omega) (by omega) (show xB S (mR S 70) from by first | (exact xB_x (xC_o (W := 75) hi4).2)) (show qAv (aG S) from by first | (exact hi5)) (show (l1).toInt = gGr (aG S) ((l2 + (1 : Int32))).toNatClampNeg from by first | (exact Gr_n1 hi6 hi4 rg_c1 (by omega) (by omega)) | (have a5 := AV_5 hi5 hi4 rg_c1; have e5 : (mI S c1 5 + (1 : Int32)).toInt = (mI S c1 5).toInt + 1 := i_p1 (by omega); exact Gr_n2 hi6 hi4 rg_c1 (by omega) (by omega)) | (have a5 := AV_5 hi5 hi4 rg_c1; have e5 : (mI S c1 5 + (1 : Int32)).toInt = (mI S c1 5).toInt + 1 := i_p1 (by omega); exact gGr_y hi6 hi4 rg_c1 (by omega) (by omega) (by omega) (by omega)))
              · skip
                have g42 := i_nlt h37
                refine ⟨zG_n hI th_c1, ?_⟩
                have b43 := i_bd l1
                have f44 := zG_th hI th_c1
                first | have e45 : (l1 + (mI S c1 2)).toInt = l1.toInt + (mI S c1 2).toInt := i_add (by omega) (by omega) | have b46 := i_bd (l1 + (mI S c1 2))
                first | have e47 : (l2 + (1 : Int32)).toInt = l2.toInt + (1) := i_addk rfl (by omega) (by omega) | have b48 := i_bd (l2 + (1 : Int32))
                exact IH _ (by omega) ((l1 + (mI S c1 2))) ((l2 + (1 : Int32))) rfl hI (by omega) (by omega) (by omega) (by omega) (show xB S (mR S 70) from by first | (exact xB_x (xC_o (W := 75) hi4).2)) (show qAv (aG S) from by first | (exact hi5)) (show ((l1 + (mI S c1 2))).toInt = gGr (aG S) ((l2 + (1 : Int32))).toNatClampNeg from by first | (exact Gr_n1 hi6 hi4 rg_c1 (by omega) (by omega)) | (have a5 := AV_5 hi5 hi4 rg_c1; have e5 : (mI S c1 5 + (1 : Int32)).toInt = (mI S c1 5).toInt + 1 := i_p1 (by omega); exact Gr_n2 hi6 hi4 rg_c1 (by omega) (by omega)) | (have a5 := AV_5 hi5 hi4 rg_c1; have e5 : (mI S c1 5 + (1 : Int32)).toInt = (mI S c1 5).toInt + 1 := i_p1 (by omega); exact gGr_y hi6 hi4 rg_c1 (by omega) (by omega) (by omega) (by omega)))
theorem sp_12_82_sy {X : Nat × (Nat → Int32)} {d w : Nat} {f : Nat → Nat → Int32} {r : Nat → Nat → Option Nat} {C Z N : Nat} {Q : Option ma_V ⊕ Nat → ma_S → Prop} {S : ma_S}  (hd : 1 ≤ d) (hw : 21 ≤ w) (hI : zJ82 f r C Z N S) (hpre0 : xB S (mR S 70)) (hpre1 : qAv (aG S)) (K : ∀ v S₉, S₉ = S → (0 ≤ v.toInt ∧ v.toInt ≤ 40000) → (v.toInt = gGr (aG S) 512) → Q (.inl (some (.inl v))) S₉) : ma_wp X d w 12 0 [(0, .inr (.inr (some 82)))] [] S Q := by
  refine g_12_82_sy_0  (by omega) (by omega) (zG_T hI) ?_
  have li1 : (0 : Int32).toInt = 0 := rfl
  exact lp_12_82_sy_4 (by omega) (by omega) K _ ((0 : Int32)) ((0 : Int32)) rfl hI (by omega) (by omega) (by omega) (by omega) (show xB S (mR S 70) from by first | (exact xB_x (xC_o (W := 75) hpre0).2)) (show qAv (aG S) from by first | (exact hpre1)) (show ((0 : Int32)).toInt = gGr (aG S) ((0 : Int32)).toNatClampNeg from by first | (exact rfl))

/-! from 95.u18 -/
/-! AGES, the class (written by wip/tools/gen15y.py) -/
theorem g_14_82_sy_0 {X : Nat × (Nat → Int32)} {d w : Nat} {S : ma_S} {Q : Option ma_V ⊕ Nat → ma_S → Prop} (t : Nat) (hd : 1 ≤ d) (hw : 25 ≤ w) (hS : zT S) (h : ma_wp X d w 14 2 [(0, .inr (.inr (some 82))), (1, .inr (.inr (some t))), (2, .inl (0 : Int32))] [] S Q) : ma_wp X d w 14 0 [(0, .inr (.inr (some 82))), (1, .inr (.inr (some t)))] [] S Q := by
  refine zw_push hm_14 dX0_comeFromDirtyWords_0 (v := .inl (0 : Int32)) rfl ?_
  refine zw_sto hm_14 dX0_comeFromDirtyWords_1 [(2, .inl (0 : Int32)), (0, .inr (.inr (some 82))), (1, .inr (.inr (some t)))] rfl rfl rfl ?_
  exact zw_sub (ma_nd_of (ks := [0, 1, 2]) rfl (by decide)) (ma_nd_of (ks := [2, 0, 1]) rfl (by decide)) (ma_le_cons rfl (ma_le_cons rfl (ma_le_cons rfl (ma_le_nil _)))) h
theorem g_14_82_sy_2 {X : Nat × (Nat → Int32)} {d w : Nat} {S : ma_S} {Q : Option ma_V ⊕ Nat → ma_S → Prop} (l1 : Nat) (l2 : Int32) (hd : 1 ≤ d) (hw : 25 ≤ w) (hS : zT S) (h : (126 ≤ l1 ∧ l1 < mN S) ∧ (if ((mI S l1 2) - (1 : Int32)) ≤ l2 then (Q (.inl none) S) else (if (mI S 82 5) ≤ 0 then (ma_wp X d w 14 2 [(0, .inr (.inr (some 82))), (1, .inr (.inr (some l1))), (2, .inl (l2 + (1 : Int32)))] [] S Q) else ((126 ≤ l1 ∧ l1 < mN S) ∧ ((mI S 82 5) ≠ 0 ∧ (if ((((mI S l1 4) + (1 : Int32)) + l2) / (mI S 82 5)) < 0 then (ma_wp X d w 14 2 [(0, .inr (.inr (some 82))), (1, .inr (.inr (some l1))), (2, .inl (l2 + (1 : Int32)))] [] S Q) else (if (375 : Int32) ≤ ((((mI S l1 4) + (1 : Int32)) + l2) / (mI S 82 5)) then (ma_wp X d w 14 2 [(0, .inr (.inr (some 82))), (1, .inr (.inr (some l1))), (2, .inl (l2 + (1 : Int32)))] [] S Q) else ((0 ≤ ((((mI S l1 4) + (1 : Int32)) + l2) / (mI S 82 5)) ∧ ((((mI S l1 4) + (1 : Int32)) + l2) / (mI S 82 5)).toNatClampNeg < 375) ∧ (if (mI S 83 ((((mI S l1 4) + (1 : Int32)) + l2) / (mI S 82 5)).toNatClampNeg) = 0 then (ma_wp X d w 14 2 [(0, .inr (.inr (some 82))), (1, .inr (.inr (some l1))), (2, .inl (l2 + (1 : Int32)))] [] S Q) else (ma_wp X (d - 1) (w - 25) 82 0 [(0, .inr (.inr (some 69))), (1, .inr (.inr (some l1))), (2, .inl l2)] [] S (zo (fun v2 S1 => zT S1 ∧ (ma_wp X (d - 1) (w - 21) 119 0 [(0, .inr (.inr (some 75))), (1, .inr (.inr v2))] [] S1 (zv (fun S3 => zT S3 ∧ (ma_wp X d w 14 2 [(0, .inr (.inr (some 82))), (1, .inr (.inr (some l1))), (2, .inl (l2 + (1 : Int32)))] [] S3 Q)) (fun x S9 => Q (.inr x) S9)))) (fun x S9 => Q (.inr x) S9)))))))))))) : ma_wp X d w 14 2 [(0, .inr (.inr (some 82))), (1, .inr (.inr (some l1))), (2, .inl l2)] [] S Q := by
  refine zw_push hm_14 dX0_comeFromDirtyWords_2 (v := .inl l2) rfl ?_
  refine zw_push hm_14 dX0_comeFromDirtyWords_3 (v := .inr (.inr (some l1))) rfl ?_
  obtain ⟨hg, h⟩ := h
  refine zw_gf hm_14 dX0_comeFromDirtyWords_4 (v := .inl (mI S l1 2)) (zT_tis hS hg) (zT_tt hS hg) rfl f_1_67_9 rfl ?_
  refine zw_push hm_14 dX0_comeFromDirtyWords_7 (v := .inl (1 : Int32)) rfl ?_
  refine zw_stk hm_14 dX0_comeFromDirtyWords_8 (st₉ := [.inl ((mI S l1 2) - (1 : Int32)), .inl l2]) rfl rfl ?_
  refine zw_if2 hm_14 dX0_comeFromDirtyWords_9 (t := 61) rfl zc2_ge ?_ ?_
  · intro hc
    rw [if_pos hc] at h
    exact zw_vret hm_14 dX0_comeFromDirtyWords_61 h
  · intro hc
    rw [if_neg hc] at h
    refine zw_push hm_14 dX0_comeFromDirtyWords_12 (v := .inr (.inr (some 82))) rfl ?_
    refine zw_push hm_14 dX0_comeFromDirtyWords_13 (v := .inr (.inr (some l1))) rfl ?_
    refine zw_push hm_14 dX0_comeFromDirtyWords_14 (v := .inl l2) rfl ?_
    refine zw_cv hm_14 dX0_comeFromDirtyWords_15 v_1_136_1 hm_9 [.inl l2, .inr (.inr (some l1))] [] rfl (zT_rt hS s_82 rfl) ⟨by omega, by omega⟩ rfl ?_
    show ma_wp X (d - 1) (w - 22) 9 0 [(0, .inr (.inr (some 82))), (1, .inr (.inr (some l1))), (2, .inl l2)] [] S _
    refine zw_push hm_9 dX0_cardOf_0 (v := .inr (.inr (some 82))) rfl ?_
    refine zw_gf hm_9 dX0_cardOf_1 (v := .inl (mI S 82 5)) (zT_is hS s_82) (zT_t hS s_82) rfl f_1_25_1 rfl ?_
    refine zw_if0 hm_9 dX0_cardOf_4 (t := 23) rfl zc0_le ?_ ?_
    · intro hc
      rw [if_pos hc] at h
      refine zw_push hm_9 dX0_cardOf_23 (v := .inl (-1 : Int32)) rfl ?_
      refine zw_iret hm_9 dX0_cardOf_24 ?_
      show ma_wp X d w 14 18 [(0, .inr (.inr (some 82))), (1, .inr (.inr (some l1))), (2, .inl l2)] [.inl (-1 : Int32)] S _
      refine zw_sto hm_14 dX0_comeFromDirtyWords_18 [(3, .inl (-1 : Int32)), (0, .inr (.inr (some 82))), (1, .inr (.inr (some l1))), (2, .inl l2)] rfl rfl rfl ?_
      refine zw_push hm_14 dX0_comeFromDirtyWords_19 (v := .inl (-1 : Int32)) rfl ?_
      refine zw_if0 hm_14 dX0_comeFromDirtyWords_20 (t := 55) rfl zc0_lt (fun _ => ?_) (fun hc => absurd (by decide) hc)
      refine zw_sto hm_14 dX0_comeFromDirtyWords_55 [(2, .inl (l2 + (1 : Int32))), (3, .inl (-1 : Int32)), (0, .inr (.inr (some 82))), (1, .inr (.inr (some l1)))] rfl rfl rfl ?_
      refine zw_goto hm_14 dX0_comeFromDirtyWords_58 (t := 2) rfl ?_
      exact zw_sub (ma_nd_of (ks := [0, 1, 2]) rfl (by decide)) (ma_nd_of (ks := [2, 3, 0, 1]) rfl (by decide)) (ma_le_cons rfl (ma_le_cons rfl (ma_le_cons rfl (ma_le_nil _)))) h
    · intro hc
      rw [if_neg hc] at h
      refine zw_push hm_9 dX0_cardOf_7 (v := .inr (.inr (some l1))) rfl ?_
      obtain ⟨hg, h⟩ := h
      refine zw_gf hm_9 dX0_cardOf_8 (v := .inl (mI S l1 4)) (zT_tis hS hg) (zT_tt hS hg) rfl f_1_62_9 rfl ?_
      refine zw_push hm_9 dX0_cardOf_11 (v := .inl (1 : Int32)) rfl ?_
      refine zw_stk hm_9 dX0_cardOf_12 (st₉ := [.inl ((mI S l1 4) + (1 : Int32))]) rfl rfl ?_
      refine zw_push hm_9 dX0_cardOf_13 (v := .inl l2) rfl ?_
      refine zw_stk hm_9 dX0_cardOf_14 (st₉ := [.inl (((mI S l1 4) + (1 : Int32)) + l2)]) rfl rfl ?_
      refine zw_push hm_9 dX0_cardOf_15 (v := .inr (.inr (some 82))) rfl ?_
      refine zw_gf hm_9 dX0_cardOf_16 (v := .inl (mI S 82 5)) (zT_is hS s_82) (zT_t hS s_82) rfl f_1_25_1 rfl ?_
      obtain ⟨hg, h⟩ := h
      refine zw_stk hm_9 dX0_cardOf_19 (st₉ := [.inl ((((mI S l1 4) + (1 : Int32)) + l2) / (mI S 82 5))]) rfl (if_neg hg) ?_
      refine zw_goto hm_9 dX0_cardOf_20 (t := 24) rfl ?_
      refine zw_iret hm_9 dX0_cardOf_24 ?_
      show ma_wp X d w 14 18 [(0, .inr (.inr (some 82))), (1, .inr (.inr (some l1))), (2, .inl l2)] [.inl ((((mI S l1 4) + (1 : Int32)) + l2) / (mI S 82 5))] S _
      refine zw_sto hm_14 dX0_comeFromDirtyWords_18 [(3, .inl ((((mI S l1 4) + (1 : Int32)) + l2) / (mI S 82 5))), (0, .inr (.inr (some 82))), (1, .inr (.inr (some l1))), (2, .inl l2)] rfl rfl rfl ?_
      refine zw_push hm_14 dX0_comeFromDirtyWords_19 (v := .inl ((((mI S l1 4) + (1 : Int32)) + l2) / (mI S 82 5))) rfl ?_
      refine zw_if0 hm_14 dX0_comeFromDirtyWords_20 (t := 55) rfl zc0_lt ?_ ?_
      · intro hc
        rw [if_pos hc] at h
        refine zw_sto hm_14 dX0_comeFromDirtyWords_55 [(2, .inl (l2 + (1 : Int32))), (3, .inl ((((mI S l1 4) + (1 : Int32)) + l2) / (mI S 82 5))), (0, .inr (.inr (some 82))), (1, .inr (.inr (some l1)))] rfl rfl rfl ?_
        refine zw_goto hm_14 dX0_comeFromDirtyWords_58 (t := 2) rfl ?_
        exact zw_sub (ma_nd_of (ks := [0, 1, 2]) rfl (by decide)) (ma_nd_of (ks := [2, 3, 0, 1]) rfl (by decide)) (ma_le_cons rfl (ma_le_cons rfl (ma_le_cons rfl (ma_le_nil _)))) h
      · intro hc
        rw [if_neg hc] at h
        refine zw_push hm_14 dX0_comeFromDirtyWords_23 (v := .inl ((((mI S l1 4) + (1 : Int32)) + l2) / (mI S 82 5))) rfl ?_
        refine zw_push hm_14 dX0_comeFromDirtyWords_24 (v := .inl (375 : Int32)) rfl ?_
        refine zw_if2 hm_14 dX0_comeFromDirtyWords_27 (t := 55) rfl zc2_ge ?_ ?_
        · intro hc
          rw [if_pos hc] at h
          refine zw_sto hm_14 dX0_comeFromDirtyWords_55 [(2, .inl (l2 + (1 : Int32))), (3, .inl ((((mI S l1 4) + (1 : Int32)) + l2) / (mI S 82 5))), (0, .inr (.inr (some 82))), (1, .inr (.inr (some l1)))] rfl rfl rfl ?_
          refine zw_goto hm_14 dX0_comeFromDirtyWords_58 (t := 2) rfl ?_
          exact zw_sub (ma_nd_of (ks := [0, 1, 2]) rfl (by decide)) (ma_nd_of (ks := [2, 3, 0, 1]) rfl (by decide)) (ma_le_cons rfl (ma_le_cons rfl (ma_le_cons rfl (ma_le_nil _)))) h
        · intro hc
          rw [if_neg hc] at h
          refine zw_push hm_14 dX0_comeFromDirtyWords_30 (v := .inr (.inr (some 82))) rfl ?_
          refine zw_gf hm_14 dX0_comeFromDirtyWords_31 (v := .inr (.inr (some 83))) (zT_is hS s_82) (zT_t hS s_82) rfl f_1_9_1 (zT_f hS r_82_9) ?_
          refine zw_push hm_14 dX0_comeFromDirtyWords_34 (v := .inl ((((mI S l1 4) + (1 : Int32)) + l2) / (mI S 82 5))) rfl ?_
          obtain ⟨hg, h⟩ := h
          refine zw_ia hm_14 dX0_comeFromDirtyWords_35 (zT_is hS s_83) (zT_h hS s_83) rfl hg ?_
          show ma_wp X d w 14 36 [(3, .inl ((((mI S l1 4) + (1 : Int32)) + l2) / (mI S 82 5))), (0, .inr (.inr (some 82))), (1, .inr (.inr (some l1))), (2, .inl l2)] [.inl (mI S 83 ((((mI S l1 4) + (1 : Int32)) + l2) / (mI S 82 5)).toNatClampNeg)] S _
          refine zw_if0 hm_14 dX0_comeFromDirtyWords_36 (t := 55) rfl zc0_eq ?_ ?_
          · intro hc
            rw [if_pos hc] at h
            refine zw_sto hm_14 dX0_comeFromDirtyWords_55 [(2, .inl (l2 + (1 : Int32))), (3, .inl ((((mI S l1 4) + (1 : Int32)) + l2) / (mI S 82 5))), (0, .inr (.inr (some 82))), (1, .inr (.inr (some l1)))] rfl rfl rfl ?_
            refine zw_goto hm_14 dX0_comeFromDirtyWords_58 (t := 2) rfl ?_
            exact zw_sub (ma_nd_of (ks := [0, 1, 2]) rfl (by decide)) (ma_nd_of (ks := [2, 3, 0, 1]) rfl (by decide)) (ma_le_cons rfl (ma_le_cons rfl (ma_le_cons rfl (ma_le_nil _)))) h
          · intro hc
            rw [if_neg hc] at h
            refine zw_push hm_14 dX0_comeFromDirtyWords_39 (v := .inr (.inr (some 82))) rfl ?_
            refine zw_gf hm_14 dX0_comeFromDirtyWords_40 (v := .inr (.inr (some 75))) (zT_is hS s_82) (zT_t hS s_82) rfl f_1_70_1 (zT_f hS r_82_1) ?_
            refine zw_push hm_14 dX0_comeFromDirtyWords_43 (v := .inr (.inr (some 82))) rfl ?_
            refine zw_gf hm_14 dX0_comeFromDirtyWords_44 (v := .inr (.inr (some 69))) (zT_is hS s_82) (zT_t hS s_82) rfl f_1_80_1 (zT_f hS r_82_0) ?_
            refine zw_push hm_14 dX0_comeFromDirtyWords_47 (v := .inr (.inr (some l1))) rfl ?_
            refine zw_push hm_14 dX0_comeFromDirtyWords_48 (v := .inl l2) rfl ?_
            refine zw_cv hm_14 dX0_comeFromDirtyWords_49 v_1_140_7 hm_82 [.inl l2, .inr (.inr (some l1))] [.inr (.inr (some 75))] rfl (zT_rt hS s_69 rfl) ⟨by omega, by omega⟩ rfl (zw_mono h (zo_go ?_ ?_))
            · intro v2 S1 hv
              obtain ⟨hS1, h⟩ := hv
              refine zw_cv hm_14 dX0_comeFromDirtyWords_52 v_1_144_10 hm_119 [.inr (.inr v2)] [] rfl (zT_rt hS1 s_75 rfl) ⟨by omega, by omega⟩ rfl (zw_mono h (zv_go ?_ ?_))
              · intro S3 hv
                obtain ⟨hS3, h⟩ := hv
                refine zw_sto hm_14 dX0_comeFromDirtyWords_55 [(2, .inl (l2 + (1 : Int32))), (3, .inl ((((mI S l1 4) + (1 : Int32)) + l2) / (mI S 82 5))), (0, .inr (.inr (some 82))), (1, .inr (.inr (some l1)))] rfl rfl rfl ?_
                refine zw_goto hm_14 dX0_comeFromDirtyWords_58 (t := 2) rfl ?_
                exact zw_sub (ma_nd_of (ks := [0, 1, 2]) rfl (by decide)) (ma_nd_of (ks := [2, 3, 0, 1]) rfl (by decide)) (ma_le_cons rfl (ma_le_cons rfl (ma_le_cons rfl (ma_le_nil _)))) h
              · intro x S9 hx
                exact ⟨by decide, hx⟩
            · intro x S9 hx
              exact ⟨by decide, hx⟩
theorem lp_14_82_sy_2 {X : Nat × (Nat → Int32)} {d w : Nat} {f : Nat → Nat → Int32} {r : Nat → Nat → Option Nat} {C Z N : Nat} {Q : Option ma_V ⊕ Nat → ma_S → Prop} {ab : Nat→Nat→Int32} {R : zRT} {y : Int32} (hd : 1 ≤ d) (hw : 25 ≤ w) (K : ∀ S₉, zI f r C Z N S₉ → (xB S₉ R) → (aG S₉ = gDw ab y.toNatClampNeg 0) → Q (.inl none) S₉) : ∀ (n : Nat) (S : ma_S) (l1 : Nat) (l2 : Int32), (61 - l2.toInt).toNat = n → zI f r C Z N S → (126 ≤ l1 ∧ l1 < N) → (0 ≤ l2.toInt) → (xB S R) → (zTa R y = some l1) → (gDw (aG S) y.toNatClampNeg l2 = gDw ab y.toNatClampNeg 0) → ma_wp X d w 14 2 [(0, .inr (.inr (some 82))), (1, .inr (.inr (some l1))), (2, .inl l2)] [] S Q := by
  intro n
  induction n using Nat.strongRecOn with
  | _ n IH =>
    intro S l1 l2 hmu hI th_l1 hi0 hi1 hi2 hi3
    refine g_14_82_sy_2 l1 l2 (by omega) (by omega) (zG_T hI) ?_
    refine ⟨zG_n hI th_l1, ?_⟩
    have f1 := zG_th hI th_l1
    first | have e2 : ((mI S l1 2) - (1 : Int32)).toInt = (mI S l1 2).toInt - (1) := i_subk rfl (by omega) (by omega) | have b3 := i_bd ((mI S l1 2) - (1 : Int32))
    have b4 := i_bd l2
    refine zd (fun h5 => ?_) (fun h5 => ?_)
    · skip
      have g6 := i_le h5
      exact K _ hI (show xB S R from by first | (exact (xC_o (W := 75) hi1).2)) (show aG S = gDw ab y.toNatClampNeg 0 from by first | (have ty := xB_th (W := 75) hi1 hi2; have e2 : (aG S 128 y.toNatClampNeg).toInt = (mI S l1 2).toInt := (by rw [aG_o (by decide) (by decide), ← ty.2.2.2.2.1]); exact (gDw_st (by omega)).symm.trans hi3))
    · skip
      have g7 := i_nle h5
      have b8 := i_bd (mI S 82 5)
      have li9 : (0 : Int32).toInt = 0 := rfl
      refine zd (fun h10 => ?_) (fun h10 => ?_)
      · skip
        have g11 := i_le h10
        first | have e12 : (l2 + (1 : Int32)).toInt = l2.toInt + (1) := i_addk rfl (by omega) (by omega) | have b13 := i_bd (l2 + (1 : Int32))
        exact IH _ (by omega) _ l1 ((l2 + (1 : Int32))) rfl hI th_l1 (by omega) (show xB S R from by first | (exact (xC_o (W := 75) hi1).2)) (show zTa R y = some l1 from by first | (exact hi2)) (show gDw (aG S) y.toNatClampNeg ((l2 + (1 : Int32))) = gDw ab y.toNatClampNeg 0 from by first | (have ty := xB_th (W := 75) hi1 hi2; have e2 : (aG S 128 y.toNatClampNeg).toInt = (mI S l1 2).toInt := (by rw [aG_o (by decide) (by decide), ← ty.2.2.2.2.1]); have hx : (l2 + (1 : Int32)).toInt = l2.toInt + 1 := i_p1 (by omega); have d := dy_n hi1 hi2 (by omega) (by omega) (by omega) (Or.inl (by omega)); exact (gDw_n (by omega) hx d).symm.trans hi3) | (have ty := xB_th (W := 75) hi1 hi2; have e2 : (aG S 128 y.toNatClampNeg).toInt = (mI S l1 2).toInt := (by rw [aG_o (by decide) (by decide), ← ty.2.2.2.2.1]); have hx : (l2 + (1 : Int32)).toInt = l2.toInt + 1 := i_p1 (by omega); have d := dy_n hi1 hi2 (by omega) (by omega) (by omega) (Or.inr (Or.inl (by omega))); exact (gDw_n (by omega) hx d).symm.trans hi3) | (have ty := xB_th (W := 75) hi1 hi2; have e2 : (aG S 128 y.toNatClampNeg).toInt = (mI S l1 2).toInt := (by rw [aG_o (by decide) (by decide), ← ty.2.2.2.2.1]); have hx : (l2 + (1 : Int32)).toInt = l2.toInt + 1 := i_p1 (by omega); have d := dy_n hi1 hi2 (by omega) (by omega) (by omega) (Or.inr (Or.inr (by omega))); exact (gDw_n (by omega) hx d).symm.trans hi3) | (exfalso; omega))
      · skip
        have g14 := i_nle h10
        refine ⟨zG_n hI th_l1, ?_⟩
        refine ⟨i_nz (by omega), ?_⟩
        have f15 := zG_th hI th_l1
        first | have e16 : ((mI S l1 4) + (1 : Int32)).toInt = (mI S l1 4).toInt + (1) := i_addk rfl (by omega) (by omega) | have b17 := i_bd ((mI S l1 4) + (1 : Int32))
        first | have e18 : (((mI S l1 4) + (1 : Int32)) + l2).toInt = ((mI S l1 4) + (1 : Int32)).toInt + l2.toInt := i_add (by omega) (by omega) | have b19 := i_bd (((mI S l1 4) + (1 : Int32)) + l2)
        first | have f20 := i_div (x := (((mI S l1 4) + (1 : Int32)) + l2)) (y := (mI S 82 5)) (by omega) (by omega) | have b21 := i_bd ((((mI S l1 4) + (1 : Int32)) + l2) / (mI S 82 5))
        refine zd (fun h22 => ?_) (fun h22 => ?_)
        · skip
          have g23 := i_lt h22
          first | have e24 : (l2 + (1 : Int32)).toInt = l2.toInt + (1) := i_addk rfl (by omega) (by omega) | have b25 := i_bd (l2 + (1 : Int32))
          exact IH _ (by omega) _ l1 ((l2 + (1 : Int32))) rfl hI th_l1 (by omega) (show xB S R from by first | (exact (xC_o (W := 75) hi1).2)) (show zTa R y = some l1 from by first | (exact hi2)) (show gDw (aG S) y.toNatClampNeg ((l2 + (1 : Int32))) = gDw ab y.toNatClampNeg 0 from by first | (have ty := xB_th (W := 75) hi1 hi2; have e2 : (aG S 128 y.toNatClampNeg).toInt = (mI S l1 2).toInt := (by rw [aG_o (by decide) (by decide), ← ty.2.2.2.2.1]); have hx : (l2 + (1 : Int32)).toInt = l2.toInt + 1 := i_p1 (by omega); have d := dy_n hi1 hi2 (by omega) (by omega) (by omega) (Or.inl (by omega)); exact (gDw_n (by omega) hx d).symm.trans hi3) | (have ty := xB_th (W := 75) hi1 hi2; have e2 : (aG S 128 y.toNatClampNeg).toInt = (mI S l1 2).toInt := (by rw [aG_o (by decide) (by decide), ← ty.2.2.2.2.1]); have hx : (l2 + (1 : Int32)).toInt = l2.toInt + 1 := i_p1 (by omega); have d := dy_n hi1 hi2 (by omega) (by omega) (by omega) (Or.inr (Or.inl (by omega))); exact (gDw_n (by omega) hx d).symm.trans hi3) | (have ty := xB_th (W := 75) hi1 hi2; have e2 : (aG S 128 y.toNatClampNeg).toInt = (mI S l1 2).toInt := (by rw [aG_o (by decide) (by decide), ← ty.2.2.2.2.1]); have hx : (l2 + (1 : Int32)).toInt = l2.toInt + 1 := i_p1 (by omega); have d := dy_n hi1 hi2 (by omega) (by omega) (by omega) (Or.inr (Or.inr (by omega))); exact (gDw_n (by omega) hx d).symm.trans hi3) | (exfalso; omega))
        · skip
          have g26 := i_nlt h22
          have li27 : (375 : Int32).toInt = 375 := rfl
          refine zd (fun h28 => ?_) (fun h28 => ?_)
          · skip
            have g29 := i_le h28
            first | have e30 : (l2 + (1 : Int32)).toInt = l2.toInt + (1) := i_addk rfl (by omega) (by omega) | have b31 := i_bd (l2 + (1 : Int32))
            exact IH _ (by omega) _ l1 ((l2 + (1 : Int32))) rfl hI th_l1 (by omega) (show xB S R from by first | (exact (xC_o (W := 75) hi1).2)) (show zTa R y = some l1 from by first | (exact hi2)) (show gDw (aG S) y.toNatClampNeg ((l2 + (1 : Int32))) = gDw ab y.toNatClampNeg 0 from by first | (have ty := xB_th (W := 75) hi1 hi2; have e2 : (aG S 128 y.toNatClampNeg).toInt = (mI S l1 2).toInt := (by rw [aG_o (by decide) (by decide), ← ty.2.2.2.2.1]); have hx : (l2 + (1 : Int32)).toInt = l2.toInt + 1 := i_p1 (by omega); have d := dy_n hi1 hi2 (by omega) (by omega) (by omega) (Or.inl (by omega)); exact (gDw_n (by omega) hx d).symm.trans hi3) | (have ty := xB_th (W := 75) hi1 hi2; have e2 : (aG S 128 y.toNatClampNeg).toInt = (mI S l1 2).toInt := (by rw [aG_o (by decide) (by decide), ← ty.2.2.2.2.1]); have hx : (l2 + (1 : Int32)).toInt = l2.toInt + 1 := i_p1 (by omega); have d := dy_n hi1 hi2 (by omega) (by omega) (by omega) (Or.inr (Or.inl (by omega))); exact (gDw_n (by omega) hx d).symm.trans hi3) | (have ty := xB_th (W := 75) hi1 hi2; have e2 : (aG S 128 y.toNatClampNeg).toInt = (mI S l1 2).toInt := (by rw [aG_o (by decide) (by decide), ← ty.2.2.2.2.1]); have hx : (l2 + (1 : Int32)).toInt = l2.toInt + 1 := i_p1 (by omega); have d := dy_n hi1 hi2 (by omega) (by omega) (by omega) (Or.inr (Or.inr (by omega))); exact (gDw_n (by omega) hx d).symm.trans hi3) | (exfalso; omega))
          · skip
            have g32 := i_nle h28
            refine ⟨i_ix (by omega) (by omega), ?_⟩
            have b33 := i_bd (mI S 83 ((((mI S l1 4) + (1 : Int32)) + l2) / (mI S 82 5)).toNatClampNeg)
            refine zd (fun h34 => ?_) (fun h34 => ?_)
            · skip
              have g35 := i_eq h34
              first | have e36 : (l2 + (1 : Int32)).toInt = l2.toInt + (1) := i_addk rfl (by omega) (by omega) | have b37 := i_bd (l2 + (1 : Int32))
              exact IH _ (by omega) _ l1 ((l2 + (1 : Int32))) rfl hI th_l1 (by omega) (show xB S R from by first | (exact (xC_o (W := 75) hi1).2)) (show zTa R y = some l1 from by first | (exact hi2)) (show gDw (aG S) y.toNatClampNeg ((l2 + (1 : Int32))) = gDw ab y.toNatClampNeg 0 from by first | (have ty := xB_th (W := 75) hi1 hi2; have e2 : (aG S 128 y.toNatClampNeg).toInt = (mI S l1 2).toInt := (by rw [aG_o (by decide) (by decide), ← ty.2.2.2.2.1]); have hx : (l2 + (1 : Int32)).toInt = l2.toInt + 1 := i_p1 (by omega); have d := dy_n hi1 hi2 (by omega) (by omega) (by omega) (Or.inl (by omega)); exact (gDw_n (by omega) hx d).symm.trans hi3) | (have ty := xB_th (W := 75) hi1 hi2; have e2 : (aG S 128 y.toNatClampNeg).toInt = (mI S l1 2).toInt := (by rw [aG_o (by decide) (by decide), ← ty.2.2.2.2.1]); have hx : (l2 + (1 : Int32)).toInt = l2.toInt + 1 := i_p1 (by omega); have d := dy_n hi1 hi2 (by omega) (by omega) (by omega) (Or.inr (Or.inl (by omega))); exact (gDw_n (by omega) hx d).symm.trans hi3) | (have ty := xB_th (W := 75) hi1 hi2; have e2 : (aG S 128 y.toNatClampNeg).toInt = (mI S l1 2).toInt := (by rw [aG_o (by decide) (by decide), ← ty.2.2.2.2.1]); have hx : (l2 + (1 : Int32)).toInt = l2.toInt + 1 := i_p1 (by omega); have d := dy_n hi1 hi2 (by omega) (by omega) (by omega) (Or.inr (Or.inr (by omega))); exact (gDw_n (by omega) hx d).symm.trans hi3) | (exfalso; omega))
            · skip
              have g38 := i_ne h34
              refine sp_82_69_s (R := R) (W := 75) (y := y) l1 (l2) (by omega) (by omega) hI th_l1 (show xB S R from by first | (exact (xC_o (W := 75) hi1).2)) (show zTa R y = some l1 from by first | (exact hi2)) (by omega) (fun v2 S1 eS_S1 hq_v2 rp0_S1 => zo_n ⟨(by rw [eS_S1]; exact zG_T hI), ?_⟩)
              replace eS_S1 := eS_S1.symm; subst eS_S1
              have rp0_S1 : v2 = zTa R (aRef (aS 75 S) y.toNatClampNeg l2) := rp0_S1
              refine sp_119_75_s (ab := (aS 75 S)) (R := R) (y := ((aRef (aS 75 S) y.toNatClampNeg l2))) (a8 := (aS 88 S)) (v2) (by omega) (by omega) hI hq_v2 (show xB S R from by first | (exact (xC_o (W := 75) hi1).2)) (show aS 75 S = (aS 75 S) from by first | (exact rfl)) (show v2 = zTa R ((aRef (aS 75 S) y.toNatClampNeg l2)) from by first | (exact rp0_S1)) (show aS 88 S = (aS 88 S) from by first | (exact rfl)) (fun S3 hI_S3 rp0_S3 rp1_S3 rp2_S3 => zv_n ⟨zG_T hI_S3, ?_⟩)
              have rp0_S3 : xB S3 R := rp0_S3
              have rp1_S3 : aS 75 S3 = aCm (aS 75 S) ((aRef (aS 75 S) y.toNatClampNeg l2)) := rp1_S3
              have rp2_S3 : aS 88 S3 = (aS 88 S) := rp2_S3
              first | have e39 : (l2 + (1 : Int32)).toInt = l2.toInt + (1) := i_addk rfl (by omega) (by omega) | have b40 := i_bd (l2 + (1 : Int32))
              exact IH _ (by omega) _ l1 ((l2 + (1 : Int32))) rfl hI_S3 th_l1 (by omega) (show xB S3 R from by first | (exact (xC_o (W := 75) rp0_S3).2)) (show zTa R y = some l1 from by first | (exact hi2)) (show gDw (aG S3) y.toNatClampNeg ((l2 + (1 : Int32))) = gDw ab y.toNatClampNeg 0 from by first | (have ty := xB_th (W := 75) hi1 hi2; have e2 : (aG S 128 y.toNatClampNeg).toInt = (mI S l1 2).toInt := (by rw [aG_o (by decide) (by decide), ← ty.2.2.2.2.1]); have hx : (l2 + (1 : Int32)).toInt = l2.toInt + 1 := i_p1 (by omega); have d := dy_y hi1 hi2 (by omega) (by omega) (by omega) (by omega) (by omega) (by omega); rw [G_cm rp1_S3 (show mI S3 82 = mI S 82 from funext (fun _ => (zG_z hI_S3 rfl).trans (zG_z hI rfl).symm)) (show mI S3 83 = mI S 83 from funext (fun _ => (zG_z hI_S3 rfl).trans (zG_z hI rfl).symm)), G_rf]; exact (gDw_y (by omega) hx d).symm.trans hi3))
theorem sp_14_82_sy {X : Nat × (Nat → Int32)} {d w : Nat} {f : Nat → Nat → Int32} {r : Nat → Nat → Option Nat} {C Z N : Nat} {Q : Option ma_V ⊕ Nat → ma_S → Prop} {ab : Nat→Nat→Int32} {R : zRT} {y : Int32} {S : ma_S} (t : Nat) (hd : 1 ≤ d) (hw : 25 ≤ w) (hI : zI f r C Z N S) (th_t : 126 ≤ t ∧ t < N) (hpre0 : xB S R) (hpre1 : aG S = ab) (hpre2 : zTa R y = some t) (K : ∀ S₉, zI f r C Z N S₉ → (xB S₉ R) → (aG S₉ = gDw ab y.toNatClampNeg 0) → Q (.inl none) S₉) : ma_wp X d w 14 0 [(0, .inr (.inr (some 82))), (1, .inr (.inr (some t)))] [] S Q := by
  refine g_14_82_sy_0 t (by omega) (by omega) (zG_T hI) ?_
  have li1 : (0 : Int32).toInt = 0 := rfl
  exact lp_14_82_sy_2 (by omega) (by omega) K _ _ t ((0 : Int32)) rfl hI th_t (by omega) (show xB S R from by first | (exact (xC_o (W := 75) hpre0).2)) (show zTa R y = some t from by first | (exact hpre2)) (show gDw (aG S) y.toNatClampNeg ((0 : Int32)) = gDw ab y.toNatClampNeg 0 from by first | (rw [hpre1]))

/-! from 95.u19 -/
/-! AGES, the class (written by wip/tools/gen15y.py) -/
theorem g_13_82_sy_0 {X : Nat × (Nat → Int32)} {d w : Nat} {S : ma_S} {Q : Option ma_V ⊕ Nat → ma_S → Prop}  (hd : 2 ≤ d) (hw : 48 ≤ w) (hS : zT S) (h : ma_wp X d w 13 2 [(0, .inr (.inr (some 82))), (1, .inl (0 : Int32))] [] S Q) : ma_wp X d w 13 0 [(0, .inr (.inr (some 82)))] [] S Q := by
  refine zw_push hm_13 dX0_comeFromDirty_0 (v := .inl (0 : Int32)) rfl ?_
  refine zw_sto hm_13 dX0_comeFromDirty_1 [(1, .inl (0 : Int32)), (0, .inr (.inr (some 82)))] rfl rfl rfl ?_
  exact zw_sub (ma_nd_of (ks := [0, 1]) rfl (by decide)) (ma_nd_of (ks := [1, 0]) rfl (by decide)) (ma_le_cons rfl (ma_le_cons rfl (ma_le_nil _))) h
theorem g_13_82_sy_2 {X : Nat × (Nat → Int32)} {d w : Nat} {S : ma_S} {Q : Option ma_V ⊕ Nat → ma_S → Prop} (l1 : Int32) (hd : 2 ≤ d) (hw : 48 ≤ w) (hS : zT S) (h : if (mI S 82 6) ≤ l1 then (Q (.inl none) S) else (if l1 < 0 then (ma_wp X d w 13 2 [(0, .inr (.inr (some 82))), (1, .inl (l1 + (1 : Int32)))] [] S Q) else (if (4500 : Int32) ≤ l1 then (ma_wp X d w 13 2 [(0, .inr (.inr (some 82))), (1, .inl (l1 + (1 : Int32)))] [] S Q) else ((0 ≤ l1 ∧ l1.toNatClampNeg < 4500) ∧ (if (mI S 71 l1.toNatClampNeg) < 0 then (ma_wp X d w 13 2 [(0, .inr (.inr (some 82))), (1, .inl (l1 + (1 : Int32)))] [] S Q) else (if (512 : Int32) ≤ (mI S 71 l1.toNatClampNeg) then (ma_wp X d w 13 2 [(0, .inr (.inr (some 82))), (1, .inl (l1 + (1 : Int32)))] [] S Q) else ((0 ≤ (mI S 71 l1.toNatClampNeg) ∧ (mI S 71 l1.toNatClampNeg).toNatClampNeg < 512) ∧ (((mR S 70 (mI S 71 l1.toNatClampNeg).toNatClampNeg) = none → ma_wp X d w 13 2 [(0, .inr (.inr (some 82))), (1, .inl (l1 + (1 : Int32)))] [] S Q) ∧ (∀ c1, (mR S 70 (mI S 71 l1.toNatClampNeg).toNatClampNeg) = some c1 → (126 ≤ c1 ∧ c1 < mN S) ∧ (ma_wp X (d - 1) (w - 23) 14 0 [(0, .inr (.inr (some 82))), (1, .inr (.inr (some c1)))] [] S (zv (fun S2 => zT S2 ∧ (ma_wp X d w 13 2 [(0, .inr (.inr (some 82))), (1, .inl (l1 + (mI S c1 2)))] [] S2 Q)) (fun x S9 => Q (.inr x) S9)))))))))))) : ma_wp X d w 13 2 [(0, .inr (.inr (some 82))), (1, .inl l1)] [] S Q := by
  refine zw_push hm_13 dX0_comeFromDirty_2 (v := .inl l1) rfl ?_
  refine zw_push hm_13 dX0_comeFromDirty_3 (v := .inr (.inr (some 82))) rfl ?_
  refine zw_gf hm_13 dX0_comeFromDirty_4 (v := .inl (mI S 82 6)) (zT_is hS s_82) (zT_t hS s_82) rfl f_1_28_1 rfl ?_
  refine zw_if2 hm_13 dX0_comeFromDirty_7 (t := 44) rfl zc2_ge ?_ ?_
  · intro hc
    rw [if_pos hc] at h
    exact zw_vret hm_13 dX0_comeFromDirty_44 h
  · intro hc
    rw [if_neg hc] at h
    refine zw_push hm_13 dX0_comeFromDirty_10 (v := .inr (.inr (some 82))) rfl ?_
    refine zw_gf hm_13 dX0_comeFromDirty_11 (v := .inr (.inr (some 69))) (zT_is hS s_82) (zT_t hS s_82) rfl f_1_80_1 (zT_f hS r_82_0) ?_
    refine zw_push hm_13 dX0_comeFromDirty_14 (v := .inl l1) rfl ?_
    refine zw_cv hm_13 dX0_comeFromDirty_15 v_1_129_7 hm_89 [.inl l1] [] rfl (zT_rt hS s_69 rfl) ⟨by omega, by omega⟩ rfl ?_
    show ma_wp X (d - 1) (w - 22) 89 0 [(0, .inr (.inr (some 69))), (1, .inl l1)] [] S _
    refine zw_push hm_89 dX7_thingFrom_0 (v := .inl l1) rfl ?_
    refine zw_if0 hm_89 dX7_thingFrom_1 (t := 20) rfl zc0_lt ?_ ?_
    · intro hc
      rw [if_pos hc] at h
      refine zw_push hm_89 dX7_thingFrom_20 (v := .inl (-1 : Int32)) rfl ?_
      refine zw_sto hm_89 dX7_thingFrom_21 [(2, .inl (-1 : Int32)), (0, .inr (.inr (some 69))), (1, .inl l1)] rfl rfl rfl ?_
      refine zw_push hm_89 dX7_thingFrom_22 (v := .inl (-1 : Int32)) rfl ?_
      refine zw_if0 hm_89 dX7_thingFrom_23 (t := 42) rfl zc0_lt (fun _ => ?_) (fun hc => absurd (by decide) hc)
      refine zw_push hm_89 dX7_thingFrom_42 (v := .inr (.inr none)) rfl ?_
      refine zw_aret hm_89 dX7_thingFrom_43 ?_
      show ma_wp X d w 13 18 [(0, .inr (.inr (some 82))), (1, .inl l1)] [.inr (.inr none)] S _
      refine zw_sto hm_13 dX0_comeFromDirty_18 [(2, .inr (.inr none)), (0, .inr (.inr (some 82))), (1, .inl l1)] rfl rfl rfl ?_
      refine zw_push hm_13 dX0_comeFromDirty_19 (v := .inr (.inr none)) rfl ?_
      refine zw_ifnonnull hm_13 dX0_comeFromDirty_20 (t := 29) rfl (fun _ => ?_) (fun _ z => by cases z)
      refine zw_sto hm_13 dX0_comeFromDirty_23 [(1, .inl (l1 + (1 : Int32))), (2, .inr (.inr none)), (0, .inr (.inr (some 82)))] rfl rfl rfl ?_
      refine zw_goto hm_13 dX0_comeFromDirty_26 (t := 41) rfl ?_
      refine zw_goto hm_13 dX0_comeFromDirty_41 (t := 2) rfl ?_
      exact zw_sub (ma_nd_of (ks := [0, 1]) rfl (by decide)) (ma_nd_of (ks := [1, 2, 0]) rfl (by decide)) (ma_le_cons rfl (ma_le_cons rfl (ma_le_nil _))) h
    · intro hc
      rw [if_neg hc] at h
      refine zw_push hm_89 dX7_thingFrom_4 (v := .inl l1) rfl ?_
      refine zw_push hm_89 dX7_thingFrom_5 (v := .inl (4500 : Int32)) rfl ?_
      refine zw_if2 hm_89 dX7_thingFrom_8 (t := 20) rfl zc2_ge ?_ ?_
      · intro hc
        rw [if_pos hc] at h
        refine zw_push hm_89 dX7_thingFrom_20 (v := .inl (-1 : Int32)) rfl ?_
        refine zw_sto hm_89 dX7_thingFrom_21 [(2, .inl (-1 : Int32)), (0, .inr (.inr (some 69))), (1, .inl l1)] rfl rfl rfl ?_
        refine zw_push hm_89 dX7_thingFrom_22 (v := .inl (-1 : Int32)) rfl ?_
        refine zw_if0 hm_89 dX7_thingFrom_23 (t := 42) rfl zc0_lt (fun _ => ?_) (fun hc => absurd (by decide) hc)
        refine zw_push hm_89 dX7_thingFrom_42 (v := .inr (.inr none)) rfl ?_
        refine zw_aret hm_89 dX7_thingFrom_43 ?_
        show ma_wp X d w 13 18 [(0, .inr (.inr (some 82))), (1, .inl l1)] [.inr (.inr none)] S _
        refine zw_sto hm_13 dX0_comeFromDirty_18 [(2, .inr (.inr none)), (0, .inr (.inr (some 82))), (1, .inl l1)] rfl rfl rfl ?_
        refine zw_push hm_13 dX0_comeFromDirty_19 (v := .inr (.inr none)) rfl ?_
        refine zw_ifnonnull hm_13 dX0_comeFromDirty_20 (t := 29) rfl (fun _ => ?_) (fun _ z => by cases z)
        refine zw_sto hm_13 dX0_comeFromDirty_23 [(1, .inl (l1 + (1 : Int32))), (2, .inr (.inr none)), (0, .inr (.inr (some 82)))] rfl rfl rfl ?_
        refine zw_goto hm_13 dX0_comeFromDirty_26 (t := 41) rfl ?_
        refine zw_goto hm_13 dX0_comeFromDirty_41 (t := 2) rfl ?_
        exact zw_sub (ma_nd_of (ks := [0, 1]) rfl (by decide)) (ma_nd_of (ks := [1, 2, 0]) rfl (by decide)) (ma_le_cons rfl (ma_le_cons rfl (ma_le_nil _))) h
      · intro hc
        rw [if_neg hc] at h
        refine zw_push hm_89 dX7_thingFrom_11 (v := .inr (.inr (some 69))) rfl ?_
        refine zw_gf hm_89 dX7_thingFrom_12 (v := .inr (.inr (some 71))) (zT_is hS s_69) (zT_t hS s_69) rfl f_7_17_7 (zT_f hS r_69_1) ?_
        refine zw_push hm_89 dX7_thingFrom_15 (v := .inl l1) rfl ?_
        obtain ⟨hg, h⟩ := h
        refine zw_ia hm_89 dX7_thingFrom_16 (zT_is hS s_71) (zT_h hS s_71) rfl hg ?_
        show ma_wp X (d - 1) (w - 22) 89 17 [(0, .inr (.inr (some 69))), (1, .inl l1)] [.inl (mI S 71 l1.toNatClampNeg)] S _
        refine zw_goto hm_89 dX7_thingFrom_17 (t := 21) rfl ?_
        refine zw_sto hm_89 dX7_thingFrom_21 [(2, .inl (mI S 71 l1.toNatClampNeg)), (0, .inr (.inr (some 69))), (1, .inl l1)] rfl rfl rfl ?_
        refine zw_push hm_89 dX7_thingFrom_22 (v := .inl (mI S 71 l1.toNatClampNeg)) rfl ?_
        refine zw_if0 hm_89 dX7_thingFrom_23 (t := 42) rfl zc0_lt ?_ ?_
        · intro hc
          rw [if_pos hc] at h
          refine zw_push hm_89 dX7_thingFrom_42 (v := .inr (.inr none)) rfl ?_
          refine zw_aret hm_89 dX7_thingFrom_43 ?_
          show ma_wp X d w 13 18 [(0, .inr (.inr (some 82))), (1, .inl l1)] [.inr (.inr none)] S _
          refine zw_sto hm_13 dX0_comeFromDirty_18 [(2, .inr (.inr none)), (0, .inr (.inr (some 82))), (1, .inl l1)] rfl rfl rfl ?_
          refine zw_push hm_13 dX0_comeFromDirty_19 (v := .inr (.inr none)) rfl ?_
          refine zw_ifnonnull hm_13 dX0_comeFromDirty_20 (t := 29) rfl (fun _ => ?_) (fun _ z => by cases z)
          refine zw_sto hm_13 dX0_comeFromDirty_23 [(1, .inl (l1 + (1 : Int32))), (2, .inr (.inr none)), (0, .inr (.inr (some 82)))] rfl rfl rfl ?_
          refine zw_goto hm_13 dX0_comeFromDirty_26 (t := 41) rfl ?_
          refine zw_goto hm_13 dX0_comeFromDirty_41 (t := 2) rfl ?_
          exact zw_sub (ma_nd_of (ks := [0, 1]) rfl (by decide)) (ma_nd_of (ks := [1, 2, 0]) rfl (by decide)) (ma_le_cons rfl (ma_le_cons rfl (ma_le_nil _))) h
        · intro hc
          rw [if_neg hc] at h
          refine zw_push hm_89 dX7_thingFrom_26 (v := .inl (mI S 71 l1.toNatClampNeg)) rfl ?_
          refine zw_push hm_89 dX7_thingFrom_27 (v := .inl (512 : Int32)) rfl ?_
          refine zw_if2 hm_89 dX7_thingFrom_30 (t := 42) rfl zc2_ge ?_ ?_
          · intro hc
            rw [if_pos hc] at h
            refine zw_push hm_89 dX7_thingFrom_42 (v := .inr (.inr none)) rfl ?_
            refine zw_aret hm_89 dX7_thingFrom_43 ?_
            show ma_wp X d w 13 18 [(0, .inr (.inr (some 82))), (1, .inl l1)] [.inr (.inr none)] S _
            refine zw_sto hm_13 dX0_comeFromDirty_18 [(2, .inr (.inr none)), (0, .inr (.inr (some 82))), (1, .inl l1)] rfl rfl rfl ?_
            refine zw_push hm_13 dX0_comeFromDirty_19 (v := .inr (.inr none)) rfl ?_
            refine zw_ifnonnull hm_13 dX0_comeFromDirty_20 (t := 29) rfl (fun _ => ?_) (fun _ z => by cases z)
            refine zw_sto hm_13 dX0_comeFromDirty_23 [(1, .inl (l1 + (1 : Int32))), (2, .inr (.inr none)), (0, .inr (.inr (some 82)))] rfl rfl rfl ?_
            refine zw_goto hm_13 dX0_comeFromDirty_26 (t := 41) rfl ?_
            refine zw_goto hm_13 dX0_comeFromDirty_41 (t := 2) rfl ?_
            exact zw_sub (ma_nd_of (ks := [0, 1]) rfl (by decide)) (ma_nd_of (ks := [1, 2, 0]) rfl (by decide)) (ma_le_cons rfl (ma_le_cons rfl (ma_le_nil _))) h
          · intro hc
            rw [if_neg hc] at h
            refine zw_push hm_89 dX7_thingFrom_33 (v := .inr (.inr (some 69))) rfl ?_
            refine zw_gf hm_89 dX7_thingFrom_34 (v := .inr (.inr (some 70))) (zT_is hS s_69) (zT_t hS s_69) rfl f_7_11_7 (zT_f hS r_69_0) ?_
            refine zw_push hm_89 dX7_thingFrom_37 (v := .inl (mI S 71 l1.toNatClampNeg)) rfl ?_
            obtain ⟨hg, h⟩ := h
            refine zw_aa hm_89 dX7_thingFrom_38 (zT_is hS s_70) (zT_h hS s_70) rfl rfl hg rfl ?_
            show ma_wp X (d - 1) (w - 22) 89 39 [(2, .inl (mI S 71 l1.toNatClampNeg)), (0, .inr (.inr (some 69))), (1, .inl l1)] [.inr (.inr (mR S 70 (mI S 71 l1.toNatClampNeg).toNatClampNeg))] S _
            refine zw_goto hm_89 dX7_thingFrom_39 (t := 43) rfl ?_
            refine zw_aret hm_89 dX7_thingFrom_43 ?_
            show ma_wp X d w 13 18 [(0, .inr (.inr (some 82))), (1, .inl l1)] [.inr (.inr (mR S 70 (mI S 71 l1.toNatClampNeg).toNatClampNeg))] S _
            refine zw_sto hm_13 dX0_comeFromDirty_18 [(2, .inr (.inr (mR S 70 (mI S 71 l1.toNatClampNeg).toNatClampNeg))), (0, .inr (.inr (some 82))), (1, .inl l1)] rfl rfl rfl ?_
            refine zw_push hm_13 dX0_comeFromDirty_19 (v := .inr (.inr (mR S 70 (mI S 71 l1.toNatClampNeg).toNatClampNeg))) rfl ?_
            refine zw_ifnonnull hm_13 dX0_comeFromDirty_20 (t := 29) rfl ?_ ?_
            · intro hc
              have h := h.1 hc
              (try rw [hc])
              show ma_wp X d w 13 23 [(2, .inr (.inr none)), (0, .inr (.inr (some 82))), (1, .inl l1)] [] S _
              refine zw_sto hm_13 dX0_comeFromDirty_23 [(1, .inl (l1 + (1 : Int32))), (2, .inr (.inr none)), (0, .inr (.inr (some 82)))] rfl rfl rfl ?_
              refine zw_goto hm_13 dX0_comeFromDirty_26 (t := 41) rfl ?_
              refine zw_goto hm_13 dX0_comeFromDirty_41 (t := 2) rfl ?_
              exact zw_sub (ma_nd_of (ks := [0, 1]) rfl (by decide)) (ma_nd_of (ks := [1, 2, 0]) rfl (by decide)) (ma_le_cons rfl (ma_le_cons rfl (ma_le_nil _))) h
            · intro c1 hc
              have h := h.2 c1 hc
              (try rw [hc])
              show ma_wp X d w 13 29 [(2, .inr (.inr (some c1))), (0, .inr (.inr (some 82))), (1, .inl l1)] [] S _
              refine zw_push hm_13 dX0_comeFromDirty_29 (v := .inl l1) rfl ?_
              refine zw_push hm_13 dX0_comeFromDirty_30 (v := .inr (.inr (some c1))) rfl ?_
              obtain ⟨hg, h⟩ := h
              refine zw_gf hm_13 dX0_comeFromDirty_31 (v := .inl (mI S c1 2)) (zT_tis hS hg) (zT_tt hS hg) rfl f_1_67_9 rfl ?_
              refine zw_stk hm_13 dX0_comeFromDirty_34 (st₉ := [.inl (l1 + (mI S c1 2))]) rfl rfl ?_
              refine zw_sto hm_13 dX0_comeFromDirty_35 [(1, .inl (l1 + (mI S c1 2))), (2, .inr (.inr (some c1))), (0, .inr (.inr (some 82)))] rfl rfl rfl ?_
              refine zw_push hm_13 dX0_comeFromDirty_36 (v := .inr (.inr (some 82))) rfl ?_
              refine zw_push hm_13 dX0_comeFromDirty_37 (v := .inr (.inr (some c1))) rfl ?_
              refine zw_cv hm_13 dX0_comeFromDirty_38 v_1_132_1 hm_14 [.inr (.inr (some c1))] [] rfl (zT_rt hS s_82 rfl) ⟨by omega, by omega⟩ rfl (zw_mono h (zv_go ?_ ?_))
              · intro S2 hv
                obtain ⟨hS2, h⟩ := hv
                refine zw_goto hm_13 dX0_comeFromDirty_41 (t := 2) rfl ?_
                exact zw_sub (ma_nd_of (ks := [0, 1]) rfl (by decide)) (ma_nd_of (ks := [1, 2, 0]) rfl (by decide)) (ma_le_cons rfl (ma_le_cons rfl (ma_le_nil _))) h
              · intro x S9 hx
                exact ⟨by decide, hx⟩
theorem lp_13_82_sy_2 {X : Nat × (Nat → Int32)} {d w : Nat} {f : Nat → Nat → Int32} {r : Nat → Nat → Option Nat} {C Z N : Nat} {Q : Option ma_V ⊕ Nat → ma_S → Prop} {ab : Nat→Nat→Int32} {R : zRT} (hd : 2 ≤ d) (hw : 48 ≤ w) (K : ∀ S₉, zI f r C Z N S₉ → (xB S₉ R) → (aG S₉ = gDp ab (ab 87 10).toInt 0) → Q (.inl none) S₉) : ∀ (n : Nat) (S : ma_S) (l1 : Int32), (400000 - l1.toInt).toNat = n → zI f r C Z N S → (0 ≤ l1.toInt) → ((mI S 82 6).toInt ≤ 400000) → (xB S R) → (zS1 (aG S)) → (gDp (aG S) (mI S 82 6).toInt l1.toInt = gDp ab (ab 87 10).toInt 0) → ma_wp X d w 13 2 [(0, .inr (.inr (some 82))), (1, .inl l1)] [] S Q := by
  intro n
  induction n using Nat.strongRecOn with
  | _ n IH =>
    intro S l1 hmu hI  hi0 hi1 hi2 hi3 hi4
    refine g_13_82_sy_2 l1 (by omega) (by omega) (zG_T hI) ?_
    have q1 : (mI S 82 6).toInt = (f 82 6).toInt := zG_zi hI rfl
    have b2 := i_bd (mI S 82 6)
    have b3 := i_bd l1
    refine zd (fun h4 => ?_) (fun h4 => ?_)
    · skip
      have g5 := i_le h4
      exact K _ hI (show xB S R from by first | (exact (xC_o (W := 75) hi2).2)) (show aG S = gDp ab (ab 87 10).toInt 0 from by first | (exact (Dp_e (by omega)).symm.trans hi4))
    · skip
      have g6 := i_nle h4
      have li7 : (0 : Int32).toInt = 0 := rfl
      refine zd (fun h8 => ?_) (fun h8 => ?_)
      · skip
        have g9 := i_lt h8
        first | have e10 : (l1 + (1 : Int32)).toInt = l1.toInt + (1) := i_addk rfl (by omega) (by omega) | have b11 := i_bd (l1 + (1 : Int32))
        exact IH _ (by omega) _ ((l1 + (1 : Int32))) rfl hI (by omega) (show (mI S 82 6).toInt ≤ 400000 from by omega) (show xB S R from by first | (exact (xC_o (W := 75) hi2).2)) (show zS1 (aG S) from by first | (exact hi3)) (show gDp (aG S) (mI S 82 6).toInt ((l1 + (1 : Int32))).toInt = gDp ab (ab 87 10).toInt 0 from by first | (have o := (ob_n1 (a := aG S) (p := l1.toInt) (by omega)); rw [show (l1 + (1 : Int32)).toInt = l1.toInt + 1 from by omega]; exact (Dp_fr (by omega) (ob_neg o)).symm.trans hi4) | (have o := (yb_n2 (S := S) (x := l1) (by omega)); rw [show (l1 + (1 : Int32)).toInt = l1.toInt + 1 from by omega]; exact (Dp_fr (by omega) (ob_neg o)).symm.trans hi4))
      · skip
        have g12 := i_nlt h8
        have li13 : (4500 : Int32).toInt = 4500 := rfl
        refine zd (fun h14 => ?_) (fun h14 => ?_)
        · skip
          have g15 := i_le h14
          first | have e16 : (l1 + (1 : Int32)).toInt = l1.toInt + (1) := i_addk rfl (by omega) (by omega) | have b17 := i_bd (l1 + (1 : Int32))
          exact IH _ (by omega) _ ((l1 + (1 : Int32))) rfl hI (by omega) (show (mI S 82 6).toInt ≤ 400000 from by omega) (show xB S R from by first | (exact (xC_o (W := 75) hi2).2)) (show zS1 (aG S) from by first | (exact hi3)) (show gDp (aG S) (mI S 82 6).toInt ((l1 + (1 : Int32))).toInt = gDp ab (ab 87 10).toInt 0 from by first | (have o := (ob_n1 (a := aG S) (p := l1.toInt) (by omega)); rw [show (l1 + (1 : Int32)).toInt = l1.toInt + 1 from by omega]; exact (Dp_fr (by omega) (ob_neg o)).symm.trans hi4) | (have o := (yb_n2 (S := S) (x := l1) (by omega)); rw [show (l1 + (1 : Int32)).toInt = l1.toInt + 1 from by omega]; exact (Dp_fr (by omega) (ob_neg o)).symm.trans hi4))
        · skip
          have g18 := i_nle h14
          refine ⟨i_ix (by omega) (by omega), ?_⟩
          have b19 := i_bd (mI S 71 l1.toNatClampNeg)
          refine zd (fun h20 => ?_) (fun h20 => ?_)
          · skip
            have g21 := i_lt h20
            first | have e22 : (l1 + (1 : Int32)).toInt = l1.toInt + (1) := i_addk rfl (by omega) (by omega) | have b23 := i_bd (l1 + (1 : Int32))
            exact IH _ (by omega) _ ((l1 + (1 : Int32))) rfl hI (by omega) (show (mI S 82 6).toInt ≤ 400000 from by omega) (show xB S R from by first | (exact (xC_o (W := 75) hi2).2)) (show zS1 (aG S) from by first | (exact hi3)) (show gDp (aG S) (mI S 82 6).toInt ((l1 + (1 : Int32))).toInt = gDp ab (ab 87 10).toInt 0 from by first | (have o := (ob_n1 (a := aG S) (p := l1.toInt) (by omega)); rw [show (l1 + (1 : Int32)).toInt = l1.toInt + 1 from by omega]; exact (Dp_fr (by omega) (ob_neg o)).symm.trans hi4) | (have o := (yb_n2 (S := S) (x := l1) (by omega)); rw [show (l1 + (1 : Int32)).toInt = l1.toInt + 1 from by omega]; exact (Dp_fr (by omega) (ob_neg o)).symm.trans hi4))
          · skip
            have g24 := i_nlt h20
            have li25 : (512 : Int32).toInt = 512 := rfl
            refine zd (fun h26 => ?_) (fun h26 => ?_)
            · skip
              have g27 := i_le h26
              first | have e28 : (l1 + (1 : Int32)).toInt = l1.toInt + (1) := i_addk rfl (by omega) (by omega) | have b29 := i_bd (l1 + (1 : Int32))
              exact IH _ (by omega) _ ((l1 + (1 : Int32))) rfl hI (by omega) (show (mI S 82 6).toInt ≤ 400000 from by omega) (show xB S R from by first | (exact (xC_o (W := 75) hi2).2)) (show zS1 (aG S) from by first | (exact hi3)) (show gDp (aG S) (mI S 82 6).toInt ((l1 + (1 : Int32))).toInt = gDp ab (ab 87 10).toInt 0 from by first | (have o := (ob_n1 (a := aG S) (p := l1.toInt) (by omega)); rw [show (l1 + (1 : Int32)).toInt = l1.toInt + 1 from by omega]; exact (Dp_fr (by omega) (ob_neg o)).symm.trans hi4) | (have o := (yb_n2 (S := S) (x := l1) (by omega)); rw [show (l1 + (1 : Int32)).toInt = l1.toInt + 1 from by omega]; exact (Dp_fr (by omega) (ob_neg o)).symm.trans hi4))
            · skip
              have g30 := i_nle h26
              refine ⟨i_ix (by omega) (by omega), ?_⟩
              refine ⟨fun hc => ?_, fun c1 hc => ?_⟩
              · skip
                have rn_c1 : zTa R (mI S 71 l1.toNatClampNeg) = none := (ta_rd (y := (mI S 71 l1.toNatClampNeg)) hi2 (by omega) (by omega)).symm.trans hc
                first | have e31 : (l1 + (1 : Int32)).toInt = l1.toInt + (1) := i_addk rfl (by omega) (by omega) | have b32 := i_bd (l1 + (1 : Int32))
                exact IH _ (by omega) _ ((l1 + (1 : Int32))) rfl hI (by omega) (show (mI S 82 6).toInt ≤ 400000 from by omega) (show xB S R from by first | (exact (xC_o (W := 75) hi2).2)) (show zS1 (aG S) from by first | (exact hi3)) (show gDp (aG S) (mI S 82 6).toInt ((l1 + (1 : Int32))).toInt = gDp ab (ab 87 10).toInt 0 from by first | (have o := (yb_n3 (x := l1) hi2 rn_c1); rw [show (l1 + (1 : Int32)).toInt = l1.toInt + 1 from by omega]; exact (Dp_fr (by omega) (ob_neg o)).symm.trans hi4))
              · skip
                have th_c1 := (fun _ z => zG_70 hI (c := 70) (by decide) z) c1 hc
                have rg_c1 : zTa R (mI S 71 l1.toNatClampNeg) = some c1 := (ta_rd (y := (mI S 71 l1.toNatClampNeg)) hi2 (by omega) (by omega)).symm.trans hc
                refine ⟨zG_n hI th_c1, ?_⟩
                refine sp_14_82_sy (ab := (aG S)) (R := R) (y := ((mI S 71 l1.toNatClampNeg))) c1 (by omega) (by omega) hI th_c1 (show xB S R from by first | (exact (xC_o (W := 75) hi2).2)) (show aG S = (aG S) from by first | (exact rfl)) (show zTa R ((mI S 71 l1.toNatClampNeg)) = some c1 from by first | (exact rg_c1)) (fun S2 hI_S2 rp0_S2 rp1_S2 => zv_n ⟨zG_T hI_S2, ?_⟩)
                have rp0_S2 : xB S2 R := rp0_S2
                have rp1_S2 : aG S2 = gDw (aG S) ((mI S 71 l1.toNatClampNeg)).toNatClampNeg 0 := rp1_S2
                have f33 := zG_th hI th_c1
                first | have e34 : (l1 + (mI S c1 2)).toInt = l1.toInt + (mI S c1 2).toInt := i_add (by omega) (by omega) | have b35 := i_bd (l1 + (mI S c1 2))
                have q36 : (mI S2 82 6).toInt = (f 82 6).toInt := zG_zi hI_S2 rfl
                have b37 := i_bd (mI S2 82 6)
                exact IH _ (by omega) _ ((l1 + (mI S c1 2))) rfl hI_S2 (by omega) (show (mI S2 82 6).toInt ≤ 400000 from by omega) (show xB S2 R from by first | (exact (xC_o (W := 75) rp0_S2).2)) (show zS1 (aG S2) from by first | (rw [rp1_S2]; exact S1_dw hi3)) (show gDp (aG S2) (mI S2 82 6).toInt ((l1 + (mI S c1 2))).toInt = gDp ab (ab 87 10).toInt 0 from by first | (have o := yb_y (x := l1) hi2 rg_c1 (by omega) (by omega); have ty := xB_th (W := 75) hi2 rg_c1; have ob0 : 0 ≤ (zOb (aG S) l1.toInt).toInt := (by rw [o.1]; exact ty.1); have z := Dp_go (e := (mI S 82 6).toInt) hi3 (by omega) ob0; rw [o.1, o.2] at z; rw [rp1_S2, (show mI S2 82 6 = mI S 82 6 from (zG_z hI_S2 rfl).trans (zG_z hI rfl).symm)]; refine Eq.trans ?_ (z.symm.trans hi4); congr 1 <;> omega))
theorem sp_13_82_sy {X : Nat × (Nat → Int32)} {d w : Nat} {f : Nat → Nat → Int32} {r : Nat → Nat → Option Nat} {C Z N : Nat} {Q : Option ma_V ⊕ Nat → ma_S → Prop} {ab : Nat→Nat→Int32} {R : zRT} {S : ma_S}  (hd : 2 ≤ d) (hw : 48 ≤ w) (hI : zI f r C Z N S) (hpre0 : xB S R) (hpre1 : aG S = ab) (hpre2 : zS1 (aG S)) (hpre3 : (mI S 82 6).toInt ≤ 400000) (K : ∀ S₉, zI f r C Z N S₉ → (xB S₉ R) → (aG S₉ = gDp ab (ab 87 10).toInt 0) → Q (.inl none) S₉) : ma_wp X d w 13 0 [(0, .inr (.inr (some 82)))] [] S Q := by
  refine g_13_82_sy_0  (by omega) (by omega) (zG_T hI) ?_
  have q1 : (mI S 82 6).toInt = (f 82 6).toInt := zG_zi hI rfl
  have b2 := i_bd (mI S 82 6)
  have li3 : (0 : Int32).toInt = 0 := rfl
  exact lp_13_82_sy_2 (by omega) (by omega) K _ _ ((0 : Int32)) rfl hI (by omega) (show (mI S 82 6).toInt ≤ 400000 from by omega) (show xB S R from by first | (exact (xC_o (W := 75) hpre0).2)) (show zS1 (aG S) from by first | (exact hpre2)) (show gDp (aG S) (mI S 82 6).toInt ((0 : Int32)).toInt = gDp ab (ab 87 10).toInt 0 from by first | (have e10 : (ab 87 10).toInt = (mI S 82 6).toInt := (by rw [← hpre1]; rfl); rw [hpre1, e10]; rfl))

/-! from 95.u20 -/
/-! AGES, the class (written by wip/tools/gen15y.py) -/
theorem g_8_82_sy_0 {X : Nat × (Nat → Int32)} {d w : Nat} {S : ma_S} {Q : Option ma_V ⊕ Nat → ma_S → Prop} (t : Nat) (i : Int32) (x : Option Nat) (hd : 1 ≤ d) (hw : 22 ≤ w) (hS : zT S) (h : if (mI S 82 5) ≤ 0 then ((x = none → Q (.inl none) S) ∧ (∀ c1, x = some c1 → (126 ≤ t ∧ t < mN S) ∧ (if (mI S t 4) < (mI S 82 3) then ((126 ≤ c1 ∧ c1 < mN S) ∧ (if (mI S c1 4) < (mI S 82 3) then (Q (.inl none) S) else (Q (.inl none) S))) else (Q (.inl none) S)))) else ((126 ≤ t ∧ t < mN S) ∧ ((mI S 82 5) ≠ 0 ∧ ((x = none → Q (.inl none) S) ∧ (∀ c2, x = some c2 → (126 ≤ t ∧ t < mN S) ∧ (if (mI S t 4) < (mI S 82 3) then ((126 ≤ c2 ∧ c2 < mN S) ∧ (if (mI S c2 4) < (mI S 82 3) then (Q (.inl none) S) else (if ((((mI S t 4) + (1 : Int32)) + i) / (mI S 82 5)) < 0 then (Q (.inl none) S) else (if (375 : Int32) ≤ ((((mI S t 4) + (1 : Int32)) + i) / (mI S 82 5)) then (Q (.inl none) S) else ((0 ≤ ((((mI S t 4) + (1 : Int32)) + i) / (mI S 82 5)) ∧ ((((mI S t 4) + (1 : Int32)) + i) / (mI S 82 5)).toNatClampNeg < 375) ∧ (Q (.inl none) (ma_put S 83 ((((mI S t 4) + (1 : Int32)) + i) / (mI S 82 5)).toNatClampNeg (.inl (1 : Int32))))))))) else (Q (.inl none) S))))))) : ma_wp X d w 8 0 [(0, .inr (.inr (some 82))), (1, .inr (.inr (some t))), (2, .inl i), (3, .inr (.inr x))] [] S Q := by
  refine zw_push hm_8 dX0_noteReference_0 (v := .inr (.inr (some 82))) rfl ?_
  refine zw_push hm_8 dX0_noteReference_1 (v := .inr (.inr (some t))) rfl ?_
  refine zw_push hm_8 dX0_noteReference_2 (v := .inl i) rfl ?_
  refine zw_cv hm_8 dX0_noteReference_3 v_1_136_1 hm_9 [.inl i, .inr (.inr (some t))] [] rfl (zT_rt hS s_82 rfl) ⟨by omega, by omega⟩ rfl ?_
  show ma_wp X (d - 1) (w - 22) 9 0 [(0, .inr (.inr (some 82))), (1, .inr (.inr (some t))), (2, .inl i)] [] S _
  refine zw_push hm_9 dX0_cardOf_0 (v := .inr (.inr (some 82))) rfl ?_
  refine zw_gf hm_9 dX0_cardOf_1 (v := .inl (mI S 82 5)) (zT_is hS s_82) (zT_t hS s_82) rfl f_1_25_1 rfl ?_
  refine zw_if0 hm_9 dX0_cardOf_4 (t := 23) rfl zc0_le ?_ ?_
  · intro hc
    rw [if_pos hc] at h
    refine zw_push hm_9 dX0_cardOf_23 (v := .inl (-1 : Int32)) rfl ?_
    refine zw_iret hm_9 dX0_cardOf_24 ?_
    show ma_wp X d w 8 6 [(0, .inr (.inr (some 82))), (1, .inr (.inr (some t))), (2, .inl i), (3, .inr (.inr x))] [.inl (-1 : Int32)] S _
    refine zw_sto hm_8 dX0_noteReference_6 [(4, .inl (-1 : Int32)), (0, .inr (.inr (some 82))), (1, .inr (.inr (some t))), (2, .inl i), (3, .inr (.inr x))] rfl rfl rfl ?_
    refine zw_push hm_8 dX0_noteReference_8 (v := .inr (.inr x)) rfl ?_
    refine zw_ifnull hm_8 dX0_noteReference_9 (t := 49) rfl ?_ ?_
    · intro hc
      have h := h.1 hc
      (try rw [hc])
      show ma_wp X d w 8 49 [(4, .inl (-1 : Int32)), (0, .inr (.inr (some 82))), (1, .inr (.inr (some t))), (2, .inl i), (3, .inr (.inr none))] [] S _
      exact zw_vret hm_8 dX0_noteReference_49 h
    · intro c1 hc
      have h := h.2 c1 hc
      (try rw [hc])
      show ma_wp X d w 8 12 [(4, .inl (-1 : Int32)), (0, .inr (.inr (some 82))), (1, .inr (.inr (some t))), (2, .inl i), (3, .inr (.inr (some c1)))] [] S _
      refine zw_push hm_8 dX0_noteReference_12 (v := .inr (.inr (some 82))) rfl ?_
      refine zw_push hm_8 dX0_noteReference_13 (v := .inr (.inr (some t))) rfl ?_
      refine zw_cv hm_8 dX0_noteReference_14 v_1_58_1 hm_7 [.inr (.inr (some t))] [] rfl (zT_rt hS s_82 rfl) ⟨by omega, by omega⟩ rfl ?_
      show ma_wp X (d - 1) (w - 21) 7 0 [(0, .inr (.inr (some 82))), (1, .inr (.inr (some t)))] [] S _
      refine zw_push hm_7 dX0_isYoung_0 (v := .inr (.inr (some t))) rfl ?_
      obtain ⟨hg, h⟩ := h
      refine zw_gf hm_7 dX0_isYoung_1 (v := .inl (mI S t 4)) (zT_tis hS hg) (zT_tt hS hg) rfl f_1_62_9 rfl ?_
      refine zw_push hm_7 dX0_isYoung_4 (v := .inr (.inr (some 82))) rfl ?_
      refine zw_gf hm_7 dX0_isYoung_5 (v := .inl (mI S 82 3)) (zT_is hS s_82) (zT_t hS s_82) rfl f_1_19_1 rfl ?_
      refine zw_if2 hm_7 dX0_isYoung_8 (t := 15) rfl zc2_lt ?_ ?_
      · intro hc
        rw [if_pos hc] at h
        refine zw_push hm_7 dX0_isYoung_15 (v := .inl (0 : Int32)) rfl ?_
        refine zw_bret hm_7 dX0_isYoung_16 (by decide) ?_
        show ma_wp X d w 8 17 [(4, .inl (-1 : Int32)), (0, .inr (.inr (some 82))), (1, .inr (.inr (some t))), (2, .inl i), (3, .inr (.inr (some c1)))] [.inl (0 : Int32)] S _
        refine zw_if0 hm_8 dX0_noteReference_17 (t := 49) rfl zc0_ne (fun hc => absurd hc (by decide)) (fun _ => ?_)
        refine zw_push hm_8 dX0_noteReference_20 (v := .inr (.inr (some 82))) rfl ?_
        refine zw_push hm_8 dX0_noteReference_21 (v := .inr (.inr (some c1))) rfl ?_
        refine zw_cv hm_8 dX0_noteReference_22 v_1_58_1 hm_7 [.inr (.inr (some c1))] [] rfl (zT_rt hS s_82 rfl) ⟨by omega, by omega⟩ rfl ?_
        show ma_wp X (d - 1) (w - 21) 7 0 [(0, .inr (.inr (some 82))), (1, .inr (.inr (some c1)))] [] S _
        refine zw_push hm_7 dX0_isYoung_0 (v := .inr (.inr (some c1))) rfl ?_
        obtain ⟨hg, h⟩ := h
        refine zw_gf hm_7 dX0_isYoung_1 (v := .inl (mI S c1 4)) (zT_tis hS hg) (zT_tt hS hg) rfl f_1_62_9 rfl ?_
        refine zw_push hm_7 dX0_isYoung_4 (v := .inr (.inr (some 82))) rfl ?_
        refine zw_gf hm_7 dX0_isYoung_5 (v := .inl (mI S 82 3)) (zT_is hS s_82) (zT_t hS s_82) rfl f_1_19_1 rfl ?_
        refine zw_if2 hm_7 dX0_isYoung_8 (t := 15) rfl zc2_lt ?_ ?_
        · intro hc
          rw [if_pos hc] at h
          refine zw_push hm_7 dX0_isYoung_15 (v := .inl (0 : Int32)) rfl ?_
          refine zw_bret hm_7 dX0_isYoung_16 (by decide) ?_
          show ma_wp X d w 8 25 [(4, .inl (-1 : Int32)), (0, .inr (.inr (some 82))), (1, .inr (.inr (some t))), (2, .inl i), (3, .inr (.inr (some c1)))] [.inl (0 : Int32)] S _
          refine zw_if0 hm_8 dX0_noteReference_25 (t := 49) rfl zc0_eq (fun _ => ?_) (fun hc => absurd (by decide) hc)
          exact zw_vret hm_8 dX0_noteReference_49 h
        · intro hc
          rw [if_neg hc] at h
          refine zw_push hm_7 dX0_isYoung_11 (v := .inl (1 : Int32)) rfl ?_
          refine zw_goto hm_7 dX0_isYoung_12 (t := 16) rfl ?_
          refine zw_bret hm_7 dX0_isYoung_16 (by decide) ?_
          show ma_wp X d w 8 25 [(4, .inl (-1 : Int32)), (0, .inr (.inr (some 82))), (1, .inr (.inr (some t))), (2, .inl i), (3, .inr (.inr (some c1)))] [.inl (1 : Int32)] S _
          refine zw_if0 hm_8 dX0_noteReference_25 (t := 49) rfl zc0_eq (fun hc => absurd hc (by decide)) (fun _ => ?_)
          refine zw_push hm_8 dX0_noteReference_28 (v := .inl (-1 : Int32)) rfl ?_
          refine zw_if0 hm_8 dX0_noteReference_30 (t := 49) rfl zc0_lt (fun _ => ?_) (fun hc => absurd (by decide) hc)
          exact zw_vret hm_8 dX0_noteReference_49 h
      · intro hc
        rw [if_neg hc] at h
        refine zw_push hm_7 dX0_isYoung_11 (v := .inl (1 : Int32)) rfl ?_
        refine zw_goto hm_7 dX0_isYoung_12 (t := 16) rfl ?_
        refine zw_bret hm_7 dX0_isYoung_16 (by decide) ?_
        show ma_wp X d w 8 17 [(4, .inl (-1 : Int32)), (0, .inr (.inr (some 82))), (1, .inr (.inr (some t))), (2, .inl i), (3, .inr (.inr (some c1)))] [.inl (1 : Int32)] S _
        refine zw_if0 hm_8 dX0_noteReference_17 (t := 49) rfl zc0_ne (fun _ => ?_) (fun hc => absurd (by decide) hc)
        exact zw_vret hm_8 dX0_noteReference_49 h
  · intro hc
    rw [if_neg hc] at h
    refine zw_push hm_9 dX0_cardOf_7 (v := .inr (.inr (some t))) rfl ?_
    obtain ⟨hg, h⟩ := h
    refine zw_gf hm_9 dX0_cardOf_8 (v := .inl (mI S t 4)) (zT_tis hS hg) (zT_tt hS hg) rfl f_1_62_9 rfl ?_
    refine zw_push hm_9 dX0_cardOf_11 (v := .inl (1 : Int32)) rfl ?_
    refine zw_stk hm_9 dX0_cardOf_12 (st₉ := [.inl ((mI S t 4) + (1 : Int32))]) rfl rfl ?_
    refine zw_push hm_9 dX0_cardOf_13 (v := .inl i) rfl ?_
    refine zw_stk hm_9 dX0_cardOf_14 (st₉ := [.inl (((mI S t 4) + (1 : Int32)) + i)]) rfl rfl ?_
    refine zw_push hm_9 dX0_cardOf_15 (v := .inr (.inr (some 82))) rfl ?_
    refine zw_gf hm_9 dX0_cardOf_16 (v := .inl (mI S 82 5)) (zT_is hS s_82) (zT_t hS s_82) rfl f_1_25_1 rfl ?_
    obtain ⟨hg, h⟩ := h
    refine zw_stk hm_9 dX0_cardOf_19 (st₉ := [.inl ((((mI S t 4) + (1 : Int32)) + i) / (mI S 82 5))]) rfl (if_neg hg) ?_
    refine zw_goto hm_9 dX0_cardOf_20 (t := 24) rfl ?_
    refine zw_iret hm_9 dX0_cardOf_24 ?_
    show ma_wp X d w 8 6 [(0, .inr (.inr (some 82))), (1, .inr (.inr (some t))), (2, .inl i), (3, .inr (.inr x))] [.inl ((((mI S t 4) + (1 : Int32)) + i) / (mI S 82 5))] S _
    refine zw_sto hm_8 dX0_noteReference_6 [(4, .inl ((((mI S t 4) + (1 : Int32)) + i) / (mI S 82 5))), (0, .inr (.inr (some 82))), (1, .inr (.inr (some t))), (2, .inl i), (3, .inr (.inr x))] rfl rfl rfl ?_
    refine zw_push hm_8 dX0_noteReference_8 (v := .inr (.inr x)) rfl ?_
    refine zw_ifnull hm_8 dX0_noteReference_9 (t := 49) rfl ?_ ?_
    · intro hc
      have h := h.1 hc
      (try rw [hc])
      show ma_wp X d w 8 49 [(4, .inl ((((mI S t 4) + (1 : Int32)) + i) / (mI S 82 5))), (0, .inr (.inr (some 82))), (1, .inr (.inr (some t))), (2, .inl i), (3, .inr (.inr none))] [] S _
      exact zw_vret hm_8 dX0_noteReference_49 h
    · intro c2 hc
      have h := h.2 c2 hc
      (try rw [hc])
      show ma_wp X d w 8 12 [(4, .inl ((((mI S t 4) + (1 : Int32)) + i) / (mI S 82 5))), (0, .inr (.inr (some 82))), (1, .inr (.inr (some t))), (2, .inl i), (3, .inr (.inr (some c2)))] [] S _
      refine zw_push hm_8 dX0_noteReference_12 (v := .inr (.inr (some 82))) rfl ?_
      refine zw_push hm_8 dX0_noteReference_13 (v := .inr (.inr (some t))) rfl ?_
      refine zw_cv hm_8 dX0_noteReference_14 v_1_58_1 hm_7 [.inr (.inr (some t))] [] rfl (zT_rt hS s_82 rfl) ⟨by omega, by omega⟩ rfl ?_
      show ma_wp X (d - 1) (w - 21) 7 0 [(0, .inr (.inr (some 82))), (1, .inr (.inr (some t)))] [] S _
      refine zw_push hm_7 dX0_isYoung_0 (v := .inr (.inr (some t))) rfl ?_
      obtain ⟨hg, h⟩ := h
      refine zw_gf hm_7 dX0_isYoung_1 (v := .inl (mI S t 4)) (zT_tis hS hg) (zT_tt hS hg) rfl f_1_62_9 rfl ?_
      refine zw_push hm_7 dX0_isYoung_4 (v := .inr (.inr (some 82))) rfl ?_
      refine zw_gf hm_7 dX0_isYoung_5 (v := .inl (mI S 82 3)) (zT_is hS s_82) (zT_t hS s_82) rfl f_1_19_1 rfl ?_
      refine zw_if2 hm_7 dX0_isYoung_8 (t := 15) rfl zc2_lt ?_ ?_
      · intro hc
        rw [if_pos hc] at h
        refine zw_push hm_7 dX0_isYoung_15 (v := .inl (0 : Int32)) rfl ?_
        refine zw_bret hm_7 dX0_isYoung_16 (by decide) ?_
        show ma_wp X d w 8 17 [(4, .inl ((((mI S t 4) + (1 : Int32)) + i) / (mI S 82 5))), (0, .inr (.inr (some 82))), (1, .inr (.inr (some t))), (2, .inl i), (3, .inr (.inr (some c2)))] [.inl (0 : Int32)] S _
        refine zw_if0 hm_8 dX0_noteReference_17 (t := 49) rfl zc0_ne (fun hc => absurd hc (by decide)) (fun _ => ?_)
        refine zw_push hm_8 dX0_noteReference_20 (v := .inr (.inr (some 82))) rfl ?_
        refine zw_push hm_8 dX0_noteReference_21 (v := .inr (.inr (some c2))) rfl ?_
        refine zw_cv hm_8 dX0_noteReference_22 v_1_58_1 hm_7 [.inr (.inr (some c2))] [] rfl (zT_rt hS s_82 rfl) ⟨by omega, by omega⟩ rfl ?_
        show ma_wp X (d - 1) (w - 21) 7 0 [(0, .inr (.inr (some 82))), (1, .inr (.inr (some c2)))] [] S _
        refine zw_push hm_7 dX0_isYoung_0 (v := .inr (.inr (some c2))) rfl ?_
        obtain ⟨hg, h⟩ := h
        refine zw_gf hm_7 dX0_isYoung_1 (v := .inl (mI S c2 4)) (zT_tis hS hg) (zT_tt hS hg) rfl f_1_62_9 rfl ?_
        refine zw_push hm_7 dX0_isYoung_4 (v := .inr (.inr (some 82))) rfl ?_
        refine zw_gf hm_7 dX0_isYoung_5 (v := .inl (mI S 82 3)) (zT_is hS s_82) (zT_t hS s_82) rfl f_1_19_1 rfl ?_
        refine zw_if2 hm_7 dX0_isYoung_8 (t := 15) rfl zc2_lt ?_ ?_
        · intro hc
          rw [if_pos hc] at h
          refine zw_push hm_7 dX0_isYoung_15 (v := .inl (0 : Int32)) rfl ?_
          refine zw_bret hm_7 dX0_isYoung_16 (by decide) ?_
          show ma_wp X d w 8 25 [(4, .inl ((((mI S t 4) + (1 : Int32)) + i) / (mI S 82 5))), (0, .inr (.inr (some 82))), (1, .inr (.inr (some t))), (2, .inl i), (3, .inr (.inr (some c2)))] [.inl (0 : Int32)] S _
          refine zw_if0 hm_8 dX0_noteReference_25 (t := 49) rfl zc0_eq (fun _ => ?_) (fun hc => absurd (by decide) hc)
          exact zw_vret hm_8 dX0_noteReference_49 h
        · intro hc
          rw [if_neg hc] at h
          refine zw_push hm_7 dX0_isYoung_11 (v := .inl (1 : Int32)) rfl ?_
          refine zw_goto hm_7 dX0_isYoung_12 (t := 16) rfl ?_
          refine zw_bret hm_7 dX0_isYoung_16 (by decide) ?_
          show ma_wp X d w 8 25 [(4, .inl ((((mI S t 4) + (1 : Int32)) + i) / (mI S 82 5))), (0, .inr (.inr (some 82))), (1, .inr (.inr (some t))), (2, .inl i), (3, .inr (.inr (some c2)))] [.inl (1 : Int32)] S _
          refine zw_if0 hm_8 dX0_noteReference_25 (t := 49) rfl zc0_eq (fun hc => absurd hc (by decide)) (fun _ => ?_)
          refine zw_push hm_8 dX0_noteReference_28 (v := .inl ((((mI S t 4) + (1 : Int32)) + i) / (mI S 82 5))) rfl ?_
          refine zw_if0 hm_8 dX0_noteReference_30 (t := 49) rfl zc0_lt ?_ ?_
          · intro hc
            rw [if_pos hc] at h
            exact zw_vret hm_8 dX0_noteReference_49 h
          · intro hc
            rw [if_neg hc] at h
            refine zw_push hm_8 dX0_noteReference_33 (v := .inl ((((mI S t 4) + (1 : Int32)) + i) / (mI S 82 5))) rfl ?_
            refine zw_push hm_8 dX0_noteReference_35 (v := .inl (375 : Int32)) rfl ?_
            refine zw_if2 hm_8 dX0_noteReference_38 (t := 49) rfl zc2_ge ?_ ?_
            · intro hc
              rw [if_pos hc] at h
              exact zw_vret hm_8 dX0_noteReference_49 h
            · intro hc
              rw [if_neg hc] at h
              refine zw_push hm_8 dX0_noteReference_41 (v := .inr (.inr (some 82))) rfl ?_
              refine zw_gf hm_8 dX0_noteReference_42 (v := .inr (.inr (some 83))) (zT_is hS s_82) (zT_t hS s_82) rfl f_1_9_1 (zT_f hS r_82_9) ?_
              refine zw_push hm_8 dX0_noteReference_45 (v := .inl ((((mI S t 4) + (1 : Int32)) + i) / (mI S 82 5))) rfl ?_
              refine zw_push hm_8 dX0_noteReference_47 (v := .inl (1 : Int32)) rfl ?_
              obtain ⟨hg, h⟩ := h
              refine zw_ias hm_8 dX0_noteReference_48 (zT_is hS s_83) (zT_h hS s_83) rfl hg ?_
              exact zw_vret hm_8 dX0_noteReference_49 h
      · intro hc
        rw [if_neg hc] at h
        refine zw_push hm_7 dX0_isYoung_11 (v := .inl (1 : Int32)) rfl ?_
        refine zw_goto hm_7 dX0_isYoung_12 (t := 16) rfl ?_
        refine zw_bret hm_7 dX0_isYoung_16 (by decide) ?_
        show ma_wp X d w 8 17 [(4, .inl ((((mI S t 4) + (1 : Int32)) + i) / (mI S 82 5))), (0, .inr (.inr (some 82))), (1, .inr (.inr (some t))), (2, .inl i), (3, .inr (.inr (some c2)))] [.inl (1 : Int32)] S _
        refine zw_if0 hm_8 dX0_noteReference_17 (t := 49) rfl zc0_ne (fun _ => ?_) (fun hc => absurd (by decide) hc)
        exact zw_vret hm_8 dX0_noteReference_49 h
theorem sp_8_82_sy {X : Nat × (Nat → Int32)} {d w : Nat} {f : Nat → Nat → Int32} {r : Nat → Nat → Option Nat} {C Z N : Nat} {Q : Option ma_V ⊕ Nat → ma_S → Prop} {ab : Nat→Nat→Int32} {R : zRT} {yt : Int32} {y : Int32} {S : ma_S} (t : Nat) (i : Int32) (x : Option Nat) (hd : 1 ≤ d) (hw : 22 ≤ w) (hI : zJ82 f r C Z N S) (th_t : 126 ≤ t ∧ t < N) (hq_x : ∀ c, x = some c → 126 ≤ c ∧ c < N) (hpre0 : xB S R) (hpre1 : aG S = ab) (hpre2 : zTa R yt = some t) (hpre3 : x = zTa R y) (hpre4 : 0 ≤ i.toInt) (hpre5 : i.toInt ≤ 61) (K : ∀ S₉, zJ82 f r C Z N S₉ → (xB S₉ R) → (aG S₉ = (gNr ab yt.toNatClampNeg i.toInt y)) → Q (.inl none) S₉) : ma_wp X d w 8 0 [(0, .inr (.inr (some 82))), (1, .inr (.inr (some t))), (2, .inl i), (3, .inr (.inr x))] [] S Q := by
  refine g_8_82_sy_0 t i x (by omega) (by omega) (zG_T hI) ?_
  have b1 := i_bd (mI S 82 5)
  have li2 : (0 : Int32).toInt = 0 := rfl
  refine zd (fun h3 => ?_) (fun h3 => ?_)
  · skip
    have g4 := i_le h3
    refine ⟨fun hc => ?_, fun c1 hc => ?_⟩
    · skip
      have rn_c1 : zTa R y = none := hpre3.symm.trans hc
      exact K _ hI (show xB S R from by first | (exact (xC_o (W := 75) hpre0).2)) (show aG S = (gNr ab yt.toNatClampNeg i.toInt y) from by first | (have tt := xB_th (W := 75) hpre0 hpre2; have e9 : (ab 87 9).toInt = (mI S 82 3).toInt := (by rw [← hpre1]; rfl); have e12 : (ab 87 12).toInt = (mI S 82 5).toInt := (by rw [← hpre1]; rfl); have et : (ab 130 yt.toNatClampNeg).toInt = (mI S t 4).toInt := (by rw [← hpre1, aG_o (by decide) (by decide), ← tt.2.2.2.2.2.1]); unfold gNr; rw [if_neg (fun z => ?_)]; (exact hpre1); (exact xB_nt (W := 75) hpre0 rn_c1 ⟨z.1.1, z.1.2.1, by rw [← aG_o (by decide) (by decide), hpre1]; exact z.1.2.2.1⟩)) | (exfalso; omega))
    · skip
      have th_c1 := hq_x c1 hc
      have rg_c1 : zTa R y = some c1 := hpre3.symm.trans hc
      subst hc
      refine ⟨zG_n hI th_t, ?_⟩
      have f5 := zG_th hI th_t
      have x6 : (mI S 82 3).toInt ≤ (mI S 82 7).toInt ∧ (mI S 82 7).toInt ≤ (mI S 82 3).toInt + (mI S 82 2).toInt := zG_x hI
      have f7 := zG_s hI (0) (1500) (c := 82) (k := 3) (by decide)
      refine zd (fun h8 => ?_) (fun h8 => ?_)
      · skip
        have g9 := i_lt h8
        refine ⟨zG_n hI th_c1, ?_⟩
        have f10 := zG_th hI th_c1
        refine zd (fun h11 => ?_) (fun h11 => ?_)
        · skip
          have g12 := i_lt h11
          exact K _ hI (show xB S R from by first | (exact (xC_o (W := 75) hpre0).2)) (show aG S = (gNr ab yt.toNatClampNeg i.toInt y) from by first | (have tt := xB_th (W := 75) hpre0 hpre2; have e9 : (ab 87 9).toInt = (mI S 82 3).toInt := (by rw [← hpre1]; rfl); have e12 : (ab 87 12).toInt = (mI S 82 5).toInt := (by rw [← hpre1]; rfl); have et : (ab 130 yt.toNatClampNeg).toInt = (mI S t 4).toInt := (by rw [← hpre1, aG_o (by decide) (by decide), ← tt.2.2.2.2.2.1]); have tx := xB_th (W := 75) hpre0 rg_c1; have ex : (ab 130 y.toNatClampNeg).toInt = (mI S c1 4).toInt := (by rw [← hpre1, aG_o (by decide) (by decide), ← tx.2.2.2.2.2.1]); have ea : ab 126 y.toNatClampNeg ≠ 0 := (by rw [← hpre1, aG_o (by decide) (by decide), tx.2.2.2.2.2.2.2.2]; decide); unfold gNr; rw [if_neg (fun z => ?_)]; (exact hpre1); omega) | (have tt := xB_th (W := 75) hpre0 hpre2; have e9 : (ab 87 9).toInt = (mI S 82 3).toInt := (by rw [← hpre1]; rfl); have e12 : (ab 87 12).toInt = (mI S 82 5).toInt := (by rw [← hpre1]; rfl); have et : (ab 130 yt.toNatClampNeg).toInt = (mI S t 4).toInt := (by rw [← hpre1, aG_o (by decide) (by decide), ← tt.2.2.2.2.2.1]); have tx := xB_th (W := 75) hpre0 rg_c1; have ex : (ab 130 y.toNatClampNeg).toInt = (mI S c1 4).toInt := (by rw [← hpre1, aG_o (by decide) (by decide), ← tx.2.2.2.2.2.1]); have ea : ab 126 y.toNatClampNeg ≠ 0 := (by rw [← hpre1, aG_o (by decide) (by decide), tx.2.2.2.2.2.2.2.2]; decide); have d := dy_e hpre0 hpre2 (i := i) (by omega) (by omega) (by omega) (by omega); rw [hpre1] at d; unfold gNr; rw [if_neg (fun z => ?_)]; (exact hpre1); omega) | (exfalso; omega))
        · skip
          have g13 := i_nlt h11
          exact K _ hI (show xB S R from by first | (exact (xC_o (W := 75) hpre0).2)) (show aG S = (gNr ab yt.toNatClampNeg i.toInt y) from by first | (have tt := xB_th (W := 75) hpre0 hpre2; have e9 : (ab 87 9).toInt = (mI S 82 3).toInt := (by rw [← hpre1]; rfl); have e12 : (ab 87 12).toInt = (mI S 82 5).toInt := (by rw [← hpre1]; rfl); have et : (ab 130 yt.toNatClampNeg).toInt = (mI S t 4).toInt := (by rw [← hpre1, aG_o (by decide) (by decide), ← tt.2.2.2.2.2.1]); have tx := xB_th (W := 75) hpre0 rg_c1; have ex : (ab 130 y.toNatClampNeg).toInt = (mI S c1 4).toInt := (by rw [← hpre1, aG_o (by decide) (by decide), ← tx.2.2.2.2.2.1]); have ea : ab 126 y.toNatClampNeg ≠ 0 := (by rw [← hpre1, aG_o (by decide) (by decide), tx.2.2.2.2.2.2.2.2]; decide); unfold gNr; rw [if_neg (fun z => ?_)]; (exact hpre1); omega) | (have tt := xB_th (W := 75) hpre0 hpre2; have e9 : (ab 87 9).toInt = (mI S 82 3).toInt := (by rw [← hpre1]; rfl); have e12 : (ab 87 12).toInt = (mI S 82 5).toInt := (by rw [← hpre1]; rfl); have et : (ab 130 yt.toNatClampNeg).toInt = (mI S t 4).toInt := (by rw [← hpre1, aG_o (by decide) (by decide), ← tt.2.2.2.2.2.1]); have tx := xB_th (W := 75) hpre0 rg_c1; have ex : (ab 130 y.toNatClampNeg).toInt = (mI S c1 4).toInt := (by rw [← hpre1, aG_o (by decide) (by decide), ← tx.2.2.2.2.2.1]); have ea : ab 126 y.toNatClampNeg ≠ 0 := (by rw [← hpre1, aG_o (by decide) (by decide), tx.2.2.2.2.2.2.2.2]; decide); have d := dy_e hpre0 hpre2 (i := i) (by omega) (by omega) (by omega) (by omega); rw [hpre1] at d; unfold gNr; rw [if_neg (fun z => ?_)]; (exact hpre1); omega) | (exfalso; omega))
      · skip
        have g14 := i_nlt h8
        exact K _ hI (show xB S R from by first | (exact (xC_o (W := 75) hpre0).2)) (show aG S = (gNr ab yt.toNatClampNeg i.toInt y) from by first | (have tt := xB_th (W := 75) hpre0 hpre2; have e9 : (ab 87 9).toInt = (mI S 82 3).toInt := (by rw [← hpre1]; rfl); have e12 : (ab 87 12).toInt = (mI S 82 5).toInt := (by rw [← hpre1]; rfl); have et : (ab 130 yt.toNatClampNeg).toInt = (mI S t 4).toInt := (by rw [← hpre1, aG_o (by decide) (by decide), ← tt.2.2.2.2.2.1]); have tx := xB_th (W := 75) hpre0 rg_c1; have ex : (ab 130 y.toNatClampNeg).toInt = (mI S c1 4).toInt := (by rw [← hpre1, aG_o (by decide) (by decide), ← tx.2.2.2.2.2.1]); have ea : ab 126 y.toNatClampNeg ≠ 0 := (by rw [← hpre1, aG_o (by decide) (by decide), tx.2.2.2.2.2.2.2.2]; decide); unfold gNr; rw [if_neg (fun z => ?_)]; (exact hpre1); omega) | (have tt := xB_th (W := 75) hpre0 hpre2; have e9 : (ab 87 9).toInt = (mI S 82 3).toInt := (by rw [← hpre1]; rfl); have e12 : (ab 87 12).toInt = (mI S 82 5).toInt := (by rw [← hpre1]; rfl); have et : (ab 130 yt.toNatClampNeg).toInt = (mI S t 4).toInt := (by rw [← hpre1, aG_o (by decide) (by decide), ← tt.2.2.2.2.2.1]); have tx := xB_th (W := 75) hpre0 rg_c1; have ex : (ab 130 y.toNatClampNeg).toInt = (mI S c1 4).toInt := (by rw [← hpre1, aG_o (by decide) (by decide), ← tx.2.2.2.2.2.1]); have ea : ab 126 y.toNatClampNeg ≠ 0 := (by rw [← hpre1, aG_o (by decide) (by decide), tx.2.2.2.2.2.2.2.2]; decide); have d := dy_e hpre0 hpre2 (i := i) (by omega) (by omega) (by omega) (by omega); rw [hpre1] at d; unfold gNr; rw [if_neg (fun z => ?_)]; (exact hpre1); omega) | (exfalso; omega))
  · skip
    have g15 := i_nle h3
    refine ⟨zG_n hI th_t, ?_⟩
    refine ⟨i_nz (by omega), ?_⟩
    refine ⟨fun hc => ?_, fun c2 hc => ?_⟩
    · skip
      have rn_c2 : zTa R y = none := hpre3.symm.trans hc
      exact K _ hI (show xB S R from by first | (exact (xC_o (W := 75) hpre0).2)) (show aG S = (gNr ab yt.toNatClampNeg i.toInt y) from by first | (have tt := xB_th (W := 75) hpre0 hpre2; have e9 : (ab 87 9).toInt = (mI S 82 3).toInt := (by rw [← hpre1]; rfl); have e12 : (ab 87 12).toInt = (mI S 82 5).toInt := (by rw [← hpre1]; rfl); have et : (ab 130 yt.toNatClampNeg).toInt = (mI S t 4).toInt := (by rw [← hpre1, aG_o (by decide) (by decide), ← tt.2.2.2.2.2.1]); unfold gNr; rw [if_neg (fun z => ?_)]; (exact hpre1); (exact xB_nt (W := 75) hpre0 rn_c2 ⟨z.1.1, z.1.2.1, by rw [← aG_o (by decide) (by decide), hpre1]; exact z.1.2.2.1⟩)) | (exfalso; omega))
    · skip
      have th_c2 := hq_x c2 hc
      have rg_c2 : zTa R y = some c2 := hpre3.symm.trans hc
      subst hc
      refine ⟨zG_n hI th_t, ?_⟩
      have f16 := zG_th hI th_t
      have x17 : (mI S 82 3).toInt ≤ (mI S 82 7).toInt ∧ (mI S 82 7).toInt ≤ (mI S 82 3).toInt + (mI S 82 2).toInt := zG_x hI
      have f18 := zG_s hI (0) (1500) (c := 82) (k := 3) (by decide)
      refine zd (fun h19 => ?_) (fun h19 => ?_)
      · skip
        have g20 := i_lt h19
        refine ⟨zG_n hI th_c2, ?_⟩
        have f21 := zG_th hI th_c2
        refine zd (fun h22 => ?_) (fun h22 => ?_)
        · skip
          have g23 := i_lt h22
          exact K _ hI (show xB S R from by first | (exact (xC_o (W := 75) hpre0).2)) (show aG S = (gNr ab yt.toNatClampNeg i.toInt y) from by first | (have tt := xB_th (W := 75) hpre0 hpre2; have e9 : (ab 87 9).toInt = (mI S 82 3).toInt := (by rw [← hpre1]; rfl); have e12 : (ab 87 12).toInt = (mI S 82 5).toInt := (by rw [← hpre1]; rfl); have et : (ab 130 yt.toNatClampNeg).toInt = (mI S t 4).toInt := (by rw [← hpre1, aG_o (by decide) (by decide), ← tt.2.2.2.2.2.1]); have tx := xB_th (W := 75) hpre0 rg_c2; have ex : (ab 130 y.toNatClampNeg).toInt = (mI S c2 4).toInt := (by rw [← hpre1, aG_o (by decide) (by decide), ← tx.2.2.2.2.2.1]); have ea : ab 126 y.toNatClampNeg ≠ 0 := (by rw [← hpre1, aG_o (by decide) (by decide), tx.2.2.2.2.2.2.2.2]; decide); unfold gNr; rw [if_neg (fun z => ?_)]; (exact hpre1); omega) | (have tt := xB_th (W := 75) hpre0 hpre2; have e9 : (ab 87 9).toInt = (mI S 82 3).toInt := (by rw [← hpre1]; rfl); have e12 : (ab 87 12).toInt = (mI S 82 5).toInt := (by rw [← hpre1]; rfl); have et : (ab 130 yt.toNatClampNeg).toInt = (mI S t 4).toInt := (by rw [← hpre1, aG_o (by decide) (by decide), ← tt.2.2.2.2.2.1]); have tx := xB_th (W := 75) hpre0 rg_c2; have ex : (ab 130 y.toNatClampNeg).toInt = (mI S c2 4).toInt := (by rw [← hpre1, aG_o (by decide) (by decide), ← tx.2.2.2.2.2.1]); have ea : ab 126 y.toNatClampNeg ≠ 0 := (by rw [← hpre1, aG_o (by decide) (by decide), tx.2.2.2.2.2.2.2.2]; decide); have d := dy_e hpre0 hpre2 (i := i) (by omega) (by omega) (by omega) (by omega); rw [hpre1] at d; unfold gNr; rw [if_neg (fun z => ?_)]; (exact hpre1); omega) | (exfalso; omega))
        · skip
          have g24 := i_nlt h22
          first | have e25 : ((mI S t 4) + (1 : Int32)).toInt = (mI S t 4).toInt + (1) := i_addk rfl (by omega) (by omega) | have b26 := i_bd ((mI S t 4) + (1 : Int32))
          have b27 := i_bd i
          first | have e28 : (((mI S t 4) + (1 : Int32)) + i).toInt = ((mI S t 4) + (1 : Int32)).toInt + i.toInt := i_add (by omega) (by omega) | have b29 := i_bd (((mI S t 4) + (1 : Int32)) + i)
          first | have f30 := i_div (x := (((mI S t 4) + (1 : Int32)) + i)) (y := (mI S 82 5)) (by omega) (by omega) | have b31 := i_bd ((((mI S t 4) + (1 : Int32)) + i) / (mI S 82 5))
          refine zd (fun h32 => ?_) (fun h32 => ?_)
          · skip
            have g33 := i_lt h32
            exact K _ hI (show xB S R from by first | (exact (xC_o (W := 75) hpre0).2)) (show aG S = (gNr ab yt.toNatClampNeg i.toInt y) from by first | (have tt := xB_th (W := 75) hpre0 hpre2; have e9 : (ab 87 9).toInt = (mI S 82 3).toInt := (by rw [← hpre1]; rfl); have e12 : (ab 87 12).toInt = (mI S 82 5).toInt := (by rw [← hpre1]; rfl); have et : (ab 130 yt.toNatClampNeg).toInt = (mI S t 4).toInt := (by rw [← hpre1, aG_o (by decide) (by decide), ← tt.2.2.2.2.2.1]); have tx := xB_th (W := 75) hpre0 rg_c2; have ex : (ab 130 y.toNatClampNeg).toInt = (mI S c2 4).toInt := (by rw [← hpre1, aG_o (by decide) (by decide), ← tx.2.2.2.2.2.1]); have ea : ab 126 y.toNatClampNeg ≠ 0 := (by rw [← hpre1, aG_o (by decide) (by decide), tx.2.2.2.2.2.2.2.2]; decide); unfold gNr; rw [if_neg (fun z => ?_)]; (exact hpre1); omega) | (have tt := xB_th (W := 75) hpre0 hpre2; have e9 : (ab 87 9).toInt = (mI S 82 3).toInt := (by rw [← hpre1]; rfl); have e12 : (ab 87 12).toInt = (mI S 82 5).toInt := (by rw [← hpre1]; rfl); have et : (ab 130 yt.toNatClampNeg).toInt = (mI S t 4).toInt := (by rw [← hpre1, aG_o (by decide) (by decide), ← tt.2.2.2.2.2.1]); have tx := xB_th (W := 75) hpre0 rg_c2; have ex : (ab 130 y.toNatClampNeg).toInt = (mI S c2 4).toInt := (by rw [← hpre1, aG_o (by decide) (by decide), ← tx.2.2.2.2.2.1]); have ea : ab 126 y.toNatClampNeg ≠ 0 := (by rw [← hpre1, aG_o (by decide) (by decide), tx.2.2.2.2.2.2.2.2]; decide); have d := dy_e hpre0 hpre2 (i := i) (by omega) (by omega) (by omega) (by omega); rw [hpre1] at d; unfold gNr; rw [if_neg (fun z => ?_)]; (exact hpre1); omega) | (exfalso; omega))
          · skip
            have g34 := i_nlt h32
            have li35 : (375 : Int32).toInt = 375 := rfl
            refine zd (fun h36 => ?_) (fun h36 => ?_)
            · skip
              have g37 := i_le h36
              exact K _ hI (show xB S R from by first | (exact (xC_o (W := 75) hpre0).2)) (show aG S = (gNr ab yt.toNatClampNeg i.toInt y) from by first | (have tt := xB_th (W := 75) hpre0 hpre2; have e9 : (ab 87 9).toInt = (mI S 82 3).toInt := (by rw [← hpre1]; rfl); have e12 : (ab 87 12).toInt = (mI S 82 5).toInt := (by rw [← hpre1]; rfl); have et : (ab 130 yt.toNatClampNeg).toInt = (mI S t 4).toInt := (by rw [← hpre1, aG_o (by decide) (by decide), ← tt.2.2.2.2.2.1]); have tx := xB_th (W := 75) hpre0 rg_c2; have ex : (ab 130 y.toNatClampNeg).toInt = (mI S c2 4).toInt := (by rw [← hpre1, aG_o (by decide) (by decide), ← tx.2.2.2.2.2.1]); have ea : ab 126 y.toNatClampNeg ≠ 0 := (by rw [← hpre1, aG_o (by decide) (by decide), tx.2.2.2.2.2.2.2.2]; decide); unfold gNr; rw [if_neg (fun z => ?_)]; (exact hpre1); omega) | (have tt := xB_th (W := 75) hpre0 hpre2; have e9 : (ab 87 9).toInt = (mI S 82 3).toInt := (by rw [← hpre1]; rfl); have e12 : (ab 87 12).toInt = (mI S 82 5).toInt := (by rw [← hpre1]; rfl); have et : (ab 130 yt.toNatClampNeg).toInt = (mI S t 4).toInt := (by rw [← hpre1, aG_o (by decide) (by decide), ← tt.2.2.2.2.2.1]); have tx := xB_th (W := 75) hpre0 rg_c2; have ex : (ab 130 y.toNatClampNeg).toInt = (mI S c2 4).toInt := (by rw [← hpre1, aG_o (by decide) (by decide), ← tx.2.2.2.2.2.1]); have ea : ab 126 y.toNatClampNeg ≠ 0 := (by rw [← hpre1, aG_o (by decide) (by decide), tx.2.2.2.2.2.2.2.2]; decide); have d := dy_e hpre0 hpre2 (i := i) (by omega) (by omega) (by omega) (by omega); rw [hpre1] at d; unfold gNr; rw [if_neg (fun z => ?_)]; (exact hpre1); omega) | (exfalso; omega))
            · skip
              have g38 := i_nle h36
              refine ⟨i_ix (by omega) (by omega), ?_⟩
              have hI39 : zJ82 f r C Z N (ma_put S 83 ((((mI S t 4) + (1 : Int32)) + i) / (mI S 82 5)).toNatClampNeg (.inl (1 : Int32))) := zG_fa hI rfl (by decide) (by decide) (by decide) (show zJ82_x (mI S) from zG_x hI)
              exact K _ hI39 (show xB (ma_put S 83 ((((mI S t 4) + (1 : Int32)) + i) / (mI S 82 5)).toNatClampNeg (.inl (1 : Int32))) R from by first | (exact (xC_n (c := 83) (k := ((((mI S t 4) + (1 : Int32)) + i) / (mI S 82 5)).toNatClampNeg) (x := (1 : Int32)) (xC_o (W := 75) hpre0) ⟨by decide, Or.inl ⟨rfl, rfl⟩⟩).2)) (show aG (ma_put S 83 ((((mI S t 4) + (1 : Int32)) + i) / (mI S 82 5)).toNatClampNeg (.inl (1 : Int32))) = (gNr ab yt.toNatClampNeg i.toInt y) from by first | (have tt := xB_th (W := 75) hpre0 hpre2; have e9 : (ab 87 9).toInt = (mI S 82 3).toInt := (by rw [← hpre1]; rfl); have e12 : (ab 87 12).toInt = (mI S 82 5).toInt := (by rw [← hpre1]; rfl); have et : (ab 130 yt.toNatClampNeg).toInt = (mI S t 4).toInt := (by rw [← hpre1, aG_o (by decide) (by decide), ← tt.2.2.2.2.2.1]); have tx := xB_th (W := 75) hpre0 rg_c2; have ex : (ab 130 y.toNatClampNeg).toInt = (mI S c2 4).toInt := (by rw [← hpre1, aG_o (by decide) (by decide), ← tx.2.2.2.2.2.1]); have ea : ab 126 y.toNatClampNeg ≠ 0 := (by rw [← hpre1, aG_o (by decide) (by decide), tx.2.2.2.2.2.2.2.2]; decide); have d := dy_e hpre0 hpre2 (i := i) (by omega) (by omega) (by omega) (by omega); rw [hpre1] at d; have tc := tn_cast (x := (mI S t 4 + (1 : Int32) + i) / mI S 82 5) (by omega); unfold gNr; rw [if_pos ⟨⟨tx.1, tx.2.1, ea, by omega⟩, by omega, by omega, by omega⟩, ((G_p8 (n := ((((mI S t 4) + (1 : Int32)) + i) / (mI S 82 5)).toNatClampNeg) (x := (1 : Int32)) (xC_o (W := 75) hpre0).2).trans (congrArg (fun q => ma_u q 83 ((((mI S t 4) + (1 : Int32)) + i) / (mI S 82 5)).toNatClampNeg (1 : Int32)) (show aG S = aG S from rfl))), hpre1, show (gCx ab yt.toNatClampNeg i.toInt).toNat = ((mI S t 4 + (1 : Int32) + i) / mI S 82 5).toNatClampNeg from by omega]) | (exfalso; omega))
      · skip
        have g40 := i_nlt h19
        exact K _ hI (show xB S R from by first | (exact (xC_o (W := 75) hpre0).2)) (show aG S = (gNr ab yt.toNatClampNeg i.toInt y) from by first | (have tt := xB_th (W := 75) hpre0 hpre2; have e9 : (ab 87 9).toInt = (mI S 82 3).toInt := (by rw [← hpre1]; rfl); have e12 : (ab 87 12).toInt = (mI S 82 5).toInt := (by rw [← hpre1]; rfl); have et : (ab 130 yt.toNatClampNeg).toInt = (mI S t 4).toInt := (by rw [← hpre1, aG_o (by decide) (by decide), ← tt.2.2.2.2.2.1]); have tx := xB_th (W := 75) hpre0 rg_c2; have ex : (ab 130 y.toNatClampNeg).toInt = (mI S c2 4).toInt := (by rw [← hpre1, aG_o (by decide) (by decide), ← tx.2.2.2.2.2.1]); have ea : ab 126 y.toNatClampNeg ≠ 0 := (by rw [← hpre1, aG_o (by decide) (by decide), tx.2.2.2.2.2.2.2.2]; decide); unfold gNr; rw [if_neg (fun z => ?_)]; (exact hpre1); omega) | (have tt := xB_th (W := 75) hpre0 hpre2; have e9 : (ab 87 9).toInt = (mI S 82 3).toInt := (by rw [← hpre1]; rfl); have e12 : (ab 87 12).toInt = (mI S 82 5).toInt := (by rw [← hpre1]; rfl); have et : (ab 130 yt.toNatClampNeg).toInt = (mI S t 4).toInt := (by rw [← hpre1, aG_o (by decide) (by decide), ← tt.2.2.2.2.2.1]); have tx := xB_th (W := 75) hpre0 rg_c2; have ex : (ab 130 y.toNatClampNeg).toInt = (mI S c2 4).toInt := (by rw [← hpre1, aG_o (by decide) (by decide), ← tx.2.2.2.2.2.1]); have ea : ab 126 y.toNatClampNeg ≠ 0 := (by rw [← hpre1, aG_o (by decide) (by decide), tx.2.2.2.2.2.2.2.2]; decide); have d := dy_e hpre0 hpre2 (i := i) (by omega) (by omega) (by omega) (by omega); rw [hpre1] at d; unfold gNr; rw [if_neg (fun z => ?_)]; (exact hpre1); omega) | (exfalso; omega))

/-! from 95.u21 -/
/-! AGES, the class (written by wip/tools/gen15y.py) -/
theorem g_276_83_sy_0 {X : Nat × (Nat → Int32)} {d w : Nat} {S : ma_S} {Q : Option ma_V ⊕ Nat → ma_S → Prop} (x : Int32) (hd : 0 ≤ d) (hw : 0 ≤ w) (hS : zT S) (h : ma_wp X d w 276 5 [(0, .inr (.inr (some 83))), (1, .inl x), (2, .inl (0 : Int32)), (3, .inl (375 : Int32))] [] S Q) : ma_wp X d w 276 0 [(0, .inr (.inr (some 83))), (1, .inl x)] [] S Q := by
  refine zw_push hm_276 dJ7_fill_53178_0 (v := .inl (0 : Int32)) rfl ?_
  refine zw_sto hm_276 dJ7_fill_53178_1 [(2, .inl (0 : Int32)), (0, .inr (.inr (some 83))), (1, .inl x)] rfl rfl rfl ?_
  refine zw_push hm_276 dJ7_fill_53178_2 (v := .inr (.inr (some 83))) rfl ?_
  refine zw_len hm_276 dJ7_fill_53178_3 (zT_is hS s_83) (zT_h hS s_83) rfl rfl ?_
  refine zw_sto hm_276 dJ7_fill_53178_4 [(3, .inl (375 : Int32)), (2, .inl (0 : Int32)), (0, .inr (.inr (some 83))), (1, .inl x)] rfl rfl rfl ?_
  exact zw_sub (ma_nd_of (ks := [0, 1, 2, 3]) rfl (by decide)) (ma_nd_of (ks := [3, 2, 0, 1]) rfl (by decide)) (ma_le_cons rfl (ma_le_cons rfl (ma_le_cons rfl (ma_le_cons rfl (ma_le_nil _))))) h
theorem g_276_83_sy_5 {X : Nat × (Nat → Int32)} {d w : Nat} {S : ma_S} {Q : Option ma_V ⊕ Nat → ma_S → Prop} (l1 : Int32) (l2 : Int32) (l3 : Int32) (hd : 0 ≤ d) (hw : 0 ≤ w) (hS : zT S) (h : if l3 ≤ l2 then (Q (.inl none) S) else ((0 ≤ l2 ∧ l2.toNatClampNeg < 375) ∧ (ma_wp X d w 276 5 [(0, .inr (.inr (some 83))), (1, .inl l1), (2, .inl (l2 + (1 : Int32))), (3, .inl l3)] [] (ma_put S 83 l2.toNatClampNeg (.inl l1)) Q))) : ma_wp X d w 276 5 [(0, .inr (.inr (some 83))), (1, .inl l1), (2, .inl l2), (3, .inl l3)] [] S Q := by
  refine zw_push hm_276 dJ7_fill_53178_5 (v := .inl l2) rfl ?_
  refine zw_push hm_276 dJ7_fill_53178_6 (v := .inl l3) rfl ?_
  refine zw_if2 hm_276 dJ7_fill_53178_7 (t := 20) rfl zc2_ge ?_ ?_
  · intro hc
    rw [if_pos hc] at h
    exact zw_vret hm_276 dJ7_fill_53178_20 h
  · intro hc
    rw [if_neg hc] at h
    refine zw_push hm_276 dJ7_fill_53178_10 (v := .inr (.inr (some 83))) rfl ?_
    refine zw_push hm_276 dJ7_fill_53178_11 (v := .inl l2) rfl ?_
    refine zw_push hm_276 dJ7_fill_53178_12 (v := .inl l1) rfl ?_
    obtain ⟨hg, h⟩ := h
    refine zw_ias hm_276 dJ7_fill_53178_13 (zT_is hS s_83) (zT_h hS s_83) rfl hg ?_
    refine zw_sto hm_276 dJ7_fill_53178_14 [(2, .inl (l2 + (1 : Int32))), (0, .inr (.inr (some 83))), (1, .inl l1), (3, .inl l3)] rfl rfl rfl ?_
    refine zw_goto hm_276 dJ7_fill_53178_17 (t := 5) rfl ?_
    exact zw_sub (ma_nd_of (ks := [0, 1, 2, 3]) rfl (by decide)) (ma_nd_of (ks := [2, 0, 1, 3]) rfl (by decide)) (ma_le_cons rfl (ma_le_cons rfl (ma_le_cons rfl (ma_le_cons rfl (ma_le_nil _))))) h
theorem lp_276_83_sy_5 {X : Nat × (Nat → Int32)} {d w : Nat} {f : Nat → Nat → Int32} {r : Nat → Nat → Option Nat} {C Z N : Nat} {Q : Option ma_V ⊕ Nat → ma_S → Prop} {ab : Nat→Nat→Int32} {x : Int32} (hd : 0 ≤ d) (hw : 0 ≤ w) (K : ∀ S₉, zJ82 f r C Z N S₉ → (xB S₉ (mR S₉ 70)) → (aG S₉ = zFl ab 83 x 375) → Q (.inl none) S₉) : ∀ (n : Nat) (S : ma_S) (l1 : Int32) (l2 : Int32) (l3 : Int32), (l3.toInt - l2.toInt).toNat = n → zJ82 f r C Z N S → (0 ≤ l2.toInt) → (l3.toInt = 375) → (l2.toInt ≤ 375) → (xB S (mR S 70)) → (aG S = zFl ab 83 l1 l2.toInt) → (l1 = x) → ma_wp X d w 276 5 [(0, .inr (.inr (some 83))), (1, .inl l1), (2, .inl l2), (3, .inl l3)] [] S Q := by
  intro n
  induction n using Nat.strongRecOn with
  | _ n IH =>
    intro S l1 l2 l3 hmu hI  hi0 hi1 hi2 hi3 hi4 hi5
    refine g_276_83_sy_5 l1 l2 l3 (by omega) (by omega) (zG_T hI) ?_
    have b1 := i_bd l3
    have b2 := i_bd l2
    refine zd (fun h3 => ?_) (fun h3 => ?_)
    · skip
      have g4 := i_le h3
      exact K _ hI (show xB S (mR S 70) from by first | (exact xB_x (xC_o (W := 75) hi3).2)) (show aG S = zFl ab 83 x 375 from by first | (rw [hi4, show l2.toInt = 375 from by omega, hi5]))
    · skip
      have g5 := i_nle h3
      refine ⟨i_ix (by omega) (by omega), ?_⟩
      have hI6 : zJ82 f r C Z N (ma_put S 83 l2.toNatClampNeg (.inl l1)) := zG_fa hI rfl (by decide) (by decide) (by decide) (show zJ82_x (mI S) from zG_x hI)
      have b7 := i_bd l1
      first | have e8 : (l2 + (1 : Int32)).toInt = l2.toInt + (1) := i_addk rfl (by omega) (by omega) | have b9 := i_bd (l2 + (1 : Int32))
      exact IH _ (by omega) _ (l1) ((l2 + (1 : Int32))) (l3) rfl hI6 (by omega) (by omega) (by omega) (show xB (ma_put S 83 l2.toNatClampNeg (.inl l1)) (mR (ma_put S 83 l2.toNatClampNeg (.inl l1)) 70) from by first | (exact xB_x (xC_n (c := 83) (k := l2.toNatClampNeg) (x := l1) (xC_o (W := 75) hi3) ⟨by decide, Or.inl ⟨rfl, rfl⟩⟩).2)) (show aG (ma_put S 83 l2.toNatClampNeg (.inl l1)) = zFl ab 83 (l1) ((l2 + (1 : Int32))).toInt from by first | (rw [((G_p8 (n := l2.toNatClampNeg) (x := l1) (xC_o (W := 75) hi3).2).trans (congrArg (fun q => ma_u q 83 l2.toNatClampNeg l1) (show aG S = aG S from rfl))), hi4]; exact zFl_s (by omega) (by omega))) (show (l1) = x from by first | (exact rfl) | (exact hi5))
theorem sp_276_83_sy {X : Nat × (Nat → Int32)} {d w : Nat} {f : Nat → Nat → Int32} {r : Nat → Nat → Option Nat} {C Z N : Nat} {Q : Option ma_V ⊕ Nat → ma_S → Prop} {ab : Nat→Nat→Int32} {S : ma_S} (x : Int32) (hd : 0 ≤ d) (hw : 0 ≤ w) (hI : zJ82 f r C Z N S) (hpre0 : xB S (mR S 70)) (hpre1 : aG S = ab) (K : ∀ S₉, zJ82 f r C Z N S₉ → (xB S₉ (mR S₉ 70)) → (aG S₉ = zFl ab 83 x 375) → Q (.inl none) S₉) : ma_wp X d w 276 0 [(0, .inr (.inr (some 83))), (1, .inl x)] [] S Q := by
  refine g_276_83_sy_0 x (by omega) (by omega) (zG_T hI) ?_
  have b1 := i_bd x
  have li2 : (0 : Int32).toInt = 0 := rfl
  have li3 : (375 : Int32).toInt = 375 := rfl
  exact lp_276_83_sy_5 (by omega) (by omega) K _ _ (x) ((0 : Int32)) ((375 : Int32)) rfl hI (by omega) (by omega) (by omega) (show xB S (mR S 70) from by first | (exact xB_x (xC_o (W := 75) hpre0).2)) (show aG S = zFl ab 83 (x) ((0 : Int32)).toInt from by first | (rw [hpre1]; exact zFl_0.symm)) (show (x) = x from by first | (exact rfl))

/-! from 95.u22 -/
/-! AGES, the class (written by wip/tools/gen15y.py) -/
theorem g_6_82_sy_0 {X : Nat × (Nat → Int32)} {d w : Nat} {S : ma_S} {Q : Option ma_V ⊕ Nat → ma_S → Prop}  (hd : 2 ≤ d) (hw : 46 ≤ w) (hS : zT S) (h : ma_wp X (d - 1) (w - 23) 276 0 [(0, .inr (.inr (some 83))), (1, .inl (0 : Int32))] [] S (zv (fun S1 => zT S1 ∧ (ma_wp X d w 6 10 [(0, .inr (.inr (some 82))), (1, .inl (0 : Int32))] [] S1 Q)) (fun _ _ => False))) : ma_wp X d w 6 0 [(0, .inr (.inr (some 82)))] [] S Q := by
  refine zw_push hm_6 dX0_findDirty_0 (v := .inr (.inr (some 82))) rfl ?_
  refine zw_gf hm_6 dX0_findDirty_1 (v := .inr (.inr (some 83))) (zT_is hS s_82) (zT_t hS s_82) rfl f_1_9_1 (zT_f hS r_82_9) ?_
  refine zw_push hm_6 dX0_findDirty_4 (v := .inl (0 : Int32)) rfl ?_
  refine zw_cs hm_6 dX0_findDirty_5 pn_1_37 sl_1_37 hm_276 [.inl (0 : Int32), .inr (.inr (some 83))] [] rfl ⟨by omega, by omega⟩ rfl (zw_mono h (zv_go ?_ ?_))
  · intro S1 hv
    obtain ⟨hS1, h⟩ := hv
    refine zw_push hm_6 dX0_findDirty_8 (v := .inl (0 : Int32)) rfl ?_
    refine zw_sto hm_6 dX0_findDirty_9 [(1, .inl (0 : Int32)), (0, .inr (.inr (some 82)))] rfl rfl rfl ?_
    exact zw_sub (ma_nd_of (ks := [0, 1]) rfl (by decide)) (ma_nd_of (ks := [1, 0]) rfl (by decide)) (ma_le_cons rfl (ma_le_cons rfl (ma_le_nil _))) h
  · intro x S9 hx
    exact hx.elim
theorem g_6_82_sy_10 {X : Nat × (Nat → Int32)} {d w : Nat} {S : ma_S} {Q : Option ma_V ⊕ Nat → ma_S → Prop} (l1 : Int32) (hd : 2 ≤ d) (hw : 46 ≤ w) (hS : zT S) (h : if (mI S 69 6) ≤ l1 then (Q (.inl none) S) else (if l1 < 0 then (ma_wp X d w 6 10 [(0, .inr (.inr (some 82))), (1, .inl (l1 + (1 : Int32)))] [] S Q) else (if (512 : Int32) ≤ l1 then (ma_wp X d w 6 10 [(0, .inr (.inr (some 82))), (1, .inl (l1 + (1 : Int32)))] [] S Q) else ((0 ≤ l1 ∧ l1.toNatClampNeg < 512) ∧ (((mR S 70 l1.toNatClampNeg) = none → ma_wp X d w 6 10 [(0, .inr (.inr (some 82))), (1, .inl (l1 + (1 : Int32)))] [] S Q) ∧ (∀ c1, (mR S 70 l1.toNatClampNeg) = some c1 → (126 ≤ c1 ∧ c1 < mN S) ∧ (if (mI S c1 4) < (mI S 82 3) then (ma_wp X d w 6 44 [(0, .inr (.inr (some 82))), (1, .inl l1), (2, .inr (.inr (some c1))), (3, .inl (0 : Int32))] [] S Q) else (ma_wp X d w 6 10 [(0, .inr (.inr (some 82))), (1, .inl (l1 + (1 : Int32)))] [] S Q)))))))) : ma_wp X d w 6 10 [(0, .inr (.inr (some 82))), (1, .inl l1)] [] S Q := by
  refine zw_push hm_6 dX0_findDirty_10 (v := .inl l1) rfl ?_
  refine zw_push hm_6 dX0_findDirty_11 (v := .inr (.inr (some 82))) rfl ?_
  refine zw_gf hm_6 dX0_findDirty_12 (v := .inr (.inr (some 69))) (zT_is hS s_82) (zT_t hS s_82) rfl f_1_80_1 (zT_f hS r_82_0) ?_
  refine zw_gf hm_6 dX0_findDirty_15 (v := .inl (mI S 69 6)) (zT_is hS s_69) (zT_t hS s_69) rfl f_1_119_7 rfl ?_
  refine zw_if2 hm_6 dX0_findDirty_18 (t := 81) rfl zc2_ge ?_ ?_
  · intro hc
    rw [if_pos hc] at h
    exact zw_vret hm_6 dX0_findDirty_81 h
  · intro hc
    rw [if_neg hc] at h
    refine zw_push hm_6 dX0_findDirty_21 (v := .inr (.inr (some 82))) rfl ?_
    refine zw_gf hm_6 dX0_findDirty_22 (v := .inr (.inr (some 69))) (zT_is hS s_82) (zT_t hS s_82) rfl f_1_80_1 (zT_f hS r_82_0) ?_
    refine zw_push hm_6 dX0_findDirty_25 (v := .inl l1) rfl ?_
    refine zw_cv hm_6 dX0_findDirty_26 v_1_122_7 hm_81 [.inl l1] [] rfl (zT_rt hS s_69 rfl) ⟨by omega, by omega⟩ rfl ?_
    show ma_wp X (d - 1) (w - 21) 81 0 [(0, .inr (.inr (some 69))), (1, .inl l1)] [] S _
    refine zw_push hm_81 dX7_thingAt_0 (v := .inl l1) rfl ?_
    refine zw_if0 hm_81 dX7_thingAt_1 (t := 20) rfl zc0_lt ?_ ?_
    · intro hc
      rw [if_pos hc] at h
      refine zw_push hm_81 dX7_thingAt_20 (v := .inr (.inr none)) rfl ?_
      refine zw_aret hm_81 dX7_thingAt_21 ?_
      show ma_wp X d w 6 29 [(0, .inr (.inr (some 82))), (1, .inl l1)] [.inr (.inr none)] S _
      refine zw_sto hm_6 dX0_findDirty_29 [(2, .inr (.inr none)), (0, .inr (.inr (some 82))), (1, .inl l1)] rfl rfl rfl ?_
      refine zw_push hm_6 dX0_findDirty_30 (v := .inr (.inr none)) rfl ?_
      refine zw_ifnull hm_6 dX0_findDirty_31 (t := 75) rfl (fun _ => ?_) (fun _ z => by cases z)
      refine zw_sto hm_6 dX0_findDirty_75 [(1, .inl (l1 + (1 : Int32))), (2, .inr (.inr none)), (0, .inr (.inr (some 82)))] rfl rfl rfl ?_
      refine zw_goto hm_6 dX0_findDirty_78 (t := 10) rfl ?_
      exact zw_sub (ma_nd_of (ks := [0, 1]) rfl (by decide)) (ma_nd_of (ks := [1, 2, 0]) rfl (by decide)) (ma_le_cons rfl (ma_le_cons rfl (ma_le_nil _))) h
    · intro hc
      rw [if_neg hc] at h
      refine zw_push hm_81 dX7_thingAt_4 (v := .inl l1) rfl ?_
      refine zw_push hm_81 dX7_thingAt_5 (v := .inl (512 : Int32)) rfl ?_
      refine zw_if2 hm_81 dX7_thingAt_8 (t := 20) rfl zc2_ge ?_ ?_
      · intro hc
        rw [if_pos hc] at h
        refine zw_push hm_81 dX7_thingAt_20 (v := .inr (.inr none)) rfl ?_
        refine zw_aret hm_81 dX7_thingAt_21 ?_
        show ma_wp X d w 6 29 [(0, .inr (.inr (some 82))), (1, .inl l1)] [.inr (.inr none)] S _
        refine zw_sto hm_6 dX0_findDirty_29 [(2, .inr (.inr none)), (0, .inr (.inr (some 82))), (1, .inl l1)] rfl rfl rfl ?_
        refine zw_push hm_6 dX0_findDirty_30 (v := .inr (.inr none)) rfl ?_
        refine zw_ifnull hm_6 dX0_findDirty_31 (t := 75) rfl (fun _ => ?_) (fun _ z => by cases z)
        refine zw_sto hm_6 dX0_findDirty_75 [(1, .inl (l1 + (1 : Int32))), (2, .inr (.inr none)), (0, .inr (.inr (some 82)))] rfl rfl rfl ?_
        refine zw_goto hm_6 dX0_findDirty_78 (t := 10) rfl ?_
        exact zw_sub (ma_nd_of (ks := [0, 1]) rfl (by decide)) (ma_nd_of (ks := [1, 2, 0]) rfl (by decide)) (ma_le_cons rfl (ma_le_cons rfl (ma_le_nil _))) h
      · intro hc
        rw [if_neg hc] at h
        refine zw_push hm_81 dX7_thingAt_11 (v := .inr (.inr (some 69))) rfl ?_
        refine zw_gf hm_81 dX7_thingAt_12 (v := .inr (.inr (some 70))) (zT_is hS s_69) (zT_t hS s_69) rfl f_7_11_7 (zT_f hS r_69_0) ?_
        refine zw_push hm_81 dX7_thingAt_15 (v := .inl l1) rfl ?_
        obtain ⟨hg, h⟩ := h
        refine zw_aa hm_81 dX7_thingAt_16 (zT_is hS s_70) (zT_h hS s_70) rfl rfl hg rfl ?_
        show ma_wp X (d - 1) (w - 21) 81 17 [(0, .inr (.inr (some 69))), (1, .inl l1)] [.inr (.inr (mR S 70 l1.toNatClampNeg))] S _
        refine zw_goto hm_81 dX7_thingAt_17 (t := 21) rfl ?_
        refine zw_aret hm_81 dX7_thingAt_21 ?_
        show ma_wp X d w 6 29 [(0, .inr (.inr (some 82))), (1, .inl l1)] [.inr (.inr (mR S 70 l1.toNatClampNeg))] S _
        refine zw_sto hm_6 dX0_findDirty_29 [(2, .inr (.inr (mR S 70 l1.toNatClampNeg))), (0, .inr (.inr (some 82))), (1, .inl l1)] rfl rfl rfl ?_
        refine zw_push hm_6 dX0_findDirty_30 (v := .inr (.inr (mR S 70 l1.toNatClampNeg))) rfl ?_
        refine zw_ifnull hm_6 dX0_findDirty_31 (t := 75) rfl ?_ ?_
        · intro hc
          have h := h.1 hc
          (try rw [hc])
          show ma_wp X d w 6 75 [(2, .inr (.inr none)), (0, .inr (.inr (some 82))), (1, .inl l1)] [] S _
          refine zw_sto hm_6 dX0_findDirty_75 [(1, .inl (l1 + (1 : Int32))), (2, .inr (.inr none)), (0, .inr (.inr (some 82)))] rfl rfl rfl ?_
          refine zw_goto hm_6 dX0_findDirty_78 (t := 10) rfl ?_
          exact zw_sub (ma_nd_of (ks := [0, 1]) rfl (by decide)) (ma_nd_of (ks := [1, 2, 0]) rfl (by decide)) (ma_le_cons rfl (ma_le_cons rfl (ma_le_nil _))) h
        · intro c1 hc
          have h := h.2 c1 hc
          (try rw [hc])
          show ma_wp X d w 6 34 [(2, .inr (.inr (some c1))), (0, .inr (.inr (some 82))), (1, .inl l1)] [] S _
          refine zw_push hm_6 dX0_findDirty_34 (v := .inr (.inr (some 82))) rfl ?_
          refine zw_push hm_6 dX0_findDirty_35 (v := .inr (.inr (some c1))) rfl ?_
          refine zw_cv hm_6 dX0_findDirty_36 v_1_58_1 hm_7 [.inr (.inr (some c1))] [] rfl (zT_rt hS s_82 rfl) ⟨by omega, by omega⟩ rfl ?_
          show ma_wp X (d - 1) (w - 21) 7 0 [(0, .inr (.inr (some 82))), (1, .inr (.inr (some c1)))] [] S _
          refine zw_push hm_7 dX0_isYoung_0 (v := .inr (.inr (some c1))) rfl ?_
          obtain ⟨hg, h⟩ := h
          refine zw_gf hm_7 dX0_isYoung_1 (v := .inl (mI S c1 4)) (zT_tis hS hg) (zT_tt hS hg) rfl f_1_62_9 rfl ?_
          refine zw_push hm_7 dX0_isYoung_4 (v := .inr (.inr (some 82))) rfl ?_
          refine zw_gf hm_7 dX0_isYoung_5 (v := .inl (mI S 82 3)) (zT_is hS s_82) (zT_t hS s_82) rfl f_1_19_1 rfl ?_
          refine zw_if2 hm_7 dX0_isYoung_8 (t := 15) rfl zc2_lt ?_ ?_
          · intro hc
            rw [if_pos hc] at h
            refine zw_push hm_7 dX0_isYoung_15 (v := .inl (0 : Int32)) rfl ?_
            refine zw_bret hm_7 dX0_isYoung_16 (by decide) ?_
            show ma_wp X d w 6 39 [(2, .inr (.inr (some c1))), (0, .inr (.inr (some 82))), (1, .inl l1)] [.inl (0 : Int32)] S _
            refine zw_if0 hm_6 dX0_findDirty_39 (t := 75) rfl zc0_ne (fun hc => absurd hc (by decide)) (fun _ => ?_)
            refine zw_push hm_6 dX0_findDirty_42 (v := .inl (0 : Int32)) rfl ?_
            refine zw_sto hm_6 dX0_findDirty_43 [(3, .inl (0 : Int32)), (2, .inr (.inr (some c1))), (0, .inr (.inr (some 82))), (1, .inl l1)] rfl rfl rfl ?_
            exact zw_sub (ma_nd_of (ks := [0, 1, 2, 3]) rfl (by decide)) (ma_nd_of (ks := [3, 2, 0, 1]) rfl (by decide)) (ma_le_cons rfl (ma_le_cons rfl (ma_le_cons rfl (ma_le_cons rfl (ma_le_nil _))))) h
          · intro hc
            rw [if_neg hc] at h
            refine zw_push hm_7 dX0_isYoung_11 (v := .inl (1 : Int32)) rfl ?_
            refine zw_goto hm_7 dX0_isYoung_12 (t := 16) rfl ?_
            refine zw_bret hm_7 dX0_isYoung_16 (by decide) ?_
            show ma_wp X d w 6 39 [(2, .inr (.inr (some c1))), (0, .inr (.inr (some 82))), (1, .inl l1)] [.inl (1 : Int32)] S _
            refine zw_if0 hm_6 dX0_findDirty_39 (t := 75) rfl zc0_ne (fun _ => ?_) (fun hc => absurd (by decide) hc)
            refine zw_sto hm_6 dX0_findDirty_75 [(1, .inl (l1 + (1 : Int32))), (2, .inr (.inr (some c1))), (0, .inr (.inr (some 82)))] rfl rfl rfl ?_
            refine zw_goto hm_6 dX0_findDirty_78 (t := 10) rfl ?_
            exact zw_sub (ma_nd_of (ks := [0, 1]) rfl (by decide)) (ma_nd_of (ks := [1, 2, 0]) rfl (by decide)) (ma_le_cons rfl (ma_le_cons rfl (ma_le_nil _))) h
theorem g_6_82_sy_44 {X : Nat × (Nat → Int32)} {d w : Nat} {S : ma_S} {Q : Option ma_V ⊕ Nat → ma_S → Prop} (l1 : Int32) (l2 : Nat) (l3 : Int32) (hd : 2 ≤ d) (hw : 46 ≤ w) (hS : zT S) (h : (126 ≤ l2 ∧ l2 < mN S) ∧ (if ((mI S l2 2) - (1 : Int32)) ≤ l3 then (ma_wp X d w 6 10 [(0, .inr (.inr (some 82))), (1, .inl (l1 + (1 : Int32)))] [] S Q) else (ma_wp X (d - 1) (w - 25) 82 0 [(0, .inr (.inr (some 69))), (1, .inr (.inr (some l2))), (2, .inl l3)] [] S (zo (fun v2 S1 => zT S1 ∧ (ma_wp X (d - 1) (w - 24) 8 0 [(0, .inr (.inr (some 82))), (1, .inr (.inr (some l2))), (2, .inl l3), (3, .inr (.inr v2))] [] S1 (zv (fun S3 => zT S3 ∧ (ma_wp X d w 6 44 [(0, .inr (.inr (some 82))), (1, .inl l1), (2, .inr (.inr (some l2))), (3, .inl (l3 + (1 : Int32)))] [] S3 Q)) (fun x S9 => Q (.inr x) S9)))) (fun x S9 => Q (.inr x) S9))))) : ma_wp X d w 6 44 [(0, .inr (.inr (some 82))), (1, .inl l1), (2, .inr (.inr (some l2))), (3, .inl l3)] [] S Q := by
  refine zw_push hm_6 dX0_findDirty_44 (v := .inl l3) rfl ?_
  refine zw_push hm_6 dX0_findDirty_45 (v := .inr (.inr (some l2))) rfl ?_
  obtain ⟨hg, h⟩ := h
  refine zw_gf hm_6 dX0_findDirty_46 (v := .inl (mI S l2 2)) (zT_tis hS hg) (zT_tt hS hg) rfl f_1_67_9 rfl ?_
  refine zw_push hm_6 dX0_findDirty_49 (v := .inl (1 : Int32)) rfl ?_
  refine zw_stk hm_6 dX0_findDirty_50 (st₉ := [.inl ((mI S l2 2) - (1 : Int32)), .inl l3]) rfl rfl ?_
  refine zw_if2 hm_6 dX0_findDirty_51 (t := 75) rfl zc2_ge ?_ ?_
  · intro hc
    rw [if_pos hc] at h
    refine zw_sto hm_6 dX0_findDirty_75 [(1, .inl (l1 + (1 : Int32))), (0, .inr (.inr (some 82))), (2, .inr (.inr (some l2))), (3, .inl l3)] rfl rfl rfl ?_
    refine zw_goto hm_6 dX0_findDirty_78 (t := 10) rfl ?_
    exact zw_sub (ma_nd_of (ks := [0, 1]) rfl (by decide)) (ma_nd_of (ks := [1, 0, 2, 3]) rfl (by decide)) (ma_le_cons rfl (ma_le_cons rfl (ma_le_nil _))) h
  · intro hc
    rw [if_neg hc] at h
    refine zw_push hm_6 dX0_findDirty_54 (v := .inr (.inr (some 82))) rfl ?_
    refine zw_push hm_6 dX0_findDirty_55 (v := .inr (.inr (some l2))) rfl ?_
    refine zw_push hm_6 dX0_findDirty_56 (v := .inl l3) rfl ?_
    refine zw_push hm_6 dX0_findDirty_57 (v := .inr (.inr (some 82))) rfl ?_
    refine zw_gf hm_6 dX0_findDirty_58 (v := .inr (.inr (some 69))) (zT_is hS s_82) (zT_t hS s_82) rfl f_1_80_1 (zT_f hS r_82_0) ?_
    refine zw_push hm_6 dX0_findDirty_61 (v := .inr (.inr (some l2))) rfl ?_
    refine zw_push hm_6 dX0_findDirty_62 (v := .inl l3) rfl ?_
    refine zw_cv hm_6 dX0_findDirty_63 v_1_140_7 hm_82 [.inl l3, .inr (.inr (some l2))] [.inl l3, .inr (.inr (some l2)), .inr (.inr (some 82))] rfl (zT_rt hS s_69 rfl) ⟨by omega, by omega⟩ rfl (zw_mono h (zo_go ?_ ?_))
    · intro v2 S1 hv
      obtain ⟨hS1, h⟩ := hv
      refine zw_cv hm_6 dX0_findDirty_66 v_1_160_1 hm_8 [.inr (.inr v2), .inl l3, .inr (.inr (some l2))] [] rfl (zT_rt hS1 s_82 rfl) ⟨by omega, by omega⟩ rfl (zw_mono h (zv_go ?_ ?_))
      · intro S3 hv
        obtain ⟨hS3, h⟩ := hv
        refine zw_sto hm_6 dX0_findDirty_69 [(3, .inl (l3 + (1 : Int32))), (0, .inr (.inr (some 82))), (1, .inl l1), (2, .inr (.inr (some l2)))] rfl rfl rfl ?_
        refine zw_goto hm_6 dX0_findDirty_72 (t := 44) rfl ?_
        exact zw_sub (ma_nd_of (ks := [0, 1, 2, 3]) rfl (by decide)) (ma_nd_of (ks := [3, 0, 1, 2]) rfl (by decide)) (ma_le_cons rfl (ma_le_cons rfl (ma_le_cons rfl (ma_le_cons rfl (ma_le_nil _))))) h
      · intro x S9 hx
        exact ⟨by decide, hx⟩
    · intro x S9 hx
      exact ⟨by decide, hx⟩
theorem lp_6_82_sy_44 {X : Nat × (Nat → Int32)} {d w : Nat} {f : Nat → Nat → Int32} {r : Nat → Nat → Option Nat} {C Z N : Nat} {Q : Option ma_V ⊕ Nat → ma_S → Prop} {ab : Nat→Nat→Int32} (hd : 2 ≤ d) (hw : 46 ≤ w) (K : ∀ S₉, zJ82 f r C Z N S₉ → (xB S₉ (mR S₉ 70)) → (aG S₉ = gFd ab) → Q (.inl none) S₉) {nB : Nat} (OUT : ∀ (S₉ : ma_S) (l1 : Int32), (512 - l1.toInt).toNat < nB → zJ82 f r C Z N S₉ → (0 ≤ l1.toInt) → (l1.toInt ≤ 512) → (xB S₉ (mR S₉ 70)) → (qI ab) → (aG S₉ = gF1 ab l1.toNatClampNeg) → ma_wp X d w 6 10 [(0, .inr (.inr (some 82))), (1, .inl l1)] [] S₉ Q) : ∀ (n : Nat) (S : ma_S) (l1 : Int32) (l2 : Nat) (l3 : Int32), (61 - l3.toInt).toNat = n → zJ82 f r C Z N S → (126 ≤ l2 ∧ l2 < N) → (0 ≤ l1.toInt) → (l1.toInt < 512) → ((512 - l1.toInt).toNat = nB) → (0 ≤ l3.toInt) → (xB S (mR S 70)) → (qI ab) → (zTa (mR S 70) l1 = some l2) → (ab 126 l1.toNatClampNeg ≠ 0 ∧ (ab 130 l1.toNatClampNeg).toInt < (ab 87 9).toInt) → (l3.toInt ≤ (ab 128 l1.toNatClampNeg).toInt - 1) → (aG S = gF2 ab l1.toNatClampNeg l3.toNatClampNeg) → ma_wp X d w 6 44 [(0, .inr (.inr (some 82))), (1, .inl l1), (2, .inr (.inr (some l2))), (3, .inl l3)] [] S Q := by
  intro n
  induction n using Nat.strongRecOn with
  | _ n IH =>
    intro S l1 l2 l3 hmu hI th_l2 hi0 hi1 hi2 hi3 hi4 hi5 hi6 hi7 hi8 hi9
    refine g_6_82_sy_44 l1 l2 l3 (by omega) (by omega) (zG_T hI) ?_
    refine ⟨zG_n hI th_l2, ?_⟩
    have f1 := zG_th hI th_l2
    first | have e2 : ((mI S l2 2) - (1 : Int32)).toInt = (mI S l2 2).toInt - (1) := i_subk rfl (by omega) (by omega) | have b3 := i_bd ((mI S l2 2) - (1 : Int32))
    have b4 := i_bd l3
    refine zd (fun h5 => ?_) (fun h5 => ?_)
    · skip
      have g6 := i_le h5
      have b7 := i_bd l1
      first | have e8 : (l1 + (1 : Int32)).toInt = l1.toInt + (1) := i_addk rfl (by omega) (by omega) | have b9 := i_bd (l1 + (1 : Int32))
      exact OUT _ ((l1 + (1 : Int32))) (by omega) hI (by omega) (by omega) (show xB S (mR S 70) from by first | (exact xB_x (xC_o (W := 75) hi4).2)) (show qI ab from by first | (exact hi5)) (show aG S = gF1 ab ((l1 + (1 : Int32))).toNatClampNeg from by first | (have ty := xB_th (W := 75) hi4 hi6; have g2 := hi9; have e2 : (ab 128 l1.toNatClampNeg).toInt = (mI S l2 2).toInt := (by rw [← F2_r (a := ab) (n := l1.toNatClampNeg) (j := l3.toNatClampNeg) (c := 128) (by decide), ← g2, aG_o (by decide) (by decide), ← ty.2.2.2.2.1]); have tc := tn_cast (x := l1) (by omega); have tc2 := tn_cast (x := (l1 + (1 : Int32))) (by omega); rw [show (l1 + (1 : Int32)).toNatClampNeg = l1.toNatClampNeg + 1 from by omega]; rw [g2]; have f7 := hi8; exact F2_e hi7.1 hi7.2 (by rw [e2]; have := tn_cast (x := l3) (by omega); omega)))
    · skip
      have g10 := i_nle h5
      refine sp_82_69_s (R := (mR S 70)) (W := 75) (y := l1) l2 (l3) (by omega) (by omega) (zJ82_dn hI) th_l2 (show xB S (mR S 70) from by first | (exact xB_x (xC_o (W := 75) hi4).2)) (show zTa (mR S 70) l1 = some l2 from by first | (exact hi6)) (by omega) (fun v2 S1 eS_S1 hq_v2 rp0_S1 => zo_n ⟨(by rw [eS_S1]; exact zG_T hI), ?_⟩)
      replace eS_S1 := eS_S1.symm; subst eS_S1
      have rp0_S1 : v2 = zTa (mR S 70) (aRef (aS 75 S) l1.toNatClampNeg l3) := rp0_S1
      refine sp_8_82_sy (ab := (aG S)) (R := (mR S 70)) (y := ((aRef (aS 75 S) l1.toNatClampNeg l3))) (yt := (l1)) l2 (l3) (v2) (by omega) (by omega) hI th_l2 hq_v2 (show xB S (mR S 70) from by first | (exact xB_x (xC_o (W := 75) hi4).2)) (show aG S = (aG S) from by first | (exact rfl)) (show zTa (mR S 70) (l1) = some l2 from by first | (exact hi6)) (show v2 = zTa (mR S 70) ((aRef (aS 75 S) l1.toNatClampNeg l3)) from by first | (exact rp0_S1)) (by omega) (by omega) (fun S3 hI_S3 rp0_S3 rp1_S3 => zv_n ⟨zG_T hI_S3, ?_⟩)
      have rp0_S3 : xB S3 (mR S 70) := rp0_S3
      have rp1_S3 : aG S3 = (gNr (aG S) (l1).toNatClampNeg l3.toInt ((aRef (aS 75 S) l1.toNatClampNeg l3))) := rp1_S3
      have b11 := i_bd l1
      first | have e12 : (l3 + (1 : Int32)).toInt = l3.toInt + (1) := i_addk rfl (by omega) (by omega) | have b13 := i_bd (l3 + (1 : Int32))
      exact IH _ (by omega) _ (l1) l2 ((l3 + (1 : Int32))) rfl hI_S3 th_l2 (by omega) (by omega) (by omega) (by omega) (show xB S3 (mR S3 70) from by first | (exact xB_x (xC_o (W := 75) rp0_S3).2)) (show qI ab from by first | (exact hi5)) (show zTa (mR S3 70) (l1) = some l2 from by first | (rw [rp0_S3.1]; exact hi6)) (show ab 126 (l1).toNatClampNeg ≠ 0 ∧ (ab 130 (l1).toNatClampNeg).toInt < (ab 87 9).toInt from by first | (exact hi7)) (show ((l3 + (1 : Int32))).toInt ≤ (ab 128 (l1).toNatClampNeg).toInt - 1 from by first | (have ty := xB_th (W := 75) hi4 hi6; have g2 := hi9; have e2 : (ab 128 l1.toNatClampNeg).toInt = (mI S l2 2).toInt := (by rw [← F2_r (a := ab) (n := l1.toNatClampNeg) (j := l3.toNatClampNeg) (c := 128) (by decide), ← g2, aG_o (by decide) (by decide), ← ty.2.2.2.2.1]); omega)) (show aG S3 = gF2 ab (l1).toNatClampNeg ((l3 + (1 : Int32))).toNatClampNeg from by first | (have g2 := hi9; have i6 := hi5; have tc := tn_cast (x := l3) (by omega); have tc2 := tn_cast (x := (l3 + (1 : Int32))) (by omega); rw [rp1_S3, G_rf, g2, show (l3 + (1 : Int32)).toNatClampNeg = l3.toNatClampNeg + 1 from by omega, show l3.toInt = (l3.toNatClampNeg : Int) from by omega]; exact Nr_s hi7.2 (ofN_tn (by omega)) (hi5.1 l1.toNatClampNeg ⟨by have := tn_cast (x := l1) (by omega); omega, hi7.1⟩).1.2))
theorem lp_6_82_sy_10 {X : Nat × (Nat → Int32)} {d w : Nat} {f : Nat → Nat → Int32} {r : Nat → Nat → Option Nat} {C Z N : Nat} {Q : Option ma_V ⊕ Nat → ma_S → Prop} {ab : Nat→Nat→Int32} (hd : 2 ≤ d) (hw : 46 ≤ w) (K : ∀ S₉, zJ82 f r C Z N S₉ → (xB S₉ (mR S₉ 70)) → (aG S₉ = gFd ab) → Q (.inl none) S₉) : ∀ (n : Nat) (S : ma_S) (l1 : Int32), (512 - l1.toInt).toNat = n → zJ82 f r C Z N S → (0 ≤ l1.toInt) → (l1.toInt ≤ 512) → (xB S (mR S 70)) → (qI ab) → (aG S = gF1 ab l1.toNatClampNeg) → ma_wp X d w 6 10 [(0, .inr (.inr (some 82))), (1, .inl l1)] [] S Q := by
  intro n
  induction n using Nat.strongRecOn with
  | _ n IH =>
    intro S l1 hmu hI  hi0 hi1 hi2 hi3 hi4
    refine g_6_82_sy_10 l1 (by omega) (by omega) (zG_T hI) ?_
    have f1 := zG_s hI (0) (512) (c := 69) (k := 6) (by decide)
    have b2 := i_bd l1
    refine zd (fun h3 => ?_) (fun h3 => ?_)
    · skip
      have g4 := i_le h3
      exact K _ hI (show xB S (mR S 70) from by first | (exact xB_x (xC_o (W := 75) hi2).2)) (show aG S = gFd ab from by first | (have g1 := hi4; have r6 := congrArg Int32.toInt (show ab 69 6 = mI S 69 6 from (by rw [← F1_r (a := ab) (n := l1.toNatClampNeg) (c := 69) (by decide), ← g1]; exact (aG_o (by decide) (by decide)).trans (aS_I rfl rfl))); have tc := tn_cast (x := l1) (by omega); rw [g1]; exact F1_end hi3 (by omega) (by omega)))
    · skip
      have g5 := i_nle h3
      have li6 : (0 : Int32).toInt = 0 := rfl
      refine zd (fun h7 => ?_) (fun h7 => ?_)
      · skip
        have g8 := i_lt h7
        first | have e9 : (l1 + (1 : Int32)).toInt = l1.toInt + (1) := i_addk rfl (by omega) (by omega) | have b10 := i_bd (l1 + (1 : Int32))
        exact IH _ (by omega) _ ((l1 + (1 : Int32))) rfl hI (by omega) (by omega) (show xB S (mR S 70) from by first | (exact xB_x (xC_o (W := 75) hi2).2)) (show qI ab from by first | (exact hi3)) (show aG S = gF1 ab ((l1 + (1 : Int32))).toNatClampNeg from by first | (exfalso; omega))
      · skip
        have g11 := i_nlt h7
        have li12 : (512 : Int32).toInt = 512 := rfl
        refine zd (fun h13 => ?_) (fun h13 => ?_)
        · skip
          have g14 := i_le h13
          first | have e15 : (l1 + (1 : Int32)).toInt = l1.toInt + (1) := i_addk rfl (by omega) (by omega) | have b16 := i_bd (l1 + (1 : Int32))
          exact IH _ (by omega) _ ((l1 + (1 : Int32))) rfl hI (by omega) (by omega) (show xB S (mR S 70) from by first | (exact xB_x (xC_o (W := 75) hi2).2)) (show qI ab from by first | (exact hi3)) (show aG S = gF1 ab ((l1 + (1 : Int32))).toNatClampNeg from by first | (exfalso; omega))
        · skip
          have g17 := i_nle h13
          refine ⟨i_ix (by omega) (by omega), ?_⟩
          refine ⟨fun hc => ?_, fun c1 hc => ?_⟩
          · skip
            have rn_c1 : zTa (mR S 70) l1 = none := (ta_rd (y := l1) hi2 (by omega) (by omega)).symm.trans hc
            first | have e18 : (l1 + (1 : Int32)).toInt = l1.toInt + (1) := i_addk rfl (by omega) (by omega) | have b19 := i_bd (l1 + (1 : Int32))
            exact IH _ (by omega) _ ((l1 + (1 : Int32))) rfl hI (by omega) (by omega) (show xB S (mR S 70) from by first | (exact xB_x (xC_o (W := 75) hi2).2)) (show qI ab from by first | (exact hi3)) (show aG S = gF1 ab ((l1 + (1 : Int32))).toNatClampNeg from by first | (have g1 := hi4; have tc := tn_cast (x := l1) (by omega); have tc2 := tn_cast (x := (l1 + (1 : Int32))) (by omega); rw [show (l1 + (1 : Int32)).toNatClampNeg = l1.toNatClampNeg + 1 from by omega]; rw [gF1_n (fun z => xB_nt (W := 75) hi2 rn_c1 ⟨by omega, by omega, by rw [← aG_o (by decide) (by decide), g1, F1_r (by decide)]; exact z.1⟩)]; exact g1))
          · skip
            have th_c1 := (fun _ z => zG_70 hI (c := 70) (by decide) z) c1 hc
            have rg_c1 : zTa (mR S 70) l1 = some c1 := (ta_rd (y := l1) hi2 (by omega) (by omega)).symm.trans hc
            refine ⟨zG_n hI th_c1, ?_⟩
            have f20 := zG_th hI th_c1
            have x21 : (mI S 82 3).toInt ≤ (mI S 82 7).toInt ∧ (mI S 82 7).toInt ≤ (mI S 82 3).toInt + (mI S 82 2).toInt := zG_x hI
            have f22 := zG_s hI (0) (1500) (c := 82) (k := 3) (by decide)
            refine zd (fun h23 => ?_) (fun h23 => ?_)
            · skip
              have g24 := i_lt h23
              exact lp_6_82_sy_44 (by omega) (by omega) K (fun _ _ z1 z2 z3 z4 z5 z6 z7 => IH _ z1 _ _ rfl z2 z3 z4 z5 z6 z7) _ _ (l1) c1 ((0 : Int32)) rfl hI th_c1 (by omega) (by omega) (by omega) (by omega) (show xB S (mR S 70) from by first | (exact xB_x (xC_o (W := 75) hi2).2)) (show qI ab from by first | (exact hi3)) (show zTa (mR S 70) (l1) = some c1 from by first | (exact rg_c1)) (show ab 126 (l1).toNatClampNeg ≠ 0 ∧ (ab 130 (l1).toNatClampNeg).toInt < (ab 87 9).toInt from by first | (have g1 := hi4; have ty := xB_th (W := 75) hi2 rg_c1; refine ⟨?_, ?_⟩; (rw [← F1_r (a := ab) (n := l1.toNatClampNeg) (c := 126) (by decide), ← g1, aG_o (by decide) (by decide), ty.2.2.2.2.2.2.2.2]; decide); (rw [← F1_r (a := ab) (n := l1.toNatClampNeg) (c := 130) (by decide), ← F1_r (a := ab) (n := l1.toNatClampNeg) (c := 87) (by decide), ← g1, aG_o (c := 130) (by decide) (by decide), ← ty.2.2.2.2.2.1]; show (mI S c1 4).toInt < (mI S 82 3).toInt; omega))) (show ((0 : Int32)).toInt ≤ (ab 128 (l1).toNatClampNeg).toInt - 1 from by first | (have ty := xB_th (W := 75) hi2 rg_c1; have g1 := hi4; have e2 : (ab 128 l1.toNatClampNeg).toInt = (mI S c1 2).toInt := (by rw [← F1_r (a := ab) (n := l1.toNatClampNeg) (c := 128) (by decide), ← g1, aG_o (by decide) (by decide), ← ty.2.2.2.2.1]); have zt := zG_th hI th_c1; have t0 : (0 : Int32).toInt = 0 := rfl; omega)) (show aG S = gF2 ab (l1).toNatClampNeg ((0 : Int32)).toNatClampNeg from by first | (rw [hi4]; exact F2_0.symm))
            · skip
              have g25 := i_nlt h23
              first | have e26 : (l1 + (1 : Int32)).toInt = l1.toInt + (1) := i_addk rfl (by omega) (by omega) | have b27 := i_bd (l1 + (1 : Int32))
              exact IH _ (by omega) _ ((l1 + (1 : Int32))) rfl hI (by omega) (by omega) (show xB S (mR S 70) from by first | (exact xB_x (xC_o (W := 75) hi2).2)) (show qI ab from by first | (exact hi3)) (show aG S = gF1 ab ((l1 + (1 : Int32))).toNatClampNeg from by first | (have g1 := hi4; have ty := xB_th (W := 75) hi2 rg_c1; have tc := tn_cast (x := l1) (by omega); have tc2 := tn_cast (x := (l1 + (1 : Int32))) (by omega); rw [show (l1 + (1 : Int32)).toNatClampNeg = l1.toNatClampNeg + 1 from by omega]; rw [gF1_n (fun z => ?_)]; (exact g1); (have z2 := z.2; rw [← F1_r (a := ab) (n := l1.toNatClampNeg) (c := 130) (by decide), ← F1_r (a := ab) (n := l1.toNatClampNeg) (c := 87) (by decide), ← g1, aG_o (c := 130) (by decide) (by decide), ← ty.2.2.2.2.2.1] at z2; have z3 : (mI S c1 4).toInt < (mI S 82 3).toInt := z2; omega)) | (exfalso; omega))
theorem sp_6_82_sy {X : Nat × (Nat → Int32)} {d w : Nat} {f : Nat → Nat → Int32} {r : Nat → Nat → Option Nat} {C Z N : Nat} {Q : Option ma_V ⊕ Nat → ma_S → Prop} {ab : Nat→Nat→Int32} {S : ma_S}  (hd : 2 ≤ d) (hw : 46 ≤ w) (hI : zJ82 f r C Z N S) (hpre0 : xB S (mR S 70)) (hpre1 : aG S = ab) (hpre2 : qI ab) (K : ∀ S₉, zJ82 f r C Z N S₉ → (xB S₉ (mR S₉ 70)) → (aG S₉ = gFd ab) → Q (.inl none) S₉) : ma_wp X d w 6 0 [(0, .inr (.inr (some 82)))] [] S Q := by
  refine g_6_82_sy_0  (by omega) (by omega) (zG_T hI) ?_
  have li1 : (0 : Int32).toInt = 0 := rfl
  refine sp_276_83_sy (ab := (aG S)) ((0 : Int32)) (by omega) (by omega) hI (show xB S (mR S 70) from by first | (exact xB_x (xC_o (W := 75) hpre0).2)) (show aG S = (aG S) from by first | (exact rfl)) (fun S1 hI_S1 rp0_S1 rp1_S1 => zv_n ⟨zG_T hI_S1, ?_⟩)
  have rp0_S1 : xB S1 (mR S1 70) := rp0_S1
  have rp1_S1 : aG S1 = zFl (aG S) 83 (0 : Int32) 375 := rp1_S1
  exact lp_6_82_sy_10 (by omega) (by omega) K _ _ ((0 : Int32)) rfl hI_S1 (by omega) (by omega) (show xB S1 (mR S1 70) from by first | (exact xB_x (xC_o (W := 75) rp0_S1).2)) (show qI ab from by first | (exact hpre2) | (rw [hpre1]; exact hpre2)) (show aG S1 = gF1 ab ((0 : Int32)).toNatClampNeg from by first | (rw [rp1_S1, hpre1]; exact gF1_0.symm))

/-! from 95.u23 -/
/-! AGES, the class (written by wip/tools/gen15y.py) -/
theorem g_15_82_sy_0 {X : Nat × (Nat → Int32)} {d w : Nat} {S : ma_S} {Q : Option ma_V ⊕ Nat → ma_S → Prop}  (hd : 3 ≤ d) (hw : 113 ≤ w) (hS : zT S) (h : ma_wp X d w 15 33 [(0, .inr (.inr (some 82))), (1, .inl (0 : Int32))] [] (ma_put (ma_put S 82 7 (.inl ((((mI S 82 3) + (mI S 82 2)) + (mI S 82 3)) - (mI S 82 7)))) 82 8 (.inl ((((mI S 82 3) + (mI S 82 2)) + (mI S 82 3)) - (mI S 82 7)))) Q) : ma_wp X d w 15 0 [(0, .inr (.inr (some 82)))] [] S Q := by
  refine zw_push hm_15 dX0_moveKept_0 (v := .inr (.inr (some 82))) rfl ?_
  refine zw_push hm_15 dX0_moveKept_1 (v := .inr (.inr (some 82))) rfl ?_
  refine zw_gf hm_15 dX0_moveKept_2 (v := .inl (mI S 82 3)) (zT_is hS s_82) (zT_t hS s_82) rfl f_1_19_1 rfl ?_
  refine zw_push hm_15 dX0_moveKept_5 (v := .inr (.inr (some 82))) rfl ?_
  refine zw_gf hm_15 dX0_moveKept_6 (v := .inl (mI S 82 2)) (zT_is hS s_82) (zT_t hS s_82) rfl f_1_15_1 rfl ?_
  refine zw_stk hm_15 dX0_moveKept_9 (st₉ := [.inl ((mI S 82 3) + (mI S 82 2)), .inr (.inr (some 82))]) rfl rfl ?_
  refine zw_push hm_15 dX0_moveKept_10 (v := .inr (.inr (some 82))) rfl ?_
  refine zw_gf hm_15 dX0_moveKept_11 (v := .inl (mI S 82 3)) (zT_is hS s_82) (zT_t hS s_82) rfl f_1_19_1 rfl ?_
  refine zw_stk hm_15 dX0_moveKept_14 (st₉ := [.inl (((mI S 82 3) + (mI S 82 2)) + (mI S 82 3)), .inr (.inr (some 82))]) rfl rfl ?_
  refine zw_push hm_15 dX0_moveKept_15 (v := .inr (.inr (some 82))) rfl ?_
  refine zw_gf hm_15 dX0_moveKept_16 (v := .inl (mI S 82 7)) (zT_is hS s_82) (zT_t hS s_82) rfl f_1_31_1 rfl ?_
  refine zw_stk hm_15 dX0_moveKept_19 (st₉ := [.inl ((((mI S 82 3) + (mI S 82 2)) + (mI S 82 3)) - (mI S 82 7)), .inr (.inr (some 82))]) rfl rfl ?_
  refine zw_pf hm_15 dX0_moveKept_20 (zT_is hS s_82) (zT_t hS s_82) p_1_31_1 zk_int ?_
  refine zw_push hm_15 dX0_moveKept_23 (v := .inr (.inr (some 82))) rfl ?_
  refine zw_push hm_15 dX0_moveKept_24 (v := .inr (.inr (some 82))) rfl ?_
  refine zw_gf hm_15 dX0_moveKept_25 (v := .inl ((((mI S 82 3) + (mI S 82 2)) + (mI S 82 3)) - (mI S 82 7))) (zT_is (zT_pi hS) s_82) (zT_t (zT_pi hS) s_82) rfl f_1_31_1 rfl ?_
  refine zw_pf hm_15 dX0_moveKept_28 (zT_is (zT_pi hS) s_82) (zT_t (zT_pi hS) s_82) p_1_34_1 zk_int ?_
  refine zw_push hm_15 dX0_moveKept_31 (v := .inl (0 : Int32)) rfl ?_
  refine zw_sto hm_15 dX0_moveKept_32 [(1, .inl (0 : Int32)), (0, .inr (.inr (some 82)))] rfl rfl rfl ?_
  exact zw_sub (ma_nd_of (ks := [0, 1]) rfl (by decide)) (ma_nd_of (ks := [1, 0]) rfl (by decide)) (ma_le_cons rfl (ma_le_cons rfl (ma_le_nil _))) h
theorem g_15_82_sy_33 {X : Nat × (Nat → Int32)} {d w : Nat} {S : ma_S} {Q : Option ma_V ⊕ Nat → ma_S → Prop} (l1 : Int32) (hd : 3 ≤ d) (hw : 135 ≤ w) (hS : zT S) (h : if (mI S 75 4) ≤ l1 then (Q (.inl none) S) else (ma_wp X (d - 1) (w - 21) 124 0 [(0, .inr (.inr (some 75))), (1, .inl l1)] [] S (zo (fun v2 S1 => zT S1 ∧ ((v2 = none → ma_wp X d w 15 33 [(0, .inr (.inr (some 82))), (1, .inl (l1 + (1 : Int32)))] [] S1 Q) ∧ (∀ c3, v2 = some c3 → (126 ≤ c3 ∧ c3 < mN S1) ∧ ((126 ≤ c3 ∧ c3 < mN S1) ∧ ((126 ≤ c3 ∧ c3 < mN (ma_put S1 c3 5 (.inl ((mI S1 c3 5) + (1 : Int32))))) ∧ (if (mI (ma_put S1 c3 5 (.inl ((mI S1 c3 5) + (1 : Int32)))) c3 5) < (mI (ma_put S1 c3 5 (.inl ((mI S1 c3 5) + (1 : Int32)))) 82 4) then (ma_wp X ((d - 1) - 1) ((w - 21) - 24) 90 0 [(0, .inr (.inr (some 69))), (1, .inr (.inr (some c3))), (2, .inl (mI (ma_put S1 c3 5 (.inl ((mI S1 c3 5) + (1 : Int32)))) 82 8))] [] (ma_put S1 c3 5 (.inl ((mI S1 c3 5) + (1 : Int32)))) (zv (fun S4 => zT S4 ∧ ((126 ≤ c3 ∧ c3 < mN S4) ∧ (ma_wp X d w 15 33 [(0, .inr (.inr (some 82))), (1, .inl (l1 + (1 : Int32)))] [] (ma_put S4 82 8 (.inl ((mI S4 82 8) + (mI S4 c3 2)))) Q))) (fun _ _ => False))) else (ma_wp X ((d - 1) - 1) ((w - 21) - 24) 90 0 [(0, .inr (.inr (some 69))), (1, .inr (.inr (some c3))), (2, .inl (mI (ma_put S1 c3 5 (.inl ((mI S1 c3 5) + (1 : Int32)))) 82 6))] [] (ma_put S1 c3 5 (.inl ((mI S1 c3 5) + (1 : Int32)))) (zv (fun S6 => zT S6 ∧ ((126 ≤ c3 ∧ c3 < mN S6) ∧ (ma_wp X d w 15 33 [(0, .inr (.inr (some 82))), (1, .inl (l1 + (1 : Int32)))] [] (ma_put S6 82 6 (.inl ((mI S6 82 6) + (mI S6 c3 2)))) Q))) (fun _ _ => False))))))))) (fun x S9 => Q (.inr x) S9)))) : ma_wp X d w 15 33 [(0, .inr (.inr (some 82))), (1, .inl l1)] [] S Q := by
  refine zw_push hm_15 dX0_moveKept_33 (v := .inl l1) rfl ?_
  refine zw_push hm_15 dX0_moveKept_34 (v := .inr (.inr (some 82))) rfl ?_
  refine zw_gf hm_15 dX0_moveKept_35 (v := .inr (.inr (some 75))) (zT_is hS s_82) (zT_t hS s_82) rfl f_1_70_1 (zT_f hS r_82_1) ?_
  refine zw_gf hm_15 dX0_moveKept_38 (v := .inl (mI S 75 4)) (zT_is hS s_75) (zT_t hS s_75) rfl f_1_147_10 rfl ?_
  refine zw_if2 hm_15 dX0_moveKept_41 (t := 68) rfl zc2_ge ?_ ?_
  · intro hc
    rw [if_pos hc] at h
    exact zw_vret hm_15 dX0_moveKept_68 h
  · intro hc
    rw [if_neg hc] at h
    refine zw_push hm_15 dX0_moveKept_44 (v := .inr (.inr (some 82))) rfl ?_
    refine zw_gf hm_15 dX0_moveKept_45 (v := .inr (.inr (some 75))) (zT_is hS s_82) (zT_t hS s_82) rfl f_1_70_1 (zT_f hS r_82_1) ?_
    refine zw_push hm_15 dX0_moveKept_48 (v := .inl l1) rfl ?_
    refine zw_cv hm_15 dX0_moveKept_49 v_1_150_10 hm_124 [.inl l1] [] rfl (zT_rt hS s_75 rfl) ⟨by omega, by omega⟩ rfl (zw_mono h (zo_go ?_ ?_))
    · intro v2 S1 hv
      obtain ⟨hS1, h⟩ := hv
      refine zw_sto hm_15 dX0_moveKept_52 [(2, .inr (.inr v2)), (0, .inr (.inr (some 82))), (1, .inl l1)] rfl rfl rfl ?_
      refine zw_push hm_15 dX0_moveKept_53 (v := .inr (.inr v2)) rfl ?_
      refine zw_ifnull hm_15 dX0_moveKept_54 (t := 62) rfl ?_ ?_
      · intro hc
        have h := h.1 hc
        (try rw [hc])
        show ma_wp X d w 15 62 [(2, .inr (.inr none)), (0, .inr (.inr (some 82))), (1, .inl l1)] [] S1 _
        refine zw_sto hm_15 dX0_moveKept_62 [(1, .inl (l1 + (1 : Int32))), (2, .inr (.inr none)), (0, .inr (.inr (some 82)))] rfl rfl rfl ?_
        refine zw_goto hm_15 dX0_moveKept_65 (t := 33) rfl ?_
        exact zw_sub (ma_nd_of (ks := [0, 1]) rfl (by decide)) (ma_nd_of (ks := [1, 2, 0]) rfl (by decide)) (ma_le_cons rfl (ma_le_cons rfl (ma_le_nil _))) h
      · intro c3 hc
        have h := h.2 c3 hc
        (try rw [hc])
        show ma_wp X d w 15 57 [(2, .inr (.inr (some c3))), (0, .inr (.inr (some 82))), (1, .inl l1)] [] S1 _
        refine zw_push hm_15 dX0_moveKept_57 (v := .inr (.inr (some 82))) rfl ?_
        refine zw_push hm_15 dX0_moveKept_58 (v := .inr (.inr (some c3))) rfl ?_
        refine zw_cv hm_15 dX0_moveKept_59 v_1_153_1 hm_16 [.inr (.inr (some c3))] [] rfl (zT_rt hS1 s_82 rfl) ⟨by omega, by omega⟩ rfl ?_
        show ma_wp X (d - 1) (w - 21) 16 0 [(0, .inr (.inr (some 82))), (1, .inr (.inr (some c3)))] [] S1 _
        refine zw_push hm_16 dX0_moveOlder_0 (v := .inr (.inr (some c3))) rfl ?_
        refine zw_stk hm_16 dX0_moveOlder_1 (st₉ := [.inr (.inr (some c3)), .inr (.inr (some c3))]) rfl rfl ?_
        obtain ⟨hg, h⟩ := h
        refine zw_gf hm_16 dX0_moveOlder_2 (v := .inl (mI S1 c3 5)) (zT_tis hS1 hg) (zT_tt hS1 hg) rfl f_1_126_9 rfl ?_
        refine zw_push hm_16 dX0_moveOlder_5 (v := .inl (1 : Int32)) rfl ?_
        refine zw_stk hm_16 dX0_moveOlder_6 (st₉ := [.inl ((mI S1 c3 5) + (1 : Int32)), .inr (.inr (some c3))]) rfl rfl ?_
        obtain ⟨hg, h⟩ := h
        refine zw_pf hm_16 dX0_moveOlder_7 (zT_tis hS1 hg) (zT_tt hS1 hg) p_1_126_9 zk_int ?_
        refine zw_push hm_16 dX0_moveOlder_10 (v := .inr (.inr (some c3))) rfl ?_
        obtain ⟨hg, h⟩ := h
        refine zw_gf hm_16 dX0_moveOlder_11 (v := .inl (mI (ma_put S1 c3 5 (.inl ((mI S1 c3 5) + (1 : Int32)))) c3 5)) (zT_tis (zT_pi hS1) hg) (zT_tt (zT_pi hS1) hg) rfl f_1_126_9 rfl ?_
        refine zw_push hm_16 dX0_moveOlder_14 (v := .inr (.inr (some 82))) rfl ?_
        refine zw_gf hm_16 dX0_moveOlder_15 (v := .inl (mI (ma_put S1 c3 5 (.inl ((mI S1 c3 5) + (1 : Int32)))) 82 4)) (zT_is (zT_pi hS1) s_82) (zT_t (zT_pi hS1) s_82) rfl f_1_22_1 rfl ?_
        refine zw_if2 hm_16 dX0_moveOlder_18 (t := 49) rfl zc2_lt ?_ ?_
        · intro hc
          rw [if_pos hc] at h
          refine zw_push hm_16 dX0_moveOlder_49 (v := .inr (.inr (some 82))) rfl ?_
          refine zw_gf hm_16 dX0_moveOlder_50 (v := .inr (.inr (some 69))) (zT_is (zT_pi hS1) s_82) (zT_t (zT_pi hS1) s_82) rfl f_1_80_1 (zT_f (zT_pi hS1) r_82_0) ?_
          refine zw_push hm_16 dX0_moveOlder_53 (v := .inr (.inr (some c3))) rfl ?_
          refine zw_push hm_16 dX0_moveOlder_54 (v := .inr (.inr (some 82))) rfl ?_
          refine zw_gf hm_16 dX0_moveOlder_55 (v := .inl (mI (ma_put S1 c3 5 (.inl ((mI S1 c3 5) + (1 : Int32)))) 82 8)) (zT_is (zT_pi hS1) s_82) (zT_t (zT_pi hS1) s_82) rfl f_1_34_1 rfl ?_
          refine zw_cv hm_16 dX0_moveOlder_58 v_1_156_7 hm_90 [.inl (mI (ma_put S1 c3 5 (.inl ((mI S1 c3 5) + (1 : Int32)))) 82 8), .inr (.inr (some c3))] [] rfl (zT_rt (zT_pi hS1) s_69 rfl) ⟨by omega, by omega⟩ rfl (zw_mono h (zv_go ?_ ?_))
          · intro S4 hv
            obtain ⟨hS4, h⟩ := hv
            refine zw_push hm_16 dX0_moveOlder_61 (v := .inr (.inr (some 82))) rfl ?_
            refine zw_stk hm_16 dX0_moveOlder_62 (st₉ := [.inr (.inr (some 82)), .inr (.inr (some 82))]) rfl rfl ?_
            refine zw_gf hm_16 dX0_moveOlder_63 (v := .inl (mI S4 82 8)) (zT_is hS4 s_82) (zT_t hS4 s_82) rfl f_1_34_1 rfl ?_
            refine zw_push hm_16 dX0_moveOlder_66 (v := .inr (.inr (some c3))) rfl ?_
            obtain ⟨hg, h⟩ := h
            refine zw_gf hm_16 dX0_moveOlder_67 (v := .inl (mI S4 c3 2)) (zT_tis hS4 hg) (zT_tt hS4 hg) rfl f_1_67_9 rfl ?_
            refine zw_stk hm_16 dX0_moveOlder_70 (st₉ := [.inl ((mI S4 82 8) + (mI S4 c3 2)), .inr (.inr (some 82))]) rfl rfl ?_
            refine zw_pf hm_16 dX0_moveOlder_71 (zT_is hS4 s_82) (zT_t hS4 s_82) p_1_34_1 zk_int ?_
            refine zw_vret hm_16 dX0_moveOlder_74 ?_
            show ma_wp X d w 15 62 [(2, .inr (.inr (some c3))), (0, .inr (.inr (some 82))), (1, .inl l1)] [] (ma_put S4 82 8 (.inl ((mI S4 82 8) + (mI S4 c3 2)))) _
            refine zw_sto hm_15 dX0_moveKept_62 [(1, .inl (l1 + (1 : Int32))), (2, .inr (.inr (some c3))), (0, .inr (.inr (some 82)))] rfl rfl rfl ?_
            refine zw_goto hm_15 dX0_moveKept_65 (t := 33) rfl ?_
            exact zw_sub (ma_nd_of (ks := [0, 1]) rfl (by decide)) (ma_nd_of (ks := [1, 2, 0]) rfl (by decide)) (ma_le_cons rfl (ma_le_cons rfl (ma_le_nil _))) h
          · intro x S9 hx
            exact hx.elim
        · intro hc
          rw [if_neg hc] at h
          refine zw_push hm_16 dX0_moveOlder_21 (v := .inr (.inr (some 82))) rfl ?_
          refine zw_gf hm_16 dX0_moveOlder_22 (v := .inr (.inr (some 69))) (zT_is (zT_pi hS1) s_82) (zT_t (zT_pi hS1) s_82) rfl f_1_80_1 (zT_f (zT_pi hS1) r_82_0) ?_
          refine zw_push hm_16 dX0_moveOlder_25 (v := .inr (.inr (some c3))) rfl ?_
          refine zw_push hm_16 dX0_moveOlder_26 (v := .inr (.inr (some 82))) rfl ?_
          refine zw_gf hm_16 dX0_moveOlder_27 (v := .inl (mI (ma_put S1 c3 5 (.inl ((mI S1 c3 5) + (1 : Int32)))) 82 6)) (zT_is (zT_pi hS1) s_82) (zT_t (zT_pi hS1) s_82) rfl f_1_28_1 rfl ?_
          refine zw_cv hm_16 dX0_moveOlder_30 v_1_156_7 hm_90 [.inl (mI (ma_put S1 c3 5 (.inl ((mI S1 c3 5) + (1 : Int32)))) 82 6), .inr (.inr (some c3))] [] rfl (zT_rt (zT_pi hS1) s_69 rfl) ⟨by omega, by omega⟩ rfl (zw_mono h (zv_go ?_ ?_))
          · intro S6 hv
            obtain ⟨hS6, h⟩ := hv
            refine zw_push hm_16 dX0_moveOlder_33 (v := .inr (.inr (some 82))) rfl ?_
            refine zw_stk hm_16 dX0_moveOlder_34 (st₉ := [.inr (.inr (some 82)), .inr (.inr (some 82))]) rfl rfl ?_
            refine zw_gf hm_16 dX0_moveOlder_35 (v := .inl (mI S6 82 6)) (zT_is hS6 s_82) (zT_t hS6 s_82) rfl f_1_28_1 rfl ?_
            refine zw_push hm_16 dX0_moveOlder_38 (v := .inr (.inr (some c3))) rfl ?_
            obtain ⟨hg, h⟩ := h
            refine zw_gf hm_16 dX0_moveOlder_39 (v := .inl (mI S6 c3 2)) (zT_tis hS6 hg) (zT_tt hS6 hg) rfl f_1_67_9 rfl ?_
            refine zw_stk hm_16 dX0_moveOlder_42 (st₉ := [.inl ((mI S6 82 6) + (mI S6 c3 2)), .inr (.inr (some 82))]) rfl rfl ?_
            refine zw_pf hm_16 dX0_moveOlder_43 (zT_is hS6 s_82) (zT_t hS6 s_82) p_1_28_1 zk_int ?_
            refine zw_goto hm_16 dX0_moveOlder_46 (t := 74) rfl ?_
            refine zw_vret hm_16 dX0_moveOlder_74 ?_
            show ma_wp X d w 15 62 [(2, .inr (.inr (some c3))), (0, .inr (.inr (some 82))), (1, .inl l1)] [] (ma_put S6 82 6 (.inl ((mI S6 82 6) + (mI S6 c3 2)))) _
            refine zw_sto hm_15 dX0_moveKept_62 [(1, .inl (l1 + (1 : Int32))), (2, .inr (.inr (some c3))), (0, .inr (.inr (some 82)))] rfl rfl rfl ?_
            refine zw_goto hm_15 dX0_moveKept_65 (t := 33) rfl ?_
            exact zw_sub (ma_nd_of (ks := [0, 1]) rfl (by decide)) (ma_nd_of (ks := [1, 2, 0]) rfl (by decide)) (ma_le_cons rfl (ma_le_cons rfl (ma_le_nil _))) h
          · intro x S9 hx
            exact hx.elim
    · intro x S9 hx
      exact ⟨by decide, hx⟩
theorem lp_15_82_sy_33 {X : Nat × (Nat → Int32)} {d w : Nat} {f : Nat → Nat → Int32} {r : Nat → Nat → Option Nat} {C Z N : Nat} {Q : Option ma_V ⊕ Nat → ma_S → Prop} {ab : Nat→Nat→Int32} {st : Int} {ot : Int} {o0 : Int} {PP : Nat→Int} {NN : Nat→Int} (hd : 3 ≤ d) (hw : 135 ≤ w) (K : ∀ S₉, zJ82 f r C Z N S₉ → (xB S₉ (mR S₉ 70)) → (aG S₉ = gMf (ab 75 4).toInt.toNat 0 (gM9 ab)) → Q (.inl none) S₉) : ∀ (n : Nat) (S : ma_S) (l1 : Int32), (512 - l1.toInt).toNat = n → zJ82 f r C Z N S → (0 ≤ l1.toInt) → ((mI S 82 6).toInt ≤ 1500 + 61 * l1.toInt) → ((mI S 82 8).toInt ≤ 3000 + 61 * l1.toInt) → (xB S (mR S 70)) → (gMf ((mI S 75 4).toInt - l1.toInt).toNat l1.toNatClampNeg (aG S) = gMf (ab 75 4).toInt.toNat 0 (gM9 ab)) → (qJg (aG S) st ot o0 PP NN l1.toNatClampNeg) → ma_wp X d w 15 33 [(0, .inr (.inr (some 82))), (1, .inl l1)] [] S Q := by
  intro n
  induction n using Nat.strongRecOn with
  | _ n IH =>
    intro S l1 hmu hI  hi0 hi1 hi2 hi3 hi4 hi5
    refine g_15_82_sy_33 l1 (by omega) (by omega) (zG_T hI) ?_
    have f1 := zG_s hI (0) (512) (c := 75) (k := 4) (by decide)
    have b2 := i_bd l1
    refine zd (fun h3 => ?_) (fun h3 => ?_)
    · skip
      have g4 := i_le h3
      exact K _ hI (show xB S (mR S 70) from by first | (exact xB_x (xC_o (W := 75) hi3).2)) (show aG S = gMf (ab 75 4).toInt.toNat 0 (gM9 ab) from by first | (have z := hi4; rw [show ((mI S 75 4).toInt - l1.toInt).toNat = 0 from by omega] at z; exact z))
    · skip
      have g5 := i_nle h3
      refine sp_124_75_s (l1) (by omega) (by omega) (zJ82_dn hI) (show xB S (mR S 70) from by first | (exact xB_x (xC_o (W := 75) hi3).2)) (by omega) (show l1.toInt < (mI S 75 4).toInt from by omega) (fun v2 S1 eS_S1 hq_v2 rp0_S1 => zo_n ⟨(by rw [eS_S1]; exact zG_T hI), ?_⟩)
      replace eS_S1 := eS_S1.symm; subst eS_S1
      have rp0_S1 : v2 = zTa (mR S 70) (mI S 76 l1.toNatClampNeg) := rp0_S1
      refine ⟨fun hc => ?_, fun c3 hc => ?_⟩
      · skip
        have rn_c3 : zTa (mR S 70) (mI S 76 l1.toNatClampNeg) = none := rp0_S1.symm.trans hc
        first | have e6 : (l1 + (1 : Int32)).toInt = l1.toInt + (1) := i_addk rfl (by omega) (by omega) | have b7 := i_bd (l1 + (1 : Int32))
        have f8 := zG_s hI (0) (400000) (c := 82) (k := 6) (by decide)
        have f9 := zG_s hI (0) (400000) (c := 82) (k := 8) (by decide)
        exact IH _ (by omega) _ ((l1 + (1 : Int32))) rfl hI (by omega) (show (mI S 82 6).toInt ≤ 1500 + 61 * ((l1 + (1 : Int32))).toInt from by omega) (show (mI S 82 8).toInt ≤ 3000 + 61 * ((l1 + (1 : Int32))).toInt from by omega) (show xB S (mR S 70) from by first | (exact (Jg_no hi5 (by omega) (by omega) hi3 rn_c3).elim)) (show gMf ((mI S 75 4).toInt - ((l1 + (1 : Int32))).toInt).toNat ((l1 + (1 : Int32))).toNatClampNeg (aG S) = gMf (ab 75 4).toInt.toNat 0 (gM9 ab) from by first | (exact (Jg_no hi5 (by omega) (by omega) hi3 rn_c3).elim)) (show qJg (aG S) st ot o0 PP NN ((l1 + (1 : Int32))).toNatClampNeg from by first | (exact (Jg_no hi5 (by omega) (by omega) hi3 rn_c3).elim))
      · skip
        have th_c3 := hq_v2 c3 hc
        have rg_c3 : zTa (mR S 70) (mI S 76 l1.toNatClampNeg) = some c3 := rp0_S1.symm.trans hc
        subst hc
        refine ⟨zG_n hI th_c3, ?_⟩
        refine ⟨zG_n hI th_c3, ?_⟩
        have hI10 : zJ82 f r C Z N (ma_put S c3 5 (.inl ((mI S c3 5) + (1 : Int32)))) := zG_tf hI th_c3.1 zJ82_t (by decide) (by decide) (zJ82_xt (S := S) th_c3.1 (zG_x hI)) (by decide) (by decide) (by decide)
        refine ⟨zG_n hI10 th_c3, ?_⟩
        have b11 := i_bd (mI (ma_put S c3 5 (.inl ((mI S c3 5) + (1 : Int32)))) c3 5)
        have b12 := i_bd (mI S 82 4)
        have q13 : (mI (ma_put S c3 5 (.inl ((mI S c3 5) + (1 : Int32)))) 82 4).toInt = (mI S 82 4).toInt := zp_th th_c3.1 (by decide)
        have b14 := i_bd (mI (ma_put S c3 5 (.inl ((mI S c3 5) + (1 : Int32)))) 82 4)
        refine zd (fun h15 => ?_) (fun h15 => ?_)
        · skip
          have g16 := i_lt h15
          have f17 := zG_s hI (0) (400000) (c := 82) (k := 8) (by decide)
          have q18 : (mI (ma_put S c3 5 (.inl ((mI S c3 5) + (1 : Int32)))) 82 8).toInt = (mI S 82 8).toInt := zp_th th_c3.1 (by decide)
          have f19 := zG_s hI10 (0) (400000) (c := 82) (k := 8) (by decide)
          refine sp_90_69_s (ab := (aS 75 (ma_put S c3 5 (.inl ((mI S c3 5) + (1 : Int32)))))) (R := (mR (ma_put S c3 5 (.inl ((mI S c3 5) + (1 : Int32)))) 70)) (y := ((mI S 76 l1.toNatClampNeg))) c3 ((mI (ma_put S c3 5 (.inl ((mI S c3 5) + (1 : Int32)))) 82 8)) (by omega) (by omega) (zJ82_dn hI10) th_c3 (show xB (ma_put S c3 5 (.inl ((mI S c3 5) + (1 : Int32)))) (mR (ma_put S c3 5 (.inl ((mI S c3 5) + (1 : Int32)))) 70) from by first | (exact xB_x (xC_t (k := 5) (x := ((mI S c3 5) + (1 : Int32))) (xC_o (W := 75) hi3) xW75 rg_c3 rfl).2)) (show aS 75 (ma_put S c3 5 (.inl ((mI S c3 5) + (1 : Int32)))) = (aS 75 (ma_put S c3 5 (.inl ((mI S c3 5) + (1 : Int32))))) from by first | (exact rfl)) (show zTa (mR (ma_put S c3 5 (.inl ((mI S c3 5) + (1 : Int32)))) 70) ((mI S 76 l1.toNatClampNeg)) = some c3 from by first | (exact rg_c3)) (show qMv (aS 75 (ma_put S c3 5 (.inl ((mI S c3 5) + (1 : Int32))))) ((mI S 76 l1.toNatClampNeg)).toNatClampNeg (mI (ma_put S c3 5 (.inl ((mI S c3 5) + (1 : Int32)))) 82 8) from by first | (have r5 : mI (ma_put S c3 5 (.inl (mI S c3 5 + (1 : Int32)))) c3 5 = mI S c3 5 + (1 : Int32) := if_pos ⟨rfl, rfl⟩; have r82 : ∀ k, mI (ma_put S c3 5 (.inl (mI S c3 5 + (1 : Int32)))) 82 k = mI S 82 k := fun k => if_neg (fun z => by have := z.1; have := th_c3.1; omega); have r5i := congrArg Int32.toInt r5; have r4i := congrArg Int32.toInt (r82 4); exact Qm_g hi5 (by omega) (by omega) hi3 rg_c3 (G_p5 hi3 rg_c3) ((if_pos (by omega)).trans (r82 _).symm)) | (have r5 : mI (ma_put S c3 5 (.inl (mI S c3 5 + (1 : Int32)))) c3 5 = mI S c3 5 + (1 : Int32) := if_pos ⟨rfl, rfl⟩; have r82 : ∀ k, mI (ma_put S c3 5 (.inl (mI S c3 5 + (1 : Int32)))) 82 k = mI S 82 k := fun k => if_neg (fun z => by have := z.1; have := th_c3.1; omega); have r5i := congrArg Int32.toInt r5; have r4i := congrArg Int32.toInt (r82 4); exact Qm_g hi5 (by omega) (by omega) hi3 rg_c3 (G_p5 hi3 rg_c3) ((if_neg (by omega)).trans (r82 _).symm))) (by omega) (fun S4 hL_S4 rp0_S4 rp1_S4 => zv_n ⟨zG_T hL_S4, ?_⟩)
          have hI_S4 := zJ82_up hI10 hL_S4
          have rp0_S4 : xB S4 (mR (ma_put S c3 5 (.inl ((mI S c3 5) + (1 : Int32)))) 70) := by
            have z := rp0_S4
            (try rw [show mI (ma_put S c3 5 (.inl ((mI S c3 5) + (1 : Int32)))) 65 = f 65 from funext (fun k => zG_z hI10 rfl)] at z)
            (try rw [show mI (ma_put S c3 5 (.inl ((mI S c3 5) + (1 : Int32)))) 64 1 = f 64 1 from zG_z hI10 rfl] at z)
            exact z
          have rp1_S4 : aS 75 S4 = aMo (aS 75 (ma_put S c3 5 (.inl ((mI S c3 5) + (1 : Int32))))) ((mI S 76 l1.toNatClampNeg)).toNatClampNeg (mI (ma_put S c3 5 (.inl ((mI S c3 5) + (1 : Int32)))) 82 8) := by
            have z := rp1_S4
            (try rw [show mI (ma_put S c3 5 (.inl ((mI S c3 5) + (1 : Int32)))) 65 = f 65 from funext (fun k => zG_z hI10 rfl)] at z)
            (try rw [show mI (ma_put S c3 5 (.inl ((mI S c3 5) + (1 : Int32)))) 64 1 = f 64 1 from zG_z hI10 rfl] at z)
            exact z
          refine ⟨zG_n hI_S4 th_c3, ?_⟩
          have q21 : (mI S4 82 8).toInt = (mI (ma_put S c3 5 (.inl ((mI S c3 5) + (1 : Int32)))) 82 8).toInt := zG_zi hL_S4 rfl
          have f22 := zG_s hI_S4 (0) (400000) (c := 82) (k := 8) (by decide)
          have f23 := zG_th hI_S4 th_c3
          first | have e24 : ((mI S4 82 8) + (mI S4 c3 2)).toInt = (mI S4 82 8).toInt + (mI S4 c3 2).toInt := i_add (by omega) (by omega) | have b25 := i_bd ((mI S4 82 8) + (mI S4 c3 2))
          have hI20 : zJ82 f r C Z N (ma_put S4 82 8 (.inl ((mI S4 82 8) + (mI S4 c3 2)))) := zG_sp hI_S4 (0) (400000) rfl (by decide) (by decide) (by decide) (show zJ82_x (mI S4) from zG_x hI_S4) (by omega) (by omega)
          first | have e26 : (l1 + (1 : Int32)).toInt = l1.toInt + (1) := i_addk rfl (by omega) (by omega) | have b27 := i_bd (l1 + (1 : Int32))
          have f28 := zG_s hI (0) (400000) (c := 82) (k := 6) (by decide)
          have q29 : (mI (ma_put S c3 5 (.inl ((mI S c3 5) + (1 : Int32)))) 82 6).toInt = (mI S 82 6).toInt := zp_th th_c3.1 (by decide)
          have f30 := zG_s hI10 (0) (400000) (c := 82) (k := 6) (by decide)
          have q31 : (mI S4 82 6).toInt = (mI (ma_put S c3 5 (.inl ((mI S c3 5) + (1 : Int32)))) 82 6).toInt := zG_zi hL_S4 rfl
          have f32 := zG_s hI_S4 (0) (400000) (c := 82) (k := 6) (by decide)
          have f33 := zG_s hI_S4 (0) (512) (c := 75) (k := 4) (by decide)
          exact IH _ (by omega) _ ((l1 + (1 : Int32))) rfl hI20 (by omega) (show (mI S4 82 6).toInt ≤ 1500 + 61 * ((l1 + (1 : Int32))).toInt from by omega) (show ((mI S4 82 8) + (mI S4 c3 2)).toInt ≤ 3000 + 61 * ((l1 + (1 : Int32))).toInt from by omega) (show xB (ma_put S4 82 8 (.inl ((mI S4 82 8) + (mI S4 c3 2)))) (mR (ma_put S4 82 8 (.inl ((mI S4 82 8) + (mI S4 c3 2)))) 70) from by first | (exact xB_x (xC_n (c := 82) (k := 8) (x := ((mI S4 82 8) + (mI S4 c3 2))) (xC_o (W := 75) rp0_S4) ⟨by decide, Or.inl ⟨rfl, rfl⟩⟩).2)) (show gMf ((mI S4 75 4).toInt - ((l1 + (1 : Int32))).toInt).toNat ((l1 + (1 : Int32))).toNatClampNeg (aG (ma_put S4 82 8 (.inl ((mI S4 82 8) + (mI S4 c3 2))))) = gMf (ab 75 4).toInt.toNat 0 (gM9 ab) from by first | (have r5 : mI (ma_put S c3 5 (.inl (mI S c3 5 + (1 : Int32)))) c3 5 = mI S c3 5 + (1 : Int32) := if_pos ⟨rfl, rfl⟩; have r82 : ∀ k, mI (ma_put S c3 5 (.inl (mI S c3 5 + (1 : Int32)))) 82 k = mI S 82 k := fun k => if_neg (fun z => by have := z.1; have := th_c3.1; omega); have r5i := congrArg Int32.toInt r5; have r4i := congrArg Int32.toInt (r82 4); have z0 : aG (ma_put S c3 5 (.inl ((mI S c3 5) + (1 : Int32)))) = ma_u (aG S) 131 (mI S 76 l1.toNatClampNeg).toNatClampNeg (mI S c3 5 + (1 : Int32)) := G_p5 hi3 rg_c3; have z1 := G_mo rp1_S4 (show mI S4 82 = mI (ma_put S c3 5 (.inl ((mI S c3 5) + (1 : Int32)))) 82 from funext (fun _ => zG_z hL_S4 rfl)) (show mI S4 83 = mI (ma_put S c3 5 (.inl ((mI S c3 5) + (1 : Int32)))) 83 from funext (fun _ => zG_z hL_S4 rfl)); rw [r82] at z1; have zz := ((G_pk (n := 8) (k := 4) (x := ((mI S4 82 8) + (mI S4 c3 2))) (xC_o (W := 75) rp0_S4).2 (by decide)).trans (congrArg (fun q => ma_u q 87 4 ((mI S4 82 8) + (mI S4 c3 2))) (show aG S4 = aG S4 from rfl))); rw [M1_n hi3 rg_c3 (by omega) z0 z1 rp0_S4 rfl] at zz; exact (Mf_st hi4 hi5 (by omega) (by omega) zz (by omega)).1)) (show qJg (aG (ma_put S4 82 8 (.inl ((mI S4 82 8) + (mI S4 c3 2))))) st ot o0 PP NN ((l1 + (1 : Int32))).toNatClampNeg from by first | (have r5 : mI (ma_put S c3 5 (.inl (mI S c3 5 + (1 : Int32)))) c3 5 = mI S c3 5 + (1 : Int32) := if_pos ⟨rfl, rfl⟩; have r82 : ∀ k, mI (ma_put S c3 5 (.inl (mI S c3 5 + (1 : Int32)))) 82 k = mI S 82 k := fun k => if_neg (fun z => by have := z.1; have := th_c3.1; omega); have r5i := congrArg Int32.toInt r5; have r4i := congrArg Int32.toInt (r82 4); have z0 : aG (ma_put S c3 5 (.inl ((mI S c3 5) + (1 : Int32)))) = ma_u (aG S) 131 (mI S 76 l1.toNatClampNeg).toNatClampNeg (mI S c3 5 + (1 : Int32)) := G_p5 hi3 rg_c3; have z1 := G_mo rp1_S4 (show mI S4 82 = mI (ma_put S c3 5 (.inl ((mI S c3 5) + (1 : Int32)))) 82 from funext (fun _ => zG_z hL_S4 rfl)) (show mI S4 83 = mI (ma_put S c3 5 (.inl ((mI S c3 5) + (1 : Int32)))) 83 from funext (fun _ => zG_z hL_S4 rfl)); rw [r82] at z1; have zz := ((G_pk (n := 8) (k := 4) (x := ((mI S4 82 8) + (mI S4 c3 2))) (xC_o (W := 75) rp0_S4).2 (by decide)).trans (congrArg (fun q => ma_u q 87 4 ((mI S4 82 8) + (mI S4 c3 2))) (show aG S4 = aG S4 from rfl))); rw [M1_n hi3 rg_c3 (by omega) z0 z1 rp0_S4 rfl] at zz; exact (Mf_st hi4 hi5 (by omega) (by omega) zz (by omega)).2))
        · skip
          have g34 := i_nlt h15
          have f35 := zG_s hI (0) (400000) (c := 82) (k := 6) (by decide)
          have q36 : (mI (ma_put S c3 5 (.inl ((mI S c3 5) + (1 : Int32)))) 82 6).toInt = (mI S 82 6).toInt := zp_th th_c3.1 (by decide)
          have f37 := zG_s hI10 (0) (400000) (c := 82) (k := 6) (by decide)
          refine sp_90_69_s (ab := (aS 75 (ma_put S c3 5 (.inl ((mI S c3 5) + (1 : Int32)))))) (R := (mR (ma_put S c3 5 (.inl ((mI S c3 5) + (1 : Int32)))) 70)) (y := ((mI S 76 l1.toNatClampNeg))) c3 ((mI (ma_put S c3 5 (.inl ((mI S c3 5) + (1 : Int32)))) 82 6)) (by omega) (by omega) (zJ82_dn hI10) th_c3 (show xB (ma_put S c3 5 (.inl ((mI S c3 5) + (1 : Int32)))) (mR (ma_put S c3 5 (.inl ((mI S c3 5) + (1 : Int32)))) 70) from by first | (exact xB_x (xC_t (k := 5) (x := ((mI S c3 5) + (1 : Int32))) (xC_o (W := 75) hi3) xW75 rg_c3 rfl).2)) (show aS 75 (ma_put S c3 5 (.inl ((mI S c3 5) + (1 : Int32)))) = (aS 75 (ma_put S c3 5 (.inl ((mI S c3 5) + (1 : Int32))))) from by first | (exact rfl)) (show zTa (mR (ma_put S c3 5 (.inl ((mI S c3 5) + (1 : Int32)))) 70) ((mI S 76 l1.toNatClampNeg)) = some c3 from by first | (exact rg_c3)) (show qMv (aS 75 (ma_put S c3 5 (.inl ((mI S c3 5) + (1 : Int32))))) ((mI S 76 l1.toNatClampNeg)).toNatClampNeg (mI (ma_put S c3 5 (.inl ((mI S c3 5) + (1 : Int32)))) 82 6) from by first | (have r5 : mI (ma_put S c3 5 (.inl (mI S c3 5 + (1 : Int32)))) c3 5 = mI S c3 5 + (1 : Int32) := if_pos ⟨rfl, rfl⟩; have r82 : ∀ k, mI (ma_put S c3 5 (.inl (mI S c3 5 + (1 : Int32)))) 82 k = mI S 82 k := fun k => if_neg (fun z => by have := z.1; have := th_c3.1; omega); have r5i := congrArg Int32.toInt r5; have r4i := congrArg Int32.toInt (r82 4); exact Qm_g hi5 (by omega) (by omega) hi3 rg_c3 (G_p5 hi3 rg_c3) ((if_pos (by omega)).trans (r82 _).symm)) | (have r5 : mI (ma_put S c3 5 (.inl (mI S c3 5 + (1 : Int32)))) c3 5 = mI S c3 5 + (1 : Int32) := if_pos ⟨rfl, rfl⟩; have r82 : ∀ k, mI (ma_put S c3 5 (.inl (mI S c3 5 + (1 : Int32)))) 82 k = mI S 82 k := fun k => if_neg (fun z => by have := z.1; have := th_c3.1; omega); have r5i := congrArg Int32.toInt r5; have r4i := congrArg Int32.toInt (r82 4); exact Qm_g hi5 (by omega) (by omega) hi3 rg_c3 (G_p5 hi3 rg_c3) ((if_neg (by omega)).trans (r82 _).symm))) (by omega) (fun S6 hL_S6 rp0_S6 rp1_S6 => zv_n ⟨zG_T hL_S6, ?_⟩)
          have hI_S6 := zJ82_up hI10 hL_S6
          have rp0_S6 : xB S6 (mR (ma_put S c3 5 (.inl ((mI S c3 5) + (1 : Int32)))) 70) := by
            have z := rp0_S6
            (try rw [show mI (ma_put S c3 5 (.inl ((mI S c3 5) + (1 : Int32)))) 65 = f 65 from funext (fun k => zG_z hI10 rfl)] at z)
            (try rw [show mI (ma_put S c3 5 (.inl ((mI S c3 5) + (1 : Int32)))) 64 1 = f 64 1 from zG_z hI10 rfl] at z)
            exact z
          have rp1_S6 : aS 75 S6 = aMo (aS 75 (ma_put S c3 5 (.inl ((mI S c3 5) + (1 : Int32))))) ((mI S 76 l1.toNatClampNeg)).toNatClampNeg (mI (ma_put S c3 5 (.inl ((mI S c3 5) + (1 : Int32)))) 82 6) := by
            have z := rp1_S6
            (try rw [show mI (ma_put S c3 5 (.inl ((mI S c3 5) + (1 : Int32)))) 65 = f 65 from funext (fun k => zG_z hI10 rfl)] at z)
            (try rw [show mI (ma_put S c3 5 (.inl ((mI S c3 5) + (1 : Int32)))) 64 1 = f 64 1 from zG_z hI10 rfl] at z)
            exact z
          refine ⟨zG_n hI_S6 th_c3, ?_⟩
          have q39 : (mI S6 82 6).toInt = (mI (ma_put S c3 5 (.inl ((mI S c3 5) + (1 : Int32)))) 82 6).toInt := zG_zi hL_S6 rfl
          have f40 := zG_s hI_S6 (0) (400000) (c := 82) (k := 6) (by decide)
          have f41 := zG_th hI_S6 th_c3
          first | have e42 : ((mI S6 82 6) + (mI S6 c3 2)).toInt = (mI S6 82 6).toInt + (mI S6 c3 2).toInt := i_add (by omega) (by omega) | have b43 := i_bd ((mI S6 82 6) + (mI S6 c3 2))
          have hI38 : zJ82 f r C Z N (ma_put S6 82 6 (.inl ((mI S6 82 6) + (mI S6 c3 2)))) := zG_sp hI_S6 (0) (400000) rfl (by decide) (by decide) (by decide) (show zJ82_x (mI S6) from zG_x hI_S6) (by omega) (by omega)
          first | have e44 : (l1 + (1 : Int32)).toInt = l1.toInt + (1) := i_addk rfl (by omega) (by omega) | have b45 := i_bd (l1 + (1 : Int32))
          have f46 := zG_s hI (0) (400000) (c := 82) (k := 8) (by decide)
          have q47 : (mI (ma_put S c3 5 (.inl ((mI S c3 5) + (1 : Int32)))) 82 8).toInt = (mI S 82 8).toInt := zp_th th_c3.1 (by decide)
          have f48 := zG_s hI10 (0) (400000) (c := 82) (k := 8) (by decide)
          have q49 : (mI S6 82 8).toInt = (mI (ma_put S c3 5 (.inl ((mI S c3 5) + (1 : Int32)))) 82 8).toInt := zG_zi hL_S6 rfl
          have f50 := zG_s hI_S6 (0) (400000) (c := 82) (k := 8) (by decide)
          have f51 := zG_s hI_S6 (0) (512) (c := 75) (k := 4) (by decide)
          exact IH _ (by omega) _ ((l1 + (1 : Int32))) rfl hI38 (by omega) (show ((mI S6 82 6) + (mI S6 c3 2)).toInt ≤ 1500 + 61 * ((l1 + (1 : Int32))).toInt from by omega) (show (mI S6 82 8).toInt ≤ 3000 + 61 * ((l1 + (1 : Int32))).toInt from by omega) (show xB (ma_put S6 82 6 (.inl ((mI S6 82 6) + (mI S6 c3 2)))) (mR (ma_put S6 82 6 (.inl ((mI S6 82 6) + (mI S6 c3 2)))) 70) from by first | (exact xB_x (xC_n (c := 82) (k := 6) (x := ((mI S6 82 6) + (mI S6 c3 2))) (xC_o (W := 75) rp0_S6) ⟨by decide, Or.inl ⟨rfl, rfl⟩⟩).2)) (show gMf ((mI S6 75 4).toInt - ((l1 + (1 : Int32))).toInt).toNat ((l1 + (1 : Int32))).toNatClampNeg (aG (ma_put S6 82 6 (.inl ((mI S6 82 6) + (mI S6 c3 2))))) = gMf (ab 75 4).toInt.toNat 0 (gM9 ab) from by first | (have r5 : mI (ma_put S c3 5 (.inl (mI S c3 5 + (1 : Int32)))) c3 5 = mI S c3 5 + (1 : Int32) := if_pos ⟨rfl, rfl⟩; have r82 : ∀ k, mI (ma_put S c3 5 (.inl (mI S c3 5 + (1 : Int32)))) 82 k = mI S 82 k := fun k => if_neg (fun z => by have := z.1; have := th_c3.1; omega); have r5i := congrArg Int32.toInt r5; have r4i := congrArg Int32.toInt (r82 4); have z0 : aG (ma_put S c3 5 (.inl ((mI S c3 5) + (1 : Int32)))) = ma_u (aG S) 131 (mI S 76 l1.toNatClampNeg).toNatClampNeg (mI S c3 5 + (1 : Int32)) := G_p5 hi3 rg_c3; have z1 := G_mo rp1_S6 (show mI S6 82 = mI (ma_put S c3 5 (.inl ((mI S c3 5) + (1 : Int32)))) 82 from funext (fun _ => zG_z hL_S6 rfl)) (show mI S6 83 = mI (ma_put S c3 5 (.inl ((mI S c3 5) + (1 : Int32)))) 83 from funext (fun _ => zG_z hL_S6 rfl)); rw [r82] at z1; have zz := ((G_pk (n := 6) (k := 10) (x := ((mI S6 82 6) + (mI S6 c3 2))) (xC_o (W := 75) rp0_S6).2 (by decide)).trans (congrArg (fun q => ma_u q 87 10 ((mI S6 82 6) + (mI S6 c3 2))) (show aG S6 = aG S6 from rfl))); rw [M1_y hi3 rg_c3 (by omega) z0 z1 rp0_S6 rfl] at zz; exact (Mf_st hi4 hi5 (by omega) (by omega) zz (by omega)).1)) (show qJg (aG (ma_put S6 82 6 (.inl ((mI S6 82 6) + (mI S6 c3 2))))) st ot o0 PP NN ((l1 + (1 : Int32))).toNatClampNeg from by first | (have r5 : mI (ma_put S c3 5 (.inl (mI S c3 5 + (1 : Int32)))) c3 5 = mI S c3 5 + (1 : Int32) := if_pos ⟨rfl, rfl⟩; have r82 : ∀ k, mI (ma_put S c3 5 (.inl (mI S c3 5 + (1 : Int32)))) 82 k = mI S 82 k := fun k => if_neg (fun z => by have := z.1; have := th_c3.1; omega); have r5i := congrArg Int32.toInt r5; have r4i := congrArg Int32.toInt (r82 4); have z0 : aG (ma_put S c3 5 (.inl ((mI S c3 5) + (1 : Int32)))) = ma_u (aG S) 131 (mI S 76 l1.toNatClampNeg).toNatClampNeg (mI S c3 5 + (1 : Int32)) := G_p5 hi3 rg_c3; have z1 := G_mo rp1_S6 (show mI S6 82 = mI (ma_put S c3 5 (.inl ((mI S c3 5) + (1 : Int32)))) 82 from funext (fun _ => zG_z hL_S6 rfl)) (show mI S6 83 = mI (ma_put S c3 5 (.inl ((mI S c3 5) + (1 : Int32)))) 83 from funext (fun _ => zG_z hL_S6 rfl)); rw [r82] at z1; have zz := ((G_pk (n := 6) (k := 10) (x := ((mI S6 82 6) + (mI S6 c3 2))) (xC_o (W := 75) rp0_S6).2 (by decide)).trans (congrArg (fun q => ma_u q 87 10 ((mI S6 82 6) + (mI S6 c3 2))) (show aG S6 = aG S6 from rfl))); rw [M1_y hi3 rg_c3 (by omega) z0 z1 rp0_S6 rfl] at zz; exact (Mf_st hi4 hi5 (by omega) (by omega) zz (by omega)).2))
theorem sp_15_82_sy {X : Nat × (Nat → Int32)} {d w : Nat} {f : Nat → Nat → Int32} {r : Nat → Nat → Option Nat} {C Z N : Nat} {Q : Option ma_V ⊕ Nat → ma_S → Prop} {ab : Nat→Nat→Int32} {st : Int} {ot : Int} {o0 : Int} {PP : Nat→Int} {NN : Nat→Int} {S : ma_S}  (hd : 3 ≤ d) (hw : 135 ≤ w) (hI : zJ82 f r C Z N S) (hpre0 : (mI S 82 6).toInt ≤ 1500) (hpre1 : xB S (mR S 70)) (hpre2 : aG S = ab) (hpre3 : qJg (gM9 ab) st ot o0 PP NN 0) (K : ∀ S₉, zJ82 f r C Z N S₉ → (xB S₉ (mR S₉ 70)) → (aG S₉ = gMf (ab 75 4).toInt.toNat 0 (gM9 ab)) → Q (.inl none) S₉) : ma_wp X d w 15 0 [(0, .inr (.inr (some 82)))] [] S Q := by
  refine g_15_82_sy_0  (by omega) (by omega) (zG_T hI) ?_
  have x2 : (mI S 82 3).toInt ≤ (mI S 82 7).toInt ∧ (mI S 82 7).toInt ≤ (mI S 82 3).toInt + (mI S 82 2).toInt := zG_x hI
  have f3 := zG_s hI (0) (1500) (c := 82) (k := 3) (by decide)
  have f4 := zG_s hI (0) (1500) (c := 82) (k := 2) (by decide)
  first | have e5 : ((mI S 82 3) + (mI S 82 2)).toInt = (mI S 82 3).toInt + (mI S 82 2).toInt := i_add (by omega) (by omega) | have b6 := i_bd ((mI S 82 3) + (mI S 82 2))
  first | have e7 : (((mI S 82 3) + (mI S 82 2)) + (mI S 82 3)).toInt = ((mI S 82 3) + (mI S 82 2)).toInt + (mI S 82 3).toInt := i_add (by omega) (by omega) | have b8 := i_bd (((mI S 82 3) + (mI S 82 2)) + (mI S 82 3))
  have f9 := zG_s hI (0) (3000) (c := 82) (k := 7) (by decide)
  first | have e10 : ((((mI S 82 3) + (mI S 82 2)) + (mI S 82 3)) - (mI S 82 7)).toInt = (((mI S 82 3) + (mI S 82 2)) + (mI S 82 3)).toInt - (mI S 82 7).toInt := i_sub (by omega) (by omega) | have b11 := i_bd ((((mI S 82 3) + (mI S 82 2)) + (mI S 82 3)) - (mI S 82 7))
  have hI1 : zJ82 f r C Z N (ma_put S 82 7 (.inl ((((mI S 82 3) + (mI S 82 2)) + (mI S 82 3)) - (mI S 82 7)))) := zG_sp hI (0) (3000) rfl (by decide) (by decide) (by decide) (show (mI S 82 3).toInt ≤ ((((mI S 82 3) + (mI S 82 2)) + (mI S 82 3)) - (mI S 82 7)).toInt ∧ ((((mI S 82 3) + (mI S 82 2)) + (mI S 82 3)) - (mI S 82 7)).toInt ≤ (mI S 82 3).toInt + (mI S 82 2).toInt from by omega) (by omega) (by omega)
  have hI12 : zJ82 f r C Z N (ma_put (ma_put S 82 7 (.inl ((((mI S 82 3) + (mI S 82 2)) + (mI S 82 3)) - (mI S 82 7)))) 82 8 (.inl ((((mI S 82 3) + (mI S 82 2)) + (mI S 82 3)) - (mI S 82 7)))) := zG_sp hI1 (0) (400000) rfl (by decide) (by decide) (by decide) (show zJ82_x (mI (ma_put S 82 7 (.inl ((((mI S 82 3) + (mI S 82 2)) + (mI S 82 3)) - (mI S 82 7))))) from zG_x hI1) (by omega) (by omega)
  have li13 : (0 : Int32).toInt = 0 := rfl
  have f14 := zG_s hI (0) (400000) (c := 82) (k := 6) (by decide)
  have f15 := zG_s hI (0) (512) (c := 75) (k := 4) (by decide)
  exact lp_15_82_sy_33 (by omega) (by omega) K _ _ ((0 : Int32)) rfl hI12 (by omega) (show (mI S 82 6).toInt ≤ 1500 + 61 * ((0 : Int32)).toInt from by omega) (show ((((mI S 82 3) + (mI S 82 2)) + (mI S 82 3)) - (mI S 82 7)).toInt ≤ 3000 + 61 * ((0 : Int32)).toInt from by omega) (show xB (ma_put (ma_put S 82 7 (.inl ((((mI S 82 3) + (mI S 82 2)) + (mI S 82 3)) - (mI S 82 7)))) 82 8 (.inl ((((mI S 82 3) + (mI S 82 2)) + (mI S 82 3)) - (mI S 82 7)))) (mR (ma_put (ma_put S 82 7 (.inl ((((mI S 82 3) + (mI S 82 2)) + (mI S 82 3)) - (mI S 82 7)))) 82 8 (.inl ((((mI S 82 3) + (mI S 82 2)) + (mI S 82 3)) - (mI S 82 7)))) 70) from by first | (exact xB_x (xC_n (c := 82) (k := 8) (x := ((((mI S 82 3) + (mI S 82 2)) + (mI S 82 3)) - (mI S 82 7))) (xC_n (c := 82) (k := 7) (x := ((((mI S 82 3) + (mI S 82 2)) + (mI S 82 3)) - (mI S 82 7))) (xC_o (W := 75) hpre1) ⟨by decide, Or.inl ⟨rfl, rfl⟩⟩) ⟨by decide, Or.inl ⟨rfl, rfl⟩⟩).2)) (show gMf ((mI S 75 4).toInt - ((0 : Int32)).toInt).toNat ((0 : Int32)).toNatClampNeg (aG (ma_put (ma_put S 82 7 (.inl ((((mI S 82 3) + (mI S 82 2)) + (mI S 82 3)) - (mI S 82 7)))) 82 8 (.inl ((((mI S 82 3) + (mI S 82 2)) + (mI S 82 3)) - (mI S 82 7))))) = gMf (ab 75 4).toInt.toNat 0 (gM9 ab) from by first | (have eX : mI S 82 3 + mI S 82 2 + mI S 82 3 - mI S 82 7 = ab 87 9 + ab 87 5 + ab 87 9 - ab 87 3 := (by rw [← hpre2]; rfl); rw [((G_pk (n := 8) (k := 4) (x := ((((mI S 82 3) + (mI S 82 2)) + (mI S 82 3)) - (mI S 82 7))) (xC_n (c := 82) (k := 7) (x := ((((mI S 82 3) + (mI S 82 2)) + (mI S 82 3)) - (mI S 82 7))) (xC_o (W := 75) hpre1) ⟨by decide, Or.inl ⟨rfl, rfl⟩⟩).2 (by decide)).trans (congrArg (fun q => ma_u q 87 4 ((((mI S 82 3) + (mI S 82 2)) + (mI S 82 3)) - (mI S 82 7))) ((G_pk (n := 7) (k := 3) (x := ((((mI S 82 3) + (mI S 82 2)) + (mI S 82 3)) - (mI S 82 7))) (xC_o (W := 75) hpre1).2 (by decide)).trans (congrArg (fun q => ma_u q 87 3 ((((mI S 82 3) + (mI S 82 2)) + (mI S 82 3)) - (mI S 82 7))) (show aG S = aG S from rfl))))), hpre2, eX]; have e4 : ab 75 4 = mI S 75 4 := (by rw [← hpre2]; exact (aG_o (by decide) (by decide)).trans rfl); rw [← e4, show ((ab 75 4).toInt - (0 : Int32).toInt).toNat = (ab 75 4).toInt.toNat from by rw [show (0 : Int32).toInt = 0 from rfl, Int.sub_zero]]; rfl)) (show qJg (aG (ma_put (ma_put S 82 7 (.inl ((((mI S 82 3) + (mI S 82 2)) + (mI S 82 3)) - (mI S 82 7)))) 82 8 (.inl ((((mI S 82 3) + (mI S 82 2)) + (mI S 82 3)) - (mI S 82 7))))) st ot o0 PP NN ((0 : Int32)).toNatClampNeg from by first | (have eX : mI S 82 3 + mI S 82 2 + mI S 82 3 - mI S 82 7 = ab 87 9 + ab 87 5 + ab 87 9 - ab 87 3 := (by rw [← hpre2]; rfl); rw [((G_pk (n := 8) (k := 4) (x := ((((mI S 82 3) + (mI S 82 2)) + (mI S 82 3)) - (mI S 82 7))) (xC_n (c := 82) (k := 7) (x := ((((mI S 82 3) + (mI S 82 2)) + (mI S 82 3)) - (mI S 82 7))) (xC_o (W := 75) hpre1) ⟨by decide, Or.inl ⟨rfl, rfl⟩⟩).2 (by decide)).trans (congrArg (fun q => ma_u q 87 4 ((((mI S 82 3) + (mI S 82 2)) + (mI S 82 3)) - (mI S 82 7))) ((G_pk (n := 7) (k := 3) (x := ((((mI S 82 3) + (mI S 82 2)) + (mI S 82 3)) - (mI S 82 7))) (xC_o (W := 75) hpre1).2 (by decide)).trans (congrArg (fun q => ma_u q 87 3 ((((mI S 82 3) + (mI S 82 2)) + (mI S 82 3)) - (mI S 82 7))) (show aG S = aG S from rfl))))), hpre2, eX]; exact hpre3))

