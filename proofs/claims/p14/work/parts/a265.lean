/-! from 95.u11 -/
/-! AGES, the class (written by wip/tools/gen15y.py) -/
/-! AGES: the class, step by step -/
section F21
variable {a b ab : Nat → Nat → Int32} {S S₉ : ma_S} {R : Nat → Option Nat} {x x2 y y2 i i2 to : Int32} {c d k n f j m : Nat} {p e : Int}
theorem cx_ix {pl cd : Int32} (h0 : 0 ≤ pl.toInt) (h1 : pl.toInt ≤ 200000) (i0 : 0 ≤ i.toInt) (i6 : i.toInt ≤ 61) (hc : 1 ≤ cd.toInt) : ((pl + 1 + i) / cd).toInt = (pl.toInt + 1 + i.toInt) / cd.toInt ∧ 0 ≤ ((pl + 1 + i) / cd).toInt := by
  have e1 : (pl + 1).toInt = pl.toInt + 1 := i_p1 (by omega)
  have e2 : (pl + 1 + i).toInt = pl.toInt + 1 + i.toInt := by
    rw [i_add (by omega) (by omega), e1]
  have d := i_div (x := pl + 1 + i) (y := cd) (by omega) hc
  rw [d.2.2.1, e2]
  exact ⟨rfl, by rw [← e2, ← d.2.2.1]; exact d.1⟩
/-! words that grow OLD -/
theorem Gr_s : gGr a (n + 1) = gGr a n + (if a 126 n ≠ 0 ∧ (a 87 9).toInt ≤ (a 130 n).toInt ∧ (a 87 11).toInt ≤ (a 131 n).toInt + 1 then (a 128 n).toInt else 0) := rfl
theorem Gr_g (hI : qI a) : ∀ n m : Nat, (a 69 6).toInt ≤ (n : Int) → n ≤ m → m ≤ 512 → gGr a m = gGr a n := by
  intro n m hn hm h5
  induction m with
  | zero => rw [show n = 0 by omega]
  | succ m ih =>
    by_cases w : n = m + 1
    · rw [w]
    · rw [Gr_s, ih (by omega) (by omega), if_neg (fun z => ?_), Int.add_zero]
      have q := (hI.1 m ⟨by omega, z.1⟩).1.1
      omega
theorem gGr_0 (h : x.toInt = gGr (aG S) y.toNatClampNeg) (hn : ¬ (aG S 126 y.toNatClampNeg ≠ 0 ∧ (aG S 87 9).toInt ≤ (aG S 130 y.toNatClampNeg).toInt ∧ (aG S 87 11).toInt ≤ (aG S 131 y.toNatClampNeg).toInt + 1)) (h0 : 0 ≤ y.toInt) (hy : y2.toInt = y.toInt + 1) : x.toInt = gGr (aG S) y2.toNatClampNeg := by
  have t := tn_cast h0
  have t2 := tn_cast (x := y2) (by omega)
  rw [show y2.toNatClampNeg = y.toNatClampNeg + 1 from by omega, Gr_s, if_neg hn, Int.add_zero]
  exact h
theorem Gr_no (h : x.toInt = gGr (aG S) y.toNatClampNeg) (hC : xB S R) (rn : zTa R y = none) (h0 : 0 ≤ y.toInt) (h5 : y.toInt < 512) (hy : y2.toInt = y.toInt + 1) : x.toInt = gGr (aG S) y2.toNatClampNeg := gGr_0 h (fun z => xB_nt (W := 75) hC rn ⟨h0, h5, by rw [← aG_o (by decide) (by decide)]; exact z.1⟩) h0 hy
theorem Gr_n1 (h : x.toInt = gGr (aG S) y.toNatClampNeg) (hC : xB S R) (rg : zTa R y = some c) (hp : (mI S c 4).toInt < (mI S 82 3).toInt) (hy : y2.toInt = y.toInt + 1) : x.toInt = gGr (aG S) y2.toNatClampNeg := by
  have ty := xB_th (W := 75) hC rg
  refine gGr_0 h (fun z => ?_) ty.1 hy
  have z2 := z.2.1
  rw [aG_o (c := 130) (by decide) (by decide), ← ty.2.2.2.2.2.1] at z2
  have z3 : (mI S 82 3).toInt ≤ (mI S c 4).toInt := z2
  omega
theorem Gr_n2 (h : x.toInt = gGr (aG S) y.toNatClampNeg) (hC : xB S R) (rg : zTa R y = some c) (hp : (mI S c 5).toInt + 1 < (mI S 82 4).toInt) (hy : y2.toInt = y.toInt + 1) : x.toInt = gGr (aG S) y2.toNatClampNeg := by
  have ty := xB_th (W := 75) hC rg
  refine gGr_0 h (fun z => ?_) ty.1 hy
  have z2 := z.2.2
  rw [← xB_5 hC rg] at z2
  have z3 : (mI S 82 4).toInt ≤ (mI S c 5).toInt + 1 := z2
  omega
theorem gGr_y (h : x.toInt = gGr (aG S) y.toNatClampNeg) (hC : xB S R) (rg : zTa R y = some c) (hp : (mI S 82 3).toInt ≤ (mI S c 4).toInt) (ha : (mI S 82 4).toInt ≤ (mI S c 5).toInt + 1) (hx : x2.toInt = x.toInt + (mI S c 2).toInt) (hy : y2.toInt = y.toInt + 1) : x2.toInt = gGr (aG S) y2.toNatClampNeg := by
  have ty := xB_th (W := 75) hC rg
  have t := tn_cast ty.1
  have t2 := tn_cast (x := y2) (by omega)
  have e4 : (aG S 130 y.toNatClampNeg).toInt = (mI S c 4).toInt := by rw [aG_o (by decide) (by decide), ← ty.2.2.2.2.2.1]
  have e2 : (aG S 128 y.toNatClampNeg).toInt = (mI S c 2).toInt := by rw [aG_o (by decide) (by decide), ← ty.2.2.2.2.1]
  have e5 : (aG S 131 y.toNatClampNeg).toInt = (mI S c 5).toInt := by rw [← xB_5 hC rg]
  have e9 : (aG S 87 9).toInt = (mI S 82 3).toInt := rfl
  have e11 : (aG S 87 11).toInt = (mI S 82 4).toInt := rfl
  rw [show y2.toNatClampNeg = y.toNatClampNeg + 1 from by omega, Gr_s, if_pos ⟨by rw [aG_o (by decide) (by decide), ty.2.2.2.2.2.2.2.2]; decide, by omega, by omega⟩]
  omega
theorem AV_5 (hv : qAv (aG S)) (hC : xB S R) (rg : zTa R y = some c) : 0 ≤ (mI S c 5).toInt ∧ (mI S c 5).toInt ≤ 1000 := by
  have ty := xB_th (W := 75) hC rg
  have q := (hv.2.2.2.2.2.2.1 _ (show xAl (aG S) y.toNatClampNeg from ⟨zTa_n rg, by rw [aG_o (by decide) (by decide), ty.2.2.2.2.2.2.2.2]; decide⟩)).1
  rw [← xB_5 hC rg] at q
  have := hv.2.2.1.2.2.2.1
  exact ⟨q.1, by omega⟩
/-! what lies on dirty cards -/
theorem gDw_st (h : ¬ i.toInt < (a 128 n).toInt - 1) : gDw a n i = a := by
  unfold gDw
  rw [show ((a 128 n).toInt - 1 - i.toInt).toNat = 0 from by omega]
  rfl
theorem gDw_go (h : i.toInt < (a 128 n).toInt - 1) (hx : (i + 1).toInt = i.toInt + 1) : gDw a n i = gDw (if 0 < (a 87 12).toInt ∧ gCx a n i.toInt < 375 ∧ a 83 (gCx a n i.toInt).toNat ≠ 0 then aCm a (aRef a n i) else a) n (i + 1) := by
  have e : (if 0 < (a 87 12).toInt ∧ gCx a n i.toInt < 375 ∧ a 83 (gCx a n i.toInt).toNat ≠ 0 then aCm a (aRef a n i) else a) 128 n = a 128 n := by
    split
    · exact aCm_o ⟨by decide, by decide, by decide⟩
    · rfl
  unfold gDw
  rw [e, hx, show ((a 128 n).toInt - 1 - i.toInt).toNat = ((a 128 n).toInt - 1 - (i.toInt + 1)).toNat + 1 from by omega]
  rfl
theorem gDw_y (h : i.toInt < (a 128 n).toInt - 1) (hx : (i + 1).toInt = i.toInt + 1) (hd : gDy a n i.toInt) : gDw a n i = gDw (aCm a (aRef a n i)) n (i + 1) := by
  unfold gDy at hd
  rw [gDw_go h hx, if_pos hd]
theorem gDw_n (h : i.toInt < (a 128 n).toInt - 1) (hx : (i + 1).toInt = i.toInt + 1) (hd : ¬ gDy a n i.toInt) : gDw a n i = gDw a n (i + 1) := by
  unfold gDy at hd
  rw [gDw_go h hx, if_neg hd]
theorem gDc_o (h : c ≠ 75 ∧ c ≠ 76 ∧ c ≠ 77) : ∀ (f : Nat) (i : Int32) (a : Nat → Nat → Int32), gDc m f i a c k = a c k := by
  intro f
  induction f with
  | zero => intro i a; rfl
  | succ f ih =>
    intro i a
    show gDc m f (i + 1) (if _ then aCm a (aRef a m i) else a) c k = a c k
    rw [ih]
    split
    · exact aCm_o h
    · rfl
theorem gDw_o (h : c ≠ 75 ∧ c ≠ 76 ∧ c ≠ 77) : gDw a n i c k = a c k := gDc_o h _ _ _
theorem gOb_cg (h1 : b 71 = a 71) (h2 : b 126 = a 126) : zOb b p = zOb a p := by
  unfold zOb
  rw [h1, h2]
theorem gDf_e (h : ¬ p < e) : gDf e f a p = a := by
  cases f with
  | zero => rfl
  | succ f => exact if_neg h
theorem gDf_fr (h : p < e) (hf : (zOb a p).toInt < 0) : gDf e (f + 1) a p = gDf e f a (p + 1) := by
  show (if p < e then _ else _) = _
  rw [if_pos h, if_pos hf]
theorem gDf_go (h : p < e) (hf : 0 ≤ (zOb a p).toInt) : gDf e (f + 1) a p = gDf e f (gDw a (zOb a p).toNatClampNeg 0) (p + (a 128 (zOb a p).toNatClampNeg).toInt) := by
  show (if p < e then _ else _) = _
  rw [if_pos h, if_neg (by omega)]
theorem S1_dw (h : zS1 a) : zS1 (gDw a n i) := fun m hm => by
  unfold xAl at hm
  rw [gDw_o ⟨by decide, by decide, by decide⟩] at hm
  rw [gDw_o ⟨by decide, by decide, by decide⟩]
  exact h m hm
theorem gDf_fu : ∀ (f g : Nat) (a : Nat → Nat → Int32) (p : Int), zS1 a → (e - p).toNat ≤ f → (e - p).toNat ≤ g → gDf e f a p = gDf e g a p := by
  intro f
  induction f with
  | zero =>
    intro g a p h hf hg
    rw [gDf_e (by omega), gDf_e (by omega)]
  | succ f ih =>
    intro g a p h hf hg
    by_cases c : p < e
    · cases g with
      | zero => omega
      | succ g =>
        by_cases d : (zOb a p).toInt < 0
        · rw [gDf_fr c d, gDf_fr c d]
          exact ih g _ _ h (by omega) (by omega)
        · have s := h _ (Ob_xl (a := a) (p := p) (by omega))
          rw [gDf_go c (by omega), gDf_go c (by omega)]
          exact ih g _ _ (S1_dw h) (by omega) (by omega)
    · rw [gDf_e c, gDf_e c]
theorem Dp_e (h : ¬ p < e) : gDp a e p = a := gDf_e h
theorem Dp_fr (h : p < e) (hf : (zOb a p).toInt < 0) : gDp a e p = gDp a e (p + 1) := by
  unfold gDp
  rw [show (e - p).toNat = (e - (p + 1)).toNat + 1 from by omega]
  exact gDf_fr h hf
theorem Dp_go (h1 : zS1 a) (h : p < e) (hf : 0 ≤ (zOb a p).toInt) : gDp a e p = gDp (gDw a (zOb a p).toNatClampNeg 0) e (p + (a 128 (zOb a p).toNatClampNeg).toInt) := by
  have s := h1 _ (Ob_xl (a := a) (p := p) hf)
  unfold gDp
  rw [show (e - p).toNat = (e - (p + 1)).toNat + 1 from by omega, gDf_go h hf]
  exact gDf_fu _ _ _ _ (S1_dw h1) (by omega) (by omega)
theorem G_cm (h : aS 75 S₉ = aCm (aS 75 S) y) (e1 : mI S₉ 82 = mI S 82) (e2 : mI S₉ 83 = mI S 83) : aG S₉ = aCm (aG S) y := G_f (f := fun a => aCm a y) (o9_cm G_o9) (fun _ _ _ w => aCm_o ⟨by omega, by omega, by omega⟩) h e1 e2
theorem G_rf : aRef (aS 75 S) n i = aRef (aG S) n i := o9_ref G_o9
theorem yb_e : zOb (aG S) = zOb (aS 75 S) := by
  funext p
  unfold zOb
  rw [aG_o (c := 71) (by decide) (by decide), aG_o (c := 126) (by decide) (by decide)]
theorem yb_y (hC : xB S R) (rg : zTa R (mI S 71 x.toNatClampNeg) = some c) (h0 : 0 ≤ x.toInt) (h1 : x.toInt < 4500) : zOb (aG S) x.toInt = mI S 71 x.toNatClampNeg ∧ aG S 128 (mI S 71 x.toNatClampNeg).toNatClampNeg = mI S c 2 := by
  rw [yb_e, aG_o (c := 128) (by decide) (by decide)]
  exact ob_y hC rg h0 h1
theorem yb_n2 (h : (mI S 71 x.toNatClampNeg).toInt < 0 ∨ 512 ≤ (mI S 71 x.toNatClampNeg).toInt) : zOb (aG S) x.toInt = -1 := by
  rw [yb_e]
  exact ob_n2 h
theorem yb_n3 (hC : xB S R) (rn : zTa R (mI S 71 x.toNatClampNeg) = none) : zOb (aG S) x.toInt = -1 := by
  rw [yb_e]
  exact ob_n3 hC rn
/-- the card that the class finds -/
theorem dy_e (hC : xB S R) (rg : zTa R y = some c) (hp : 0 ≤ (mI S c 4).toInt ∧ (mI S c 4).toInt ≤ 200000) (i0 : 0 ≤ i.toInt) (i6 : i.toInt ≤ 61) (hc : 1 ≤ (mI S 82 5).toInt) : ((mI S c 4 + 1 + i) / mI S 82 5).toInt = gCx (aG S) y.toNatClampNeg i.toInt ∧ 0 ≤ gCx (aG S) y.toNatClampNeg i.toInt := by
  have ty := xB_th (W := 75) hC rg
  have q := cx_ix (pl := mI S c 4) (cd := mI S 82 5) hp.1 hp.2 i0 i6 hc
  have e : gCx (aG S) y.toNatClampNeg i.toInt = ((mI S c 4).toInt + 1 + i.toInt) / (mI S 82 5).toInt := by
    unfold gCx
    rw [aG_o (c := 130) (by decide) (by decide), ← ty.2.2.2.2.2.1]
    rfl
  rw [e]
  exact ⟨q.1, by rw [← q.1]; exact q.2⟩
theorem dy_y (hC : xB S R) (rg : zTa R y = some c) (hp : 0 ≤ (mI S c 4).toInt ∧ (mI S c 4).toInt ≤ 200000) (i0 : 0 ≤ i.toInt) (i6 : i.toInt ≤ 61) (hc : 0 < (mI S 82 5).toInt) (h3 : ((mI S c 4 + 1 + i) / mI S 82 5).toInt < 375) (hd : (mI S 83 ((mI S c 4 + 1 + i) / mI S 82 5).toNatClampNeg).toInt ≠ 0) : gDy (aG S) y.toNatClampNeg i.toInt := by
  have q := dy_e hC rg hp i0 i6 (by omega)
  refine ⟨hc, by omega, ?_⟩
  rw [aG_8]
  have e : (gCx (aG S) y.toNatClampNeg i.toInt).toNat = ((mI S c 4 + 1 + i) / mI S 82 5).toNatClampNeg := by
    have := tn_cast (x := (mI S c 4 + 1 + i) / mI S 82 5) (by omega)
    omega
  rw [e]
  exact i_nz2 hd
theorem dy_n (hC : xB S R) (rg : zTa R y = some c) (hp : 0 ≤ (mI S c 4).toInt ∧ (mI S c 4).toInt ≤ 200000) (i0 : 0 ≤ i.toInt) (i6 : i.toInt ≤ 61) (h : (mI S 82 5).toInt ≤ 0 ∨ 375 ≤ ((mI S c 4 + 1 + i) / mI S 82 5).toInt ∨ (mI S 83 ((mI S c 4 + 1 + i) / mI S 82 5).toNatClampNeg).toInt = 0) : ¬ gDy (aG S) y.toNatClampNeg i.toInt := by
  rintro ⟨h1, h2, h3⟩
  have h1₉ : 0 < (mI S 82 5).toInt := h1
  have q := dy_e hC rg hp i0 i6 (by omega)
  rw [aG_8] at h3
  have e : (gCx (aG S) y.toNatClampNeg i.toInt).toNat = ((mI S c 4 + 1 + i) / mI S 82 5).toNatClampNeg := by
    have := tn_cast (x := (mI S c 4 + 1 + i) / mI S 82 5) (by omega)
    omega
  rw [e] at h3
  rcases h with w | w | w
  · omega
  · omega
  · exact h3 (i_zer w)
/-! dirty cards are found -/
def gNr (a : Nat → Nat → Int32) (n : Nat) (i : Int) (y : Int32) : Nat → Nat → Int32 := if (0 ≤ y.toInt ∧ y.toInt < 512 ∧ a 126 y.toNatClampNeg ≠ 0 ∧ (a 87 9).toInt ≤ (a 130 y.toNatClampNeg).toInt) ∧ (a 130 n).toInt < (a 87 9).toInt ∧ 0 < (a 87 12).toInt ∧ gCx a n i < 375 then ma_u a 83 (gCx a n i).toNat 1 else a
def gF1 (a : Nat → Nat → Int32) (n : Nat) : Nat → Nat → Int32 := fun c k => if c = 83 ∧ k < 375 then gNk a k n else a c k
def gF2 (a : Nat → Nat → Int32) (n i : Nat) : Nat → Nat → Int32 := fun c k => if c = 83 ∧ k < 375 then (if gWk a k n i ≠ 0 then 1 else gNk a k n) else a c k
theorem F2_r (h : c ≠ 83) : gF2 a n j c = a c := funext (fun k => if_neg (fun w => h w.1))
theorem F1_r (h : c ≠ 83) : gF1 a n c = a c := funext (fun k => if_neg (fun w => h w.1))
theorem gF1_0 : gF1 a 0 = zFl a 83 0 375 := by
  funext c k
  unfold gF1 zFl
  by_cases w : c = 83 ∧ k < 375
  · rw [if_pos w, if_pos ⟨w.1, by omega⟩]
    rfl
  · rw [if_neg w, if_neg (fun z => w ⟨z.1, by omega⟩)]
theorem F2_0 : gF2 a n 0 = gF1 a n := by
  funext c k
  unfold gF2 gF1
  by_cases w : c = 83 ∧ k < 375
  · rw [if_pos w, if_pos w]
    exact if_neg (fun z => z rfl)
  · rw [if_neg w, if_neg w]
theorem F2_e (h6 : a 126 n ≠ 0) (ho : (a 130 n).toInt < (a 87 9).toInt) (hj : (j : Int) = (a 128 n).toInt - 1) : gF2 a n j = gF1 a (n + 1) := by
  funext c k
  unfold gF2 gF1
  by_cases w : c = 83 ∧ k < 375
  · rw [if_pos w, if_pos w]
    show _ = (if (a 126 n ≠ 0 ∧ (a 130 n).toInt < (a 87 9).toInt) ∧ gWk a k n ((a 128 n).toInt - 1).toNat ≠ 0 then 1 else gNk a k n)
    rw [show ((a 128 n).toInt - 1).toNat = j from by omega]
    by_cases z : gWk a k n j ≠ 0
    · rw [if_pos z, if_pos ⟨⟨h6, ho⟩, z⟩]
    · rw [if_neg z, if_neg (fun y => z y.2)]
  · rw [if_neg w, if_neg w]
theorem gF1_n (h : ¬ (a 126 n ≠ 0 ∧ (a 130 n).toInt < (a 87 9).toInt)) : gF1 a (n + 1) = gF1 a n := by
  funext c k
  unfold gF1
  by_cases w : c = 83 ∧ k < 375
  · rw [if_pos w, if_pos w]
    exact if_neg (fun z => h z.1)
  · rw [if_neg w, if_neg w]
theorem Nk_g (hI : qI a) : ∀ n m : Nat, (a 69 6).toInt ≤ (n : Int) → n ≤ m → m ≤ 512 → gNk a k m = gNk a k n := by
  intro n m hn hm h5
  induction m with
  | zero => rw [show n = 0 by omega]
  | succ m ih =>
    by_cases w : n = m + 1
    · rw [w]
    · refine (if_neg (fun z => ?_)).trans (ih (by omega) (by omega))
      have q := (hI.1 m ⟨by omega, z.1.1⟩).1.1
      omega
theorem F1_end (hI : qI a) (hn : (a 69 6).toInt ≤ (n : Int)) (h5 : n ≤ 512) : gF1 a n = gFd a := by
  funext c k
  unfold gF1 gFd
  by_cases w : c = 83 ∧ k < 375
  · rw [if_pos w, if_pos w, Nk_g hI n 512 hn h5 (Nat.le_refl _)]
  · rw [if_neg w, if_neg w]
theorem Nr_cg (h1 : b 126 = a 126) (h2 : b 130 = a 130) (h3 : b 87 = a 87) (h4 : b 71 = a 71) (h5 : ∀ n, b (1000 + n) = a (1000 + n)) : (∀ n i, aRef b n i = aRef a n i) ∧ ∀ n i, gCx b n i = gCx a n i := by
  refine ⟨fun n i => rf_cg (h5 n) h2 h4, fun n i => ?_⟩
  unfold gCx
  rw [h2, h3]
theorem Nr_s (ho : (a 130 n).toInt < (a 87 9).toInt) (hi : Int32.ofNat j = i) (hp : 0 ≤ (a 130 n).toInt) : gNr (gF2 a n j) n (j : Int) (aRef (gF2 a n j) n i) = gF2 a n (j + 1) := by
  have q := Nr_cg (a := a) (b := gF2 a n j) (F2_r (by decide)) (F2_r (by decide)) (F2_r (by decide)) (F2_r (by decide)) (fun n => F2_r (by omega))
  unfold gNr
  rw [q.1, F2_r (c := 126) (by decide), F2_r (c := 130) (by decide), F2_r (c := 87) (by decide), q.2]
  by_cases w : (0 ≤ (aRef a n i).toInt ∧ (aRef a n i).toInt < 512 ∧ a 126 (aRef a n i).toNatClampNeg ≠ 0 ∧ (a 87 9).toInt ≤ (a 130 (aRef a n i).toNatClampNeg).toInt) ∧ (a 130 n).toInt < (a 87 9).toInt ∧ 0 < (a 87 12).toInt ∧ gCx a n (j : Int) < 375
  · rw [if_pos w]
    have c0 : 0 ≤ gCx a n (j : Int) := Int.ediv_nonneg (by omega) (by omega)
    funext c₉ k₉
    show (if c₉ = 83 ∧ k₉ = (gCx a n (j : Int)).toNat then 1 else gF2 a n j c₉ k₉) = gF2 a n (j + 1) c₉ k₉
    unfold gF2
    by_cases z : c₉ = 83 ∧ k₉ < 375
    · rw [if_pos z, if_pos z]
      by_cases y : k₉ = (gCx a n (j : Int)).toNat
      · have e1 : gWk a k₉ n (j + 1) = 1 := if_pos ⟨by rw [hi]; exact w.1, w.2.2.1, by omega⟩
        rw [if_pos ⟨z.1, y⟩, e1, if_pos (by decide)]
      · have e1 : gWk a k₉ n (j + 1) = gWk a k₉ n j := if_neg (fun v => by have := v.2.2; omega)
        rw [if_neg (fun v => y v.2), e1]
    · rw [if_neg z, if_neg z, if_neg (fun v => z ⟨v.1, by have := v.2; omega⟩)]
  · rw [if_neg w]
    funext c₉ k₉
    unfold gF2
    by_cases z : c₉ = 83 ∧ k₉ < 375
    · rw [if_pos z, if_pos z]
      have e1 : gWk a k₉ n (j + 1) = gWk a k₉ n j := if_neg (fun v => w ⟨by rw [← hi]; exact v.1, ho, v.2.1, by have := v.2.2; omega⟩)
      rw [e1]
    · rw [if_neg z, if_neg z]
end F21

/-! from 95.u12 -/
/-! AGES, the class (written by wip/tools/gen15y.py) -/
/-! AGES: a walk with a floor is one without, where those below are BLACK already -/
def aPc (a : Nat → Nat → Int32) : Nat → Nat → Int32 := fun c k => if c = 75 ∧ k = 5 then 0 else if c = 77 ∧ k < 512 ∧ a 126 k ≠ 0 ∧ (a 130 k).toInt < (a 75 5).toInt then 2 else a c k
section F22
variable {a b : Nat → Nat → Int32} {x y i : Int32} {c k n m f c0 k0 : Nat} {p e : Int}
theorem Pc_o (h : c ≠ 75) (h2 : c ≠ 77) : aPc a c k = a c k := (if_neg (fun w => h w.1)).trans (if_neg (fun w => h2 w.1))
theorem Pc_r (h : c ≠ 75) (h2 : c ≠ 77) : aPc a c = a c := funext (fun _ => Pc_o h h2)
theorem Pc_5 : aPc a 75 5 = 0 := if_pos ⟨rfl, rfl⟩
theorem Pc_75 (h : k ≠ 5) : aPc a 75 k = a 75 k := (if_neg (fun w => h w.2)).trans (if_neg (fun w => absurd w.1 (by decide)))
theorem Pc_7o (h : k < 512) (h6 : a 126 k ≠ 0) (hp : (a 130 k).toInt < (a 75 5).toInt) : aPc a 77 k = 2 := (if_neg (fun w => absurd w.1 (by decide))).trans (if_pos ⟨rfl, h, h6, hp⟩)
theorem Pc_7y (h : ¬ (k < 512 ∧ a 126 k ≠ 0 ∧ (a 130 k).toInt < (a 75 5).toInt)) : aPc a 77 k = a 77 k := (if_neg (fun w => absurd w.1 (by decide))).trans (if_neg (fun w => h w.2))
theorem Pc_u1 (h1 : c0 ≠ 126) (h2 : c0 ≠ 130) (h3 : ¬ (c0 = 75 ∧ k0 = 5)) (h4 : ¬ (c0 = 77 ∧ k0 < 512 ∧ a 126 k0 ≠ 0 ∧ (a 130 k0).toInt < (a 75 5).toInt) ∨ (c0 = 77 ∧ x = 2)) : aPc (ma_u a c0 k0 x) = ma_u (aPc a) c0 k0 x := by
  have r1 : ma_u a c0 k0 x 126 = a 126 := ma_u_ne _ _ _ (fun z => h1 z.symm)
  have r2 : ma_u a c0 k0 x 130 = a 130 := ma_u_ne _ _ _ (fun z => h2 z.symm)
  have r3 : ma_u a c0 k0 x 75 5 = a 75 5 := xu_o (fun z => h3 ⟨z.1.symm, z.2.symm⟩)
  funext c k
  unfold aPc
  rw [r1, r2, r3]
  show (if c = 75 ∧ k = 5 then 0 else if c = 77 ∧ k < 512 ∧ a 126 k ≠ 0 ∧ (a 130 k).toInt < (a 75 5).toInt then 2 else (if c = c0 ∧ k = k0 then x else a c k)) = (if c = c0 ∧ k = k0 then x else (if c = 75 ∧ k = 5 then 0 else if c = 77 ∧ k < 512 ∧ a 126 k ≠ 0 ∧ (a 130 k).toInt < (a 75 5).toInt then 2 else a c k))
  by_cases w0 : c = c0 ∧ k = k0
  · rw [if_pos w0, if_pos w0, if_neg (fun z => h3 ⟨w0.1 ▸ z.1, w0.2 ▸ z.2⟩)]
    by_cases w1 : c = 77 ∧ k < 512 ∧ a 126 k ≠ 0 ∧ (a 130 k).toInt < (a 75 5).toInt
    · rw [if_pos w1]
      rcases h4 with z | z
      · rw [w0.1, w0.2] at w1
        exact absurd w1 z
      · exact z.2.symm
    · rw [if_neg w1]
  · rw [if_neg w0, if_neg w0]
theorem Pc_al : xAl (aPc a) n ↔ xAl a n := by
  unfold xAl
  rw [Pc_o (by decide) (by decide)]
theorem Pc_rf : aRef (aPc a) n i = aRef a n i := rf_cg (Pc_r (by omega) (by omega)) (Pc_r (by decide) (by decide)) (Pc_r (by decide) (by decide))
/-- WHITE ones -/
theorem Pc_w (h0 : 0 ≤ (a 75 5).toInt) (hn : n < 512) (h6 : a 126 n ≠ 0) : ((a 75 5).toInt ≤ (a 130 n).toInt ∧ a 77 n = 0) ↔ ((aPc a 75 5).toInt ≤ (aPc a 130 n).toInt ∧ aPc a 77 n = 0) := by
  rw [Pc_5, Pc_o (c := 130) (by decide) (by decide)]
  have z0 : (0 : Int32).toInt = 0 := rfl
  by_cases w : (a 130 n).toInt < (a 75 5).toInt
  · rw [Pc_7o hn h6 w]
    exact ⟨fun z => by omega, fun z => absurd z.2 (by decide)⟩
  · rw [Pc_7y (fun z => w z.2.2)]
    exact ⟨fun z => ⟨by omega, z.2⟩, fun z => ⟨by omega, z.2⟩⟩
theorem Pc_cm (h0 : 0 ≤ (a 75 5).toInt) : aPc (aCm a y) = aCm (aPc a) y := by
  unfold aCm
  rw [Pc_o (c := 126) (by decide) (by decide), Pc_75 (k := 4) (by decide)]
  by_cases w : 0 ≤ y.toInt ∧ y.toInt < 512 ∧ a 126 y.toNatClampNeg ≠ 0 ∧ (a 75 5).toInt ≤ (a 130 y.toNatClampNeg).toInt ∧ (a 75 4).toInt < 512 ∧ a 77 y.toNatClampNeg = 0
  · have hn : y.toNatClampNeg < 512 := by
      have := tn_cast w.1
      omega
    have q := (Pc_w h0 hn w.2.2.1).mp ⟨w.2.2.2.1, w.2.2.2.2.2⟩
    rw [if_pos w, if_pos ⟨w.1, w.2.1, w.2.2.1, q.1, w.2.2.2.2.1, q.2⟩]
    rw [Pc_u1 (by decide) (by decide) (by decide) (Or.inl (by omega)), Pc_u1 (by decide) (by decide) (by omega) (Or.inl (by omega)), Pc_u1 (by decide) (by decide) (by omega) (Or.inl (fun z => by omega))]
  · rw [if_neg w, if_neg (fun z => w ?_)]
    have hn : y.toNatClampNeg < 512 := by
      have := tn_cast z.1
      omega
    have q := (Pc_w h0 hn z.2.2.1).mpr ⟨z.2.2.2.1, z.2.2.2.2.2⟩
    exact ⟨z.1, z.2.1, z.2.2.1, q.1, z.2.2.2.2.1, q.2⟩
theorem cm_5 : aCm a y 75 5 = a 75 5 := aCm_5
theorem Pc_cwf : ∀ (f : Nat) (i : Int32) (a : Nat → Nat → Int32), 0 ≤ (a 75 5).toInt → aPc (aCwf m f i a) = aCwf m f i (aPc a) := by
  intro f
  induction f with
  | zero => intro i a _; rfl
  | succ f ih =>
    intro i a h
    show aPc (aCwf m f (i + 1) (aCm a (aRef a m i))) = aCwf m f (i + 1) (aCm (aPc a) (aRef (aPc a) m i))
    rw [ih _ _ (by rw [aCm_5]; exact h), Pc_cm h, Pc_rf]
theorem cwf_5 : ∀ (f : Nat) (i : Int32) (a : Nat → Nat → Int32), aCwf m f i a 75 5 = a 75 5 := by
  intro f
  induction f with
  | zero => intro i a; rfl
  | succ f ih =>
    intro i a
    show aCwf m f (i + 1) (aCm a (aRef a m i)) 75 5 = a 75 5
    rw [ih, aCm_5]
theorem pop_5 : aPop a 75 5 = a 75 5 := by
  unfold aPop
  split
  · unfold aCw
    rw [cwf_5, xu_o (by omega), xu_o (by omega)]
  · rw [xu_o (by omega)]
theorem Pc_pop (h : 0 ≤ (a 75 5).toInt) : aPc (aPop a) = aPop (aPc a) := by
  unfold aPop
  rw [Pc_75 (k := 3) (by decide), Pc_o (c := 76) (by decide) (by decide), Pc_o (c := 126) (by decide) (by decide)]
  split
  · unfold aCw
    rw [Pc_cwf _ _ _ (by rw [xu_o (by omega), xu_o (by omega)]; exact h), Pc_u1 (by decide) (by decide) (by omega) (Or.inr ⟨rfl, rfl⟩), Pc_u1 (by decide) (by decide) (by decide) (Or.inl (by omega)), xu_o (c := 128) (by omega), xu_o (c := 128) (by omega), xu_o (c := 128) (by omega), xu_o (c := 128) (by omega), Pc_o (c := 128) (by decide) (by decide)]
  · rw [Pc_u1 (by decide) (by decide) (by decide) (Or.inl (by omega))]
theorem sp_5 : ∀ (f : Nat) (a : Nat → Nat → Int32), aSp f a 75 5 = a 75 5 := by
  intro f
  induction f with
  | zero => intro a; rfl
  | succ f ih =>
    intro a
    show (if (a 75 3).toInt < (a 75 4).toInt then aSp f (aPop a) else a) 75 5 = a 75 5
    split
    · rw [ih, pop_5]
    · rfl
theorem Pc_sp : ∀ (f : Nat) (a : Nat → Nat → Int32), 0 ≤ (a 75 5).toInt → aPc (aSp f a) = aSp f (aPc a) := by
  intro f
  induction f with
  | zero => intro a _; rfl
  | succ f ih =>
    intro a h
    show aPc (if (a 75 3).toInt < (a 75 4).toInt then aSp f (aPop a) else a) = (if (aPc a 75 3).toInt < (aPc a 75 4).toInt then aSp f (aPop (aPc a)) else aPc a)
    rw [Pc_75 (k := 3) (by decide), Pc_75 (k := 4) (by decide)]
    split
    · rw [ih _ (by rw [pop_5]; exact h), Pc_pop h]
    · rfl
theorem Pc_hf : ∀ (f : Nat) (n : Int32) (a : Nat → Nat → Int32), 0 ≤ (a 75 5).toInt → aPc (aHf f n a) = aHf f n (aPc a) := by
  intro f
  induction f with
  | zero => intro n a _; rfl
  | succ f ih =>
    intro n a h
    show aPc (aHf f (n + 1) (if 0 ≤ n.toInt ∧ n.toInt < 512 ∧ a 126 n.toNatClampNeg ≠ 0 ∧ 0 < (a 133 n.toNatClampNeg).toInt then aCm a n else a)) = aHf f (n + 1) (if 0 ≤ n.toInt ∧ n.toInt < 512 ∧ aPc a 126 n.toNatClampNeg ≠ 0 ∧ 0 < (aPc a 133 n.toNatClampNeg).toInt then aCm (aPc a) n else aPc a)
    rw [Pc_o (c := 126) (by decide) (by decide), Pc_o (c := 133) (by decide) (by decide)]
    split
    · rw [ih _ _ (by rw [aCm_5]; exact h), Pc_cm h]
    · exact ih _ _ h
theorem Pc_wf : ∀ (f : Nat) (n : Int32) (a : Nat → Nat → Int32), 0 ≤ (a 75 5).toInt → aPc (aWf f n a) = aWf f n (aPc a) := by
  intro f
  induction f with
  | zero =>
    intro n a h
    show aPc (aHo a 0) = aHo (aPc a) 0
    unfold aHo
    rw [Pc_o (c := 69) (by decide) (by decide)]
    exact Pc_hf _ _ _ h
  | succ f ih =>
    intro n a h
    show aPc (aWf f (n + 1) (aCm a (a 74 n.toNatClampNeg))) = aWf f (n + 1) (aCm (aPc a) (aPc a 74 n.toNatClampNeg))
    rw [ih _ _ (by rw [aCm_5]; exact h), Pc_cm h, Pc_o (c := 74) (by decide) (by decide)]
theorem Pc_rof : ∀ (f : Nat) (n : Int32) (a : Nat → Nat → Int32), 0 ≤ (a 75 5).toInt → aPc (aRf f n a) = aRf f n (aPc a) := by
  intro f
  induction f with
  | zero =>
    intro n a h
    show aPc (aWi a 0) = aWi (aPc a) 0
    unfold aWi
    rw [Pc_o (c := 69) (by decide) (by decide)]
    exact Pc_wf _ _ _ h
  | succ f ih =>
    intro n a h
    show aPc (aRf f (n + 1) (aCm a (a 72 n.toNatClampNeg))) = aRf f (n + 1) (aCm (aPc a) (aPc a 72 n.toNatClampNeg))
    rw [ih _ _ (by rw [aCm_5]; exact h), Pc_cm h, Pc_o (c := 72) (by decide) (by decide)]
theorem Pc_gr : aPc (aGr a y) = aGr (aPc a) y := by
  have r : ∀ c, c ≠ 73 → c ≠ 74 → c ≠ 69 → c ≠ 134 → aGr a y c = a c := fun c h1 h2 h3 h4 => gr_r h1 h4 h2 h3
  have uw : zUw (aPc a) y 16 = fun (c k : Nat) => if c = 73 ∧ (k : Int) < 16 ∧ a 73 k = y then -1 else aPc a c k := by
    funext c k
    unfold zUw
    rw [Pc_o (c := 73) (by decide) (by decide)]
  funext c k
  by_cases w5 : c = 75 ∧ k = 5
  · rw [w5.1, w5.2, Pc_5, gr_r (by decide) (by decide) (by decide) (by decide), Pc_5]
  · by_cases w : c = 75 ∨ c = 77
    · rw [show aGr (aPc a) y c = aPc a c from gr_r (by omega) (by omega) (by omega) (by omega)]
      unfold aPc
      rw [r 126 (by decide) (by decide) (by decide) (by decide), r 130 (by decide) (by decide) (by decide) (by decide), r 75 (by decide) (by decide) (by decide) (by decide), r c (by omega) (by omega) (by omega) (by omega)]
    · rw [Pc_o (by omega) (by omega)]
      have o : ∀ c₉ k₉, c₉ ≠ 75 → c₉ ≠ 77 → aPc a c₉ k₉ = a c₉ k₉ := fun c₉ k₉ h1 h2 => Pc_o h1 h2
      unfold aGr
      rw [o 69 5 (by decide) (by decide)]
      split
      · show (if c = 69 ∧ k = 5 then _ else if c = 74 ∧ k = _ then _ else if c = 134 ∧ k = _ then _ else zUw a y 16 c k) = (if c = 69 ∧ k = 5 then _ else if c = 74 ∧ k = _ then _ else if c = 134 ∧ k = _ then _ else zUw (aPc a) y 16 c k)
        unfold zUw
        rw [o 73 k (by decide) (by decide), o c k (by omega) (by omega)]
      · show (if c = 134 ∧ k = _ then _ else zUw a y 16 c k) = (if c = 134 ∧ k = _ then _ else zUw (aPc a) y 16 c k)
        unfold zUw
        rw [o 73 k (by decide) (by decide), o c k (by omega) (by omega)]
theorem gr_5c : aGr a y 75 5 = a 75 5 := congrFun (gr_r (by decide) (by decide) (by decide) (by decide)) 5
theorem Pc_gc (h : 0 ≤ (a 75 5).toInt) : aGc (aPc a) x ↔ aGc a x := by
  unfold aGc
  rw [Pc_o (c := 126) (by decide) (by decide), Pc_o (c := 134) (by decide) (by decide)]
  constructor
  · intro z
    have hn : x.toNatClampNeg < 512 := by
      have := tn_cast z.1
      have := z.2.1
      omega
    have q := (Pc_w h hn z.2.2.1).mpr ⟨z.2.2.2.2.1, z.2.2.2.2.2⟩
    exact ⟨z.1, z.2.1, z.2.2.1, z.2.2.2.1, q.1, q.2⟩
  · intro z
    have hn : x.toNatClampNeg < 512 := by
      have := tn_cast z.1
      have := z.2.1
      omega
    have q := (Pc_w h hn z.2.2.1).mp ⟨z.2.2.2.2.1, z.2.2.2.2.2⟩
    exact ⟨z.1, z.2.1, z.2.2.1, z.2.2.2.1, q.1, q.2⟩
theorem gf_5 : ∀ (f : Nat) (n : Int32) (a : Nat → Nat → Int32), aGf f n a 75 5 = a 75 5 := by
  intro f
  induction f with
  | zero => intro n a; rfl
  | succ f ih =>
    intro n a
    by_cases w : aGc a n
    · rw [aGf_y w, ih, sp_5, aCm_5, gr_5c]
    · rw [aGf_n w, ih]
theorem Pc_gf : ∀ (f : Nat) (n : Int32) (a : Nat → Nat → Int32), 0 ≤ (a 75 5).toInt → aPc (aGf f n a) = aGf f n (aPc a) := by
  intro f
  induction f with
  | zero => intro n a _; rfl
  | succ f ih =>
    intro n a h
    by_cases w : aGc a n
    · rw [aGf_y w, aGf_y ((Pc_gc h).mpr w), ih _ _ (by rw [sp_5, aCm_5, gr_5c]; exact h), Pc_sp _ _ (by rw [aCm_5, gr_5c]; exact h), Pc_cm (by rw [gr_5c]; exact h), Pc_gr]
    · rw [aGf_n w, aGf_n (fun z => w ((Pc_gc h).mp z))]
      exact ih _ _ h
theorem Pc_gw (h : 0 ≤ (a 75 5).toInt) : aPc (aGw a 0) = aGw (aPc a) 0 := by
  unfold aGw
  rw [Pc_o (c := 69) (by decide) (by decide)]
  exact Pc_gf _ _ _ h
theorem Pc_cx {j : Int} : gCx (aPc a) n j = gCx a n j := by
  unfold gCx
  rw [Pc_o (c := 130) (by decide) (by decide), Pc_o (c := 87) (by decide) (by decide)]
theorem Pc_dc : ∀ (f : Nat) (i : Int32) (a : Nat → Nat → Int32), 0 ≤ (a 75 5).toInt → aPc (gDc m f i a) = gDc m f i (aPc a) := by
  intro f
  induction f with
  | zero => intro i a _; rfl
  | succ f ih =>
    intro i a h
    show aPc (gDc m f (i + 1) (if 0 < (a 87 12).toInt ∧ gCx a m i.toInt < 375 ∧ a 83 (gCx a m i.toInt).toNat ≠ 0 then aCm a (aRef a m i) else a)) = gDc m f (i + 1) (if 0 < (aPc a 87 12).toInt ∧ gCx (aPc a) m i.toInt < 375 ∧ aPc a 83 (gCx (aPc a) m i.toInt).toNat ≠ 0 then aCm (aPc a) (aRef (aPc a) m i) else aPc a)
    rw [Pc_cx, Pc_o (c := 87) (by decide) (by decide), Pc_o (c := 83) (by decide) (by decide), Pc_rf]
    split
    · rw [ih _ _ (by rw [aCm_5]; exact h), Pc_cm h]
    · exact ih _ _ h
theorem dc_5 : ∀ (f : Nat) (i : Int32) (a : Nat → Nat → Int32), gDc m f i a 75 5 = a 75 5 := by
  intro f
  induction f with
  | zero => intro i a; rfl
  | succ f ih =>
    intro i a
    show gDc m f (i + 1) (if _ then aCm a (aRef a m i) else a) 75 5 = a 75 5
    rw [ih]
    split
    · exact aCm_5
    · rfl
theorem Pc_dw (h : 0 ≤ (a 75 5).toInt) : aPc (gDw a n i) = gDw (aPc a) n i := by
  unfold gDw
  rw [Pc_o (c := 128) (by decide) (by decide)]
  exact Pc_dc _ _ _ h
theorem Pc_df : ∀ (f : Nat) (a : Nat → Nat → Int32) (p : Int), 0 ≤ (a 75 5).toInt → aPc (gDf e f a p) = gDf e f (aPc a) p := by
  intro f
  induction f with
  | zero => intro a p _; rfl
  | succ f ih =>
    intro a p h
    have ob : zOb (aPc a) p = zOb a p := gOb_cg (Pc_r (by decide) (by decide)) (Pc_r (by decide) (by decide))
    by_cases c : p < e
    · by_cases d : (zOb a p).toInt < 0
      · rw [gDf_fr c d, gDf_fr c (by rw [ob]; exact d)]
        exact ih _ _ h
      · rw [gDf_go c (by omega), gDf_go c (by rw [ob]; omega), ob, ih _ _ (by unfold gDw; rw [dc_5]; exact h), Pc_dw h, Pc_o (c := 128) (by decide) (by decide)]
    · rw [gDf_e c, gDf_e c]
theorem Pc_dp (h : 0 ≤ (a 75 5).toInt) : aPc (gDp a e p) = gDp (aPc a) e p := Pc_df _ _ _ h
theorem df_5 : ∀ (f : Nat) (a : Nat → Nat → Int32) (p : Int), gDf e f a p 75 5 = a 75 5 := by
  intro f
  induction f with
  | zero => intro a p; rfl
  | succ f ih =>
    intro a p
    by_cases c : p < e
    · by_cases d : (zOb a p).toInt < 0
      · rw [gDf_fr c d, ih]
      · rw [gDf_go c (by omega), ih]
        exact dc_5 _ _ _
    · rw [gDf_e c]
theorem Pc_rm (hy : y.toNatClampNeg < 512) (hp : (a 75 5).toInt ≤ (a 130 y.toNatClampNeg).toInt) : aPc (aRm a y) = aRm (aPc a) y := by
  have o : ∀ c₉ k₉, c₉ ≠ 75 → c₉ ≠ 77 → aPc a c₉ k₉ = a c₉ k₉ := fun c₉ k₉ h1 h2 => Pc_o h1 h2
  have r5 : aRm a y 75 5 = a 75 5 := aRm_o (by decide) ⟨by decide, by decide, by decide, by decide⟩
  have t : ∀ f n, 126 ≤ f → f < 1000 → n ≠ y.toNatClampNeg → aRm a y f n = a f n := fun f n h1 h2 h3 => by
    unfold aRm
    rw [xu_o (by omega), xu_o (by omega)]
    unfold zNo
    rw [if_neg (by omega)]
    unfold zFr
    rw [if_neg (by omega)]
    unfold zUw
    rw [if_neg (by omega)]
  have t0 : aRm a y 126 y.toNatClampNeg = 0 := by
    unfold aRm
    rw [xu_o (by omega), xu_o (by omega)]
    unfold zNo
    rw [if_pos (Or.inl ⟨by decide, by decide, rfl⟩)]
  funext c k
  by_cases w : c = 75 ∨ c = 77
  · have e1 : aRm (aPc a) y c k = aPc a c k := aRm_o (by omega) ⟨by omega, by omega, by omega, by omega⟩
    have e2 : aRm a y c k = a c k := aRm_o (by omega) ⟨by omega, by omega, by omega, by omega⟩
    rw [e1]
    unfold aPc
    rw [r5, e2]
    by_cases z : k = y.toNatClampNeg
    · rw [z, t0, if_neg (c := c = 77 ∧ _) (fun q => q.2.2.1 rfl), if_neg (c := c = 77 ∧ _) (fun q => by omega)]
    · rw [t 126 k (by decide) (by decide) z, t 130 k (by decide) (by decide) z]
  · rw [Pc_o (by omega) (by omega)]
    have uw : ∀ c₉ k₉, c₉ ≠ 75 → c₉ ≠ 77 → zUw (aPc a) y 16 c₉ k₉ = zUw a y 16 c₉ k₉ := fun c₉ k₉ h1 h2 => by
      unfold zUw
      rw [o 73 k₉ (by decide) (by decide), o c₉ k₉ h1 h2]
    unfold aRm
    rw [o 130 _ (by decide) (by decide), o 128 _ (by decide) (by decide), o 69 _ (by decide) (by decide), o 69 _ (by decide) (by decide)]
    show (if c = 69 ∧ k = 11 then _ else if c = 69 ∧ k = 8 then _ else zNo (zFr (zUw a y 16) _ _) _ c k) = (if c = 69 ∧ k = 11 then _ else if c = 69 ∧ k = 8 then _ else zNo (zFr (zUw (aPc a) y 16) _ _) _ c k)
    have e3 : zNo (zFr (zUw (aPc a) y 16) (a 130 y.toNatClampNeg).toInt (zMin (a 130 y.toNatClampNeg + a 128 y.toNatClampNeg).toInt)) y.toNatClampNeg c k = zNo (zFr (zUw a y 16) (a 130 y.toNatClampNeg).toInt (zMin (a 130 y.toNatClampNeg + a 128 y.toNatClampNeg).toInt)) y.toNatClampNeg c k := by
      unfold zNo zFr
      rw [uw c k (by omega) (by omega)]
    rw [e3]
theorem Pc_mc (h : 0 ≤ (a 75 5).toInt) : aMc (aPc a) x ↔ aMc a x := by
  unfold aMc
  rw [Pc_o (c := 126) (by decide) (by decide)]
  constructor
  · intro z
    have hn : x.toNatClampNeg < 512 := by
      have := tn_cast z.1
      have := z.2.1
      omega
    have q := (Pc_w h hn z.2.2.1).mpr ⟨z.2.2.2.1, z.2.2.2.2⟩
    exact ⟨z.1, z.2.1, z.2.2.1, q.1, q.2⟩
  · intro z
    have hn : x.toNatClampNeg < 512 := by
      have := tn_cast z.1
      have := z.2.1
      omega
    have q := (Pc_w h hn z.2.2.1).mp ⟨z.2.2.2.1, z.2.2.2.2⟩
    exact ⟨z.1, z.2.1, z.2.2.1, q.1, q.2⟩
theorem rm_5 : aRm a y 75 5 = a 75 5 := aRm_o (by decide) ⟨by decide, by decide, by decide, by decide⟩
theorem Pc_mf : ∀ (f : Nat) (n : Int32) (a : Nat → Nat → Int32), 0 ≤ (a 75 5).toInt → aPc (aMf f n a) = aMf f n (aPc a) := by
  intro f
  induction f with
  | zero => intro n a _; rfl
  | succ f ih =>
    intro n a h
    by_cases w : aMc a n
    · have hn : n.toNatClampNeg < 512 := by
        have := tn_cast w.1
        have := w.2.1
        omega
      rw [aMf_y w, aMf_y ((Pc_mc h).mpr w), ih _ _ (by rw [rm_5]; exact h), Pc_rm hn w.2.2.2.1]
    · rw [aMf_n w, aMf_n (fun z => w ((Pc_mc h).mp z))]
      exact ih _ _ h
theorem Pc_mv (h : 0 ≤ (a 75 5).toInt) : aPc (aMv a 0) = aMv (aPc a) 0 := by
  unfold aMv
  rw [Pc_o (c := 69) (by decide) (by decide)]
  exact Pc_mf _ _ _ h
theorem Pc_ro (h : 0 ≤ (a 75 5).toInt) : aPc (aRo a 0) = aRo (aPc a) 0 := Pc_rof _ _ _ h
end F22

/-! from 95.u13 -/
/-! AGES, the class (written by wip/tools/gen15y.py) -/
/-! AGES: the minor cleaning, what is kept -/
def zFY (a : Nat → Nat → Int32) : Prop := zFQ a ∧ ∀ x : Nat, x < 512 → a 77 x ≠ 0 → (a 75 5).toInt ≤ (a 130 x).toInt
section F23
variable {a b c : Nat → Nat → Int32} {y i x z : Int32} {m k n u f : Nat} {p e : Int}
theorem FY_cg (h : zFY a) (e3 : b 75 3 = a 75 3) (e4 : b 75 4 = a 75 4) (e5 : b 75 5 = a 75 5) (e6 : b 76 = a 76) (e7 : ∀ x, x < 512 → (b 77 x ≠ 0 ↔ a 77 x ≠ 0)) (e8 : b 126 = a 126) (e9 : b 130 = a 130) : zFY b := ⟨FQ_cg h.1 e3 e4 e6 e7 e8, fun x hx w => by
  rw [e5, e9]
  exact h.2 x hx ((e7 x hx).mp w)⟩
theorem FY_wh : zFY (aWh a x) := ⟨FQ_wh (by decide), fun k hk w => by
  refine absurd ?_ w
  unfold aWh
  rw [xu_o (by omega), xu_o (by omega), xu_o (by omega)]
  unfold zFl
  rw [if_pos ⟨rfl, by omega⟩]⟩
theorem FY_cm (h : zFY a) : zFY (aCm a y) := by
  refine ⟨FQ_cm h.1, fun k hk w => ?_⟩
  rw [aCm_5, aCm_o (c := 130) ⟨by decide, by decide, by decide⟩]
  by_cases d : 0 ≤ y.toInt ∧ y.toInt < 512 ∧ a 126 y.toNatClampNeg ≠ 0 ∧ (a 75 5).toInt ≤ (a 130 y.toNatClampNeg).toInt ∧ (a 75 4).toInt < 512 ∧ a 77 y.toNatClampNeg = 0
  · have e : aCm a y = ma_u (ma_u (ma_u a 77 y.toNatClampNeg 1) 76 (a 75 4).toNatClampNeg y) 75 4 (a 75 4 + 1) := if_pos d
    rw [e, xu_o (by omega), xu_o (by omega)] at w
    by_cases z : k = y.toNatClampNeg
    · rw [z]
      exact d.2.2.2.1
    · rw [xu_o (fun q => z q.2)] at w
      exact h.2 k hk w
  · have e : aCm a y = a := if_neg d
    rw [e] at w
    exact h.2 k hk w
theorem FY_pop (h : zFY a) (hl : (a 75 3).toInt < (a 75 4).toInt) : zFY (aPop a) := by
  refine ⟨FQ_pop h.1 hl, ?_⟩
  have q4 := h.1.2.2.2
  have s0 : ∀ x : Nat, x < 512 → ma_u a 75 3 (a 75 3 + 1) 77 x ≠ 0 → (ma_u a 75 3 (a 75 3 + 1) 75 5).toInt ≤ (ma_u a 75 3 (a 75 3 + 1) 130 x).toInt := fun x hx w => by
    rw [xu_o (by omega)] at w
    rw [xu_o (by omega), xu_o (by omega)]
    exact h.2 x hx w
  have t := tn_cast (x := a 75 3) q4.1
  have q := h.1.1 (a 75 3).toNatClampNeg (by omega)
  have tq := tn_cast q.1
  unfold aPop
  split
  · have cw : ∀ (f : Nat) (i : Int32) (b : Nat → Nat → Int32), (∀ x : Nat, x < 512 → b 77 x ≠ 0 → (b 75 5).toInt ≤ (b 130 x).toInt) → ∀ x : Nat, x < 512 → aCwf (a 76 (a 75 3).toNatClampNeg).toNatClampNeg f i b 77 x ≠ 0 → (aCwf (a 76 (a 75 3).toNatClampNeg).toNatClampNeg f i b 75 5).toInt ≤ (aCwf (a 76 (a 75 3).toNatClampNeg).toNatClampNeg f i b 130 x).toInt := by
      intro f
      induction f with
      | zero => intro i b hb; exact hb
      | succ f ih =>
        intro i b hb
        refine ih (i + 1) (aCm b (aRef b _ i)) (fun x hx w => ?_)
        generalize aRef b (a 76 (a 75 3).toNatClampNeg).toNatClampNeg i = y at *
        rw [aCm_5, aCm_o (c := 130) ⟨by decide, by decide, by decide⟩]
        by_cases d : 0 ≤ y.toInt ∧ y.toInt < 512 ∧ b 126 y.toNatClampNeg ≠ 0 ∧ (b 75 5).toInt ≤ (b 130 y.toNatClampNeg).toInt ∧ (b 75 4).toInt < 512 ∧ b 77 y.toNatClampNeg = 0
        · have e : aCm b y = ma_u (ma_u (ma_u b 77 y.toNatClampNeg 1) 76 (b 75 4).toNatClampNeg y) 75 4 (b 75 4 + 1) := if_pos d
          rw [e, xu_o (by omega), xu_o (by omega)] at w
          by_cases z : x = y.toNatClampNeg
          · rw [z]
            exact d.2.2.2.1
          · rw [xu_o (fun q => z q.2)] at w
            exact hb x hx w
        · have e : aCm b y = b := if_neg d
          rw [e] at w
          exact hb x hx w
    refine cw _ _ _ (fun x hx w => ?_)
    rw [xu_o (c := 75) (by omega), xu_o (c := 130) (by omega)]
    by_cases z : x = (a 76 (a 75 3).toNatClampNeg).toNatClampNeg
    · rw [xu_o (by omega), xu_o (by omega), z]
      exact h.2 _ (by omega) q.2.2.1
    · rw [xu_o (fun q => z q.2)] at w
      exact s0 x hx w
  · exact s0
theorem FY_sp : ∀ (f : Nat) (a : Nat → Nat → Int32), zFY a → zFY (aSp f a) := by
  intro f
  induction f with
  | zero => intro a h; exact h
  | succ f ih =>
    intro a h
    show zFY (if (a 75 3).toInt < (a 75 4).toInt then aSp f (aPop a) else a)
    split
    · next w => exact ih _ (FY_pop h w)
    · exact h
theorem FY_hf : ∀ (f : Nat) (n : Int32) (a : Nat → Nat → Int32), zFY a → zFY (aHf f n a) := by
  intro f
  induction f with
  | zero => intro n a h; exact h
  | succ f ih =>
    intro n a h
    refine ih _ _ ?_
    split
    · exact FY_cm h
    · exact h
theorem FY_wf : ∀ (f : Nat) (n : Int32) (a : Nat → Nat → Int32), zFY a → zFY (aWf f n a) := by
  intro f
  induction f with
  | zero => intro n a h; exact FY_hf _ _ _ h
  | succ f ih => intro n a h; exact ih _ _ (FY_cm h)
theorem FY_rf : ∀ (f : Nat) (n : Int32) (a : Nat → Nat → Int32), zFY a → zFY (aRf f n a) := by
  intro f
  induction f with
  | zero => intro n a h; exact FY_wf _ _ _ h
  | succ f ih => intro n a h; exact ih _ _ (FY_cm h)
theorem FY_gr (h : zFY a) : zFY (aGr a y) := FY_cg h (congrFun (gr_r (by decide) (by decide) (by decide) (by decide)) 3) (congrFun (gr_r (by decide) (by decide) (by decide) (by decide)) 4) (congrFun (gr_r (by decide) (by decide) (by decide) (by decide)) 5) (gr_r (by decide) (by decide) (by decide) (by decide)) (fun x _ => by rw [gr_r (n := 77) (by decide) (by decide) (by decide) (by decide)]) (gr_r (by decide) (by decide) (by decide) (by decide)) (gr_r (by decide) (by decide) (by decide) (by decide))
theorem FY_gf : ∀ (f : Nat) (x : Int32) (a : Nat → Nat → Int32), zFY a → zFY (aGf f x a) := by
  intro f
  induction f with
  | zero => intro x a h; exact h
  | succ f ih =>
    intro x a h
    by_cases w : aGc a x
    · rw [aGf_y w]
      exact ih _ _ (FY_sp _ _ (FY_cm (FY_gr h)))
    · rw [aGf_n w]
      exact ih _ _ h
theorem FY_dc : ∀ (f : Nat) (i : Int32) (a : Nat → Nat → Int32), zFY a → zFY (gDc m f i a) := by
  intro f
  induction f with
  | zero => intro i a h; exact h
  | succ f ih =>
    intro i a h
    refine ih _ _ ?_
    split
    · exact FY_cm h
    · exact h
theorem FY_df : ∀ (f : Nat) (a : Nat → Nat → Int32) (p : Int), zFY a → zFY (gDf e f a p) := by
  intro f
  induction f with
  | zero => intro a p h; exact h
  | succ f ih =>
    intro a p h
    by_cases c : p < e
    · by_cases d : (zOb a p).toInt < 0
      · rw [gDf_fr c d]
        exact ih _ _ h
      · rw [gDf_go c (by omega)]
        exact ih _ _ (FY_dc _ _ _ h)
    · rw [gDf_e c]
      exact h
theorem FY_kp : zFY (gKp a) := FY_gf _ _ _ (FY_sp _ _ (FY_df _ _ _ (FY_rf _ _ _ FY_wh)))
/-! without a floor -/
theorem wh_5 : aWh a x 75 5 = x := by
  unfold aWh
  rw [xu_s]
theorem wh_of : zOf a (aWh a x) := fun c k q1 q2 q3 => by
  unfold aWh
  rw [xu_o (fun z => q1 z.1), xu_o (fun z => q1 z.1), xu_o (fun z => q1 z.1)]
  unfold zFl
  rw [if_neg (fun z => q3 z.1)]
theorem wh_7 (h : k < 512) : aWh a x 77 k = 0 := by
  unfold aWh
  rw [xu_o (by omega), xu_o (by omega), xu_o (by omega)]
  unfold zFl
  rw [if_pos ⟨rfl, by omega⟩]
theorem Pc_of (h : zOf a b) : zOf a (aPc b) := fun c k q1 q2 q3 => (h c k q1 q2 q3).trans (Pc_o q1 q3).symm
/-- those below the floor alone are BLACK -/
theorem WQ_pw (hp : ∀ x, xAl a x → 0 ≤ (a 130 x).toInt) : zWQ (aPc (aWh a x)) ∧ zOf a (aPc (aWh a x)) ∧ (∀ u, zNn (aPc (aWh a x)) u ↔ zDn (aPc (aWh a x)) u) ∧ ∀ u, zDn (aPc (aWh a x)) u ↔ (xAl a u ∧ (a 130 u).toInt < x.toInt) := by
  have of : zOf a (aPc (aWh a x)) := Pc_of wh_of
  have c7 : ∀ u, u < 512 → (xAl a u ∧ (a 130 u).toInt < x.toInt) → aPc (aWh a x) 77 u = 2 := fun u hu w => Pc_7o hu (by rw [← wh_of (a := a) (x := x) 126 u (by decide) (by decide) (by decide)]; exact w.1.2) (by rw [← wh_of (a := a) (x := x) 130 u (by decide) (by decide) (by decide), wh_5]; exact w.2)
  have n7 : ∀ u, u < 512 → ¬ (xAl a u ∧ (a 130 u).toInt < x.toInt) → aPc (aWh a x) 77 u = 0 := fun u hu w => by
    rw [Pc_7y (fun z => w ⟨⟨hu, ?_⟩, ?_⟩), wh_7 hu]
    · rw [wh_of (a := a) (x := x) 126 u (by decide) (by decide) (by decide)]
      exact z.2.1
    · have z2 := z.2.2
      rw [wh_5, ← wh_of (a := a) (x := x) 130 u (by decide) (by decide) (by decide)] at z2
      exact z2
  have r3 : aPc (aWh a x) 75 3 = 0 := by
    rw [Pc_75 (by decide)]
    unfold aWh
    rw [xu_o (by omega), xu_o (by omega), xu_s]
  have r4 : aPc (aWh a x) 75 4 = 0 := by
    rw [Pc_75 (by decide)]
    unfold aWh
    rw [xu_o (by omega), xu_s]
  have i0 : (0 : Int32).toInt = 0 := rfl
  have dn : ∀ u, zDn (aPc (aWh a x)) u ↔ (xAl a u ∧ (a 130 u).toInt < x.toInt) := fun u => by
    constructor
    · intro w
      by_cases d : xAl a u ∧ (a 130 u).toInt < x.toInt
      · exact d
      · have q := w.2
        rw [n7 u w.1 d] at q
        exact absurd q (by decide)
    · intro w
      exact ⟨w.1.1, c7 u w.1.1 w⟩
  refine ⟨⟨⟨?_, ?_, ?_⟩, ?_, ?_, ?_, ?_, ?_, ?_⟩, of, fun u => ?_, dn⟩
  · rw [r3]
    decide
  · rw [r3, r4]
    decide
  · rw [r4]
    omega
  · intro j j1 j2
    rw [r4] at j2
    omega
  · intro j j₉ j1 j2 j3
    rw [r4] at j3
    omega
  · intro u hu h1
    by_cases d : xAl a u ∧ (a 130 u).toInt < x.toInt
    · rw [c7 u hu d] at h1
      exact absurd h1 (by decide)
    · rw [n7 u hu d] at h1
      exact absurd h1 (by decide)
  · intro u hu
    by_cases d : xAl a u ∧ (a 130 u).toInt < x.toInt
    · exact Or.inr (Or.inr (c7 u hu d))
    · exact Or.inl (n7 u hu d)
  · rw [Pc_5]
    decide
  · intro u hu
    rw [Of_al of] at hu
    rw [← of 130 u (by decide) (by decide) (by decide)]
    exact hp u hu
  · constructor
    · intro w
      by_cases d : xAl a u ∧ (a 130 u).toInt < x.toInt
      · exact ⟨w.1, c7 u w.1 d⟩
      · exact absurd (n7 u w.1 d) w.2
    · intro w
      exact ⟨w.1, by rw [w.2]; decide⟩
/-- more have come -/
def zGq (a b : Nat → Nat → Int32) : Prop := zWQ b ∧ zOf a b ∧ (∀ u, zDn b u ↔ zDn a u) ∧ ∀ u, zNn a u → zNn b u
theorem gq_rf (h : zWQ a) : zGq a a := ⟨h, Of_rf, fun _ => Iff.rfl, fun _ w => w⟩
theorem gq_tr (h : zGq a b) (h2 : zGq b c) : zGq a c := ⟨h2.1, Of_tr h.2.1 h2.2.1, fun u => (h2.2.2.1 u).trans (h.2.2.1 u), fun u w => h2.2.2.2 u (h.2.2.2 u w)⟩
theorem gq_cm (h : zWQ a) : zGq a (aCm a y) := by
  have g := gr_cm (y := y) h
  exact ⟨g.1, g.2.1, g.2.2.1, fun u w => (g.2.2.2.1 u).mpr (Or.inl w)⟩
theorem gq_dc : ∀ (f : Nat) (i : Int32) (a : Nat → Nat → Int32), zWQ a → zGq a (gDc m f i a) := by
  intro f
  induction f with
  | zero => intro i a h; exact gq_rf h
  | succ f ih =>
    intro i a h
    show zGq a (gDc m f (i + 1) (if 0 < (a 87 12).toInt ∧ gCx a m i.toInt < 375 ∧ a 83 (gCx a m i.toInt).toNat ≠ 0 then aCm a (aRef a m i) else a))
    split
    · exact gq_tr (gq_cm h) (ih _ _ (WQ_cm h))
    · exact ih _ _ h
theorem dc_in : ∀ (f : Nat) (i : Int32) (a : Nat → Nat → Int32), zWQ a → 0 ≤ i.toInt → i.toInt + f ≤ 512 → ∀ j : Nat, i.toInt ≤ (j : Int) → (j : Int) < i.toInt + f → gDy a m (j : Int) → ∀ u, xAl a u → aRef a m (Int32.ofNat j) = Int32.ofNat u → zNn (gDc m f i a) u := by
  intro f
  induction f with
  | zero => intro i a h h0 h5 j h1 h2; omega
  | succ f ih =>
    intro i a h h0 h5 j h1 h2 hd u hu hr
    have ip : (i + 1).toInt = i.toInt + 1 := i_p1 (by omega)
    show zNn (gDc m f (i + 1) (if 0 < (a 87 12).toInt ∧ gCx a m i.toInt < 375 ∧ a 83 (gCx a m i.toInt).toNat ≠ 0 then aCm a (aRef a m i) else a)) u
    by_cases w : (j : Int) = i.toInt
    · have e : Int32.ofNat j = i := by
        have t := tn_cast h0
        rw [show j = i.toNatClampNeg from by omega]
        exact ofN_tn h0
      have hd₉ : 0 < (a 87 12).toInt ∧ gCx a m i.toInt < 375 ∧ a 83 (gCx a m i.toInt).toNat ≠ 0 := by
        rw [← w]
        exact hd
      rw [if_pos hd₉]
      rw [e] at hr
      have g := gr_cm (y := aRef a m i) h
      exact (gq_dc f (i + 1) _ g.1).2.2.2 u ((g.2.2.2.1 u).mpr (Or.inr ⟨hu, hr⟩))
    · have key : ∀ d : Nat → Nat → Int32, zWQ d → zOf a d → zNn (gDc m f (i + 1) d) u := fun d hd2 o => by
        have o1 : ∀ c k, c ≠ 75 → c ≠ 76 → c ≠ 77 → d c k = a c k := fun c k q1 q2 q3 => (o c k q1 q2 q3).symm
        refine ih (i + 1) d hd2 (by omega) (by omega) j (by omega) (by omega) ?_ u ((Of_al o).mpr hu) ?_
        · unfold gDy gCx at hd ⊢
          rw [o1 87 12 (by decide) (by decide) (by decide), o1 130 m (by decide) (by decide) (by decide), o1 83 _ (by decide) (by decide) (by decide)]
          exact hd
        · rw [← hr]
          exact rf_cg (funext (fun k => o1 _ k (by omega) (by omega) (by omega))) (funext (fun k => o1 _ k (by decide) (by decide) (by decide))) (funext (fun k => o1 _ k (by decide) (by decide) (by decide)))
      split
      · exact key _ (WQ_cm h) cm_of
      · exact key _ h Of_rf
theorem gq_df : ∀ (f : Nat) (a : Nat → Nat → Int32) (p : Int), zWQ a → zGq a (gDf e f a p) := by
  intro f
  induction f with
  | zero => intro a p h; exact gq_rf h
  | succ f ih =>
    intro a p h
    by_cases c : p < e
    · by_cases d : (zOb a p).toInt < 0
      · rw [gDf_fr c d]
        exact ih _ _ h
      · rw [gDf_go c (by omega)]
        have g := gq_dc (m := (zOb a p).toNatClampNeg) ((a 128 (zOb a p).toNatClampNeg).toInt - 1 - (0 : Int32).toInt).toNat 0 a h
        exact gq_tr g (ih _ _ g.1)
    · rw [gDf_e c]
      exact gq_rf h
/-- what the OLD ones refer to on dirty cards has come -/
theorem df_in : ∀ (f : Nat) (a : Nat → Nat → Int32) (p : Int), qI a → zWQ a → qGd a p → 0 ≤ p → e ≤ 4500 → (e - p).toNat ≤ f → ∀ n, xAl a n → p ≤ (a 130 n).toInt → (a 130 n).toInt < e → ∀ j : Nat, (j : Int) < (a 128 n).toInt - 1 → gDy a n (j : Int) → ∀ u, xAl a u → aRef a n (Int32.ofNat j) = Int32.ofNat u → zNn (gDf e f a p) u := by
  intro f
  induction f with
  | zero => intro a p hI h g h0 h4 hf n hn h1 h2; omega
  | succ f ih =>
    intro a p hI h g h0 h4 hf n hn h1 h2 j hj hd u hu hr
    have sz := (hI.1 n hn).2.1
    have pe : p < e := by omega
    by_cases d : (zOb a p).toInt < 0
    · rw [gDf_fr pe d]
      have ne : (a 130 n).toInt ≠ p := fun w => by
        rw [Ob_pl hI hn w, Int32.toInt_ofNat_of_lt (by have := hn.1; omega)] at d
        omega
      exact ih a (p + 1) hI h (Gd_s hI g d h0 (by omega)) (by omega) h4 (by omega) n hn (by omega) h2 j hj hd u hu hr
    · obtain ⟨n₉, al, e1, e2, e3⟩ := OB_al hI g (show 0 ≤ (zOb a p).toInt by omega)
      rw [gDf_go pe (by omega), e3]
      have sz₉ := (hI.1 n₉ al).2.1
      have gq := gq_dc (m := n₉) ((a 128 n₉).toInt - 1 - (0 : Int32).toInt).toNat 0 a h
      have z0 : (0 : Int32).toInt = 0 := rfl
      by_cases w : n = n₉
      · rw [w] at hj hd hr
        exact (gq_df f _ _ gq.1).2.2.2 u (dc_in _ _ _ h (by decide) (by omega) j (by omega) (by omega) hd u hu hr)
      · have o := gq.2.1
        have o1 : ∀ c k, c ≠ 75 → c ≠ 76 → c ≠ 77 → gDw a n₉ 0 c k = a c k := fun c k q1 q2 q3 => (o c k q1 q2 q3).symm
        have dis := hI.2.1 n n₉ hn al w
        refine ih (gDw a n₉ 0) (p + (a 128 n₉).toInt) (qI_of hI o) gq.1 (fun m hm w2 => ?_) (by omega) h4 (by omega) n ((Of_al o).mpr hn) ?_ ?_ j ?_ ?_ u ((Of_al o).mpr hu) ?_
        · have hm₉ := (Of_al o).mp hm
          rw [o1 130 m (by decide) (by decide) (by decide), o1 128 m (by decide) (by decide) (by decide)] at w2
          by_cases q : m = n₉
          · rw [q] at w2
            omega
          · have dm := hI.2.1 m n₉ hm₉ al q
            have sm := (hI.1 m hm₉).2.1
            omega
        · rw [o1 130 n (by decide) (by decide) (by decide)]
          omega
        · rw [o1 130 n (by decide) (by decide) (by decide)]
          exact h2
        · rw [o1 128 n (by decide) (by decide) (by decide)]
          exact hj
        · unfold gDy gCx at hd ⊢
          rw [o1 87 12 (by decide) (by decide) (by decide), o1 130 n (by decide) (by decide) (by decide), o1 83 _ (by decide) (by decide) (by decide)]
          exact hd
        · rw [← hr]
          exact rf_cg (funext (fun k => o1 _ k (by omega) (by omega) (by omega))) (funext (fun k => o1 _ k (by decide) (by decide) (by decide))) (funext (fun k => o1 _ k (by decide) (by decide) (by decide)))
end F23

