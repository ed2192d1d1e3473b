/-! AGES, the class (written by wip/tools/gen15y.py) -/
/-! AGES: the class, by numbers (87: 0 all words, 3 where the half begins, 4 the top, 5 YOUNG, 9 OLD, 10 OLD's top, 11 the last age, 12 the card; 83 dirty cards; 131 ages) -/
def zfG (I : Nat → Nat → Int32) (k : Nat) : Int32 := if k = 0 then I 82 3 + (I 82 2 + I 82 2) else if k = 3 then I 82 7 else if k = 4 then I 82 8 else if k = 5 then I 82 2 else if k = 9 then I 82 3 else if k = 10 then I 82 6 else if k = 11 then I 82 4 else if k = 12 then I 82 5 else 0
def aG (S : ma_S) : Nat → Nat → Int32 := fun c k => if c = 83 then mI S 83 k else aM (zfG (mI S)) S c k
/-- words that would grow OLD, of the first n -/
def gGr (a : Nat → Nat → Int32) : Nat → Int
  | 0 => 0
  | n + 1 => gGr a n + (if a 126 n ≠ 0 ∧ (a 87 9).toInt ≤ (a 130 n).toInt ∧ (a 87 11).toInt ≤ (a 131 n).toInt + 1 then (a 128 n).toInt else 0)
/-- the card of a word -/
def gCx (a : Nat → Nat → Int32) (n : Nat) (i : Int) : Int := ((a 130 n).toInt + 1 + i) / (a 87 12).toInt
def gDy (a : Nat → Nat → Int32) (n : Nat) (i : Int) : Prop := 0 < (a 87 12).toInt ∧ gCx a n i < 375 ∧ a 83 (gCx a n i).toNat ≠ 0
/-- what lies on dirty cards comes: one's words -/
def gDc (n : Nat) : Nat → Int32 → (Nat → Nat → Int32) → Nat → Nat → Int32
  | 0, _, a => a
  | f + 1, i, a => gDc n f (i + 1) (if 0 < (a 87 12).toInt ∧ gCx a n i.toInt < 375 ∧ a 83 (gCx a n i.toInt).toNat ≠ 0 then aCm a (aRef a n i) else a)
def gDw (a : Nat → Nat → Int32) (n : Nat) (i : Int32) : Nat → Nat → Int32 := gDc n ((a 128 n).toInt - 1 - i.toInt).toNat i a
/-- by place -/
def gDf (e : Int) : Nat → (Nat → Nat → Int32) → Int → Nat → Nat → Int32
  | 0, a, _ => a
  | f + 1, a, p => if p < e then (if (zOb a p).toInt < 0 then gDf e f a (p + 1) else gDf e f (gDw a (zOb a p).toNatClampNeg 0) (p + (a 128 (zOb a p).toNatClampNeg).toInt)) else a
def gDp (a : Nat → Nat → Int32) (e p : Int) : Nat → Nat → Int32 := gDf e (e - p).toNat a p
/-- one grows older and moves -/
def gM1 (a : Nat → Nat → Int32) (n : Nat) : Nat → Nat → Int32 := if (a 87 11).toInt ≤ (a 131 n + 1).toInt then ma_u (aMo (ma_u a 131 n (a 131 n + 1)) n (a 87 10)) 87 10 (a 87 10 + a 128 n) else ma_u (aMo (ma_u a 131 n (a 131 n + 1)) n (a 87 4)) 87 4 (a 87 4 + a 128 n)
def gMf : Nat → Nat → (Nat → Nat → Int32) → Nat → Nat → Int32
  | 0, _, a => a
  | f + 1, j, a => if 0 ≤ (a 76 j).toInt ∧ (a 76 j).toInt < 512 ∧ a 126 (a 76 j).toNatClampNeg ≠ 0 then gMf f (j + 1) (gM1 a (a 76 j).toNatClampNeg) else gMf f (j + 1) a
/-- dirty cards: one's first i words; the first n -/
def gRw (a : Nat → Nat → Int32) (n : Nat) (i : Int32) : Prop := 0 ≤ (aRef a n i).toInt ∧ (aRef a n i).toInt < 512 ∧ a 126 (aRef a n i).toNatClampNeg ≠ 0 ∧ (a 87 9).toInt ≤ (a 130 (aRef a n i).toNatClampNeg).toInt
def gWk (a : Nat → Nat → Int32) (k n : Nat) : Nat → Int32
  | 0 => 0
  | i + 1 => if (0 ≤ (aRef a n (Int32.ofNat i)).toInt ∧ (aRef a n (Int32.ofNat i)).toInt < 512 ∧ a 126 (aRef a n (Int32.ofNat i)).toNatClampNeg ≠ 0 ∧ (a 87 9).toInt ≤ (a 130 (aRef a n (Int32.ofNat i)).toNatClampNeg).toInt) ∧ 0 < (a 87 12).toInt ∧ gCx a n (i : Int) = (k : Int) then 1 else gWk a k n i
def gNk (a : Nat → Nat → Int32) (k : Nat) : Nat → Int32
  | 0 => 0
  | n + 1 => if (a 126 n ≠ 0 ∧ (a 130 n).toInt < (a 87 9).toInt) ∧ gWk a k n ((a 128 n).toInt - 1).toNat ≠ 0 then 1 else gNk a k n
def gFd (a : Nat → Nat → Int32) : Nat → Nat → Int32 := fun c k => if c = 83 ∧ k < 375 then gNk a k 512 else a c k
/-- the major cleaning -/
def gSd (a : Nat → Nat → Int32) : (Nat → Nat → Int32) × Int := zSd (aSw a) (a 87 9).toInt 0 0
def gMa (a : Nat → Nat → Int32) : Nat → Nat → Int32 := gFd (ma_u (gSd a).1 87 10 (Int32.ofInt (gSd a).2))
/-- the minor one: what is kept; who moves -/
def gKp (a : Nat → Nat → Int32) : Nat → Nat → Int32 := aGw (aSp 512 (gDp (aRo (aWh a (a 87 9)) 0) (a 87 10).toInt 0)) 0
def gMk0 (a : Nat → Nat → Int32) : Nat → Nat → Int32 := aMv (gKp a) 0
def gMk1 (a : Nat → Nat → Int32) : Nat → Nat → Int32 := ma_u (ma_u (gMk0 a) 87 3 (a 87 9 + a 87 5 + a 87 9 - a 87 3)) 87 4 (a 87 9 + a 87 5 + a 87 9 - a 87 3)
def gMv (a : Nat → Nat → Int32) : Nat → Nat → Int32 := gFd (gMf (gMk1 a 75 4).toInt.toNat 0 (gMk1 a))
def gFu (a : Nat → Nat → Int32) : Prop := (a 87 9).toInt < (a 87 10).toInt + gGr a 512
def gM0 (a : Nat → Nat → Int32) : Nat → Nat → Int32 := if (a 87 9).toInt < (a 87 10).toInt + gGr a 512 then gMa a else a
def gMi (a : Nat → Nat → Int32) : Nat → Nat → Int32 := if (gM0 a 87 9).toInt < (gM0 a 87 10).toInt + gGr (gM0 a) 512 then gM0 a else gMv (gM0 a)
/-- how many words got free -/
def gV0 (a : Nat → Nat → Int32) : Int32 := if (a 87 9).toInt < (a 87 10).toInt + gGr a 512 then aSv a else 0
def gVi (a : Nat → Nat → Int32) : Int32 := if (gM0 a 87 9).toInt < (gM0 a 87 10).toInt + gGr (gM0 a) 512 then gV0 a else gV0 a + (gMk0 (gM0 a) 69 11 - gKp (gM0 a) 69 11)
/-- room -/
def gHs (a : Nat → Nat → Int32) (z : Int) : Prop := (a 87 4).toInt + z ≤ (a 87 3).toInt + (a 87 5).toInt
def gRo (a : Nat → Nat → Int32) (z : Int) : Nat → Nat → Int32 := if (a 87 9).toInt < (a 87 10).toInt + z then gMa a else a
def gR1 (a : Nat → Nat → Int32) (z : Int) : Nat → Nat → Int32 := if (a 87 4).toInt + z ≤ (a 87 3).toInt + (a 87 5).toInt then a else gMi a
def gR2 (a : Nat → Nat → Int32) (z : Int) : Nat → Nat → Int32 := if (a 87 4).toInt + z ≤ (a 87 3).toInt + (a 87 5).toInt then a else gMi (gMa a)
def gRs (a : Nat → Nat → Int32) (z : Int) : Nat → Nat → Int32 := if (a 87 5).toInt / 2 < z then gRo a z else gR2 (gR1 a z) z
def gRp (a : Nat → Nat → Int32) (z : Int) : Int := if (a 87 5).toInt / 2 < z then (if (gRs a z 87 9).toInt < (gRs a z 87 10).toInt + z then -1 else (gRs a z 87 10).toInt) else (if (gRs a z 87 4).toInt + z ≤ (gRs a z 87 3).toInt + (gRs a z 87 5).toInt then (gRs a z 87 4).toInt else -1)
/-- what holds of a heap of ages -/
def gSy (a : Nat → Nat → Int32) : Nat → Int
  | 0 => 0
  | n + 1 => gSy a n + (if a 126 n ≠ 0 ∧ (a 87 9).toInt ≤ (a 130 n).toInt then (a 128 n).toInt else 0)
def qAv (a : Nat → Nat → Int32) : Prop := qI a ∧ a 87 2 = 0 ∧ ((0 ≤ (a 87 5).toInt ∧ (a 87 5).toInt ≤ 1500) ∧ (0 ≤ (a 87 9).toInt ∧ (a 87 9).toInt ≤ 1500) ∧ (a 87 0).toInt = (a 87 9).toInt + 2 * (a 87 5).toInt ∧ (1 ≤ (a 87 11).toInt ∧ (a 87 11).toInt ≤ 1000) ∧ 4 ≤ (a 87 12).toInt) ∧ ((a 87 3).toInt = (a 87 9).toInt ∨ (a 87 3).toInt = (a 87 9).toInt + (a 87 5).toInt) ∧ ((a 87 3).toInt ≤ (a 87 4).toInt ∧ (a 87 4).toInt ≤ (a 87 3).toInt + (a 87 5).toInt ∧ gSy a 512 ≤ (a 87 4).toInt - (a 87 3).toInt) ∧ (0 ≤ (a 87 10).toInt ∧ (a 87 10).toInt ≤ (a 87 9).toInt) ∧ (∀ n, xAl a n → (0 ≤ (a 131 n).toInt ∧ (a 131 n).toInt ≤ (a 87 11).toInt) ∧ ((a 130 n).toInt < (a 87 9).toInt → (a 130 n).toInt + (a 128 n).toInt ≤ (a 87 10).toInt) ∧ ((a 87 9).toInt ≤ (a 130 n).toInt → ((a 87 3).toInt ≤ (a 130 n).toInt ∧ (a 130 n).toInt + (a 128 n).toInt ≤ (a 87 4).toInt) ∧ (a 131 n).toInt < (a 87 11).toInt ∧ a 133 n = 0)) ∧ ∀ n, xAl a n → (a 130 n).toInt < (a 87 9).toInt → ∀ i : Nat, (i : Int) < (a 128 n).toInt - 1 → gRw a n (Int32.ofNat i) → a 83 (gCx a n (i : Int)).toNat ≠ 0
section F20
variable {a b ab : Nat → Nat → Int32} {S S' : ma_S} {R : Nat → Option Nat} {x y i to : Int32} {c k n f j : Nat} {p e : Int} {F : Nat → Int32} {L : Int64}
theorem aG_o (h : c ≠ 87) (h2 : c ≠ 83) : aG S c k = aS 75 S c k := (if_neg h2).trans (aM_o h)
theorem aG_7 : aG S 87 k = zfG (mI S) k := (if_neg (by decide)).trans aM_7
theorem aG_8 : aG S 83 k = mI S 83 k := if_pos rfl
theorem G_of (h : ∀ c k, c ≠ 87 → c ≠ 83 → aS 75 S' c k = b c k) (h7 : ∀ k, b 87 k = zfG (mI S') k) (h8 : ∀ k, b 83 k = mI S' 83 k) : aG S' = b := by
  funext c k
  by_cases w : c = 87
  · rw [w, aG_7, h7]
  · by_cases w2 : c = 83
    · rw [w2, aG_8, h8]
    · rw [aG_o w w2]
      exact h c k w w2
theorem G_g {f : (Nat → Nat → Int32) → Nat → Nat → Int32} (h : ∀ c k, c ≠ 87 → c ≠ 83 → aS 75 S' c k = f (aG S) c k) (h7 : ∀ k, f (aG S) 87 k = aG S 87 k) (h8 : ∀ k, f (aG S) 83 k = aG S 83 k) (e1 : mI S' 82 = mI S 82) (e2 : mI S' 83 = mI S 83) : aG S' = f (aG S) := by
  refine G_of h (fun k => ?_) (fun k => ?_)
  · rw [h7, aG_7]
    unfold zfG
    rw [e1]
  · rw [h8, aG_8, e2]
theorem G_o9 : zO9 (aS 75 S) (aG S) := fun c k w => (aG_o (by omega) (by omega)).symm
theorem G_f {f : (Nat → Nat → Int32) → Nat → Nat → Int32} (ho : zO9 (f (aS 75 S)) (f (aG S))) (hr : ∀ a c k, 82 ≤ c ∧ c ≤ 93 → f a c k = a c k) (h : aS 75 S' = f (aS 75 S)) (e1 : mI S' 82 = mI S 82) (e2 : mI S' 83 = mI S 83) : aG S' = f (aG S) := by
  refine G_g (f := f) (fun c k h1 h2 => ?_) (fun k => hr _ _ _ (by omega)) (fun k => hr _ _ _ (by omega)) e1 e2
  rw [h]
  by_cases w : c < 82 ∨ 93 < c
  · exact ho c k w
  · rw [hr _ _ _ (by omega), hr _ _ _ (by omega), aG_o h1 h2]
theorem G_id (h : aS 75 S' = aS 75 S) (e1 : mI S' 82 = mI S 82) (e2 : mI S' 83 = mI S 83) : aG S' = aG S := G_f (f := fun a => a) G_o9 (fun _ _ _ _ => rfl) h e1 e2
theorem G_mo (h : aS 75 S' = aMo (aS 75 S) n to) (e1 : mI S' 82 = mI S 82) (e2 : mI S' 83 = mI S 83) : aG S' = aMo (aG S) n to := by
  refine G_g (f := fun a => aMo a n to) (fun c k h1 h2 => ?_) (fun k => Mo_r (by decide) (by decide)) (fun k => Mo_r (by decide) (by decide)) e1 e2
  rw [h]
  unfold aMo
  rw [aG_o (c := 128) (by decide) (by decide), aG_o (c := 130) (by decide) (by decide), aG_o (c := 71) (by decide) (by decide), aG_o (c := 71) (by decide) (by decide), aG_o h1 h2]
theorem G_sw (h : aS 75 S' = aSw (aS 75 S)) (e1 : mI S' 82 = mI S 82) (e2 : mI S' 83 = mI S 83) : aG S' = aSw (aG S) := G_f (f := aSw) (o9_sw G_o9) (fun _ _ _ w => sw_9 w) h e1 e2
theorem G_sv : aSv (aS 75 S) = aSv (aG S) := sv_9 G_o9
theorem wh_9 (h : 82 ≤ c ∧ c ≤ 93) : aWh a x c k = a c k := by
  unfold aWh
  rw [xu_o (by omega), xu_o (by omega), xu_o (by omega)]
  unfold zFl
  rw [if_neg (by omega)]
theorem o9_wh (h : zO9 a b) : zO9 (aWh a x) (aWh b x) := by
  unfold aWh
  refine o9_u (o9_u (o9_u (fun c' k' q => ?_)))
  unfold zFl
  rw [h c' k' q]
theorem G_wh (h : aS 75 S' = aWh (aS 75 S) x) (e1 : mI S' 82 = mI S 82) (e2 : mI S' 83 = mI S 83) : aG S' = aWh (aG S) x := G_f (f := fun a => aWh a x) (o9_wh G_o9) (fun _ _ _ w => wh_9 w) h e1 e2
theorem G_ro (h : aS 75 S' = aRo (aS 75 S) 0) (e1 : mI S' 82 = mI S 82) (e2 : mI S' 83 = mI S 83) : aG S' = aRo (aG S) 0 := G_f (f := fun a => aRo a 0) (o9_rf _ _ _ _ G_o9) (fun _ _ _ w => aRo_o ⟨by omega, by omega, by omega⟩) h e1 e2
theorem G_sp (h : aS 75 S' = aSp f (aS 75 S)) (e1 : mI S' 82 = mI S 82) (e2 : mI S' 83 = mI S 83) : aG S' = aSp f (aG S) := G_f (f := fun a => aSp f a) (o9_sp _ _ _ G_o9) (fun _ _ _ w => aSp_o ⟨by omega, by omega, by omega⟩ _ _) h e1 e2
theorem G_gw (h : aS 75 S' = aGw (aS 75 S) 0) (e1 : mI S' 82 = mI S 82) (e2 : mI S' 83 = mI S 83) : aG S' = aGw (aG S) 0 := G_f (f := fun a => aGw a 0) (o9_gw G_o9) (fun _ _ _ w => gf_9 w _ _ _) h e1 e2
theorem o9_mv (h : zO9 a b) : zO9 (aMv a 0) (aMv b 0) := by
  unfold aMv
  rw [h 69 6 (by decide)]
  exact o9_mf _ _ _ _ h
theorem G_mv (h : aS 75 S' = aMv (aS 75 S) 0) (e1 : mI S' 82 = mI S 82) (e2 : mI S' 83 = mI S 83) : aG S' = aMv (aG S) 0 := G_f (f := fun a => aMv a 0) (o9_mv G_o9) (fun _ _ _ w => mf_9 w _ _ _) h e1 e2
theorem G_ad (h : aS 75 S' = aAd (aS 75 S) y F L) (e1 : mI S' 82 = mI S 82) (e2 : mI S' 83 = mI S 83) : aG S' = aAd (aG S) y F L := G_f (f := fun a => aAd a y F L) (o9_ad G_o9) (fun _ _ _ w => ad_9 w) h e1 e2
theorem G_r0 (h : aS 75 S' = aR0 (aS 75 S) i y) (e1 : mI S' 82 = mI S 82) (e2 : mI S' 83 = mI S 83) : aG S' = aR0 (aG S) i y := G_f (f := fun a => aR0 a i y) (o9_r0 G_o9) (fun _ _ _ w => xu_o (by omega)) h e1 e2
theorem G_th {nu kd sz pl : Int32} {rr : Int64} (hN : 126 ≤ mN S) (hr : ∀ n c, mR S 70 n = some c → c < mN S) : aG (zTh S nu kd sz rr pl) = aG S := G_id (mk_a (Or.inl rfl) hN hr) (funext (fun _ => zTh_lo (by decide) hN)) (funext (fun _ => zTh_lo (by decide) hN))
/-! writes -/
theorem G_p8 (hR : xB S R) : aG (ma_put S 83 n (.inl x)) = ma_u (aG S) 83 n x := by
  have e := (xC_n (W := 75) (c := 83) (k := n) (x := x) (xC_o hR) ⟨by decide, Or.inl ⟨rfl, by first | rfl | (cases n <;> rfl)⟩⟩).1
  refine G_of (fun c' k w w2 => ?_) (fun k => ?_) (fun k => ?_)
  · rw [e, xu_o (fun z => by omega), aG_o w w2]
  · rw [xu_o (fun z => by omega), aG_7]
    unfold zfG
    have r : ∀ j, mI (ma_put S 83 n (.inl x)) 82 j = mI S 82 j := fun j => by
      show (if (82 : Nat) = 83 ∧ j = n then x else mI S 82 j) = _
      rw [if_neg (fun z => by omega)]
    simp only [r]
  · show (if (83 : Nat) = 83 ∧ k = n then x else aG S 83 k) = (if (83 : Nat) = 83 ∧ k = n then x else mI S 83 k)
    rw [aG_8]
theorem G_pk (hR : xB S R) (hk : (n = 6 ∧ k = 10) ∨ (n = 7 ∧ k = 3) ∨ (n = 8 ∧ k = 4)) : aG (ma_put S 82 n (.inl x)) = ma_u (aG S) 87 k x := by
  have e := (xC_n (W := 75) (c := 82) (k := n) (x := x) (xC_o hR) ⟨by decide, Or.inl ⟨rfl, by first | rfl | (cases n <;> rfl)⟩⟩).1
  refine G_of (fun c' k' w w2 => ?_) (fun k' => ?_) (fun k' => ?_)
  · rw [e, xu_o (fun z => by omega), aG_o w w2]
  · have r : ∀ j, mI (ma_put S 82 n (.inl x)) 82 j = if j = n then x else mI S 82 j := fun j => by
      show (if (82 : Nat) = 82 ∧ j = n then x else mI S 82 j) = _
      by_cases w : j = n
      · rw [if_pos ⟨rfl, w⟩, if_pos w]
      · rw [if_neg (fun z => w z.2), if_neg w]
    show (if (87 : Nat) = 87 ∧ k' = k then x else aG S 87 k') = zfG (mI (ma_put S 82 n (.inl x))) k'
    rw [aG_7]
    unfold zfG
    simp only [r]
    rcases hk with ⟨h1, h2⟩ | ⟨h1, h2⟩ | ⟨h1, h2⟩ <;> (subst h1; subst h2; by_cases w : k' = 10 <;> by_cases w3 : k' = 3 <;> by_cases w4 : k' = 4 <;> simp [w, w3, w4] <;> omega)
  · rw [xu_o (fun z => by omega), aG_8]
    show _ = (if (83 : Nat) = 82 ∧ k' = n then x else mI S 83 k')
    rw [if_neg (fun z => by omega)]
theorem G_p5 (hR : xB S R) (e : zTa R y = some c) : aG (ma_put S c 5 (.inl x)) = ma_u (aG S) 131 y.toNatClampNeg x := by
  have q := (xC_t (W := 75) (x := x) (xC_o hR) xW75 e (k := 5) rfl).1
  have h6 := (xB_th (W := 75) hR e).1
  have h126 : 126 ≤ c := (hR.2 _ c (zTa_n e) (zTa_p e).2.2).1
  have r : ∀ d j, d < 126 → mI (ma_put S c 5 (.inl x)) d j = mI S d j := fun d j hd => if_neg (fun z => by omega)
  refine G_of (fun c' k' w w2 => ?_) (fun k' => ?_) (fun k' => ?_)
  · rw [q]
    show (if c' = 131 ∧ k' = y.toNatClampNeg then x else aS 75 S c' k') = (if c' = 131 ∧ k' = y.toNatClampNeg then x else aG S c' k')
    rw [aG_o w w2]
  · rw [xu_o (fun z => by omega), aG_7]
    unfold zfG
    rw [r 82 _ (by decide), r 82 _ (by decide), r 82 _ (by decide), r 82 _ (by decide), r 82 _ (by decide), r 82 _ (by decide), r 82 _ (by decide)]
  · rw [xu_o (fun z => by omega), aG_8, r 83 _ (by decide)]
theorem xB_5 (hR : xB S R) (e : zTa R y = some c) : mI S c 5 = aG S 131 y.toNatClampNeg := by
  have p := zTa_p e
  have hn := zTa_n e
  have h : mR S 70 y.toNatClampNeg = some c := by rw [hR.1]; exact p.2.2
  rw [aG_o (by decide) (by decide)]
  exact (aTf_c hn h).symm
end F20
