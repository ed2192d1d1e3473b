/-! WHAT THE CLASS DOES TO ITS HEAP, as functions of the heap by numbers -/
/-- it comes: a WHITE one goes GREY, to the end of the queue -/
def aCc (a : Nat → Nat → Int32) (y : Int32) : Prop := 0 ≤ y.toInt ∧ y.toInt < 512 ∧ a 126 y.toNatClampNeg ≠ 0 ∧ (a 75 5).toInt ≤ (a 130 y.toNatClampNeg).toInt ∧ (a 75 4).toInt < 512 ∧ a 77 y.toNatClampNeg = 0
def aCm (a : Nat → Nat → Int32) (y : Int32) : Nat → Nat → Int32 := if 0 ≤ y.toInt ∧ y.toInt < 512 ∧ a 126 y.toNatClampNeg ≠ 0 ∧ (a 75 5).toInt ≤ (a 130 y.toNatClampNeg).toInt ∧ (a 75 4).toInt < 512 ∧ a 77 y.toNatClampNeg = 0 then ma_u (ma_u (ma_u a 77 y.toNatClampNeg 1) 76 (a 75 4).toNatClampNeg y) 75 4 (a 75 4 + 1) else a
/-- what word i of n refers to; -1: nothing, or an int -/
def aRef (a : Nat → Nat → Int32) (n : Nat) (i : Int32) : Int32 := if a (1000 + n) i.toNatClampNeg ≠ 0 ∧ 0 ≤ (a 130 n + 1 + i).toInt ∧ (a 130 n + 1 + i).toInt < 4500 then a 71 (a 130 n + 1 + i).toNatClampNeg else -1
/-- what its words from i on refer to comes -/
def aCwf (n : Nat) : Nat → Int32 → (Nat → Nat → Int32) → Nat → Nat → Int32
  | 0, _, a => a
  | f + 1, i, a => aCwf n f (i + 1) (aCm a (aRef a n i))
def aCw (a : Nat → Nat → Int32) (n : Nat) (i : Int32) : Nat → Nat → Int32 := aCwf n ((a 128 n).toInt - 1 - i.toInt).toNat i a
/-- a step: the first GREY one is BLACK, what it refers to comes -/
def aPop (a : Nat → Nat → Int32) : Nat → Nat → Int32 := if 0 ≤ (a 76 (a 75 3).toNatClampNeg).toInt ∧ (a 76 (a 75 3).toNatClampNeg).toInt < 512 ∧ a 126 (a 76 (a 75 3).toNatClampNeg).toNatClampNeg ≠ 0 then aCw (ma_u (ma_u a 75 3 (a 75 3 + 1)) 77 (a 76 (a 75 3).toNatClampNeg).toNatClampNeg 2) (a 76 (a 75 3).toNatClampNeg).toNatClampNeg 0 else ma_u a 75 3 (a 75 3 + 1)
/-- at most so many steps; how many -/
def aSp : Nat → (Nat → Nat → Int32) → Nat → Nat → Int32
  | 0, a => a
  | k + 1, a => if (a 75 3).toInt < (a 75 4).toInt then aSp k (aPop a) else a
def aSn : Nat → (Nat → Nat → Int32) → Nat
  | 0, _ => 0
  | k + 1, a => if (a 75 3).toInt < (a 75 4).toInt then aSn k (aPop a) + 1 else 0
/-- held ones from n on come -/
def aHf : Nat → Int32 → (Nat → Nat → Int32) → Nat → Nat → Int32
  | 0, _, a => a
  | f + 1, n, a => aHf f (n + 1) (if 0 ≤ n.toInt ∧ n.toInt < 512 ∧ a 126 n.toNatClampNeg ≠ 0 ∧ 0 < (a 133 n.toNatClampNeg).toInt then aCm a n else a)
def aHo (a : Nat → Nat → Int32) (n : Int32) : Nat → Nat → Int32 := aHf ((a 69 6).toInt - n.toInt).toNat n a
/-- WISHES from i on come, then the held ones -/
def aWf : Nat → Int32 → (Nat → Nat → Int32) → Nat → Nat → Int32
  | 0, _, a => aHo a 0
  | f + 1, i, a => aWf f (i + 1) (aCm a (a 74 i.toNatClampNeg))
def aWi (a : Nat → Nat → Int32) (i : Int32) : Nat → Nat → Int32 := aWf ((a 69 5).toInt - i.toInt).toNat i a
/-- ROOTS from i on come, then WISHES, then the held ones -/
def aRf : Nat → Int32 → (Nat → Nat → Int32) → Nat → Nat → Int32
  | 0, _, a => aWi a 0
  | f + 1, i, a => aRf f (i + 1) (aCm a (a 72 i.toNatClampNeg))
def aRo (a : Nat → Nat → Int32) (i : Int32) : Nat → Nat → Int32 := aRf (16 - i.toInt).toNat i a
/-- a row's words below n are x -/
def zFl (a : Nat → Nat → Int32) (c : Nat) (x : Int32) (n : Int) : Nat → Nat → Int32 := fun c' k => if c' = c ∧ (k : Int) < n then x else a c' k
/-- all WHITE, the queue empty -/
def aWh (a : Nat → Nat → Int32) (p : Int32) : Nat → Nat → Int32 := ma_u (ma_u (ma_u (zFl a 77 0 512) 75 3 0) 75 4 0) 75 5 p
def zSr (k : Nat) (a : Nat → Nat → Int32) (d : Int) (m : Nat) (b : Nat → Nat → Int32) : Prop := aSp k a = aSp m b ∧ d + (aSn k a : Int) = (aSn m b : Int)
section AB1
variable {a : Nat → Nat → Int32} {y i n : Int32} {c k m : Nat}
theorem aCm_y (h : aCc a y) : aCm a y = ma_u (ma_u (ma_u a 77 y.toNatClampNeg 1) 76 (a 75 4).toNatClampNeg y) 75 4 (a 75 4 + 1) := if_pos h
theorem aCm_n (h : ¬ aCc a y) : aCm a y = a := if_neg h
theorem aCm_o (h : c ≠ 75 ∧ c ≠ 76 ∧ c ≠ 77) : aCm a y c k = a c k := by
  unfold aCm
  split
  · show (if c = 75 ∧ k = 4 then _ else if c = 76 ∧ k = _ then _ else if c = 77 ∧ k = _ then _ else a c k) = a c k
    rw [if_neg (fun z => h.1 z.1), if_neg (fun z => h.2.1 z.1), if_neg (fun z => h.2.2 z.1)]
  · rfl
theorem i_p1 (h : i.toInt < 2147483647) : (i + 1).toInt = i.toInt + 1 := by
  have b := i_bd i
  exact i_addk rfl (by omega) (by omega)
theorem aCw_go (h : i.toInt < (a 128 m).toInt - 1) : aCw a m i = aCw (aCm a (aRef a m i)) m (i + 1) := by
  have b := i_bd (a 128 m)
  have e : (i + 1).toInt = i.toInt + 1 := i_p1 (by omega)
  unfold aCw
  rw [aCm_o ⟨by decide, by decide, by decide⟩, e]
  have e2 : ((a 128 m).toInt - 1 - i.toInt).toNat = ((a 128 m).toInt - 1 - (i.toInt + 1)).toNat + 1 := by omega
  rw [e2]
  rfl
theorem aCw_st (h : ¬ i.toInt < (a 128 m).toInt - 1) : aCw a m i = a := by
  unfold aCw
  rw [show ((a 128 m).toInt - 1 - i.toInt).toNat = 0 by omega]
  rfl
theorem aSp_go (h : (a 75 3).toInt < (a 75 4).toInt) : aSp (k + 1) a = aSp k (aPop a) := if_pos h
theorem aSp_st (h : k = 0 ∨ ¬ (a 75 3).toInt < (a 75 4).toInt) : aSp k a = a := by
  cases k with
  | zero => rfl
  | succ k => exact if_neg (by omega)
theorem aSn_go (h : (a 75 3).toInt < (a 75 4).toInt) : aSn (k + 1) a = aSn k (aPop a) + 1 := if_pos h
theorem aSn_st (h : k = 0 ∨ ¬ (a 75 3).toInt < (a 75 4).toInt) : aSn k a = 0 := by
  cases k with
  | zero => rfl
  | succ k => exact if_neg (by omega)
theorem aPop_y (e : a 76 (a 75 3).toNatClampNeg = y) (h0 : 0 ≤ y.toInt) (h1 : y.toInt < 512) (h : a 126 y.toNatClampNeg ≠ 0) : aPop a = aCw (ma_u (ma_u a 75 3 (a 75 3 + 1)) 77 y.toNatClampNeg 2) y.toNatClampNeg 0 := by
  unfold aPop
  rw [e]
  exact if_pos ⟨h0, h1, h⟩
theorem aPop_n (e : a 76 (a 75 3).toNatClampNeg = y) (h : ¬ (0 ≤ y.toInt ∧ y.toInt < 512 ∧ a 126 y.toNatClampNeg ≠ 0)) : aPop a = ma_u a 75 3 (a 75 3 + 1) := by
  unfold aPop
  rw [e]
  exact if_neg h
theorem aHo_y (h : n.toInt < (a 69 6).toInt) (z : 0 ≤ n.toInt ∧ n.toInt < 512 ∧ a 126 n.toNatClampNeg ≠ 0 ∧ 0 < (a 133 n.toNatClampNeg).toInt) : aHo a n = aHo (aCm a n) (n + 1) := by
  have b := i_bd (a 69 6)
  have e : (n + 1).toInt = n.toInt + 1 := i_p1 (by omega)
  unfold aHo
  rw [aCm_o ⟨by decide, by decide, by decide⟩, e]
  have e2 : ((a 69 6).toInt - n.toInt).toNat = ((a 69 6).toInt - (n.toInt + 1)).toNat + 1 := by omega
  rw [e2]
  show aHf _ (n + 1) (if _ then aCm a n else a) = _
  rw [if_pos z]
theorem aHo_n (h : n.toInt < (a 69 6).toInt) (z : ¬ (0 ≤ n.toInt ∧ n.toInt < 512 ∧ a 126 n.toNatClampNeg ≠ 0 ∧ 0 < (a 133 n.toNatClampNeg).toInt)) : aHo a n = aHo a (n + 1) := by
  have b := i_bd (a 69 6)
  have e : (n + 1).toInt = n.toInt + 1 := i_p1 (by omega)
  unfold aHo
  rw [e]
  have e2 : ((a 69 6).toInt - n.toInt).toNat = ((a 69 6).toInt - (n.toInt + 1)).toNat + 1 := by omega
  rw [e2]
  show aHf _ (n + 1) (if _ then aCm a n else a) = _
  rw [if_neg z]
theorem aHo_st (h : ¬ n.toInt < (a 69 6).toInt) : aHo a n = a := by
  unfold aHo
  rw [show ((a 69 6).toInt - n.toInt).toNat = 0 by omega]
  rfl
theorem aWi_go (h : i.toInt < (a 69 5).toInt) : aWi a i = aWi (aCm a (a 74 i.toNatClampNeg)) (i + 1) := by
  have b := i_bd (a 69 5)
  have e : (i + 1).toInt = i.toInt + 1 := i_p1 (by omega)
  unfold aWi
  rw [aCm_o ⟨by decide, by decide, by decide⟩, e]
  have e2 : ((a 69 5).toInt - i.toInt).toNat = ((a 69 5).toInt - (i.toInt + 1)).toNat + 1 := by omega
  rw [e2]
  rfl
theorem aWi_st (h : ¬ i.toInt < (a 69 5).toInt) : aWi a i = aHo a 0 := by
  unfold aWi
  rw [show ((a 69 5).toInt - i.toInt).toNat = 0 by omega]
  rfl
theorem aRo_go (h : i.toInt < 16) : aRo a i = aRo (aCm a (a 72 i.toNatClampNeg)) (i + 1) := by
  have e : (i + 1).toInt = i.toInt + 1 := i_p1 (by omega)
  unfold aRo
  rw [e]
  have e2 : (16 - i.toInt).toNat = (16 - (i.toInt + 1)).toNat + 1 := by omega
  rw [e2]
  rfl
theorem aRo_st (h : ¬ i.toInt < 16) : aRo a i = aWi a 0 := by
  unfold aRo
  rw [show (16 - i.toInt).toNat = 0 by omega]
  rfl
theorem zFl_0 {x : Int32} : zFl a c x 0 = a := by
  funext c' k'
  exact if_neg (by omega)
theorem zFl_s {x j : Int32} (h0 : 0 ≤ j.toInt) (h1 : j.toInt < 2147483647) : ma_u (zFl a c x j.toInt) c j.toNatClampNeg x = zFl a c x (j + 1).toInt := by
  have e := i_p1 h1
  have e2 := tn_cast h0
  funext c' k'
  show (if c' = c ∧ k' = j.toNatClampNeg then x else if c' = c ∧ (k' : Int) < j.toInt then x else a c' k') = if c' = c ∧ (k' : Int) < (j + 1).toInt then x else a c' k'
  by_cases h : c' = c ∧ (k' : Int) < (j + 1).toInt
  · rw [if_pos h]
    by_cases h2 : k' = j.toNatClampNeg
    · rw [if_pos ⟨h.1, h2⟩]
    · rw [if_neg (fun z => h2 z.2), if_pos ⟨h.1, by omega⟩]
  · rw [if_neg h, if_neg (fun z => h ⟨z.1, by omega⟩), if_neg (fun z => h ⟨z.1, by omega⟩)]
theorem zSr_go {b : Nat → Nat → Int32} {d : Int} {k' : Nat} (h : zSr k a d m b) (e : k = k' + 1) (hl : (a 75 3).toInt < (a 75 4).toInt) : zSr k' (aPop a) (d + 1) m b := by
  subst e
  have h1 := h.1
  have h2 := h.2
  rw [aSp_go hl] at h1
  rw [aSn_go hl] at h2
  exact ⟨h1, by omega⟩
theorem zSr_st {b : Nat → Nat → Int32} {d : Int} (h : zSr k a d m b) (hl : k = 0 ∨ ¬ (a 75 3).toInt < (a 75 4).toInt) : a = aSp m b ∧ d = (aSn m b : Int) := by
  have h1 := h.1
  have h2 := h.2
  rw [aSp_st hl] at h1
  rw [aSn_st hl] at h2
  exact ⟨h1, by omega⟩
theorem zSr_k {b : Nat → Nat → Int32} {d d' : Int} {k' : Nat} (h : zSr k a d m b) (e : k = k') (e2 : d = d') : zSr k' a d' m b := by
  rw [← e, ← e2]
  exact h
theorem aRef_in (h : a (1000 + m) i.toNatClampNeg ≠ 0) (h1 : 0 ≤ (a 130 m + 1 + i).toInt) (h2 : (a 130 m + 1 + i).toInt < 4500) : aRef a m i = a 71 (a 130 m + 1 + i).toNatClampNeg := if_pos ⟨h, h1, h2⟩
theorem aRef_no (h : ¬ (a (1000 + m) i.toNatClampNeg ≠ 0 ∧ 0 ≤ (a 130 m + 1 + i).toInt ∧ (a 130 m + 1 + i).toInt < 4500)) : aRef a m i = -1 := if_neg h
theorem rf_bit {W : Nat} {S : ma_S} {R : zRT} (hC : xB S R) (rg : zTa R y = some c) (hi : 0 ≤ i.toInt) : aS W S (1000 + y.toNatClampNeg) i.toNatClampNeg = zbit (mL S c 3) i := by
  rw [xB_rf hC rg, ofN_tn hi]
theorem rf_in {W : Nat} {S : ma_S} {R : zRT} (hC : xB S R) (rg : zTa R y = some c) (hi : 0 ≤ i.toInt) (hb : ¬ lg_cmp (((mL S c 3).toUInt64 >>> (i.toInt64.toUInt64 &&& Int64.toUInt64 63)).toInt64 &&& (1 : Int64)) (0 : Int64) = 0) (h1 : 0 ≤ (mI S c 4 + 1 + i).toInt) (h2 : (mI S c 4 + 1 + i).toInt < 4500) : aRef (aS W S) y.toNatClampNeg i = mI S 71 (mI S c 4 + 1 + i).toNatClampNeg := by
  have t := xB_th (W := W) hC rg
  have e := t.2.2.2.2.2.1
  rw [e] at h1 h2 ⊢
  refine aRef_in ?_ h1 h2
  rw [rf_bit hC rg hi]
  unfold zbit
  rw [if_neg hb]
  decide
theorem rf_b0 {W : Nat} {S : ma_S} {R : zRT} (hC : xB S R) (rg : zTa R y = some c) (hi : 0 ≤ i.toInt) (hb : lg_cmp (((mL S c 3).toUInt64 >>> (i.toInt64.toUInt64 &&& Int64.toUInt64 63)).toInt64 &&& (1 : Int64)) (0 : Int64) = 0) : aRef (aS W S) y.toNatClampNeg i = -1 := by
  refine aRef_no (fun z => z.1 ?_)
  rw [rf_bit hC rg hi]
  unfold zbit
  rw [if_pos hb]
theorem rf_no {W : Nat} {S : ma_S} {R : zRT} (hC : xB S R) (rg : zTa R y = some c) (h : (mI S c 4 + 1 + i).toInt < 0 ∨ 4500 ≤ (mI S c 4 + 1 + i).toInt) : aRef (aS W S) y.toNatClampNeg i = -1 := by
  have t := xB_th (W := W) hC rg
  have e := t.2.2.2.2.2.1
  rw [e] at h
  exact aRef_no (fun z => by omega)
theorem ta_m1 {R : zRT} : none = zTa R (-1) := rfl
end AB1
