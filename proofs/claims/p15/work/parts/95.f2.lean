/-! cells that a walk leaves, and what the store does -/
section AB2
variable {a b : Nat → Nat → Int32} {y i n : Int32} {c k m : Nat}
theorem aCw_o (h : c ≠ 75 ∧ c ≠ 76 ∧ c ≠ 77) : ∀ (f : Nat) (i : Int32) (a : Nat → Nat → Int32), aCwf m f i a c k = a c k := by
  intro f
  induction f with
  | zero => intro i a; rfl
  | succ f ih =>
    intro i a
    show aCwf m f (i + 1) (aCm a (aRef a m i)) c k = a c k
    rw [ih, aCm_o h]
theorem aPop_o (h : c ≠ 75 ∧ c ≠ 76 ∧ c ≠ 77) : aPop a c k = a c k := by
  unfold aPop
  split
  · unfold aCw
    rw [aCw_o h]
    show (if c = 77 ∧ k = _ then _ else if c = 75 ∧ k = 3 then _ else a c k) = a c k
    rw [if_neg (fun z => h.2.2 z.1), if_neg (fun z => h.1 z.1)]
  · show (if c = 75 ∧ k = 3 then _ else a c k) = a c k
    rw [if_neg (fun z => h.1 z.1)]
theorem aSp_o (h : c ≠ 75 ∧ c ≠ 76 ∧ c ≠ 77) : ∀ (f : Nat) (a : Nat → Nat → Int32), aSp f a c k = a c k := by
  intro f
  induction f with
  | zero => intro a; rfl
  | succ f ih =>
    intro a
    show (if (a 75 3).toInt < (a 75 4).toInt then aSp f (aPop a) else a) c k = a c k
    split
    · rw [ih, aPop_o h]
    · rfl
/-- WEAK below n lose it -/
def zUw (a : Nat → Nat → Int32) (y : Int32) (n : Int) : Nat → Nat → Int32 := fun c k => if c = 73 ∧ (k : Int) < n ∧ a 73 k = y then -1 else a c k
theorem zUw_0 : zUw a y 0 = a := by
  funext c' k'
  exact if_neg (by omega)
theorem zUw_r : zUw a y i.toInt 73 i.toNatClampNeg = a 73 i.toNatClampNeg := by
  unfold zUw
  have b := i_bd i
  by_cases h : 0 ≤ i.toInt
  · rw [if_neg (fun z => by have := tn_cast h; omega)]
  · rw [if_neg (fun z => by omega)]
theorem zUw_y (h0 : 0 ≤ i.toInt) (h1 : i.toInt < 2147483647) (e0 : a 73 i.toNatClampNeg = y) : ma_u (zUw a y i.toInt) 73 i.toNatClampNeg (-1) = zUw a y (i + 1).toInt := by
  have e := i_p1 h1
  have e2 := tn_cast h0
  funext c' k'
  show (if c' = 73 ∧ k' = i.toNatClampNeg then -1 else if c' = 73 ∧ (k' : Int) < i.toInt ∧ a 73 k' = y then -1 else a c' k') = if c' = 73 ∧ (k' : Int) < (i + 1).toInt ∧ a 73 k' = y then -1 else a c' k'
  by_cases h2 : c' = 73 ∧ k' = i.toNatClampNeg
  · rw [if_pos h2, if_pos ⟨h2.1, by omega, by rw [h2.2]; exact e0⟩]
  · rw [if_neg h2]
    by_cases h3 : c' = 73 ∧ (k' : Int) < i.toInt ∧ a 73 k' = y
    · rw [if_pos h3, if_pos ⟨h3.1, by omega, h3.2.2⟩]
    · rw [if_neg h3, if_neg (fun z => h3 ⟨z.1, by have := z.2.1; omega, z.2.2⟩)]
theorem zUw_n (h0 : 0 ≤ i.toInt) (h1 : i.toInt < 2147483647) (e0 : ¬ a 73 i.toNatClampNeg = y) : zUw a y i.toInt = zUw a y (i + 1).toInt := by
  have e := i_p1 h1
  have e2 := tn_cast h0
  funext c' k'
  show (if c' = 73 ∧ (k' : Int) < i.toInt ∧ a 73 k' = y then -1 else a c' k') = if c' = 73 ∧ (k' : Int) < (i + 1).toInt ∧ a 73 k' = y then -1 else a c' k'
  by_cases h3 : c' = 73 ∧ (k' : Int) < i.toInt ∧ a 73 k' = y
  · rw [if_pos h3, if_pos ⟨h3.1, by omega, h3.2.2⟩]
  · rw [if_neg h3, if_neg (fun z => h3 ⟨z.1, by
      have z1 := z.2.1
      by_cases q : k' = i.toNatClampNeg
      · exact absurd (by rw [← q]; exact z.2.2) e0
      · omega, z.2.2⟩)]
theorem zUw_o {n : Int} (h : c ≠ 73) : zUw a y n c k = a c k := if_neg (fun z => h z.1)
/-- a last wish is granted -/
def aGr (a : Nat → Nat → Int32) (y : Int32) : Nat → Nat → Int32 := if (a 69 5).toInt < 512 then ma_u (ma_u (ma_u (zUw a y 16) 134 y.toNatClampNeg 0) 74 (a 69 5).toNatClampNeg y) 69 5 (a 69 5 + 1) else ma_u (zUw a y 16) 134 y.toNatClampNeg 0
theorem aGr_o (h : c ≠ 73 ∧ c ≠ 134 ∧ c ≠ 74 ∧ ¬ (c = 69 ∧ k = 5)) : aGr a y c k = a c k := by
  unfold aGr
  split
  · show (if c = 69 ∧ k = 5 then _ else if c = 74 ∧ k = _ then _ else if c = 134 ∧ k = _ then _ else zUw a y 16 c k) = _
    rw [if_neg h.2.2.2, if_neg (fun z => h.2.2.1 z.1), if_neg (fun z => h.2.1 z.1), zUw_o h.1]
  · show (if c = 134 ∧ k = _ then _ else zUw a y 16 c k) = _
    rw [if_neg (fun z => h.2.1 z.1), zUw_o h.1]
/-- of those from n on: with a wish and WHITE: granted, and what they keep -/
def aGc (a : Nat → Nat → Int32) (n : Int32) : Prop := 0 ≤ n.toInt ∧ n.toInt < 512 ∧ a 126 n.toNatClampNeg ≠ 0 ∧ a 134 n.toNatClampNeg ≠ 0 ∧ (a 75 5).toInt ≤ (a 130 n.toNatClampNeg).toInt ∧ a 77 n.toNatClampNeg = 0
def aGf : Nat → Int32 → (Nat → Nat → Int32) → Nat → Nat → Int32
  | 0, _, a => a
  | f + 1, n, a => aGf f (n + 1) (if 0 ≤ n.toInt ∧ n.toInt < 512 ∧ a 126 n.toNatClampNeg ≠ 0 ∧ a 134 n.toNatClampNeg ≠ 0 ∧ (a 75 5).toInt ≤ (a 130 n.toNatClampNeg).toInt ∧ a 77 n.toNatClampNeg = 0 then aSp 512 (aCm (aGr a n) n) else a)
def aGw (a : Nat → Nat → Int32) (n : Int32) : Nat → Nat → Int32 := aGf ((a 69 6).toInt - n.toInt).toNat n a
theorem aGw_y (h : n.toInt < (a 69 6).toInt) (z : aGc a n) : aGw a n = aGw (aSp 512 (aCm (aGr a n) n)) (n + 1) := by
  have b := i_bd (a 69 6)
  have e : (n + 1).toInt = n.toInt + 1 := i_p1 (by omega)
  unfold aGw
  rw [aSp_o ⟨by decide, by decide, by decide⟩, aCm_o ⟨by decide, by decide, by decide⟩, aGr_o ⟨by decide, by decide, by decide, by decide⟩, e]
  have e2 : ((a 69 6).toInt - n.toInt).toNat = ((a 69 6).toInt - (n.toInt + 1)).toNat + 1 := by omega
  rw [e2]
  show aGf _ (n + 1) (if _ then aSp 512 (aCm (aGr a n) n) else a) = _
  unfold aGc at z
  rw [if_pos z]
theorem aGw_n (h : n.toInt < (a 69 6).toInt) (z : ¬ aGc a n) : aGw a n = aGw a (n + 1) := by
  have b := i_bd (a 69 6)
  have e : (n + 1).toInt = n.toInt + 1 := i_p1 (by omega)
  unfold aGw
  rw [e]
  have e2 : ((a 69 6).toInt - n.toInt).toNat = ((a 69 6).toInt - (n.toInt + 1)).toNat + 1 := by omega
  rw [e2]
  show aGf _ (n + 1) (if _ then aSp 512 (aCm (aGr a n) n) else a) = _
  unfold aGc at z
  rw [if_neg z]
theorem aGw_st (h : ¬ n.toInt < (a 69 6).toInt) : aGw a n = a := by
  unfold aGw
  rw [show ((a 69 6).toInt - n.toInt).toNat = 0 by omega]
  rfl
/-- words are free -/
def zFr (a : Nat → Nat → Int32) (p e : Int) : Nat → Nat → Int32 := fun c k => if c = 71 ∧ p ≤ (k : Int) ∧ (k : Int) < e then -1 else a c k
theorem zFr_0 {p e : Int} (h : e ≤ p) : zFr a p e = a := by
  funext c' k'
  exact if_neg (by omega)
theorem zFr_s {p : Int} (h0 : 0 ≤ i.toInt) (hp : p ≤ i.toInt) (h1 : i.toInt < 2147483647) : ma_u (zFr a p i.toInt) 71 i.toNatClampNeg (-1) = zFr a p (i + 1).toInt := by
  have e := i_p1 h1
  have e2 := tn_cast h0
  funext c' k'
  show (if c' = 71 ∧ k' = i.toNatClampNeg then -1 else if c' = 71 ∧ p ≤ (k' : Int) ∧ (k' : Int) < i.toInt then -1 else a c' k') = if c' = 71 ∧ p ≤ (k' : Int) ∧ (k' : Int) < (i + 1).toInt then -1 else a c' k'
  by_cases h2 : c' = 71 ∧ k' = i.toNatClampNeg
  · rw [if_pos h2, if_pos ⟨h2.1, by omega, by omega⟩]
  · rw [if_neg h2]
    by_cases h3 : c' = 71 ∧ p ≤ (k' : Int) ∧ (k' : Int) < i.toInt
    · rw [if_pos h3, if_pos ⟨h3.1, h3.2.1, by omega⟩]
    · rw [if_neg h3, if_neg (fun z => h3 ⟨z.1, z.2.1, by
        have z1 := z.2.2
        by_cases q : k' = i.toNatClampNeg
        · exact absurd ⟨z.1, q⟩ h2
        · omega⟩)]
theorem zFr_e {p e e' : Int} (h : e = e' ∨ (e ≤ p ∧ e' ≤ p)) : zFr a p e = zFr a p e' := by
  rcases h with h | h
  · rw [h]
  · rw [zFr_0 h.1, zFr_0 h.2]
theorem zFr_o {p e : Int} (h : c ≠ 71) : zFr a p e c k = a c k := if_neg (fun z => h z.1)
/-- it is gone -/
def zMin (x : Int) : Int := if x < 4500 then x else 4500
def aRm (a : Nat → Nat → Int32) (y : Int32) : Nat → Nat → Int32 := ma_u (ma_u (zNo (zFr (zUw a y 16) (a 130 y.toNatClampNeg).toInt (zMin (a 130 y.toNatClampNeg + a 128 y.toNatClampNeg).toInt)) y.toNatClampNeg) 69 8 (a 69 8 - a 128 y.toNatClampNeg)) 69 11 (a 69 11 + a 128 y.toNatClampNeg)
theorem zNo_o (h : c < 126) : zNo a m c k = a c k := if_neg (by omega)
theorem aRm_o (h : c < 126) (h2 : c ≠ 73 ∧ c ≠ 71 ∧ ¬ (c = 69 ∧ k = 8) ∧ ¬ (c = 69 ∧ k = 11)) : aRm a y c k = a c k := by
  show (if c = 69 ∧ k = 11 then _ else if c = 69 ∧ k = 8 then _ else zNo _ _ c k) = _
  rw [if_neg h2.2.2.2, if_neg h2.2.2.1, zNo_o h, zFr_o h2.2.1, zUw_o h2.1]
def aMc (a : Nat → Nat → Int32) (n : Int32) : Prop := 0 ≤ n.toInt ∧ n.toInt < 512 ∧ a 126 n.toNatClampNeg ≠ 0 ∧ (a 75 5).toInt ≤ (a 130 n.toNatClampNeg).toInt ∧ a 77 n.toNatClampNeg = 0
def aMf : Nat → Int32 → (Nat → Nat → Int32) → Nat → Nat → Int32
  | 0, _, a => a
  | f + 1, n, a => aMf f (n + 1) (if 0 ≤ n.toInt ∧ n.toInt < 512 ∧ a 126 n.toNatClampNeg ≠ 0 ∧ (a 75 5).toInt ≤ (a 130 n.toNatClampNeg).toInt ∧ a 77 n.toNatClampNeg = 0 then aRm a n else a)
/-- those from n on that are WHITE are gone -/
def aMv (a : Nat → Nat → Int32) (n : Int32) : Nat → Nat → Int32 := aMf ((a 69 6).toInt - n.toInt).toNat n a
theorem aMv_y (h : n.toInt < (a 69 6).toInt) (z : aMc a n) : aMv a n = aMv (aRm a n) (n + 1) := by
  have b := i_bd (a 69 6)
  have e : (n + 1).toInt = n.toInt + 1 := i_p1 (by omega)
  unfold aMv
  rw [aRm_o (by decide) ⟨by decide, by decide, by decide, by decide⟩, e]
  have e2 : ((a 69 6).toInt - n.toInt).toNat = ((a 69 6).toInt - (n.toInt + 1)).toNat + 1 := by omega
  rw [e2]
  show aMf _ (n + 1) (if _ then aRm a n else a) = _
  unfold aMc at z
  rw [if_pos z]
theorem aMv_n (h : n.toInt < (a 69 6).toInt) (z : ¬ aMc a n) : aMv a n = aMv a (n + 1) := by
  have b := i_bd (a 69 6)
  have e : (n + 1).toInt = n.toInt + 1 := i_p1 (by omega)
  unfold aMv
  rw [e]
  have e2 : ((a 69 6).toInt - n.toInt).toNat = ((a 69 6).toInt - (n.toInt + 1)).toNat + 1 := by omega
  rw [e2]
  show aMf _ (n + 1) (if _ then aRm a n else a) = _
  unfold aMc at z
  rw [if_neg z]
theorem aMv_st (h : ¬ n.toInt < (a 69 6).toInt) : aMv a n = a := by
  unfold aMv
  rw [show ((a 69 6).toInt - n.toInt).toNat = 0 by omega]
  rfl
/-- the first of WISHES is taken -/
def zSh (a : Nat → Nat → Int32) (n : Int) : Nat → Nat → Int32 := fun c k => if c = 74 ∧ (k : Int) < n then a 74 (k + 1) else a c k
theorem zSh_0 : zSh a 0 = a := by
  funext c' k'
  exact if_neg (by omega)
theorem zSh_r (h0 : 0 ≤ i.toInt) (h1 : i.toInt < 2147483647) : zSh a i.toInt 74 (i + 1).toNatClampNeg = a 74 (i.toNatClampNeg + 1) := by
  have e := i_p1 h1
  have e2 := tn_cast h0
  have e3 := tn_cast (x := i + 1) (by omega)
  have e4 : (i + 1).toNatClampNeg = i.toNatClampNeg + 1 := by omega
  rw [e4]
  exact if_neg (fun z => by have := z.2; omega)
theorem zSh_s (h0 : 0 ≤ i.toInt) (h1 : i.toInt < 2147483647) : ma_u (zSh a i.toInt) 74 i.toNatClampNeg (a 74 (i.toNatClampNeg + 1)) = zSh a (i + 1).toInt := by
  have e := i_p1 h1
  have e2 := tn_cast h0
  funext c' k'
  show (if c' = 74 ∧ k' = i.toNatClampNeg then a 74 (i.toNatClampNeg + 1) else if c' = 74 ∧ (k' : Int) < i.toInt then a 74 (k' + 1) else a c' k') = if c' = 74 ∧ (k' : Int) < (i + 1).toInt then a 74 (k' + 1) else a c' k'
  by_cases h2 : c' = 74 ∧ k' = i.toNatClampNeg
  · rw [if_pos h2, if_pos ⟨h2.1, by omega⟩, h2.2]
  · rw [if_neg h2]
    by_cases h3 : c' = 74 ∧ (k' : Int) < i.toInt
    · rw [if_pos h3, if_pos ⟨h3.1, by omega⟩]
    · rw [if_neg h3, if_neg (fun z => h3 ⟨z.1, by
        have z1 := z.2
        by_cases q : k' = i.toNatClampNeg
        · exact absurd ⟨z.1, q⟩ h2
        · omega⟩)]
end AB2
/-- the first of WISHES, and WISHES without it -/
def aTy (a : Nat → Nat → Int32) : Int32 := if 0 < (a 69 5).toInt then a 74 0 else -1
def aTw (a : Nat → Nat → Int32) : Nat → Nat → Int32 := if 0 < (a 69 5).toInt then zSh (ma_u a 69 5 (a 69 5 - 1)) ((a 69 5).toInt - 1) else a
