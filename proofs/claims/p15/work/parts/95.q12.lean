/-! the moving collectors, the class (written by wip/tools/gen15.py) -/
/-! the moving collectors: row 87 is what is said of the places; a move in the class -/
def aM (q : Nat → Int32) (S : ma_S) : Nat → Nat → Int32 := fun c k => if c = 87 then q k else aS 75 S c k
/-- a move that can be -/
def qMv (a : Nat → Nat → Int32) (n : Nat) (to : Int32) : Prop := 0 ≤ (a 130 n).toInt ∧ 1 ≤ (a 128 n).toInt ∧ (a 130 n).toInt + (a 128 n).toInt ≤ 4500 ∧ 0 ≤ to.toInt ∧ to.toInt + (a 128 n).toInt ≤ 4500 ∧ (to.toInt ≤ (a 130 n).toInt ∨ (a 130 n).toInt + (a 128 n).toInt ≤ to.toInt)
section F2
variable {W c k n g : Nat} {q : Nat → Int32} {S S' : ma_S} {R : Nat → Option Nat} {x y to : Int32} {a ab b : Nat → Nat → Int32} {f : Nat → Int32} {I : Nat → Nat → Int32} {L : Nat → Nat → Int64} {p e : Int}
theorem aM_o (h : c ≠ 87) : aM q S c k = aS 75 S c k := if_neg h
theorem aM_7 : aM q S 87 k = q k := if_pos rfl
theorem zr_n {P : Nat} (h : c ≠ P) : mI (ma_put S c k (.inl x)) P = mI S P := funext (fun j => by
  show (if P = c ∧ j = k then x else mI S P j) = mI S P j
  rw [if_neg (fun w => h w.1.symm)])
theorem zr_r {P : Nat} {qq : Option Nat} : mI (ma_put S c k (.inr (.inr qq))) P = mI S P := rfl
theorem aM_c (h : aS 75 S' = aS 75 S) : aM q S' = aM q S := by
  unfold aM
  rw [h]
theorem aM_r (h : c ≠ 87) : aM q S c = aS 75 S c := funext (fun _ => aM_o h)
theorem mb_e : zOb (aM q S) = zOb (aS 75 S) := by
  funext p
  unfold zOb
  rw [aM_o (c := 71) (by decide), aM_o (c := 126) (by decide)]
theorem mb_y (hC : xB S R) (rg : zTa R (mI S 71 x.toNatClampNeg) = some c) (h0 : 0 ≤ x.toInt) (h1 : x.toInt < 4500) : zOb (aM q S) x.toInt = mI S 71 x.toNatClampNeg ∧ aM q S 128 (mI S 71 x.toNatClampNeg).toNatClampNeg = mI S c 2 := by
  rw [mb_e, aM_o (c := 128) (by decide)]
  exact ob_y hC rg h0 h1
theorem mb_n2 (h : (mI S 71 x.toNatClampNeg).toInt < 0 ∨ 512 ≤ (mI S 71 x.toNatClampNeg).toInt) : zOb (aM q S) x.toInt = -1 := by
  rw [mb_e]
  exact ob_n2 h
theorem mb_n3 (hC : xB S R) (rn : zTa R (mI S 71 x.toNatClampNeg) = none) : zOb (aM q S) x.toInt = -1 := by
  rw [mb_e]
  exact ob_n3 hC rn
theorem aTf_cp (hR : ∀ n t, n < 512 → R n = some t → 126 ≤ t) : aTf (ma_uc I 71 f) R g n = aTf I R g n := by
  unfold aTf
  by_cases h : n < 512
  · rw [if_pos h, if_pos h]
    cases e : R n with
    | none => rfl
    | some t =>
      show (if t = 71 then f else I t) g = I t g
      rw [if_neg (fun y => by have := hR n t h e; omega)]
  · rw [if_neg h, if_neg h]
theorem aF_cp (hW : xW W) (hR : ∀ n t, n < 512 → R n = some t → 126 ≤ t) : aF W (ma_uc I 71 f) R L = ma_uc (aF W I R L) 71 f := by
  funext c k
  show aF W (ma_uc I 71 f) R L c k = (if c = 71 then f else aF W I R L c) k
  have z1 : zrl 71 k = true := rfl
  have z2 : zcw W 71 = 71 := zcw_s (Or.inl (by decide))
  by_cases w : c = 71
  · rw [if_pos w, w, aF_I z1, z2]
    show (if (71 : Nat) = 71 then f else I 71) k = f k
    rw [if_pos rfl]
  · rw [if_neg w]
    by_cases b : zrl c k = true
    · rw [aF_I b, aF_I b]
      have ne : zcw W c ≠ 71 := fun e => w (zcw_inj hW b z1 (e.trans z2.symm))
      show (if zcw W c = 71 then f else I (zcw W c)) k = _
      rw [if_neg ne]
    · unfold aF
      rw [if_neg b, if_neg b, aTf_cp hR]
theorem xC_cp (h : xC W S ab R) (hW : xW W) : xC W (ma_cp S 71 f) (ma_uc ab 71 f) R := by
  refine ⟨?_, h.2.1, fun n t hn e => ?_⟩
  · rw [← h.1]
    exact aF_cp (I := mI S) (R := mR S 70) (L := mL S) hW (xB_hR h.2)
  · have q := h.2.2 n t hn e
    refine ⟨q.1, ?_⟩
    show (if t = 71 then f else mI S t) 0 = _
    rw [if_neg (by have := q.1; omega)]
    exact q.2
theorem cp_fx (h : 126 ≤ c) : (mI (ma_cp S 71 f) c k).toInt = (mI S c k).toInt := by
  show ((if c = 71 then f else mI S c) k).toInt = _
  rw [if_neg (by omega)]
theorem cp_th (h : 126 ≤ c) : mI (ma_cp S 71 f) c k = mI S c k := by
  show (if c = 71 then f else mI S c) k = _
  rw [if_neg (by omega)]
theorem Mo_id : aMo a n (a 130 n) = a := by
  funext c k
  unfold aMo
  by_cases w : c = 71
  · rw [if_pos w, w]
    split
    · next z => rw [show ((k : Int) - (a 130 n).toInt + (a 130 n).toInt).toNat = k from by omega]
    · next z => rfl
  · rw [if_neg w]
    split
    · next z => rw [z.1, z.2]
    · rfl
/-- copying, freeing, and the place -/
theorem Mo_eq (h : qMv a n to) (hp : p = if to.toInt < (a 130 n).toInt then (if (a 130 n).toInt ≤ to.toInt + (a 128 n).toInt then to.toInt + (a 128 n).toInt else (a 130 n).toInt) else (a 130 n).toInt) (he : e = (a 130 n).toInt + (a 128 n).toInt) (hne : to.toInt ≠ (a 130 n).toInt) : ma_u (zFr (ma_uc a 71 (va_cpy (a 71) (a 71) (a 130 n).toNatClampNeg to.toNatClampNeg (a 128 n).toNatClampNeg)) p e) 130 n to = aMo a n to := by
  obtain ⟨h1, h2, h3, h4, h5, h6⟩ := h
  have t1 := tn_cast (x := a 130 n) h1
  have t2 := tn_cast (x := a 128 n) (by omega)
  have t3 := tn_cast (x := to) h4
  funext c k
  unfold aMo
  show (if c = 130 ∧ k = n then to else (if c = 71 ∧ p ≤ (k : Int) ∧ (k : Int) < e then -1 else (if c = 71 then va_cpy (a 71) (a 71) (a 130 n).toNatClampNeg to.toNatClampNeg (a 128 n).toNatClampNeg else a c) k)) = _
  by_cases w : c = 71
  · rw [if_pos w, if_neg (by omega), if_pos w]
    unfold va_cpy
    by_cases i : to.toInt ≤ (k : Int) ∧ (k : Int) < to.toInt + (a 128 n).toInt
    · have np : ¬ (c = 71 ∧ p ≤ (k : Int) ∧ (k : Int) < e) := fun z => by
        rw [hp, he] at z
        have z2 := z.2
        split at z2
        · split at z2 <;> omega
        · omega
      rw [if_neg np, if_pos i, if_pos (by omega), show (a 130 n).toNatClampNeg + (k - to.toNatClampNeg) = ((k : Int) - to.toInt + (a 130 n).toInt).toNat from by omega]
    · rw [if_neg i]
      by_cases j : (a 130 n).toInt ≤ (k : Int) ∧ (k : Int) < (a 130 n).toInt + (a 128 n).toInt
      · have yp : c = 71 ∧ p ≤ (k : Int) ∧ (k : Int) < e := by
          refine ⟨w, ?_, by omega⟩
          rw [hp]
          split
          · split <;> omega
          · omega
        rw [if_pos yp, if_pos j]
      · have np : ¬ (c = 71 ∧ p ≤ (k : Int) ∧ (k : Int) < e) := fun z => by
          rw [hp, he] at z
          have z2 := z.2
          split at z2
          · split at z2 <;> omega
          · omega
        rw [if_neg np, if_neg j, if_neg (by omega)]
  · have np : ¬ (c = 71 ∧ p ≤ (k : Int) ∧ (k : Int) < e) := fun z => w z.1
    rw [if_neg np, if_neg w, if_neg w]
theorem Mo_e1 (h : qMv a n to) (h1 : ¬ to.toInt < (a 130 n).toInt) (hne : to.toInt ≠ (a 130 n).toInt) : ma_u (zFr (ma_uc a 71 (va_cpy (a 71) (a 71) (a 130 n).toNatClampNeg to.toNatClampNeg (a 128 n).toNatClampNeg)) (a 130 n).toInt (zMin (a 130 n + a 128 n).toInt)) 130 n to = aMo a n to := by
  obtain ⟨g1, g2, g3, g4, g5, g6⟩ := id h
  have e1 : (a 130 n + a 128 n).toInt = (a 130 n).toInt + (a 128 n).toInt := i_add (by omega) (by omega)
  refine Mo_eq h ?_ ?_ hne
  · rw [if_neg h1]
  · unfold zMin
    rw [e1]
    split <;> omega
theorem Mo_e2 (h : qMv a n to) (h1 : to.toInt < (a 130 n).toInt) : ma_u (zFr (ma_uc a 71 (va_cpy (a 71) (a 71) (a 130 n).toNatClampNeg to.toNatClampNeg (a 128 n).toNatClampNeg)) (if a 130 n < to + a 128 n then to + a 128 n else a 130 n).toInt (zMin (a 130 n + a 128 n).toInt)) 130 n to = aMo a n to := by
  obtain ⟨g1, g2, g3, g4, g5, g6⟩ := id h
  have e1 : (a 130 n + a 128 n).toInt = (a 130 n).toInt + (a 128 n).toInt := i_add (by omega) (by omega)
  have e2 : (to + a 128 n).toInt = to.toInt + (a 128 n).toInt := i_add (by omega) (by omega)
  refine Mo_eq h ?_ ?_ (by omega)
  · rw [if_pos h1]
    by_cases w : a 130 n < to + a 128 n
    · have w2 := Int32.lt_iff_toInt_lt.mp w
      rw [if_pos w, if_pos (by omega), e2]
    · have w2 : ¬ (a 130 n).toInt < (to + a 128 n).toInt := fun z => w (Int32.lt_iff_toInt_lt.mpr z)
      rw [if_neg w]
      split <;> omega
  · unfold zMin
    rw [e1]
    split <;> omega
theorem M_mo (h : aS 75 S' = aMo (aS 75 S) n to) : aM q S' = aMo (aM q S) n to := by
  funext c k
  by_cases w : c = 87
  · rw [w, aM_7, Mo_r (by decide) (by decide), aM_7]
  · rw [aM_o w, h]
    unfold aMo
    rw [aM_o (c := 128) (by decide), aM_o (c := 130) (by decide), aM_o (c := 71) (by decide), aM_o (c := 71) (by decide), aM_o w]
theorem Mv_S (h : qMv (aM q S) n to) : qMv (aS 75 S) n to := by
  unfold qMv at h ⊢
  rw [aM_o (c := 130) (by decide), aM_o (c := 128) (by decide)] at h
  exact h
theorem M_sw (h : aS 75 S' = aSw (aS 75 S)) : aM q S' = aSw (aM q S) := by
  have o : zO7 (aS 75 S) (aM q S) := fun c k w => (aM_o w).symm
  funext c k
  by_cases w : c = 87
  · rw [w, sw_87, aM_7, aM_7]
  · rw [aM_o w, h]
    exact o7_sw o c k w
theorem M_sv : aSv (aS 75 S) = aSv (aM q S) := sv_eq (fun c k w => (aM_o w).symm)
end F2
