/-! the moving collectors, the class (written by wip/tools/gen15.py) -/
/-! SLIDE: a move, by numbers -/
def aMo (a : Nat → Nat → Int32) (n : Nat) (to : Int32) : Nat → Nat → Int32 := fun c k =>
  if c = 71 then (if to.toInt ≤ (k : Int) ∧ (k : Int) < to.toInt + (a 128 n).toInt then a 71 ((k : Int) - to.toInt + (a 130 n).toInt).toNat
    else if (a 130 n).toInt ≤ (k : Int) ∧ (k : Int) < (a 130 n).toInt + (a 128 n).toInt then -1 else a 71 k)
  else if c = 130 ∧ k = n then to else a c k
/-- nobody else lies there -/
def qFr (a : Nat → Nat → Int32) (n : Nat) (to : Int32) : Prop := ∀ n', xAl a n' → n' ≠ n → to.toInt + (a 128 n).toInt ≤ (a 130 n').toInt ∨ (a 130 n').toInt + (a 128 n').toInt ≤ to.toInt
section F0
variable {a : Nat → Nat → Int32} {n n' c k : Nat} {to : Int32} {p : Int}
theorem Mo_r (h1 : c ≠ 71) (h2 : c ≠ 130) : aMo a n to c k = a c k := by
  unfold aMo
  rw [if_neg h1, if_neg (fun z => h2 z.1)]
theorem Mo_c (h1 : c ≠ 71) (h2 : c ≠ 130) : aMo a n to c = a c := funext (fun _ => Mo_r h1 h2)
theorem Mo_pn : aMo a n to 130 n = to := by
  unfold aMo
  rw [if_neg (by decide), if_pos ⟨rfl, rfl⟩]
theorem Mo_po (h : n' ≠ n) : aMo a n to 130 n' = a 130 n' := by
  unfold aMo
  rw [if_neg (by decide), if_neg (fun z => h z.2)]
theorem Mo_in (h : to.toInt ≤ (k : Int)) (h2 : (k : Int) < to.toInt + (a 128 n).toInt) : aMo a n to 71 k = a 71 ((k : Int) - to.toInt + (a 130 n).toInt).toNat := by
  unfold aMo
  rw [if_pos rfl, if_pos ⟨h, h2⟩]
theorem Mo_old (h : ¬ (to.toInt ≤ (k : Int) ∧ (k : Int) < to.toInt + (a 128 n).toInt)) (h2 : (a 130 n).toInt ≤ (k : Int) ∧ (k : Int) < (a 130 n).toInt + (a 128 n).toInt) : aMo a n to 71 k = -1 := by
  unfold aMo
  rw [if_pos rfl, if_neg h, if_pos h2]
theorem Mo_out (h : ¬ (to.toInt ≤ (k : Int) ∧ (k : Int) < to.toInt + (a 128 n).toInt)) (h2 : ¬ ((a 130 n).toInt ≤ (k : Int) ∧ (k : Int) < (a 130 n).toInt + (a 128 n).toInt)) : aMo a n to 71 k = a 71 k := by
  unfold aMo
  rw [if_pos rfl, if_neg h, if_neg h2]
theorem Mo_al : xAl (aMo a n to) n' ↔ xAl a n' := by
  unfold xAl
  rw [Mo_r (by decide) (by decide)]
/-- the words of another stay -/
theorem Mo_ot (hI : qI a) (hn : xAl a n) (F : qFr a n to) (h : xAl a n') (hne : n' ≠ n) (hk : (a 130 n').toInt ≤ (k : Int)) (hk2 : (k : Int) < (a 130 n').toInt + (a 128 n').toInt) : aMo a n to 71 k = a 71 k := by
  have f := F n' h hne
  have g := hI.2.1 n' n h hn hne
  exact Mo_out (fun z => by omega) (fun z => by omega)
theorem Mo_su : ∀ j, qSu (aMo a n to) j = qSu a j
  | 0 => rfl
  | j + 1 => by
    unfold qSu
    rw [Mo_su j, Mo_r (by decide) (by decide), Mo_r (by decide) (by decide)]
theorem I_mo (hI : qI a) (hn : xAl a n) (h0 : 0 ≤ to.toInt) (h1 : to.toInt + (a 128 n).toInt ≤ (a 87 0).toInt) (F : qFr a n to) (hz : (a 87 2).toInt = 0) : qI (aMo a n to) := by
  have hi1 := hI.1
  have hi2 := hI.2.1
  have hi3 := hI.2.2.1
  have hi4 := hI.2.2.2.1
  have b := hi1 n hn
  refine ⟨fun x hx => ?_, fun x y hx hy hxy => ?_, fun p hp hq => ?_, ?_, ?_, fun x hx k => ?_⟩
  · have hx' := Mo_al.1 hx
    have q := hi1 x hx'
    rw [Mo_r (c := 69) (by decide) (by decide), Mo_r (c := 128) (by decide) (by decide), Mo_r (c := 87) (by decide) (by decide)]
    by_cases e : x = n
    · rw [e, Mo_pn]
      refine ⟨⟨b.1.1, h0⟩, b.2.1, h1, ?_⟩
      have t0 := tn_cast (x := to) h0
      have t1 := tn_cast (x := a 130 n) b.1.2
      rw [Mo_in (by omega) (by omega), show (((to.toNatClampNeg : Nat) : Int) - to.toInt + (a 130 n).toInt).toNat = (a 130 n).toNatClampNeg from by omega]
      exact b.2.2.2
    · rw [Mo_po e]
      have t1 := tn_cast (x := a 130 x) q.1.2
      rw [Mo_ot hI hn F hx' e (by omega) (by omega)]
      exact q
  · have hx' := Mo_al.1 hx
    have hy' := Mo_al.1 hy
    rw [Mo_r (c := 128) (by decide) (by decide), Mo_r (c := 128) (by decide) (by decide)]
    by_cases e : x = n
    · have e2 : y ≠ n := fun z => hxy (e.trans z.symm)
      rw [e, Mo_pn, Mo_po e2]
      exact F y hy' e2
    · rw [Mo_po e]
      by_cases e2 : y = n
      · rw [e2, Mo_pn]
        exact (F x hx' e).symm
      · rw [Mo_po e2]
        exact hi2 x y hx' hy' hxy
  · have hq2 : ∀ x, xAl a x → x ≠ n → ¬ ((a 130 x).toInt ≤ (p : Int) ∧ (p : Int) < (a 130 x).toInt + (a 128 x).toInt) := fun x hx e z => by
      have g := hq x (Mo_al.2 hx)
      rw [Mo_po e, Mo_r (c := 128) (by decide) (by decide)] at g
      exact g z
    have g := hq n (Mo_al.2 hn)
    rw [Mo_pn, Mo_r (c := 128) (by decide) (by decide)] at g
    by_cases o : (a 130 n).toInt ≤ (p : Int) ∧ (p : Int) < (a 130 n).toInt + (a 128 n).toInt
    · exact Mo_old g o
    · rw [Mo_out g o]
      refine hi3 p hp (fun x hx => ?_)
      by_cases e : x = n
      · rw [e]; exact o
      · exact hq2 x hx e
  · unfold qI4 at hi4 ⊢
    rw [Mo_c (c := 69) (by decide) (by decide), Mo_c (c := 87) (by decide) (by decide)]
    refine ⟨hi4.1, hi4.2.1, hi4.2.2.1, hi4.2.2.2.1, fun x hx z => ?_, hi4.2.2.2.2.2⟩
    have hx' := Mo_al.1 hx
    rw [hz] at z
    by_cases e : x = n
    · rw [e, Mo_pn] at z
      omega
    · rw [Mo_po e] at z
      have q := (hi1 x hx').1.2
      omega
  · rw [Mo_su, Mo_r (by decide) (by decide)]
    exact hI.2.2.2.2.1
  · rw [Mo_r (by omega) (by omega)]
    exact hI.2.2.2.2.2 x (fun z => hx (Mo_al.2 z)) k
/-- references stay -/
theorem Mo_ref {i : Int32} (hI : qI a) (hn : xAl a n) (h0 : 0 ≤ to.toInt) (h1 : to.toInt + (a 128 n).toInt ≤ (a 87 0).toInt) (F : qFr a n to) (h : xAl a n') (hi : 0 ≤ i.toInt) (hi2 : i.toInt < (a 128 n').toInt - 1) : aRef (aMo a n to) n' i = aRef a n' i := by
  have b := hI.1 n' h
  have b4 := hI.2.2.2.1.2.2.1
  have l1 : (1 : Int32).toInt = 1 := rfl
  have e1 : (a 130 n' + 1).toInt = (a 130 n').toInt + 1 := i_addk rfl (by omega) (by omega)
  have e2 : (a 130 n' + 1 + i).toInt = (a 130 n').toInt + 1 + i.toInt := by rw [i_add (by omega) (by omega), e1]
  have t2 := tn_cast (x := a 130 n' + 1 + i) (by omega)
  unfold aRef
  rw [Mo_r (c := 1000 + n') (by omega) (by omega)]
  by_cases e : n' = n
  · subst e
    have f1 : (to + 1).toInt = to.toInt + 1 := i_addk rfl (by omega) (by omega)
    have f2 : (to + 1 + i).toInt = to.toInt + 1 + i.toInt := by rw [i_add (by omega) (by omega), f1]
    have s2 := tn_cast (x := to + 1 + i) (by omega)
    rw [Mo_pn]
    by_cases w : a (1000 + n') i.toNatClampNeg ≠ 0
    · rw [if_pos ⟨w, by omega, by omega⟩, if_pos ⟨w, by omega, by omega⟩, Mo_in (by omega) (by omega), show (((to + 1 + i).toNatClampNeg : Int) - to.toInt + (a 130 n').toInt).toNat = (a 130 n' + 1 + i).toNatClampNeg from by omega]
    · rw [if_neg (fun z => w z.1), if_neg (fun z => w z.1)]
  · rw [Mo_po e, Mo_ot hI hn F h e (by omega) (by omega)]
end F0
