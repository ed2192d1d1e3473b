/-! the moving collectors, the class (written by wip/tools/gen15.py) -/
/-! HALVES: cleaning and room, by numbers (87: 0 all words, 3 the half's beginning, 4 the top, 5 the ROOM) -/
def zfH (I : Nat → Nat → Int32) (k : Nat) : Int32 := if k = 0 then I 81 2 + I 81 2 else if k = 3 then I 81 3 else if k = 4 then I 81 4 else if k = 5 then I 81 2 else 0
def aH (S : ma_S) : Nat → Nat → Int32 := aM (zfH (mI S)) S
def hFo (a : Nat → Nat → Int32) : (Nat → Nat → Int32) × Int := hMf (a 75 4).toInt.toNat 0 a (a 87 5 - a 87 3).toInt
def hCl (a : Nat → Nat → Int32) : Nat → Nat → Int32 := ma_u (ma_u (hFo (aSw a)).1 87 3 (a 87 5 - a 87 3)) 87 4 (Int32.ofInt (hFo (aSw a)).2)
def hOk (a : Nat → Nat → Int32) (z : Int) : Prop := (a 87 4).toInt + z ≤ (a 87 3).toInt + (a 87 5).toInt
def hRs (a : Nat → Nat → Int32) (z : Int) : Nat → Nat → Int32 := if (a 87 4).toInt + z ≤ (a 87 3).toInt + (a 87 5).toInt then a else hCl a
def hRp (a : Nat → Nat → Int32) (z : Int) : Int := if (hRs a z 87 4).toInt + z ≤ (hRs a z 87 3).toInt + (hRs a z 87 5).toInt then (hRs a z 87 4).toInt else -1
def qHv (a : Nat → Nat → Int32) : Prop := qI a ∧ a 87 2 = 0 ∧ ((a 87 0).toInt = 2 * (a 87 5).toInt ∧ 0 ≤ (a 87 5).toInt ∧ (a 87 5).toInt ≤ 1500) ∧ ((a 87 3).toInt = 0 ∨ (a 87 3).toInt = (a 87 5).toInt) ∧ ((a 87 4).toInt = (a 87 3).toInt + qSu a 512 ∧ (a 87 4).toInt ≤ (a 87 3).toInt + (a 87 5).toInt) ∧ (∀ n, xAl a n → (a 87 3).toInt ≤ (a 130 n).toInt ∧ (a 130 n).toInt + (a 128 n).toInt ≤ (a 87 4).toInt) ∧ ∀ n, xAl a n → a 133 n = 0
section F8
variable {a b c : Nat → Nat → Int32} {st ot r t z : Int} {j k n f : Nat} {to x y w pl i : Int32} {S S' : ma_S} {R : Nat → Option Nat} {F : Nat → Int32} {L : Int64}
theorem I_87k (h : qI a) (h0 : k ≠ 0) (h2 : k ≠ 2) (h6 : k ≠ 6) : qI (ma_u a 87 k x) := by
  have e : ∀ c, c ≠ 87 → ma_u a 87 k x c = a c := fun c hc => ma_u_ne _ _ _ hc
  have e2 : ∀ k', k' ≠ k → ma_u a 87 k x 87 k' = a 87 k' := fun k' hk => xu_o (fun z => hk z.2)
  have al : xAl (ma_u a 87 k x) = xAl a := by
    funext n
    unfold xAl
    rw [e 126 (by decide)]
  have su := Su_cg (a := ma_u a 87 k x) (b := a) (e 126 (by decide)) (e 128 (by decide)) 512
  have e8 : qI6 (ma_u a 87 k x) := fun n hn k' => by
    rw [e (1000 + n) (by omega)]
    exact h.2.2.2.2.2 n (by rw [← al]; exact hn) k'
  unfold qI qI1 qI2 qI3 qI4 qGd at h ⊢
  rw [al, su, e 69 (by decide), e 128 (by decide), e 130 (by decide), e 71 (by decide), e2 0 (by omega), e2 2 (by omega), e2 6 (by omega)]
  exact ⟨h.1, h.2.1, h.2.2.1, h.2.2.2.1, h.2.2.2.2.1, e8⟩
theorem hMf_J : ∀ (f j : Nat) (a : Nat → Nat → Int32) (t : Int), qJh a st ot r j t → (j : Int) + f = (a 75 4).toInt → qJh (hMf f j a t).1 st ot r (j + f) (hMf f j a t).2 := by
  intro f
  induction f with
  | zero => intro j a t h _; exact h
  | succ f ih =>
    intro j a t h e
    have b4 := h.1.2.2.2.1.2.2.1
    have to : (Int32.ofInt t).toInt = t := by
      have p := h.2.2.2.2.1
      have l1 : st ≤ zPs a st j := Ps_le (st := st) h.1 h.2.1 j (by omega) 0 (by omega)
      have l2 := Ps_le (st := st) h.1 h.2.1 (a 75 4).toInt.toNat (by omega) j (by omega)
      have s := h.2.2.2.1
      exact Int32.toInt_ofInt_of_le (by omega) (by omega)
    have nx := Jh_nx h (j := j) (by omega) to
    rw [hMf_y nx.1, show j + (f + 1) = (j + 1) + f from by omega]
    exact ih _ _ _ (Jh_go h (by omega) to) (by rw [Mo_r (by decide) (by decide)]; omega)
theorem hMf_r {c k : Nat} (h1 : c ≠ 71) (h2 : c ≠ 130) : ∀ (f j : Nat) (a : Nat → Nat → Int32) (t : Int), (hMf f j a t).1 c k = a c k := by
  intro f
  induction f with
  | zero => intro j a t; rfl
  | succ f ih =>
    intro j a t
    by_cases w : hQc a j
    · rw [hMf_y w, ih, Mo_r h1 h2]
    · rw [hMf_n w]
      exact ih _ _ _
theorem Fo_r {c k : Nat} (h1 : c ≠ 71) (h2 : c ≠ 130) : (hFo a).1 c k = a c k := by
  unfold hFo
  exact hMf_r h1 h2 _ _ _ _
/-- where each comes to, and that what it refers to stays -/
theorem hMf_pl : ∀ (f j : Nat) (a : Nat → Nat → Int32) (t : Int), qJh a st ot r j t → (j : Int) + f = (a 75 4).toInt → (hMf f j a t).2 = zPs a st (j + f) ∧ (∀ k, j ≤ k → k < j + f → (hMf f j a t).1 130 (a 76 k).toNatClampNeg = Int32.ofInt (zPs a st k)) ∧ (∀ n, (∀ k, j ≤ k → k < j + f → n ≠ (a 76 k).toNatClampNeg) → (hMf f j a t).1 130 n = a 130 n) ∧ ∀ n (i : Int32), xAl a n → 0 ≤ i.toInt → i.toInt < (a 128 n).toInt - 1 → aRef (hMf f j a t).1 n i = aRef a n i := by
  intro f
  induction f with
  | zero =>
    intro j a t h e
    exact ⟨h.2.2.2.2.1.1, fun k h1 h2 => absurd h2 (by omega), fun n _ => rfl, fun n i _ _ _ => rfl⟩
  | succ f ih =>
    intro j a t h e
    have b4 := h.1.2.2.2.1.2.2.1
    have to : (Int32.ofInt t).toInt = t := by
      have p := h.2.2.2.2.1
      have l1 : st ≤ zPs a st j := Ps_le (st := st) h.1 h.2.1 j (by omega) 0 (by omega)
      have l2 := Ps_le (st := st) h.1 h.2.1 (a 75 4).toInt.toNat (by omega) j (by omega)
      have s := h.2.2.2.1
      exact Int32.toInt_ofInt_of_le (by omega) (by omega)
    have nx := Jh_nx h (j := j) (by omega) to
    have al := FQ_al h.2.1 (j := j) (by omega)
    have e4 : aMo a (a 76 j).toNatClampNeg (Int32.ofInt t) 75 4 = a 75 4 := Mo_r (by decide) (by decide)
    have e6 : aMo a (a 76 j).toNatClampNeg (Int32.ofInt t) 76 = a 76 := Mo_c (by decide) (by decide)
    have e8 : aMo a (a 76 j).toNatClampNeg (Int32.ofInt t) 128 = a 128 := Mo_c (by decide) (by decide)
    have q := ih (j + 1) _ _ (Jh_go h (by omega) to) (by rw [e4]; omega)
    rw [e6, e8] at q
    have ps : ∀ k, zPs (aMo a (a 76 j).toNatClampNeg (Int32.ofInt t)) st k = zPs a st k := Ps_cg e6 e8
    rw [hMf_y nx.1]
    refine ⟨by rw [q.1, ps, show j + (f + 1) = (j + 1) + f from by omega], fun k h1 h2 => ?_, fun n hn => ?_, fun n i hn h0 h1 => ?_⟩
    · by_cases w : k = j
      · rw [w, q.2.2.1 _ (fun k2 g1 g2 z => ?_), Mo_pn, h.2.2.2.2.1.1]
        have q1 := h.2.1.1 j (by omega)
        have q2 := h.2.1.1 k2 (by omega)
        refine h.2.1.2.1 j k2 (by omega) (by omega) ?_
        rw [← (FQ_al h.2.1 (j := j) (by omega)).2, ← (FQ_al h.2.1 (j := k2) (by omega)).2, z]
      · rw [q.2.1 k (by omega) (by omega), ps]
    · rw [q.2.2.1 n (fun k2 g1 g2 => hn k2 (by omega) (by omega)), Mo_po (hn j (by omega) (by omega))]
    · rw [q.2.2.2 n i (Mo_al.2 hn) h0 h1]
      exact Mo_ref h.1 al.1 nx.2.2.2.2.1 nx.2.2.2.1 nx.2.2.1 hn h0 h1
theorem Jh_0 (h : qHv a) : qJh (aSw a) (a 87 5 - a 87 3).toInt (a 87 3).toInt (a 87 5).toInt 0 (a 87 5 - a 87 3).toInt := by
  obtain ⟨hI, h2, ⟨h3, h4, h5⟩, h6, ⟨h7, h8⟩, h9, h10⟩ := h
  have s : (a 87 5 - a 87 3).toInt = (a 87 5).toInt - (a 87 3).toInt := i_sub (by omega) (by omega)
  have fq := FQ_sw hI
  have al : ∀ n, xAl (aSw a) n → _ := fun n hn => Al_sw hI hn
  have su : qSu (aSw a) 512 ≤ qSu a 512 := Su_le (fun n hn w => ⟨(al n ⟨hn, w⟩).1.2, (al n ⟨hn, w⟩).2.2.1⟩) (fun n hn => by have := (hI.1 n hn).2.1.1; omega) 512 (by omega)
  refine ⟨I_sw hI, fq.1, by rw [sw_87, h2]; rfl, ⟨by omega, by rw [sw_87]; omega, by omega⟩, ⟨rfl, ?_, ?_⟩, fun n _ w => ?_, fun n hn _ => ?_⟩
  · have := fq.1.2.2.2
    omega
  · rw [Ps_su fq.1 fq.2]
    omega
  · obtain ⟨i, hi, _⟩ := w
    omega
  · have q := al n hn
    have z := h9 n q.1
    rw [q.2.1, q.2.2.1]
    omega
theorem Fo_J (h : qHv a) : qJh (hFo (aSw a)).1 (a 87 5 - a 87 3).toInt (a 87 3).toInt (a 87 5).toInt (aSw a 75 4).toInt.toNat (hFo (aSw a)).2 := by
  have j := Jh_0 h
  have q := j.2.1.2.2.2
  have e : aSw a 87 5 - aSw a 87 3 = a 87 5 - a 87 3 := by rw [sw_87, sw_87]
  have z := hMf_J (aSw a 75 4).toInt.toNat 0 _ _ j (by omega)
  unfold hFo
  rw [e]
  rw [Nat.zero_add] at z
  exact z
theorem cl_7 (h3 : k ≠ 3) (h4 : k ≠ 4) : hCl a 87 k = a 87 k := by
  unfold hCl hFo
  rw [xu_o (fun w => h4 w.2), xu_o (fun w => h3 w.2), hMf_r (by decide) (by decide), sw_87]
theorem cl_r {c : Nat} (h : c ≠ 87) (h1 : c ≠ 71) (h2 : c ≠ 130) : hCl a c = aSw a c := funext (fun k => by
  unfold hCl hFo
  rw [xu_o (fun w => h w.1), xu_o (fun w => h w.1), hMf_r h1 h2])
theorem Hv_cl (h : qHv a) : qHv (hCl a) := by
  have j := Fo_J h
  obtain ⟨hI, h2, ⟨h3, h4, h5⟩, h6, ⟨h7, h8⟩, h9, h10⟩ := h
  obtain ⟨j1, j2, j3, ⟨j4, j5, j6⟩, ⟨j7, j8, j9⟩, m1, m2⟩ := j
  have s : (a 87 5 - a 87 3).toInt = (a 87 5).toInt - (a 87 3).toInt := i_sub (by omega) (by omega)
  have fq := FQ_sw hI
  have e4 : (hFo (aSw a)).1 75 4 = aSw a 75 4 := Fo_r (by decide) (by decide)
  have e6 : (hFo (aSw a)).1 76 = aSw a 76 := funext (fun k => Fo_r (by decide) (by decide))
  have e26 : (hFo (aSw a)).1 126 = aSw a 126 := funext (fun k => Fo_r (by decide) (by decide))
  have e28 : (hFo (aSw a)).1 128 = aSw a 128 := funext (fun k => Fo_r (by decide) (by decide))
  have e33 : (hFo (aSw a)).1 133 = aSw a 133 := funext (fun k => Fo_r (by decide) (by decide))
  have ps : (hFo (aSw a)).2 = (a 87 5 - a 87 3).toInt + qSu (aSw a) 512 := by
    rw [j7, Ps_cg e6 e28]
    exact Ps_su fq.1 fq.2
  rw [e4, Ps_cg e6 e28, Ps_su fq.1 fq.2] at j9
  have su0 : 0 ≤ qSu (aSw a) 512 := by
    have g := Ps_le (st := (a 87 5 - a 87 3).toInt) (I_sw hI) fq.1 (aSw a 75 4).toInt.toNat (by have := fq.1.2.2.2; omega) 0 (by omega)
    rw [Ps_su fq.1 fq.2] at g
    have g2 : (a 87 5 - a 87 3).toInt ≤ (a 87 5 - a 87 3).toInt + qSu (aSw a) 512 := g
    omega
  have to : (Int32.ofInt (hFo (aSw a)).2).toInt = (hFo (aSw a)).2 := Int32.toInt_ofInt_of_le (by omega) (by omega)
  have r3 : hCl a 87 3 = a 87 5 - a 87 3 := by
    unfold hCl
    rw [xu_o (by decide), xu_s]
  have r4 : hCl a 87 4 = Int32.ofInt (hFo (aSw a)).2 := xu_s
  have rr : ∀ c, c ≠ 87 → hCl a c = (hFo (aSw a)).1 c := fun c hc => funext (fun k => by
    unfold hCl
    rw [xu_o (fun w => hc w.1), xu_o (fun w => hc w.1)])
  have sue : qSu (hCl a) 512 = qSu (aSw a) 512 := Su_cg ((rr 126 (by decide)).trans e26) ((rr 128 (by decide)).trans e28) 512
  have al : ∀ n, xAl (hCl a) n → xAl (hFo (aSw a)).1 n ∧ xAl (aSw a) n := fun n hn => by
    unfold xAl at hn ⊢
    rw [rr 126 (by decide)] at hn
    rw [← e26]
    exact ⟨hn, hn⟩
  refine ⟨I_87k (I_87k j1 (by decide) (by decide) (by decide)) (by decide) (by decide) (by decide), ?_, ⟨?_, ?_, ?_⟩, ?_, ⟨?_, ?_⟩, fun n hn => ?_, fun n hn => ?_⟩
  · rw [cl_7 (by decide) (by decide)]
    exact h2
  · rw [cl_7 (by decide) (by decide), cl_7 (by decide) (by decide)]
    exact h3
  · rw [cl_7 (by decide) (by decide)]
    exact h4
  · rw [cl_7 (by decide) (by decide)]
    exact h5
  · rw [r3, cl_7 (by decide) (by decide)]
    omega
  · rw [r4, r3, sue, to, ps]
  · rw [r4, r3, to, cl_7 (by decide) (by decide), ps]
    omega
  · have w := al n hn
    obtain ⟨i, hi, e⟩ := fq.1.2.2.1 n w.2.1 (fq.2 n w.2)
    have g := m1 n w.1 ⟨i, by omega, by rw [e6]; exact e⟩
    rw [r3, r4, to, rr 130 (by decide), rr 128 (by decide)]
    exact g
  · have w := al n hn
    have q := Al_sw hI w.2
    rw [rr 133 (by decide), e33, q.2.2.2]
    exact h10 n q.1
theorem hRs_1 (h : hOk a z) : hRs a z = a := if_pos h
theorem hRs_2 (h : ¬ hOk a z) : hRs a z = hCl a := if_neg h
theorem hRp_1 (h : hRs a z = b) (h2 : hOk b z) : hRp a z = (b 87 4).toInt := by
  unfold hRp
  rw [h]
  exact if_pos h2
theorem hRp_2 (h : hRs a z = b) (h2 : ¬ hOk b z) : hRp a z = -1 := by
  unfold hRp
  rw [h]
  exact if_neg h2
theorem Hv_rs (h : qHv a) : qHv (hRs a z) := by
  unfold hRs
  split
  · exact h
  · exact Hv_cl h
def hMd (a : Nat → Nat → Int32) (y : Int32) : Nat → Nat → Int32 := ma_u a 87 4 (a 130 y.toNatClampNeg + a 128 y.toNatClampNeg)
def hMk (a : Nat → Nat → Int32) (kd wd : Int32) (L : Int64) (rt : Int32) : Nat → Nat → Int32 := if (a 69 6).toInt < 512 then (if hRp a (wd + 1).toInt = -1 then hRs a (wd + 1).toInt else aR0 (hMd (aAd (hRs a (wd + 1).toInt) (hRs a (wd + 1).toInt 69 6) (zFn (hRs a (wd + 1).toInt 69 6) kd (wd + 1) (Int32.ofInt (hRp a (wd + 1).toInt))) L) (hRs a (wd + 1).toInt 69 6)) rt (hRs a (wd + 1).toInt 69 6)) else a
def hMn (a : Nat → Nat → Int32) (wd : Int32) : Int32 := if (a 69 6).toInt < 512 then (if hRp a (wd + 1).toInt = -1 then -1 else hRs a (wd + 1).toInt 69 6) else -1
theorem hMk_0 {kd wd rt : Int32} (h : ¬ (a 69 6).toInt < 512) : hMk a kd wd L rt = a ∧ hMn a wd = -1 := ⟨if_neg h, if_neg h⟩
theorem hMk_1 {kd wd rt : Int32} (h : (a 69 6).toInt < 512) (h1 : hRp a (wd + 1).toInt = -1) : hMk a kd wd L rt = hRs a (wd + 1).toInt ∧ hMn a wd = -1 := by
  unfold hMk hMn
  rw [if_pos h, if_pos h, if_pos h1, if_pos h1]
  exact ⟨rfl, rfl⟩
theorem hMk_2 {kd wd rt : Int32} (h : (a 69 6).toInt < 512) (e : b = hRs a (wd + 1).toInt) (h1 : pl.toInt = hRp a (wd + 1).toInt) (h2 : ¬ pl.toInt = -1) (hy : y = b 69 6) : hMk a kd wd L rt = aR0 (hMd (aAd b y (zFn y kd (wd + 1) pl) L) y) rt y ∧ hMn a wd = y := by
  unfold hMk hMn
  rw [if_pos h, if_pos h, ← h1, if_neg h2, if_neg h2, ← e, hy, Int32.ofInt_toInt]
  exact ⟨rfl, rfl⟩
/-! the class -/
theorem aH_o {c : Nat} (h : c ≠ 87) : aH S c k = aS 75 S c k := if_neg h
theorem aH_7 : aH S 87 k = zfH (mI S) k := aM_7
theorem zf_81 (h : mI S' 81 = mI S 81) : zfH (mI S') = zfH (mI S) := by
  funext k
  unfold zfH
  rw [h]
theorem H_of (h : zO7 (aS 75 S') b) (h7 : ∀ k, b 87 k = zfH (mI S') k) : aH S' = b := by
  funext c k
  by_cases w : c = 87
  · rw [w, h7]
    exact aH_7
  · rw [aH_o w]
    exact h c k w
theorem H_o7 : zO7 (aS 75 S) (aH S) := fun c k q => (aH_o q).symm
theorem H_ad (h : aS 75 S' = aAd (aS 75 S) y F L) (h2 : zfH (mI S') = zfH (mI S)) : aH S' = aAd (aH S) y F L := H_of (by rw [h]; exact o7_ad H_o7) (fun k => by rw [ad_87, aH_7, h2])
theorem H_r0 (h : aS 75 S' = aR0 (aS 75 S) i y) (h2 : zfH (mI S') = zfH (mI S)) : aH S' = aR0 (aH S) i y := by
  refine H_of ?_ (fun k => ?_)
  · rw [h]
    unfold aR0
    have e : aNm (aH S) y = aNm (aS 75 S) y := by
      unfold aNm
      rw [aH_o (c := 126) (by decide)]
    rw [e]
    exact o7_u H_o7
  · unfold aR0
    rw [xu_o (by omega), aH_7, h2]
theorem H_th {nu kd sz pl : Int32} {rr : Int64} (hN : 126 ≤ mN S) (hr : ∀ n c, mR S 70 n = some c → c < mN S) : aH (zTh S nu kd sz rr pl) = aH S := by
  refine H_of ?_ (fun k => ?_)
  · rw [mk_a (Or.inl rfl) hN hr]
    exact H_o7
  · rw [aH_7]
    unfold zfH
    rw [zTh_lo (by decide) hN, zTh_lo (by decide) hN, zTh_lo (by decide) hN]
theorem aH_p (hR : xB S R) : aH (ma_put S 81 4 (.inl x)) = ma_u (aH S) 87 4 x := by
  have e := (xC_n (W := 75) (c := 81) (k := 4) (x := x) (xC_o hR) ⟨by decide, Or.inl ⟨rfl, rfl⟩⟩).1
  refine H_of (fun c k hc => ?_) (fun k => ?_)
  · rw [e, xu_o (fun w => hc w.1), aH_o hc]
  · by_cases w4 : k = 4
    · rw [w4, xu_s]
      rfl
    · rw [xu_o (fun w => w4 w.2), aH_7]
      unfold zfH
      rw [if_neg w4, if_neg w4]
      rfl
/-- behind the moves -/
theorem aH_q (h : aM (a 87) S = b) (h2 : mI S 81 2 = a 87 5) (h0 : a 87 0 = a 87 5 + a 87 5) (h3 : mI S 81 3 = x) (h4 : mI S 81 4 = y) (hk : ∀ k, k ≠ 0 → k ≠ 3 → k ≠ 4 → k ≠ 5 → a 87 k = 0) : aH S = ma_u (ma_u b 87 3 x) 87 4 y := by
  refine H_of (fun c k hc => ?_) (fun k => ?_)
  · rw [xu_o (fun w => hc w.1), xu_o (fun w => hc w.1), ← h, aM_o hc]
  · by_cases w4 : k = 4
    · rw [w4, xu_s, ← h4]
      rfl
    · rw [xu_o (fun w => w4 w.2)]
      by_cases w3 : k = 3
      · rw [w3, xu_s, ← h3]
        rfl
      · rw [xu_o (fun w => w3 w.2), ← h, aM_7]
        unfold zfH
        by_cases w0 : k = 0
        · rw [if_pos w0, w0, h2, h0]
        · rw [if_neg w0, if_neg w3, if_neg w4]
          by_cases w5 : k = 5
          · rw [if_pos w5, w5, h2]
          · rw [if_neg w5, hk k w0 w3 w4 w5]
theorem H_sv : aSv (aS 75 S) = aSv (aH S) := sv_eq (fun c k w => (aH_o w).symm)
theorem M_75 (h : j = 3 ∨ j = 4 ∨ j = 5) {q : Nat → Int32} : aM q S 75 j = mI S 75 j := (aM_o (by decide)).trans (by rcases h with h | h | h <;> rw [h] <;> rfl)
theorem M_76 {q : Nat → Int32} : aM q S 76 = mI S 76 := (aM_r (by decide)).trans (funext (fun k => aS_I rfl rfl))
def qK7 (a : Nat → Nat → Int32) : Prop := a 87 0 = a 87 5 + a 87 5 ∧ ∀ k, k ≠ 0 → k ≠ 3 → k ≠ 4 → k ≠ 5 → a 87 k = 0
theorem K7_H (h : aH S = a) : qK7 a := by
  rw [← h]
  refine ⟨rfl, fun k h0 h3 h4 h5 => ?_⟩
  rw [aH_7]
  unfold zfH
  rw [if_neg h0, if_neg h3, if_neg h4, if_neg h5]
theorem H_id (h : aH S = a) : aM (a 87) S = a := by
  rw [← h]
  funext c k
  by_cases w : c = 87
  · rw [w, aM_7]
  · rw [aM_o w, aH_o w]
theorem Fo_0 (h : aM (a 87) S' = aSw a) (hx : x = a 87 5 - a 87 3) : hMf ((mI S' 75 4).toInt - (0 : Int32).toInt).toNat (0 : Int32).toNatClampNeg (aM (a 87) S') x.toInt = hFo (aSw a) := by
  have e : aSw a 75 4 = mI S' 75 4 := by rw [← h, M_75 (Or.inr (Or.inl rfl))]
  unfold hFo
  rw [sw_87, sw_87, e, hx, h, show (0 : Int32).toInt = 0 from rfl, Int.sub_zero]
  rfl
theorem Jh_1 (h : qHv a) (hm : aM (a 87) S' = aSw a) (hx : x = a 87 5 - a 87 3) : qJh (aM (a 87) S') (a 87 5 - a 87 3).toInt (a 87 3).toInt (a 87 5).toInt (0 : Int32).toNatClampNeg x.toInt := by
  rw [hm, hx]
  exact Jh_0 h
theorem Jh_q {q : Nat → Int32} (h : qJh (aM q S) st ot r x.toNatClampNeg t) (h0 : 0 ≤ x.toInt) (hl : x.toInt < (mI S 75 4).toInt) (he : to.toInt = t) : hQc (aM q S) x.toNatClampNeg ∧ qMv (aS 75 S) (mI S 76 x.toNatClampNeg).toNatClampNeg to := by
  have c := tn_cast h0
  have nx := Jh_nx h (by rw [M_75 (Or.inr (Or.inl rfl))]; omega) he
  rw [M_76] at nx
  exact ⟨nx.1, Mv_S nx.2.1⟩
theorem Jh_no {q : Nat → Int32} (h : hQc (aM q S) x.toNatClampNeg) (hC : xB S R) (rn : zTa R (mI S 76 x.toNatClampNeg) = none) : False := by
  have z := xB_nt (W := 75) hC rn
  unfold hQc at h
  rw [M_76, aM_o (c := 126) (by decide)] at h
  exact z h
theorem Fo_s {q : Nat → Int32} {T : (Nat → Nat → Int32) × Int} {v : Int32} (h : hMf ((mI S 75 4).toInt - x.toInt).toNat x.toNatClampNeg (aM q S) to.toInt = T) (h0 : 0 ≤ x.toInt) (hl : x.toInt < (mI S 75 4).toInt) (h5 : (mI S 75 4).toInt ≤ 512) (hc : hQc (aM q S) x.toNatClampNeg) (hm : aS 75 S' = aMo (aS 75 S) (mI S 76 x.toNatClampNeg).toNatClampNeg to) (ht : v.toInt = to.toInt + (aS 75 S 128 (mI S 76 x.toNatClampNeg).toNatClampNeg).toInt) (hx : y.toInt = x.toInt + 1) : hMf ((mI S' 75 4).toInt - y.toInt).toNat y.toNatClampNeg (aM q S') v.toInt = T := by
  have c := tn_cast h0
  have c2 := tn_cast (x := y) (by omega)
  have e4 : mI S' 75 4 = mI S 75 4 := by
    have g : aM q S' 75 4 = aM q S 75 4 := by rw [M_mo hm, Mo_r (by decide) (by decide)]
    rw [M_75 (Or.inr (Or.inl rfl)), M_75 (Or.inr (Or.inl rfl))] at g
    exact g
  rw [show ((mI S 75 4).toInt - x.toInt).toNat = ((mI S 75 4).toInt - y.toInt).toNat + 1 from by omega, hMf_y hc] at h
  rw [e4, M_mo hm, ← h, M_76, Int32.ofInt_toInt, aM_o (c := 128) (by decide), ht, show y.toNatClampNeg = x.toNatClampNeg + 1 from by omega]
theorem Jh_s {q : Nat → Int32} {v : Int32} (h : qJh (aM q S) st ot r x.toNatClampNeg to.toInt) (h0 : 0 ≤ x.toInt) (hl : x.toInt < (mI S 75 4).toInt) (hm : aS 75 S' = aMo (aS 75 S) (mI S 76 x.toNatClampNeg).toNatClampNeg to) (ht : v.toInt = to.toInt + (aS 75 S 128 (mI S 76 x.toNatClampNeg).toNatClampNeg).toInt) (hx : y.toInt = x.toInt + 1) : qJh (aM q S') st ot r y.toNatClampNeg v.toInt := by
  have c := tn_cast h0
  have c2 := tn_cast (x := y) (by omega)
  have g := Jh_go h (by rw [M_75 (Or.inr (Or.inl rfl))]; omega) rfl
  rw [M_76, aM_o (c := 128) (by decide)] at g
  rw [M_mo hm, ht, show y.toNatClampNeg = x.toNatClampNeg + 1 from by omega]
  exact g
theorem Fo_e {q : Nat → Int32} {T : (Nat → Nat → Int32) × Int} (h : hMf ((mI S 75 4).toInt - x.toInt).toNat x.toNatClampNeg (aM q S) to.toInt = T) (hl : ¬ x.toInt < (mI S 75 4).toInt) : aM q S = T.1 ∧ to = Int32.ofInt T.2 := by
  rw [show ((mI S 75 4).toInt - x.toInt).toNat = 0 from by omega] at h
  rw [← h]
  exact ⟨rfl, (Int32.ofInt_toInt _).symm⟩
theorem Hcl_e (h : aM (a 87) S = (hFo (aSw a)).1) (h4 : mI S 81 4 = Int32.ofInt (hFo (aSw a)).2) (h3 : mI S 81 3 = a 87 5 - a 87 3) (h2 : mI S 81 2 = a 87 5) (hk : qK7 a) : aH S = hCl a := aH_q h h2 hk.1 h3 h4 hk.2
end F8
