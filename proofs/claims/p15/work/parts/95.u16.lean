/-! AGES, the class (written by wip/tools/gen15y.py) -/
/-! AGES: what holds stays so -/
def qDi (a : Nat → Nat → Int32) : Prop := ∀ n, xAl a n → (a 130 n).toInt < (a 87 9).toInt → ∀ i : Nat, (i : Int) < (a 128 n).toInt - 1 → gRw a n (Int32.ofNat i) → a 83 (gCx a n (i : Int)).toNat ≠ 0
def qA1 (a : Nat → Nat → Int32) (n : Nat) : Prop := (0 ≤ (a 131 n).toInt ∧ (a 131 n).toInt ≤ (a 87 11).toInt) ∧ ((a 130 n).toInt < (a 87 9).toInt → (a 130 n).toInt + (a 128 n).toInt ≤ (a 87 10).toInt) ∧ ((a 87 9).toInt ≤ (a 130 n).toInt → ((a 87 3).toInt ≤ (a 130 n).toInt ∧ (a 130 n).toInt + (a 128 n).toInt ≤ (a 87 4).toInt) ∧ (a 131 n).toInt < (a 87 11).toInt ∧ a 133 n = 0)
def qA0 (a : Nat → Nat → Int32) : Prop := qI a ∧ a 87 2 = 0 ∧ ((0 ≤ (a 87 5).toInt ∧ (a 87 5).toInt ≤ 1500) ∧ (0 ≤ (a 87 9).toInt ∧ (a 87 9).toInt ≤ 1500) ∧ (a 87 0).toInt = (a 87 9).toInt + 2 * (a 87 5).toInt ∧ (1 ≤ (a 87 11).toInt ∧ (a 87 11).toInt ≤ 1000) ∧ 4 ≤ (a 87 12).toInt) ∧ ((a 87 3).toInt = (a 87 9).toInt ∨ (a 87 3).toInt = (a 87 9).toInt + (a 87 5).toInt) ∧ ((a 87 3).toInt ≤ (a 87 4).toInt ∧ (a 87 4).toInt ≤ (a 87 3).toInt + (a 87 5).toInt ∧ gSy a 512 ≤ (a 87 4).toInt - (a 87 3).toInt) ∧ (0 ≤ (a 87 10).toInt ∧ (a 87 10).toInt ≤ (a 87 9).toInt) ∧ ∀ n, xAl a n → qA1 a n
section F26
variable {a b : Nat → Nat → Int32} {st ot o0 lim p e : Int} {P N F G : Nat → Int} {i j k n m f c : Nat} {to x : Int32}
theorem Av_mk (h : qA0 a) (d : qDi a) : qAv a := ⟨h.1, h.2.1, h.2.2.1, h.2.2.2.1, h.2.2.2.2.1, h.2.2.2.2.2.1, h.2.2.2.2.2.2, d⟩
theorem Av_0 (h : qAv a) : qA0 a := ⟨h.1, h.2.1, h.2.2.1, h.2.2.2.1, h.2.2.2.2.1, h.2.2.2.2.2.1, h.2.2.2.2.2.2.1⟩
theorem Sy_sg : ∀ n, gSy a n = zsg (fun n => if a 126 n ≠ 0 ∧ (a 87 9).toInt ≤ (a 130 n).toInt then (a 128 n).toInt else 0) n := by
  intro n
  induction n with
  | zero => rfl
  | succ n ih =>
    rw [sg_s, ← ih]
    rfl
theorem Gr_sg : ∀ n, gGr a n = zsg (fun n => if a 126 n ≠ 0 ∧ (a 87 9).toInt ≤ (a 130 n).toInt ∧ (a 87 11).toInt ≤ (a 131 n).toInt + 1 then (a 128 n).toInt else 0) n := by
  intro n
  induction n with
  | zero => rfl
  | succ n ih =>
    rw [sg_s, ← ih]
    rfl
/-! dirty cards -/
theorem Fd_r (h : c ≠ 83) : gFd a c = a c := funext (fun k => if_neg (fun w => h w.1))
theorem Wk_y (hr : gRw a n (Int32.ofNat i)) (hc : 0 < (a 87 12).toInt) (hk : gCx a n (i : Int) = (k : Int)) : ∀ m, i < m → gWk a k n m ≠ 0 := by
  intro m
  induction m with
  | zero => intro h; omega
  | succ m ih =>
    intro h
    show (if (0 ≤ (aRef a n (Int32.ofNat m)).toInt ∧ (aRef a n (Int32.ofNat m)).toInt < 512 ∧ a 126 (aRef a n (Int32.ofNat m)).toNatClampNeg ≠ 0 ∧ (a 87 9).toInt ≤ (a 130 (aRef a n (Int32.ofNat m)).toNatClampNeg).toInt) ∧ 0 < (a 87 12).toInt ∧ gCx a n (m : Int) = (k : Int) then 1 else gWk a k n m) ≠ 0
    by_cases w : i = m
    · rw [← w, if_pos ⟨hr, hc, hk⟩]
      decide
    · split
      · decide
      · exact ih (by omega)
theorem Nk_y (h6 : a 126 n ≠ 0) (ho : (a 130 n).toInt < (a 87 9).toInt) (hw : gWk a k n ((a 128 n).toInt - 1).toNat ≠ 0) : ∀ m, n < m → gNk a k m ≠ 0 := by
  intro m
  induction m with
  | zero => intro h; omega
  | succ m ih =>
    intro h
    show (if (a 126 m ≠ 0 ∧ (a 130 m).toInt < (a 87 9).toInt) ∧ gWk a k m ((a 128 m).toInt - 1).toNat ≠ 0 then 1 else gNk a k m) ≠ 0
    by_cases w : n = m
    · rw [← w, if_pos ⟨⟨h6, ho⟩, hw⟩]
      decide
    · split
      · decide
      · exact ih (by omega)
theorem cx_lt (h : qA0 a) (hn : xAl a n) (ho : (a 130 n).toInt < (a 87 9).toInt) (hi : (i : Int) < (a 128 n).toInt - 1) : 0 ≤ gCx a n (i : Int) ∧ gCx a n (i : Int) < 375 := by
  have p0 := (h.1.1 n hn).1.2
  have c4 := h.2.2.1.2.2.2.2
  have en := (h.2.2.2.2.2.2 n hn).2.1 ho
  have ot := h.2.2.2.2.2.1
  have ol := h.2.2.1.2.1
  unfold gCx
  refine ⟨Int.ediv_nonneg (by omega) (by omega), Int.ediv_lt_of_lt_mul (by omega) ?_⟩
  have m4 : 375 * 4 ≤ 375 * (a 87 12).toInt := Int.mul_le_mul_of_nonneg_left c4 (by decide)
  omega
theorem Fd_rw {i : Int32} : gRw (gFd a) n i ↔ gRw a n i := by
  have q := Nr_cg (a := a) (b := gFd a) (Fd_r (by decide)) (Fd_r (by decide)) (Fd_r (by decide)) (Fd_r (by decide)) (fun n => Fd_r (by omega))
  unfold gRw
  rw [q.1, Fd_r (c := 126) (by decide), Fd_r (c := 130) (by decide), Fd_r (c := 87) (by decide)]
theorem Av_fd (h : qA0 a) : qAv (gFd a) := by
  have r : ∀ c, c ≠ 83 → gFd a c = a c := fun c hc => Fd_r hc
  have q := Nr_cg (a := a) (b := gFd a) (Fd_r (by decide)) (Fd_r (by decide)) (Fd_r (by decide)) (Fd_r (by decide)) (fun n => Fd_r (by omega))
  refine Av_mk ?_ (fun n hn ho i hi hr => ?_)
  · have sy : gSy (gFd a) 512 = gSy a 512 := by
      rw [Sy_sg, Sy_sg, r 126 (by decide), r 130 (by decide), r 128 (by decide), r 87 (by decide)]
    unfold qA0 qA1 xAl
    rw [sy, r 87 (by decide), r 126 (by decide), r 128 (by decide), r 130 (by decide), r 131 (by decide), r 133 (by decide)]
    obtain ⟨h1, h2⟩ := h
    exact ⟨I_cg h1 (r _ (by decide)) (r _ (by decide)) (r _ (by decide)) (r _ (by decide)) (r _ (by decide)) (r _ (by decide)) (fun j => r _ (by omega)), h2⟩
  · unfold xAl at hn
    rw [r 126 (by decide)] at hn
    rw [r 130 (by decide), r 87 (by decide)] at ho
    rw [r 128 (by decide)] at hi
    have cx := cx_lt h hn ho hi
    rw [q.2]
    have hr' := Fd_rw.mp hr
    show (if (83 : Nat) = 83 ∧ (gCx a n (i : Int)).toNat < 375 then gNk a (gCx a n (i : Int)).toNat 512 else _) ≠ 0
    rw [if_pos ⟨rfl, by omega⟩]
    exact Nk_y hn.2 ho (Wk_y hr' (by have := h.2.2.1.2.2.2.2; omega) (by omega) _ (by omega)) 512 hn.1
/-! the major cleaning -/
theorem sw_f (hI : qI a) (h : xAl (aSw a) n) (h1 : 126 ≤ f) (h2 : f < 1000) (h3 : f ≠ 134) : aSw a f n = a f n := by
  have g := I_gf ((aRA a 69 6).toInt - (0 : Int32).toInt).toNat 0 _ (qI_of hI RA_zo) (E0_ra hI)
  have r : ∀ c k, c ≠ 69 → c ≠ 73 → c ≠ 74 → c ≠ 134 → c ≠ 75 → c ≠ 76 → c ≠ 77 → aGw (aRA a) 0 c k = a c k := fun c k h1 h2 h3 h4 h5 h6 h7 => (Gf_r h1 h2 h3 h4 h5 h6 h7 _ _ _).trans (RA_zo c k h5 h6 h7).symm
  have m := Md_mv g.1 g.2.1.2.2.2.2.2.1
  have al := (Md_al g.1 m).mp h
  have q := (Md_f m al.1.1 al.2).1
  have e : aGf ((aRA a 69 6).toInt - (0 : Int32).toInt).toNat 0 (aRA a) = aGw (aRA a) 0 := rfl
  rw [e] at q
  exact (q f h1 h2).trans (r f n (by omega) (by omega) (by omega) h3 (by omega) (by omega) (by omega))
theorem Sd_inv : ∀ (k : Nat) (a : Nat → Nat → Int32) (p e : Int), (lim - p).toNat ≤ k → lim ≤ 4500 → qJs a p e → a 87 2 = 0 → (∀ n, xAl a n → (a 130 n).toInt < lim → (a 130 n).toInt + (a 128 n).toInt ≤ lim) → e ≤ lim → (∃ p', lim ≤ p' ∧ qJs (zSd a lim p e).1 p' (zSd a lim p e).2) ∧ (zSd a lim p e).2 ≤ lim ∧ (∀ c, c ≠ 71 → c ≠ 130 → (zSd a lim p e).1 c = a c) ∧ (∀ n, xAl a n → lim ≤ (a 130 n).toInt → (zSd a lim p e).1 130 n = a 130 n) ∧ ∀ n, xAl a n → (a 130 n).toInt < lim → ((zSd a lim p e).1 130 n).toInt < lim := by
  intro k
  induction k with
  | zero =>
    intro a p e hk h4 hJ h2 hl he
    rw [Sd_n (by omega)]
    exact ⟨⟨p, by omega, hJ⟩, he, fun _ _ _ => rfl, fun _ _ _ => rfl, fun _ _ w => w⟩
  | succ k ih =>
    intro a p e hk h4 hJ h2 hl he
    by_cases c : p < lim
    · have s1 := S1_I hJ.1
      by_cases d : (zOb a p).toInt < 0
      · rw [Sd_fr s1 c d]
        exact ih a (p + 1) e (by omega) h4 (Js_fr hJ d (by omega)) h2 hl he
      · have ob := Js_ob hJ (show 0 ≤ (zOb a p).toInt by omega)
        have sz := (hJ.1.1 _ ob.1).2.1
        have en := hl _ ob.1 (by omega)
        by_cases hh : a 133 (zOb a p).toNatClampNeg = 0
        · rw [Sd_mv s1 c (by omega) hh]
          have b0 := hJ.1.2.2.2.1.2.2.1
          have te : (Int32.ofInt e).toInt = e := Int32.toInt_ofInt_of_le (by have := hJ.2.1; omega) (by have := hJ.2.1; omega)
          have j2 := Js_mv hJ (show 0 ≤ (zOb a p).toInt by omega) te (by rw [h2]; rfl)
          have q := ih (aMo a (zOb a p).toNatClampNeg (Int32.ofInt e)) (p + (a 128 (zOb a p).toNatClampNeg).toInt) (e + (a 128 (zOb a p).toNatClampNeg).toInt) (by omega) h4 j2 (by rw [Mo_r (by decide) (by decide)]; exact h2) (fun n hn w => ?_) (by have := hJ.2.1; omega)
          · refine ⟨q.1, q.2.1, fun c h1 h3 => (q.2.2.1 c h1 h3).trans (Mo_c h1 h3), fun n hn w => ?_, fun n hn w => ?_⟩
            · have ne : n ≠ (zOb a p).toNatClampNeg := fun z => by
                rw [z] at w
                omega
              rw [q.2.2.2.1 n (Mo_al.mpr hn) (by rw [Mo_po ne]; exact w), Mo_po ne]
            · refine q.2.2.2.2 n (Mo_al.mpr hn) ?_
              by_cases z : n = (zOb a p).toNatClampNeg
              · rw [z, Mo_pn, te]
                have := hJ.2.1
                omega
              · rw [Mo_po z]
                exact w
          · have hn' := Mo_al.mp hn
            rw [Mo_r (c := 128) (by decide) (by decide)]
            by_cases z : n = (zOb a p).toNatClampNeg
            · rw [z, Mo_pn, te]
              have := hJ.2.1
              omega
            · rw [Mo_po z] at w ⊢
              exact hl n hn' w
        · rw [Sd_ho s1 c (by omega) hh]
          exact ih a _ _ (by omega) h4 (Js_ho hJ (by omega)) h2 hl (by omega)
    · rw [Sd_n c]
      exact ⟨⟨p, by omega, hJ⟩, he, fun _ _ _ => rfl, fun _ _ _ => rfl, fun _ _ w => w⟩
theorem Sy_sub (h : ∀ n, n < 512 → (b 126 n ≠ 0 ∧ (b 87 9).toInt ≤ (b 130 n).toInt) → (a 126 n ≠ 0 ∧ (a 87 9).toInt ≤ (a 130 n).toInt) ∧ b 128 n = a 128 n) (hI : qI a) : gSy b 512 ≤ gSy a 512 := by
  rw [Sy_sg, Sy_sg]
  refine sg_mono _ (fun n hn => ?_)
  by_cases w : b 126 n ≠ 0 ∧ (b 87 9).toInt ≤ (b 130 n).toInt
  · have q := h n hn w
    rw [if_pos w, if_pos q.1, q.2]
    exact Int.le_refl _
  · rw [if_neg w]
    split
    · next z =>
      have := (hI.1 n ⟨hn, z.1⟩).2.1.1
      omega
    · exact Int.le_refl _
theorem A0_ma (h : qAv a) : qA0 (ma_u (gSd a).1 87 10 (Int32.ofInt (gSd a).2)) ∧ (Int32.ofInt (gSd a).2).toInt = (gSd a).2 := by
  have h0 := Av_0 h
  obtain ⟨hI, h2, nm, hs, ht, ho, ha⟩ := h0
  have sI := I_sw hI
  have al : ∀ n, xAl (aSw a) n → xAl a n ∧ aSw a 130 n = a 130 n ∧ aSw a 128 n = a 128 n ∧ aSw a 133 n = a 133 n ∧ aSw a 131 n = a 131 n := fun n hn => by
    have q := Al_sw hI hn
    exact ⟨q.1, q.2.1, q.2.2.1, q.2.2.2, sw_f hI hn (by decide) (by decide) (by decide)⟩
  have s7 : aSw a 87 = a 87 := funext (fun _ => sw_87)
  have q := Sd_inv (lim := (a 87 9).toInt) ((a 87 9).toInt - 0).toNat (aSw a) 0 0 (Nat.le_refl _) (by have := nm.2.1; omega) (Js_0 sI) (by rw [s7]; exact h2) (fun n hn w => by
    have z := al n hn
    rw [z.2.1] at w
    rw [z.2.1, z.2.2.1]
    have := (ha n z.1).2.1 w
    omega) (by have := nm.2.1; omega)
  have e : zSd (aSw a) (a 87 9).toInt 0 0 = gSd a := rfl
  rw [e] at q
  obtain ⟨⟨p', hp', hJ⟩, q2, q3, q4, q5⟩ := q
  have r : ∀ c, c ≠ 71 → c ≠ 130 → c ≠ 87 → ma_u (gSd a).1 87 10 (Int32.ofInt (gSd a).2) c = aSw a c := fun c h1 h3 h4 => (ma_u_ne _ _ _ h4).trans (q3 c h1 h3)
  have r130 : ma_u (gSd a).1 87 10 (Int32.ofInt (gSd a).2) 130 = (gSd a).1 130 := ma_u_ne _ _ _ (by decide)
  have r7 : ∀ k, k ≠ 10 → ma_u (gSd a).1 87 10 (Int32.ofInt (gSd a).2) 87 k = a 87 k := fun k hk => by
    rw [xu_o (fun z => hk z.2), q3 87 (by decide) (by decide), s7]
  have te : (Int32.ofInt (gSd a).2).toInt = (gSd a).2 := Int32.toInt_ofInt_of_le (by have := hJ.2.1; omega) (by have := nm.2.1; omega)
  have x10 : ma_u (gSd a).1 87 10 (Int32.ofInt (gSd a).2) 87 10 = Int32.ofInt (gSd a).2 := xu_s
  have alx : ∀ n, xAl (ma_u (gSd a).1 87 10 (Int32.ofInt (gSd a).2)) n → xAl (aSw a) n := fun n hn => by
    unfold xAl at hn ⊢
    rw [r 126 (by decide) (by decide) (by decide)] at hn
    exact hn
  have alg : ∀ n, xAl (aSw a) n → xAl (gSd a).1 n := fun n hn => by
    unfold xAl at hn ⊢
    rw [q3 126 (by decide) (by decide)]
    exact hn
  have yv : ∀ n, xAl (aSw a) n → (a 87 9).toInt ≤ ((gSd a).1 130 n).toInt → (a 87 9).toInt ≤ (a 130 n).toInt ∧ (gSd a).1 130 n = a 130 n := fun n hn w => by
    have z := al n hn
    by_cases d : (a 130 n).toInt < (a 87 9).toInt
    · have := q5 n hn (by rw [z.2.1]; exact d)
      omega
    · exact ⟨by omega, (q4 n hn (by rw [z.2.1]; omega)).trans z.2.1⟩
  refine ⟨⟨I_87k hJ.1 (by decide) (by decide) (by decide), ?_, ?_, ?_, ⟨?_, ?_, ?_⟩, ⟨?_, ?_⟩, fun n hn => ?_⟩, te⟩
  · rw [r7 2 (by decide)]
    exact h2
  · rw [r7 5 (by decide), r7 9 (by decide), r7 0 (by decide), r7 11 (by decide), r7 12 (by decide)]
    exact nm
  · rw [r7 3 (by decide), r7 9 (by decide), r7 5 (by decide)]
    exact hs
  · rw [r7 3 (by decide), r7 4 (by decide)]
    exact ht.1
  · rw [r7 3 (by decide), r7 4 (by decide), r7 5 (by decide)]
    exact ht.2.1
  · rw [r7 3 (by decide), r7 4 (by decide)]
    refine Int.le_trans (Sy_sub (a := a) (fun n hn w => ?_) hI) ht.2.2
    rw [r 126 (by decide) (by decide) (by decide), r7 9 (by decide), r130] at w
    have z := al n ⟨hn, w.1⟩
    have y := yv n ⟨hn, w.1⟩ w.2
    exact ⟨⟨z.1.2, y.1⟩, by rw [r 128 (by decide) (by decide) (by decide)]; exact z.2.2.1⟩
  · rw [x10, te]
    exact hJ.2.1.1
  · rw [x10, te, r7 9 (by decide)]
    exact q2
  · have hn' := alx n hn
    have z := al n hn'
    have v := ha n z.1
    unfold qA1 at v ⊢
    rw [x10, te, r7 11 (by decide), r7 9 (by decide), r7 3 (by decide), r7 4 (by decide), r 131 (by decide) (by decide) (by decide), r 133 (by decide) (by decide) (by decide), r130, r 128 (by decide) (by decide) (by decide), z.2.2.2.2, z.2.2.2.1, z.2.2.1]
    refine ⟨v.1, fun w => ?_, fun w => ?_⟩
    · have j := hJ.2.2.2 n (alg n hn') (by omega)
      rw [q3 128 (by decide) (by decide), z.2.2.1] at j
      exact j
    · have y := yv n hn' w
      rw [y.2]
      exact v.2.2 y.1
theorem Av_ma (h : qAv a) : qAv (gMa a) := Av_fd (A0_ma h).1
/-! the minor cleaning -/
theorem v3_e (h : qAv a) : (a 87 9 + a 87 5 + a 87 9 - a 87 3).toInt = 2 * (a 87 9).toInt + (a 87 5).toInt - (a 87 3).toInt := by
  have nm := h.2.2.1
  have hs := h.2.2.2.1
  have e1 : (a 87 9 + a 87 5).toInt = (a 87 9).toInt + (a 87 5).toInt := i_add (by omega) (by omega)
  have e2 : (a 87 9 + a 87 5 + a 87 9).toInt = (a 87 9).toInt + (a 87 5).toInt + (a 87 9).toInt := by rw [i_add (by omega) (by omega), e1]
  rw [i_sub (by omega) (by omega), e2]
  omega
theorem Jg_0 (h : qAv a) (hf : ¬ gFu a) : qJg (gMk1 a) (2 * (a 87 9).toInt + (a 87 5).toInt - (a 87 3).toInt) (a 87 3).toInt (a 87 10).toInt (gPf (gMk1 a)) (gNf (gMk1 a)) 0 := by
  have v3 := v3_e h
  have h0 := Av_0 h
  obtain ⟨hI, h2, nm, hs, ht, ho, ha⟩ := h0
  have MI := Mi_I h
  have fy := Mi_FY h
  have r : ∀ c, c ≠ 87 → gMk1 a c = gMk0 a c := fun c hc => by
    unfold gMk1
    rw [ma_u_ne _ _ _ hc, ma_u_ne _ _ _ hc]
  have r7 : ∀ k, k ≠ 3 → k ≠ 4 → gMk1 a 87 k = a 87 k := fun k h3 h4 => by
    unfold gMk1
    rw [xu_o (fun z => h4 z.2), xu_o (fun z => h3 z.2), Mi_8 (by decide)]
  have r4 : gMk1 a 87 4 = a 87 9 + a 87 5 + a 87 9 - a 87 3 := xu_s
  have alx : ∀ n, xAl (gMk1 a) n ↔ xAl (gMk0 a) n := fun n => by
    unfold xAl
    rw [r 126 (by decide)]
  have FQ : zFQ (gMk1 a) := FQ_cg fy.1 (congrFun (r 75 (by decide)) 3) (congrFun (r 75 (by decide)) 4) (r 76 (by decide)) (fun x _ => by rw [r 77 (by decide)]) (r 126 (by decide))
  have row : ∀ n, xAl (gMk0 a) n → gMk1 a 128 n = a 128 n ∧ gMk1 a 130 n = a 130 n ∧ gMk1 a 131 n = a 131 n ∧ gMk1 a 133 n = a 133 n := fun n hn => by
    have q := (Mi_f h hn).1
    rw [r 128 (by decide), r 130 (by decide), r 131 (by decide), r 133 (by decide)]
    exact ⟨q 128 (by decide) (by decide) (by decide), q 130 (by decide) (by decide) (by decide), q 131 (by decide) (by decide) (by decide), q 133 (by decide) (by decide) (by decide)⟩
  have qu : ∀ i : Nat, (i : Int) < (gMk1 a 75 4).toInt → xAl (gMk0 a) (gMk1 a 76 i).toNatClampNeg ∧ (a 87 9).toInt ≤ (a 130 (gMk1 a 76 i).toNatClampNeg).toInt := fun i hi => by
    have q := FQ.1 i hi
    have t := tn_cast q.1
    have w := q.2.2.1
    rw [r 77 (by decide)] at w
    exact fy.2.1 _ (by omega) w
  have szn : ∀ n, xAl a n → 0 ≤ (a 128 n).toInt := fun n hn => by
    have := (hI.1 n hn).2.1.1
    omega
  have pos : ∀ i : Nat, (i : Int) < (gMk1 a 75 4).toInt → 0 ≤ gPf (gMk1 a) i ∧ 0 ≤ gNf (gMk1 a) i := fun i hi => by
    have q := qu i hi
    have s := szn _ ((Mi_al h).mp q.1).1
    unfold gPf gNf
    rw [(row _ q.1).1]
    constructor
    · split
      · exact s
      · exact Int.le_refl _
    · split
      · exact Int.le_refl _
      · exact s
  have sP : zsg (gPf (gMk1 a)) (gMk1 a 75 4).toInt.toNat ≤ gGr a 512 := by
    have e := Fq_sum FQ (fun n => if (gMk1 a 87 11).toInt ≤ (gMk1 a 131 n).toInt + 1 then (gMk1 a 128 n).toInt else 0)
    have e2 : zsg (gPf (gMk1 a)) (gMk1 a 75 4).toInt.toNat = zsg (fun j => if (gMk1 a 87 11).toInt ≤ (gMk1 a 131 (gMk1 a 76 j).toNatClampNeg).toInt + 1 then (gMk1 a 128 (gMk1 a 76 j).toNatClampNeg).toInt else 0) (gMk1 a 75 4).toInt.toNat := rfl
    rw [e2, e, Gr_sg]
    refine sg_mono _ (fun n hn => ?_)
    by_cases w : gMk1 a 77 n ≠ 0
    · have w' := w
      rw [r 77 (by decide)] at w'
      have q := fy.2.1 n hn w'
      have ra := row n q.1
      have aa := ((Mi_al h).mp q.1).1
      rw [if_pos w, ra.2.2.1, ra.1, r7 11 (by decide) (by decide)]
      by_cases d : (a 87 11).toInt ≤ (a 131 n).toInt + 1
      · rw [if_pos d, if_pos ⟨aa.2, q.2, d⟩]
        exact Int.le_refl _
      · rw [if_neg d, if_neg (fun z => d z.2.2)]
        exact Int.le_refl _
    · rw [if_neg w]
      split
      · next z => exact szn n ⟨hn, z.1⟩
      · exact Int.le_refl _
  have sN : zsg (gNf (gMk1 a)) (gMk1 a 75 4).toInt.toNat ≤ gSy a 512 := by
    have e := Fq_sum FQ (fun n => if (gMk1 a 87 11).toInt ≤ (gMk1 a 131 n).toInt + 1 then 0 else (gMk1 a 128 n).toInt)
    have e2 : zsg (gNf (gMk1 a)) (gMk1 a 75 4).toInt.toNat = zsg (fun j => if (gMk1 a 87 11).toInt ≤ (gMk1 a 131 (gMk1 a 76 j).toNatClampNeg).toInt + 1 then 0 else (gMk1 a 128 (gMk1 a 76 j).toNatClampNeg).toInt) (gMk1 a 75 4).toInt.toNat := rfl
    rw [e2, e, Sy_sg]
    refine sg_mono _ (fun n hn => ?_)
    by_cases w : gMk1 a 77 n ≠ 0
    · have w' := w
      rw [r 77 (by decide)] at w'
      have q := fy.2.1 n hn w'
      have ra := row n q.1
      have aa := ((Mi_al h).mp q.1).1
      rw [if_pos w, ra.2.2.1, ra.1, r7 11 (by decide) (by decide), if_pos (show a 126 n ≠ 0 ∧ (a 87 9).toInt ≤ (a 130 n).toInt from ⟨aa.2, q.2⟩)]
      have s := szn n aa
      split
      · exact s
      · exact Int.le_refl _
    · rw [if_neg w]
      split
      · next z => exact szn n ⟨hn, z.1⟩
      · exact Int.le_refl _
  unfold gFu at hf
  unfold qJg
  rw [r7 2 (by decide) (by decide), r7 5 (by decide) (by decide), r7 9 (by decide) (by decide), r7 0 (by decide) (by decide), r7 11 (by decide) (by decide), r7 12 (by decide) (by decide), r7 10 (by decide) (by decide), r4, v3]
  have zz : ∀ F : Nat → Int, zsg F 0 = 0 := fun _ => rfl
  refine ⟨?_, FQ, h2, nm, by omega, ⟨by rw [zz]; omega, ho.1, by omega⟩, ⟨by rw [zz]; omega, by omega⟩, Int.le_trans FQ.2.2.2.1 FQ.2.2.2.2.1, pos, fun i _ hi => ⟨rfl, rfl, ?_⟩, fun i hi => absurd hi (by omega), fun n hn => ?_⟩
  · unfold gMk1
    exact I_87k (I_87k MI (by decide) (by decide) (by decide)) (by decide) (by decide) (by decide)
  · have q := qu i hi
    have ra := row _ q.1
    rw [ra.1, ra.2.1]
    have v := (ha _ ((Mi_al h).mp q.1).1).2.2 q.2
    omega
  · have hn' := (alx n).mp hn
    have ra := row n hn'
    have aa := ((Mi_al h).mp hn').1
    have v := ha n aa
    rw [ra.1, ra.2.1, ra.2.2.1, ra.2.2.2]
    refine ⟨v.1, v.2.1, fun w => ?_⟩
    have y := v.2.2 w
    refine ⟨y.2.2, y.2.1, Or.inr ⟨?_, ?_⟩⟩
    · rintro ⟨i, hi, _⟩
      omega
    · have w7 := fy.2.2 n hn' w
      obtain ⟨j, j1, j2⟩ := FQ.2.2.1 n hn.1 (by rw [r 77 (by decide)]; exact w7)
      exact ⟨j, by omega, j2⟩
theorem gMf_7 (h4 : k ≠ 4) (h10 : k ≠ 10) : ∀ (f j : Nat) (a : Nat → Nat → Int32), gMf f j a 87 k = a 87 k := by
  intro f
  induction f with
  | zero => intro j a; rfl
  | succ f ih =>
    intro j a
    by_cases w : hQc a j
    · rw [gMf_y w, ih, gM1_7 h4 h10]
    · rw [gMf_n w, ih]
theorem Jg_end (h : qJg b st ot o0 P N (b 75 4).toInt.toNat) (h3 : (b 87 3).toInt = st) : qA0 b := by
  obtain ⟨hI, hF, h2, nm, hs, hO, hT, hl, hp, hu, hd, ha⟩ := h
  have b4 := hF.2.2.2
  have l0P := sg_le (m := (b 75 4).toInt.toNat) (F := P) (fun i hi => (hp i (by omega)).1) (b 75 4).toInt.toNat (Nat.le_refl _) 0 (by omega)
  have l0N := sg_le (m := (b 75 4).toInt.toNat) (F := N) (fun i hi => (hp i (by omega)).2) (b 75 4).toInt.toNat (Nat.le_refl _) 0 (by omega)
  have z0P : zsg P 0 = 0 := rfl
  have z0N : zsg N 0 = 0 := rfl
  have sy : gSy b 512 = zsg N (b 75 4).toInt.toNat := by
    have e := Fq_sum hF (fun n => if (b 87 9).toInt ≤ (b 130 n).toInt then (b 128 n).toInt else 0)
    have e2 : zsg N (b 75 4).toInt.toNat = zsg (fun j => if (b 87 9).toInt ≤ (b 130 (b 76 j).toNatClampNeg).toInt then (b 128 (b 76 j).toNatClampNeg).toInt else 0) (b 75 4).toInt.toNat := sg_cg _ (fun i hi => hd i hi)
    rw [e2, e, Sy_sg]
    refine sg_cg _ (fun n hn => ?_)
    by_cases w : b 77 n ≠ 0
    · obtain ⟨j, j1, j2⟩ := hF.2.2.1 n hn w
      have a6 := (hF.1 j j1).2.2.2
      rw [j2, tn_of hn] at a6
      rw [if_pos w]
      by_cases y : (b 87 9).toInt ≤ (b 130 n).toInt
      · rw [if_pos y, if_pos ⟨a6, y⟩]
      · rw [if_neg y, if_neg (fun z => y z.2)]
    · rw [if_neg w, if_neg (fun z => w ?_)]
      have v := ((ha n ⟨hn, z.1⟩).2.2 z.2).2.2
      have inn : zIn b (b 75 4).toInt.toNat n := v.elim (fun q => q.1) (fun q => q.2)
      obtain ⟨j, j1, j2⟩ := inn
      have q := (hF.1 j (by omega)).2.2.1
      rw [j2, tn_of hn] at q
      exact q
  refine ⟨hI, h2, nm, by omega, ⟨by omega, by omega, by rw [sy]; omega⟩, ⟨by omega, by omega⟩, fun n hn => ?_⟩
  have v := ha n hn
  refine ⟨v.1, v.2.1, fun w => ?_⟩
  have y := v.2.2 w
  rcases y.2.2 with q | q
  · exact ⟨⟨by omega, q.2.2⟩, y.2.1, y.1⟩
  · exact absurd q.2 q.1
theorem Av_mv (h : qAv a) (hf : ¬ gFu a) : qAv (gMv a) := by
  have j := Jg_0 h hf
  have q4 := j.2.1.2.2.2
  have e := gMf_J (gMk1 a 75 4).toInt.toNat 0 (gMk1 a) j (by omega)
  have r75 : gMf (gMk1 a 75 4).toInt.toNat 0 (gMk1 a) 75 = gMk1 a 75 := by
    have g : ∀ (f j : Nat) (c : Nat → Nat → Int32), gMf f j c 75 = c 75 := by
      intro f
      induction f with
      | zero => intro j c; rfl
      | succ f ih =>
        intro j c
        by_cases w : hQc c j
        · rw [gMf_y w, ih, gM1_r (by decide) (by decide) (by decide) (by decide)]
        · rw [gMf_n w, ih]
    exact g _ _ _
  refine Av_fd (Jg_end (st := 2 * (a 87 9).toInt + (a 87 5).toInt - (a 87 3).toInt) (ot := (a 87 3).toInt) (o0 := (a 87 10).toInt) (P := gPf (gMk1 a)) (N := gNf (gMk1 a)) ?_ ?_)
  · rw [r75]
    rw [Nat.zero_add] at e
    exact e
  · rw [gMf_7 (by decide) (by decide)]
    unfold gMk1
    rw [xu_o (by decide), xu_s]
    exact v3_e h
theorem Av_m0 (h : qAv a) : qAv (gM0 a) := by
  unfold gM0
  split
  · exact Av_ma h
  · exact h
theorem Av_mi (h : qAv a) : qAv (gMi a) := by
  unfold gMi
  split
  · exact Av_m0 h
  · next w => exact Av_mv (Av_m0 h) w
theorem Av_ro {z : Int} (h : qAv a) : qAv (gRo a z) := by
  unfold gRo
  split
  · exact Av_ma h
  · exact h
theorem Av_r1 {z : Int} (h : qAv a) : qAv (gR1 a z) := by
  unfold gR1
  split
  · exact h
  · exact Av_mi h
theorem Av_r2 {z : Int} (h : qAv a) : qAv (gR2 a z) := by
  unfold gR2
  split
  · exact h
  · exact Av_mi (Av_ma h)
theorem Av_rs {z : Int} (h : qAv a) : qAv (gRs a z) := by
  unfold gRs
  split
  · exact Av_ro h
  · exact Av_r2 (Av_r1 h)
end F26
