/-! AGES, the class (written by wip/tools/gen15y.py) -/
/-! AGES: those that are kept grow older and move -/
def gPf (a : Nat → Nat → Int32) (j : Nat) : Int := if (a 87 11).toInt ≤ (a 131 (a 76 j).toNatClampNeg).toInt + 1 then (a 128 (a 76 j).toNatClampNeg).toInt else 0
def gNf (a : Nat → Nat → Int32) (j : Nat) : Int := if (a 87 11).toInt ≤ (a 131 (a 76 j).toNatClampNeg).toInt + 1 then 0 else (a 128 (a 76 j).toNatClampNeg).toInt
def qJg (a : Nat → Nat → Int32) (st ot o0 : Int) (P N : Nat → Int) (j : Nat) : Prop :=
  qI a ∧ zFQ a ∧ a 87 2 = 0 ∧ ((0 ≤ (a 87 5).toInt ∧ (a 87 5).toInt ≤ 1500) ∧ (0 ≤ (a 87 9).toInt ∧ (a 87 9).toInt ≤ 1500) ∧ (a 87 0).toInt = (a 87 9).toInt + 2 * (a 87 5).toInt ∧ (1 ≤ (a 87 11).toInt ∧ (a 87 11).toInt ≤ 1000) ∧ 4 ≤ (a 87 12).toInt) ∧ ((st = (a 87 9).toInt ∧ ot = (a 87 9).toInt + (a 87 5).toInt) ∨ (st = (a 87 9).toInt + (a 87 5).toInt ∧ ot = (a 87 9).toInt)) ∧
  ((a 87 10).toInt = o0 + zsg P j ∧ 0 ≤ o0 ∧ o0 + zsg P (a 75 4).toInt.toNat ≤ (a 87 9).toInt) ∧ ((a 87 4).toInt = st + zsg N j ∧ zsg N (a 75 4).toInt.toNat ≤ (a 87 5).toInt) ∧ (j : Int) ≤ (a 75 4).toInt ∧
  (∀ i : Nat, (i : Int) < (a 75 4).toInt → 0 ≤ P i ∧ 0 ≤ N i) ∧
  (∀ i : Nat, j ≤ i → (i : Int) < (a 75 4).toInt → P i = gPf a i ∧ N i = gNf a i ∧ (ot ≤ (a 130 (a 76 i).toNatClampNeg).toInt ∧ (a 130 (a 76 i).toNatClampNeg).toInt + (a 128 (a 76 i).toNatClampNeg).toInt ≤ ot + (a 87 5).toInt)) ∧
  (∀ i : Nat, i < j → N i = if (a 87 9).toInt ≤ (a 130 (a 76 i).toNatClampNeg).toInt then (a 128 (a 76 i).toNatClampNeg).toInt else 0) ∧
  ∀ n, xAl a n → (0 ≤ (a 131 n).toInt ∧ (a 131 n).toInt ≤ (a 87 11).toInt) ∧ ((a 130 n).toInt < (a 87 9).toInt → (a 130 n).toInt + (a 128 n).toInt ≤ (a 87 10).toInt) ∧ ((a 87 9).toInt ≤ (a 130 n).toInt → a 133 n = 0 ∧ (a 131 n).toInt < (a 87 11).toInt ∧ ((zIn a j n ∧ st ≤ (a 130 n).toInt ∧ (a 130 n).toInt + (a 128 n).toInt ≤ (a 87 4).toInt) ∨ (¬ zIn a j n ∧ zIn a (a 75 4).toInt.toNat n)))
section F25
variable {a b : Nat → Nat → Int32} {st ot o0 : Int} {P N F G : Nat → Int} {j k n m f c : Nat} {to x : Int32}
theorem sg_s : zsg F (n + 1) = zsg F n + F n := rfl
theorem sg_le (h : ∀ i, i < m → 0 ≤ F i) : ∀ n, n ≤ m → ∀ k, k ≤ n → zsg F k ≤ zsg F n := by
  intro n
  induction n with
  | zero => intro _ k hk; rw [show k = 0 by omega]; exact Int.le_refl _
  | succ n ih =>
    intro hn k hk
    rw [sg_s]
    have q := h n (by omega)
    by_cases w : k = n + 1
    · rw [w, sg_s]
      exact Int.le_refl _
    · have := ih (by omega) k (by omega)
      omega
theorem sg_mono : ∀ n, (∀ k, k < n → F k ≤ G k) → zsg F n ≤ zsg G n := by
  intro n
  induction n with
  | zero => intro _; exact Int.le_refl _
  | succ n ih =>
    intro h
    rw [sg_s, sg_s]
    have := ih (fun k hk => h k (by omega))
    have := h n (by omega)
    omega
/-- the queue's sum is one by numbers -/
theorem Fq_sum (h : zFQ a) (F : Nat → Int) : zsg (fun j => F (a 76 j).toNatClampNeg) (a 75 4).toInt.toNat = zsg (fun n => if a 77 n ≠ 0 then F n else 0) 512 := by
  have key : ∀ M : Nat, M ≤ 512 → zsg (fun j => if (a 76 j).toNatClampNeg < M then F (a 76 j).toNatClampNeg else 0) (a 75 4).toInt.toNat = zsg (fun n => if a 77 n ≠ 0 then F n else 0) M := by
    intro M
    induction M with
    | zero =>
      intro _
      exact sg_0 _ (fun k hk => if_neg (by omega))
    | succ M ih =>
      intro hM
      rw [sg_s, ← ih (by omega)]
      have e : zsg (fun j => if (a 76 j).toNatClampNeg < M + 1 then F (a 76 j).toNatClampNeg else 0) (a 75 4).toInt.toNat = zsg (fun j => (if (a 76 j).toNatClampNeg < M then F (a 76 j).toNatClampNeg else 0) + (if (a 76 j).toNatClampNeg = M then F M else 0)) (a 75 4).toInt.toNat := by
        refine sg_cg _ (fun k hk => ?_)
        by_cases c1 : (a 76 k).toNatClampNeg < M
        · rw [if_pos (by omega), if_pos c1, if_neg (by omega), Int.add_zero]
        · rw [if_neg c1, Int.zero_add]
          by_cases c2 : (a 76 k).toNatClampNeg = M
          · rw [if_pos (by omega), if_pos c2, c2]
          · rw [if_neg (by omega), if_neg c2]
      rw [e, sg_ad]
      have key2 : zsg (fun j => if (a 76 j).toNatClampNeg = M then F M else 0) (a 75 4).toInt.toNat = if a 77 M ≠ 0 then F M else 0 := by
        by_cases w : a 77 M ≠ 0
        · obtain ⟨j, hj, ej⟩ := h.2.2.1 M (by omega) w
          have em : (a 76 j).toNatClampNeg = M := by rw [ej, tn_of (by omega)]
          rw [if_pos w, sg_1 _ j (by omega) (fun i hi hne => if_neg (fun z => ?_)), if_pos em]
          have qi := h.1 i (by omega)
          have e2 : a 76 i = a 76 j := by
            rw [ej, ← z]
            exact (ofN_tn qi.1).symm
          by_cases lt : i < j
          · exact h.2.1 i j lt (by omega) e2
          · exact h.2.1 j i (by omega) (by omega) e2.symm
        · rw [if_neg w]
          refine sg_0 _ (fun k hk => if_neg (fun z => w ?_))
          have q := (h.1 k (by omega)).2.2.1
          rw [z] at q
          exact q
      rw [key2]
  rw [← key 512 (Nat.le_refl _)]
  refine sg_cg _ (fun k hk => ?_)
  have q := h.1 k (by omega)
  have t := tn_cast q.1
  exact (if_pos (by omega)).symm
theorem gMf_y (h : hQc a j) : gMf (f + 1) j a = gMf f (j + 1) (gM1 a (a 76 j).toNatClampNeg) := if_pos h
theorem gMf_n (h : ¬ hQc a j) : gMf (f + 1) j a = gMf f (j + 1) a := if_neg h
/-- where the next one goes -/
def gTo (a : Nat → Nat → Int32) (n : Nat) : Int32 := if (a 87 11).toInt ≤ (a 131 n + 1).toInt then a 87 10 else a 87 4
theorem Jg_nx (h : qJg a st ot o0 P N j) (hj : (j : Int) < (a 75 4).toInt) : hQc a j ∧ qMv a (a 76 j).toNatClampNeg (gTo a (a 76 j).toNatClampNeg) ∧ qFr a (a 76 j).toNatClampNeg (gTo a (a 76 j).toNatClampNeg) ∧ (0 ≤ (gTo a (a 76 j).toNatClampNeg).toInt ∧ (gTo a (a 76 j).toNatClampNeg).toInt + (a 128 (a 76 j).toNatClampNeg).toInt ≤ (a 87 0).toInt) ∧ xAl a (a 76 j).toNatClampNeg ∧ (a 131 (a 76 j).toNatClampNeg + 1).toInt = (a 131 (a 76 j).toNatClampNeg).toInt + 1 ∧ (1 ≤ (a 128 (a 76 j).toNatClampNeg).toInt ∧ (a 128 (a 76 j).toNatClampNeg).toInt ≤ 61) ∧ (a 87 9).toInt ≤ (a 130 (a 76 j).toNatClampNeg).toInt ∧ (((a 87 11).toInt ≤ (a 131 (a 76 j).toNatClampNeg).toInt + 1 ∧ P j = (a 128 (a 76 j).toNatClampNeg).toInt ∧ N j = 0 ∧ (a 87 10).toInt + (a 128 (a 76 j).toNatClampNeg).toInt ≤ (a 87 9).toInt ∧ gTo a (a 76 j).toNatClampNeg = a 87 10) ∨ (¬ (a 87 11).toInt ≤ (a 131 (a 76 j).toNatClampNeg).toInt + 1 ∧ P j = 0 ∧ N j = (a 128 (a 76 j).toNatClampNeg).toInt ∧ (a 87 4).toInt + (a 128 (a 76 j).toNatClampNeg).toInt ≤ st + (a 87 5).toInt ∧ st ≤ (a 87 4).toInt ∧ gTo a (a 76 j).toNatClampNeg = a 87 4)) := by
  obtain ⟨hI, hF, h2, nm, hs, hO, hT, hl, hp, hu, hd, ha⟩ := h
  have al := (FQ_al hF hj).1
  have no := In_no hF hj
  have f := hF.1 j hj
  have i := hI.1 _ al
  have v := ha _ al
  have u := hu j (Nat.le_refl _) hj
  have b4 := hI.2.2.2.1.2.2.1
  have lP := sg_le (m := (a 75 4).toInt.toNat) (F := P) (fun i hi => (hp i (by omega)).1) (a 75 4).toInt.toNat (Nat.le_refl _) (j + 1) (by omega)
  have lN := sg_le (m := (a 75 4).toInt.toNat) (F := N) (fun i hi => (hp i (by omega)).2) (a 75 4).toInt.toNat (Nat.le_refl _) (j + 1) (by omega)
  have l0P := sg_le (m := (a 75 4).toInt.toNat) (F := P) (fun i hi => (hp i (by omega)).1) j (by omega) 0 (by omega)
  have l0N := sg_le (m := (a 75 4).toInt.toNat) (F := N) (fun i hi => (hp i (by omega)).2) j (by omega) 0 (by omega)
  have z0P : zsg P 0 = 0 := rfl
  have z0N : zsg N 0 = 0 := rfl
  rw [sg_s] at lP lN
  have e1 : (a 131 (a 76 j).toNatClampNeg + 1).toInt = (a 131 (a 76 j).toNatClampNeg).toInt + 1 := i_p1 (by omega)
  have yo : (a 87 9).toInt ≤ (a 130 (a 76 j).toNatClampNeg).toInt := by omega
  have ot0 : ∀ m, xAl a m → m ≠ (a 76 j).toNatClampNeg → (a 87 9).toInt ≤ (a 130 m).toInt → (st ≤ (a 130 m).toInt ∧ (a 130 m).toInt + (a 128 m).toInt ≤ (a 87 4).toInt) ∨ (ot ≤ (a 130 m).toInt ∧ (a 130 m).toInt + (a 128 m).toInt ≤ ot + (a 87 5).toInt) := fun m hm hne hy => by
    rcases ((ha m hm).2.2 hy).2.2 with w | w
    · exact Or.inl w.2
    · obtain ⟨q, hq, eq⟩ := w.2
      have jq : j ≤ q := by
        by_cases lt : q < j
        · exact absurd ⟨q, lt, eq⟩ w.1
        · omega
      have z := (hu q jq (by omega)).2.2
      rw [eq, tn_of hm.1] at z
      exact Or.inr z
  unfold gTo
  by_cases w : (a 87 11).toInt ≤ (a 131 (a 76 j).toNatClampNeg).toInt + 1
  · have Pj : P j = (a 128 (a 76 j).toNatClampNeg).toInt := u.1.trans (if_pos w)
    have Nj : N j = 0 := u.2.1.trans (if_pos w)
    rw [if_pos (by omega)]
    refine ⟨⟨f.1, f.2.1, f.2.2.2⟩, ⟨by omega, by omega, by omega, by omega, by omega, by omega⟩, fun m hm hne => ?_, by omega, al, e1, i.2.1, yo, Or.inl ⟨w, Pj, Nj, by omega, rfl⟩⟩
    by_cases q : (a 130 m).toInt < (a 87 9).toInt
    · exact Or.inr ((ha m hm).2.1 q)
    · exact Or.inl (by omega)
  · have Pj : P j = 0 := u.1.trans (if_neg w)
    have Nj : N j = (a 128 (a 76 j).toNatClampNeg).toInt := u.2.1.trans (if_neg w)
    rw [if_neg (by omega)]
    refine ⟨⟨f.1, f.2.1, f.2.2.2⟩, ⟨by omega, by omega, by omega, by omega, by omega, by omega⟩, fun m hm hne => ?_, by omega, al, e1, i.2.1, yo, Or.inr ⟨w, Pj, Nj, by omega, by omega, rfl⟩⟩
    by_cases q : (a 130 m).toInt < (a 87 9).toInt
    · have z := (ha m hm).2.1 q
      exact Or.inr (by omega)
    · rcases ot0 m hm hne (by omega) with z | z
      · exact Or.inr (by omega)
      · omega
theorem gM1_r (h1 : c ≠ 71) (h2 : c ≠ 130) (h3 : c ≠ 131) (h4 : c ≠ 87) : gM1 a n c = a c := funext (fun k => by
  unfold gM1
  split
  · rw [xu_o (fun w => h4 w.1), Mo_r h1 h2, xu_o (fun w => h3 w.1)]
  · rw [xu_o (fun w => h4 w.1), Mo_r h1 h2, xu_o (fun w => h3 w.1)])
theorem gM1_7 (h1 : k ≠ 4) (h2 : k ≠ 10) : gM1 a n 87 k = a 87 k := by
  unfold gM1
  split
  · rw [xu_o (fun w => h2 w.2), Mo_r (by decide) (by decide), xu_o (by omega)]
  · rw [xu_o (fun w => h1 w.2), Mo_r (by decide) (by decide), xu_o (by omega)]
theorem gM1_p : gM1 a n 130 n = gTo a n ∧ (∀ m, m ≠ n → gM1 a n 130 m = a 130 m) ∧ gM1 a n 131 n = a 131 n + 1 ∧ ∀ m, m ≠ n → gM1 a n 131 m = a 131 m := by
  unfold gM1 gTo
  by_cases w : (a 87 11).toInt ≤ (a 131 n + 1).toInt
  · rw [if_pos w, if_pos w]
    exact ⟨by rw [xu_o (by omega), Mo_pn], fun m hm => by rw [xu_o (by omega), Mo_po hm, xu_o (by omega)], by rw [xu_o (by omega), Mo_r (by decide) (by decide), xu_s], fun m hm => by rw [xu_o (by omega), Mo_r (by decide) (by decide), xu_o (fun z => hm z.2)]⟩
  · rw [if_neg w, if_neg w]
    exact ⟨by rw [xu_o (by omega), Mo_pn], fun m hm => by rw [xu_o (by omega), Mo_po hm, xu_o (by omega)], by rw [xu_o (by omega), Mo_r (by decide) (by decide), xu_s], fun m hm => by rw [xu_o (by omega), Mo_r (by decide) (by decide), xu_o (fun z => hm z.2)]⟩
theorem I_131 (h : qI a) : qI (ma_u a 131 n x) := I_cg h (un (by decide)) (un (by decide)) (un (by decide)) (un (by decide)) (un (by decide)) (un (by decide)) (fun j => un (by omega))
theorem gM1_I (hI : qI a) (al : xAl a n) (h0 : 0 ≤ (gTo a n).toInt) (h1 : (gTo a n).toInt + (a 128 n).toInt ≤ (a 87 0).toInt) (F : qFr a n (gTo a n)) (h2 : a 87 2 = 0) : qI (gM1 a n) := by
  have r : ∀ c, c ≠ 131 → ma_u a 131 n (a 131 n + 1) c = a c := fun c hc => ma_u_ne _ _ _ hc
  have q := I_mo (to := gTo a n) (I_131 (n := n) (x := a 131 n + 1) hI) (n := n) (by unfold xAl; rw [r 126 (by decide)]; exact al) h0 (by rw [r 128 (by decide), r 87 (by decide)]; exact h1) (fun m hm hne => by
    unfold xAl at hm
    rw [r 126 (by decide)] at hm
    rw [r 128 (by decide), r 130 (by decide)]
    exact F m hm hne) (by rw [r 87 (by decide), h2]; rfl)
  unfold gTo at q
  unfold gM1
  by_cases w : (a 87 11).toInt ≤ (a 131 n + 1).toInt
  · rw [if_pos w] at q ⊢
    exact I_87k q (by decide) (by decide) (by decide)
  · rw [if_neg w] at q ⊢
    exact I_87k q (by decide) (by decide) (by decide)
theorem gM1_rf (hI : qI a) (al : xAl a n) (h0 : 0 ≤ (gTo a n).toInt) (h1 : (gTo a n).toInt + (a 128 n).toInt ≤ (a 87 0).toInt) (F : qFr a n (gTo a n)) {i : Int32} (hm : xAl a m) (i0 : 0 ≤ i.toInt) (i1 : i.toInt < (a 128 m).toInt - 1) : aRef (gM1 a n) m i = aRef a m i := by
  have r : ∀ c, c ≠ 131 → ma_u a 131 n (a 131 n + 1) c = a c := fun c hc => ma_u_ne _ _ _ hc
  have rr : ∀ c, c ≠ 131 → aMo (ma_u a 131 n (a 131 n + 1)) n (gTo a n) c = aMo a n (gTo a n) c := fun c hc => funext (fun k => by
    unfold aMo
    rw [r 128 (by decide), r 130 (by decide), r 71 (by decide), r c hc])
  have g : ∀ c, c ≠ 87 → c ≠ 131 → gM1 a n c = aMo a n (gTo a n) c := fun c h1 h2 => by
    rw [← rr c h2]
    unfold gM1 gTo
    by_cases w : (a 87 11).toInt ≤ (a 131 n + 1).toInt
    · rw [if_pos w, if_pos w, ma_u_ne _ _ _ h1]
    · rw [if_neg w, if_neg w, ma_u_ne _ _ _ h1]
  rw [show aRef (gM1 a n) m i = aRef (aMo a n (gTo a n)) m i from rf_cg (g _ (by omega) (by omega)) (g _ (by decide) (by decide)) (g _ (by decide) (by decide))]
  exact Mo_ref hI al h0 h1 F hm i0 i1
theorem Jg_go (h : qJg a st ot o0 P N j) (hj : (j : Int) < (a 75 4).toInt) : qJg (gM1 a (a 76 j).toNatClampNeg) st ot o0 P N (j + 1) := by
  have nx := Jg_nx h hj
  obtain ⟨hI, hF, h2, nm, hs, hO, hT, hl, hp, hu, hd, ha⟩ := h
  obtain ⟨_, _, F, ⟨t0, t1⟩, al, e1, sz, yo, cs⟩ := nx
  have no := In_no hF hj
  have tj := (FQ_al hF hj).2
  have gp := gM1_p (a := a) (n := (a 76 j).toNatClampNeg)
  have r75 : gM1 a (a 76 j).toNatClampNeg 75 = a 75 := gM1_r (by decide) (by decide) (by decide) (by decide)
  have r76 : gM1 a (a 76 j).toNatClampNeg 76 = a 76 := gM1_r (by decide) (by decide) (by decide) (by decide)
  have r77 : gM1 a (a 76 j).toNatClampNeg 77 = a 77 := gM1_r (by decide) (by decide) (by decide) (by decide)
  have r126 : gM1 a (a 76 j).toNatClampNeg 126 = a 126 := gM1_r (by decide) (by decide) (by decide) (by decide)
  have r128 : gM1 a (a 76 j).toNatClampNeg 128 = a 128 := gM1_r (by decide) (by decide) (by decide) (by decide)
  have r133 : gM1 a (a 76 j).toNatClampNeg 133 = a 133 := gM1_r (by decide) (by decide) (by decide) (by decide)
  have q7 : ∀ k, k ≠ 4 → k ≠ 10 → gM1 a (a 76 j).toNatClampNeg 87 k = a 87 k := fun k h4 h10 => gM1_7 h4 h10
  have ne : ∀ i : Nat, (i : Int) < (a 75 4).toInt → i ≠ j → (a 76 i).toNatClampNeg ≠ (a 76 j).toNatClampNeg := fun i hi hne w => by
    have ti := (FQ_al hF hi).2
    rw [w, tj] at ti
    by_cases lt : i < j
    · exact hF.2.1 i j lt hj ti.symm
    · exact hF.2.1 j i (by omega) hi ti
  have b9 := nm.2.1
  have b5 := nm.1
  have b0 := hI.2.2.2.1.2.2.1
  have t10 : (gM1 a (a 76 j).toNatClampNeg 87 10).toInt = (a 87 10).toInt + P j ∧ (gM1 a (a 76 j).toNatClampNeg 87 4).toInt = (a 87 4).toInt + N j := by
    unfold gM1
    rcases cs with ⟨w, c1, c2, c3, c4⟩ | ⟨w, c1, c2, c3, c4, c5⟩
    · rw [if_pos (by omega), xu_s, xu_o (by decide), Mo_r (by decide) (by decide), xu_o (by omega)]
      rw [c4] at t0
      rw [i_add (by omega) (by omega)]
      exact ⟨by omega, by omega⟩
    · rw [if_neg (by omega), xu_s, xu_o (by decide), Mo_r (by decide) (by decide), xu_o (by omega)]
      rw [c5] at t0
      rw [i_add (by omega) (by omega)]
      exact ⟨by omega, by omega⟩
  have pj := hp j hj
  have inn : ∀ k n, zIn (gM1 a (a 76 j).toNatClampNeg) k n ↔ zIn a k n := fun k n => by
    unfold zIn
    rw [r76]
  unfold qJg
  rw [r75, q7 2 (by decide) (by decide), q7 5 (by decide) (by decide), q7 9 (by decide) (by decide), q7 0 (by decide) (by decide), q7 11 (by decide) (by decide), q7 12 (by decide) (by decide), r76]
  refine ⟨gM1_I hI al t0 t1 F h2, FQ_cg hF (congrFun r75 3) (congrFun r75 4) r76 (fun x _ => by rw [r77]) r126, h2, nm, hs, ⟨by rw [sg_s]; omega, hO.2⟩, ⟨by rw [sg_s]; omega, hT.2⟩, by omega, hp, fun i hi hi2 => ?_, fun i hi => ?_, fun n hn => ?_⟩
  · have z := hu i (by omega) hi2
    have nn := ne i hi2 (by omega)
    unfold gPf gNf at z ⊢
    rw [q7 11 (by decide) (by decide), r76, gp.2.2.2 _ nn, r128, gp.2.1 _ nn]
    exact z
  · by_cases w : i = j
    · rw [w, gp.1, r128]
      rcases cs with ⟨w1, c1, c2, c3, c4⟩ | ⟨w1, c1, c2, c3, c4, c5⟩
      · rw [c4, if_neg (by omega)]
        exact c2
      · rw [c5, if_pos (by omega)]
        exact c2
    · have nn := ne i (by omega) w
      rw [gp.2.1 _ nn, r128]
      exact hd i (by omega)
  · unfold xAl at hn
    rw [r126] at hn
    have v := ha n hn
    rw [r128, r133]
    by_cases w : n = (a 76 j).toNatClampNeg
    · rw [w, gp.1, gp.2.2.1, e1]
      rw [w] at v
      have yv := v.2.2 yo
      rcases cs with ⟨w1, c1, c2, c3, c4⟩ | ⟨w1, c1, c2, c3, c4, c5⟩
      · rw [c4]
        exact ⟨by omega, fun _ => by omega, fun q => by omega⟩
      · rw [c5]
        refine ⟨by omega, fun q => by omega, fun q => ⟨yv.1, by omega, Or.inl ⟨(inn _ _).mpr (In_s.mpr (Or.inr (by rw [tj]))), by omega, by omega⟩⟩⟩
    · rw [gp.2.1 n w, gp.2.2.2 n w]
      refine ⟨v.1, fun q => by have := v.2.1 q; omega, fun q => ?_⟩
      have z := v.2.2 q
      refine ⟨z.1, z.2.1, ?_⟩
      rcases z.2.2 with y | y
      · exact Or.inl ⟨(inn _ _).mpr (In_s.mpr (Or.inl y.1)), y.2.1, by omega⟩
      · refine Or.inr ⟨fun s => ?_, (inn _ _).mpr y.2⟩
        rcases In_s.mp ((inn _ _).mp s) with s | s
        · exact y.1 s
        · exact w (by rw [s, tn_of hn.1])
theorem gMf_J : ∀ (f j : Nat) (a : Nat → Nat → Int32), qJg a st ot o0 P N j → (j : Int) + f = (a 75 4).toInt → qJg (gMf f j a) st ot o0 P N (j + f) := by
  intro f
  induction f with
  | zero => intro j a h _; exact h
  | succ f ih =>
    intro j a h e
    have nx := Jg_nx h (by omega)
    rw [gMf_y nx.1, show j + (f + 1) = (j + 1) + f from by omega]
    exact ih _ _ (Jg_go h (by omega)) (by rw [gM1_r (by decide) (by decide) (by decide) (by decide)]; omega)
end F25
