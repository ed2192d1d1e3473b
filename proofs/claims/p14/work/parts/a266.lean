/-! from 95.u14 -/
/-! AGES, the class (written by wip/tools/gen15y.py) -/
/-! AGES: the minor cleaning, who is left -/
section F24
variable {a b : Nat → Nat → Int32} {y i x : Int32} {m k n u f : Nat} {p e : Int}
theorem hf_5 : ∀ (f : Nat) (n : Int32) (a : Nat → Nat → Int32), aHf f n a 75 5 = a 75 5 := by
  intro f
  induction f with
  | zero => intro n a; rfl
  | succ f ih =>
    intro n a
    show aHf f (n + 1) (if _ then aCm a n else a) 75 5 = a 75 5
    rw [ih]
    split
    · exact aCm_5
    · rfl
theorem wf_5 : ∀ (f : Nat) (n : Int32) (a : Nat → Nat → Int32), aWf f n a 75 5 = a 75 5 := by
  intro f
  induction f with
  | zero => intro n a; exact hf_5 _ _ _
  | succ f ih =>
    intro n a
    show aWf f (n + 1) (aCm a (a 74 n.toNatClampNeg)) 75 5 = a 75 5
    rw [ih, aCm_5]
theorem rf_5 : ∀ (f : Nat) (n : Int32) (a : Nat → Nat → Int32), aRf f n a 75 5 = a 75 5 := by
  intro f
  induction f with
  | zero => intro n a; exact wf_5 _ _ _
  | succ f ih =>
    intro n a
    show aRf f (n + 1) (aCm a (a 72 n.toNatClampNeg)) 75 5 = a 75 5
    rw [ih, aCm_5]
theorem ro_5 : aRo a 0 75 5 = a 75 5 := rf_5 _ _ _
def gB1 (a : Nat → Nat → Int32) : Nat → Nat → Int32 := aRo (aPc (aWh a (a 87 9))) 0
def gB2 (a : Nat → Nat → Int32) : Nat → Nat → Int32 := gDp (gB1 a) (a 87 10).toInt 0
def gB3 (a : Nat → Nat → Int32) : Nat → Nat → Int32 := aSp 512 (gB2 a)
theorem Kp_b (h : 0 ≤ (a 87 9).toInt) : aPc (gKp a) = aGw (gB3 a) 0 := by
  have h0 : 0 ≤ (aWh a (a 87 9) 75 5).toInt := by
    rw [wh_5]
    exact h
  have h1 : 0 ≤ (aRo (aWh a (a 87 9)) 0 75 5).toInt := by
    rw [ro_5]
    exact h0
  have h2 : 0 ≤ (gDp (aRo (aWh a (a 87 9)) 0) (a 87 10).toInt 0 75 5).toInt := by
    unfold gDp
    rw [df_5]
    exact h1
  have h3 : 0 ≤ (aSp 512 (gDp (aRo (aWh a (a 87 9)) 0) (a 87 10).toInt 0) 75 5).toInt := by
    rw [sp_5]
    exact h2
  unfold gKp gB3 gB2 gB1
  rw [Pc_gw h3, Pc_sp _ _ h2, Pc_dp h1, Pc_ro h0]
theorem B3_all (h : qAv a) : qE0 (gB3 a) ∧ zOf a (gB3 a) ∧ qCl (gB3 a) ∧ (∀ u, xAl a u → (a 130 u).toInt < (a 87 9).toInt → zNn (gB3 a) u) := by
  have hI := h.1
  have nm := h.2.2.1
  have g0 := WQ_pw (a := a) (x := a 87 9) (fun x hx => (hI.1 x hx).1.2)
  have o0 := g0.2.1
  have g1 := gr_ro g0.1 (by rw [← o0 69 6 (by decide) (by decide) (by decide)]; exact hI.2.2.2.1.1.2) (by rw [← o0 69 5 (by decide) (by decide) (by decide)]; exact hI.2.2.2.1.2.1.2)
  have o1 : zOf a (gB1 a) := Of_tr o0 g1.2.1
  have g2 := gq_df (e := (a 87 10).toInt) ((a 87 10).toInt - 0).toNat (gB1 a) 0 g1.1
  have o2 : zOf a (gB2 a) := Of_tr o1 g2.2.1
  have s3 := E0_sp g2.1
  have o3 : zOf a (gB3 a) := Of_tr o2 s3.2
  have nn3 : ∀ u, zNn (gB2 a) u → zNn (gB3 a) u := fun u w => (sp_Nn g2.1).mpr (zM_in w)
  have old0 : ∀ u, xAl a u → (a 130 u).toInt < (a 87 9).toInt → zNn (gB3 a) u := fun u hu hp => nn3 u (g2.2.2.2 u ((g1.2.2.2.1 u).mpr (Or.inl ((g0.2.2.1 u).mpr ((g0.2.2.2 u).mpr ⟨hu, hp⟩)))))
  refine ⟨s3.1, o3, ⟨fun u hu hr => ?_, fun u y hn hu he => ?_⟩, old0⟩
  · have al : xAl a u := (Of_al o3).mp hu
    have r : ∀ c, c ≠ 75 → c ≠ 76 → c ≠ 77 → gB3 a c = a c := fun c q1 q2 q3 => funext (fun k => (o3 c k q1 q2 q3).symm)
    have r0 : ∀ c, c ≠ 75 → c ≠ 76 → c ≠ 77 → aPc (aWh a (a 87 9)) c = a c := fun c q1 q2 q3 => funext (fun k => (o0 c k q1 q2 q3).symm)
    refine nn3 u (g2.2.2.2 u ((g1.2.2.2.1 u).mpr (Or.inr ⟨(Of_al o0).mpr al, ?_⟩)))
    unfold zRl zWl at hr ⊢
    rw [r 72 (by decide) (by decide) (by decide), r 74 (by decide) (by decide) (by decide), r 69 (by decide) (by decide) (by decide)] at hr
    rw [r0 72 (by decide) (by decide) (by decide), r0 74 (by decide) (by decide) (by decide), r0 69 (by decide) (by decide) (by decide)]
    exact hr.elim Or.inl (fun w => Or.inr (Or.inl w))
  · have hm := (sp_Nn g2.1).mp hn
    have he2 : zEd (gB2 a) u y := (Of_ed s3.2).mp he
    by_cases d : zDn (gB2 a) u
    · have ou := (g0.2.2.2 u).mp ((g1.2.2.1 u).mp ((g2.2.2.1 u).mp d))
      obtain ⟨ay, i, i0, i1, ir⟩ := (Of_ed o3).mp he
      by_cases w : (a 130 y).toInt < (a 87 9).toInt
      · exact old0 y ay w
      · refine nn3 y ?_
        have t := tn_cast i0
        have ei : Int32.ofNat i.toNatClampNeg = i := ofN_tn i0
        have sz := (hI.1 u ou.1).2.1
        have pu := (h.2.2.2.2.2.2.1 u ou.1).2.1 ou.2
        have p0 := (hI.1 u ou.1).1.2
        have yt : (Int32.ofNat y).toNatClampNeg = y := tn_of ay.1
        have yi : (Int32.ofNat y).toInt = (y : Int) := Int32.toInt_ofNat_of_lt (by have := ay.1; omega)
        have dr := h.2.2.2.2.2.2.2 u ou.1 ou.2 i.toNatClampNeg (by omega) (by
          unfold gRw
          rw [ei, ir, yt, yi]
          exact ⟨by omega, by have := ay.1; omega, ay.2, by omega⟩)
        have cx : gCx a u (i.toNatClampNeg : Int) < 375 := by
          unfold gCx
          have c4 := nm.2.2.2.2
          have ol := nm.2.1
          have ot := h.2.2.2.2.2.1
          refine Int.ediv_lt_of_lt_mul (by omega) ?_
          have m4 : 375 * 4 ≤ 375 * (a 87 12).toInt := Int.mul_le_mul_of_nonneg_left c4 (by decide)
          omega
        have ob1 : ∀ c k, c ≠ 75 → c ≠ 76 → c ≠ 77 → gB1 a c k = a c k := fun c k q1 q2 q3 => (o1 c k q1 q2 q3).symm
        refine df_in ((a 87 10).toInt - 0).toNat (gB1 a) 0 (qI_of hI o1) g1.1 (Gd_0 (qI_of hI o1)) (by decide) (by have := h.2.2.2.2.2.1; have := nm.2.1; omega) (Nat.le_refl _) u ((Of_al o1).mpr ou.1) (by rw [ob1 130 u (by decide) (by decide) (by decide)]; exact p0) (by rw [ob1 130 u (by decide) (by decide) (by decide)]; omega) i.toNatClampNeg (by rw [ob1 128 u (by decide) (by decide) (by decide)]; omega) ?_ y ((Of_al o1).mpr ay) ?_
        · unfold gDy
          have cxe : gCx (gB1 a) u (i.toNatClampNeg : Int) = gCx a u (i.toNatClampNeg : Int) := by
            unfold gCx
            rw [ob1 130 u (by decide) (by decide) (by decide), ob1 87 12 (by decide) (by decide) (by decide)]
          rw [cxe, ob1 87 12 (by decide) (by decide) (by decide), ob1 83 _ (by decide) (by decide) (by decide)]
          exact ⟨by have := nm.2.2.2.2; omega, cx, dr⟩
        · rw [ei, ← ir]
          exact rf_cg (funext (fun k => ob1 _ k (by omega) (by omega) (by omega))) (funext (fun k => ob1 _ k (by decide) (by decide) (by decide))) (funext (fun k => ob1 _ k (by decide) (by decide) (by decide)))
    · exact (sp_Nn g2.1).mpr (zM_cl hm d he2)
theorem Kp_I (h : qAv a) : qI (aPc (gKp a)) ∧ qE0 (aPc (gKp a)) := by
  have b3 := B3_all h
  rw [Kp_b h.2.2.1.2.1.1]
  exact I_gf _ 0 _ (qI_of h.1 b3.2.1) b3.1
theorem Mi_b (h : qAv a) : aPc (gMk0 a) = aMv (aPc (gKp a)) 0 := by
  have e5 : 0 ≤ (gKp a 75 5).toInt := by
    unfold gKp aGw
    rw [gf_5, sp_5]
    unfold gDp
    rw [df_5, ro_5, wh_5]
    exact h.2.2.1.2.1.1
  exact Pc_mv e5
theorem Mi_md (h : qAv a) : qMd (aPc (gKp a)) (aPc (gMk0 a)) (aPc (gKp a) 69 6).toInt := by
  rw [Mi_b h]
  exact Md_mv (Kp_I h).1 (Kp_I h).2.1.2.2.2.2.2.1
theorem oPc : zOf (aPc b) b := fun c k q1 _ q3 => Pc_o q1 q3
theorem Mi_I (h : qAv a) : qI (gMk0 a) := by
  refine qI_of ?_ (oPc (b := gMk0 a))
  rw [Mi_b h]
  exact I_mv (Kp_I h).1 (Kp_I h).2.1.2.2.2.2.2.1
theorem Kp_r (h1 : k ≠ 69) (h2 : k ≠ 73) (h3 : k ≠ 74) (h4 : k ≠ 134) (h5 : k ≠ 75) (h6 : k ≠ 76) (h7 : k ≠ 77) : gKp a k = a k := funext (fun j => by
  unfold gKp aGw
  rw [Gf_r h1 h2 h3 h4 h5 h6 h7, aSp_o ⟨h5, h6, h7⟩]
  have d : ∀ (f : Nat) (b : Nat → Nat → Int32) (p e : Int), gDf e f b p k j = b k j := by
    intro f
    induction f with
    | zero => intro b p e; rfl
    | succ f ih =>
      intro b p e
      by_cases c : p < e
      · by_cases q : (zOb b p).toInt < 0
        · rw [gDf_fr c q, ih]
        · rw [gDf_go c (by omega), ih, gDw_o ⟨h5, h6, h7⟩]
      · rw [gDf_e c]
  unfold gDp
  rw [d, aRo_o ⟨h5, h6, h7⟩]
  exact (wh_of (a := a) k j h5 h6 h7).symm)
theorem Kp_7 : gKp a 75 5 = a 87 9 := by
  unfold gKp aGw
  rw [gf_5, sp_5]
  unfold gDp
  rw [df_5, ro_5, wh_5]
theorem Mi_al (h : qAv a) : xAl (gMk0 a) n ↔ xAl a n ∧ ((a 130 n).toInt < (a 87 9).toInt ∨ gKp a 77 n ≠ 0) := by
  have md := Md_al (n := n) (Kp_I h).1 (Mi_md h)
  have r6 : gKp a 126 = a 126 := Kp_r (by decide) (by decide) (by decide) (by decide) (by decide) (by decide) (by decide)
  have r13 : gKp a 130 = a 130 := Kp_r (by decide) (by decide) (by decide) (by decide) (by decide) (by decide) (by decide)
  have al : xAl (gKp a) n ↔ xAl a n := by
    unfold xAl
    rw [r6]
  rw [← Pc_al (a := gMk0 a), md, Pc_al, al]
  constructor
  · rintro ⟨w1, w2⟩
    refine ⟨w1, ?_⟩
    by_cases d : (a 130 n).toInt < (a 87 9).toInt
    · exact Or.inl d
    · refine Or.inr ?_
      rw [Pc_7y (fun z => d ?_)] at w2
      · exact w2
      · have z2 := z.2.2
        rw [r13, Kp_7] at z2
        exact z2
  · rintro ⟨w1, w2⟩
    refine ⟨w1, ?_⟩
    by_cases d : (a 130 n).toInt < (a 87 9).toInt
    · rw [Pc_7o w1.1 (by rw [r6]; exact w1.2) (by rw [r13, Kp_7]; exact d)]
      decide
    · rw [Pc_7y (fun z => d ?_)]
      · exact w2.elim (fun q => absurd q d) id
      · have z2 := z.2.2
        rw [r13, Kp_7] at z2
        exact z2
theorem Mi_f (h : qAv a) (hn : xAl (gMk0 a) n) : (∀ f, 126 ≤ f → f < 1000 → f ≠ 134 → gMk0 a f n = a f n) ∧ gMk0 a (1000 + n) = a (1000 + n) ∧ ∀ p : Nat, (a 130 n).toInt ≤ (p : Int) → (p : Int) < (a 130 n).toInt + (a 128 n).toInt → gMk0 a 71 p = a 71 p := by
  have md := (Md_al (n := n) (Kp_I h).1 (Mi_md h)).mp (Pc_al.mpr hn)
  have q := Md_f (Mi_md h) hn.1 md.2
  have kr : ∀ c, c ≠ 69 → c ≠ 73 → c ≠ 74 → c ≠ 134 → c ≠ 75 → c ≠ 76 → c ≠ 77 → gKp a c = a c := fun c h1 h2 h3 h4 h5 h6 h7 => Kp_r h1 h2 h3 h4 h5 h6 h7
  refine ⟨fun f h1 h2 h3 => ?_, ?_, fun p h1 h2 => ?_⟩
  · have z := q.1 f h1 h2
    rw [Pc_o (by omega) (by omega), Pc_o (by omega) (by omega), kr f (by omega) (by omega) (by omega) h3 (by omega) (by omega) (by omega)] at z
    exact z
  · have z := q.2
    rw [Pc_r (by omega) (by omega), Pc_r (by omega) (by omega), kr (1000 + n) (by omega) (by omega) (by omega) (by omega) (by omega) (by omega) (by omega)] at z
    exact z
  · have z := Md_w (Kp_I h).1 (Mi_md h) md.1 md.2 (p := p) (by rw [Pc_o (by decide) (by decide), kr 130 (by decide) (by decide) (by decide) (by decide) (by decide) (by decide) (by decide)]; exact h1) (by rw [Pc_o (c := 130) (by decide) (by decide), Pc_o (c := 128) (by decide) (by decide), kr 130 (by decide) (by decide) (by decide) (by decide) (by decide) (by decide) (by decide), kr 128 (by decide) (by decide) (by decide) (by decide) (by decide) (by decide) (by decide)]; exact h2)
    rw [Pc_o (by decide) (by decide), Pc_o (by decide) (by decide), kr 71 (by decide) (by decide) (by decide) (by decide) (by decide) (by decide) (by decide)] at z
    exact z
theorem Mi_8 (h : 82 ≤ k ∧ k ≤ 93) : gMk0 a k = a k := funext (fun j => by
  unfold gMk0
  rw [show aMv (gKp a) 0 k j = gKp a k j from mf_9 h _ _ _, Kp_r (by omega) (by omega) (by omega) (by omega) (by omega) (by omega) (by omega)])
theorem Mi_w (h : k = 75 ∨ k = 76 ∨ k = 77) : gMk0 a k = gKp a k := funext (fun j => by
  have mf : ∀ (f : Nat) (x : Int32) (b : Nat → Nat → Int32), aMf f x b k j = b k j := by
    intro f
    induction f with
    | zero => intro x b; rfl
    | succ f ih =>
      intro x b
      by_cases w : aMc b x
      · rw [aMf_y w, ih, aRm_o (by omega) ⟨by omega, by omega, by omega, by omega⟩]
      · rw [aMf_n w, ih]
  exact mf _ _ _)
/-- the queue: each once, YOUNG, there; who is YOUNG and there is in it -/
theorem Mi_FY (h : qAv a) : zFQ (gMk0 a) ∧ (∀ n, n < 512 → gMk0 a 77 n ≠ 0 → xAl (gMk0 a) n ∧ (a 87 9).toInt ≤ (a 130 n).toInt) ∧ ∀ n, xAl (gMk0 a) n → (a 87 9).toInt ≤ (a 130 n).toInt → gMk0 a 77 n ≠ 0 := by
  have fy := FY_kp (a := a)
  have e5 := Mi_w (a := a) (k := 75) (by decide)
  have e6 := Mi_w (a := a) (k := 76) (by decide)
  have e7 := Mi_w (a := a) (k := 77) (by decide)
  have r13 : gKp a 130 = a 130 := Kp_r (by decide) (by decide) (by decide) (by decide) (by decide) (by decide) (by decide)
  have r6 : gKp a 126 = a 126 := Kp_r (by decide) (by decide) (by decide) (by decide) (by decide) (by decide) (by decide)
  have yg : ∀ n, n < 512 → gKp a 77 n ≠ 0 → (a 87 9).toInt ≤ (a 130 n).toInt := fun n hn w => by
    have q := fy.2 n hn w
    rw [Kp_7, r13] at q
    exact q
  have al : ∀ n, n < 512 → a 126 n ≠ 0 → gKp a 77 n ≠ 0 → xAl (gMk0 a) n := fun n hn h6 w => (Mi_al h).mpr ⟨⟨hn, h6⟩, Or.inr w⟩
  have a6 : ∀ n, n < 512 → gKp a 77 n ≠ 0 → a 126 n ≠ 0 := fun n hn w => by
    obtain ⟨j, j1, j2⟩ := fy.1.2.2.1 n hn w
    have q := (fy.1.1 j j1).2.2.2
    rw [j2, tn_of hn, r6] at q
    exact q
  refine ⟨?_, fun n hn w => ?_, fun n hn w => ?_⟩
  · have q := fy.1
    unfold zFQ at q ⊢
    rw [e5, e6, e7]
    refine ⟨fun j hj => ?_, q.2⟩
    have z := q.1 j hj
    have t := tn_cast z.1
    exact ⟨z.1, z.2.1, z.2.2.1, (al _ (by omega) (a6 _ (by omega) z.2.2.1) z.2.2.1).2⟩
  · rw [e7] at w
    exact ⟨al n hn (a6 n hn w) w, yg n hn w⟩
  · rw [e7]
    exact ((Mi_al h).mp hn).2.elim (fun q => by omega) id
end F24

/-! from 95.u15 -/
/-! AGES, the class (written by wip/tools/gen15y.py) -/
/-! AGES: those that are kept grow older and move -/
def gPf (a : Nat → Nat → Int32) (j : Nat) : Int := if (a 87 11).toInt ≤ (a 131 (a 76 j).toNatClampNeg).toInt + 1 then (a 128 (a 76 j).toNatClampNeg).toInt else 0
def gNf (a : Nat → Nat → Int32) (j : Nat) : Int := if (a 87 11).toInt ≤ (a 131 (a 76 j).toNatClampNeg).toInt + 1 then 0 else (a 128 (a 76 j).toNatClampNeg).toInt
def qJg (a : Nat → Nat → Int32) (st ot o0 : Int) (P N : Nat → Int) (j : Nat) : Prop :=
  qI a ∧ zFQ a ∧ a 87 2 = 0 ∧ ((0 ≤ (a 87 5).toInt ∧ (a 87 5).toInt ≤ 1500) ∧ (0 ≤ (a 87 9).toInt ∧ (a 87 9).toInt ≤ 1500) ∧ (a 87 0).toInt = (a 87 9).toInt + 2 * (a 87 5).toInt ∧ (1 ≤ (a 87 11).toInt ∧ (a 87 11).toInt ≤ 1000) ∧ 4 ≤ (a 87 12).toInt) ∧ ((st = (a 87 9).toInt ∧ ot = (a 87 9).toInt + (a 87 5).toInt) ∨ (st = (a 87 9).toInt + (a 87 5).toInt ∧ ot = (a 87 9).toInt)) ∧
  ((a 87 10).toInt = o0 + zsg P j ∧ 0 ≤ o0 ∧ o0 + zsg P (a 75 4).toInt.toNat ≤ (a 87 9).toInt) ∧ ((a 87 4).toInt = st + zsg N j ∧ zsg N (a 75 4).toInt.toNat ≤ (a 87 5).toInt) ∧ (j : Int) ≤ (a 75 4).toInt ∧
  (∀ i : Nat, (i : Int) < (a 75 4).toInt → 0 ≤ P i ∧ 0 ≤ N i) ∧
  (∀ i : Nat, j ≤ i → (i : Int) < (a 75 4).toInt → P i = gPf a i ∧ N i = gNf a i ∧ (ot ≤ (a 130 (a 76 i).toNatClampNeg).toInt ∧ (a 130 (a 76 i).toNatClampNeg).toInt + (a 128 (a 76 i).toNatClampNeg).toInt ≤ ot + (a 87 5).toInt)) ∧
  (∀ i : Nat, i < j → N i = if (a 87 9).toInt ≤ (a 130 (a 76 i).toNatClampNeg).toInt then (a 128 (a 76 i).toNatClampNeg).toInt else 0) ∧
  ∀ n, xAl a n → (0 ≤ (a 131 n).toInt ∧ (a 131 n).toInt ≤ (a 87 11).toInt) ∧ ((a 130 n).toInt < (a 87 9).toInt → (a 130 n).toInt + (a 128 n).toInt ≤ (a 87 10).toInt) ∧ ((a 87 9).toInt ≤ (a 130 n).toInt → a 133 n = 0 ∧ (a 131 n).toInt < (a 87 11).toInt ∧ ((zIn a j n ∧ st ≤ (a 130 n).toInt ∧ (a 130 n).toInt + (a 128 n).toInt ≤ (a 87 4).toInt) ∨ (¬ zIn a j n ∧ zIn a (a 75 4).toInt.toNat n)))
section F25
variable {a b : Nat → Nat → Int32} {st ot o0 : Int} {P N F G : Nat → Int} {j k n m f c : Nat} {to x : Int32}
theorem sg_s : zsg F (n + 1) = zsg F n + F n := rfl
theorem sg_le (h : ∀ i, i < m → 0 ≤ F i) : ∀ n, n ≤ m → ∀ k, k ≤ n → zsg F k ≤ zsg F n := by
  intro n
  induction n with
  | zero => intro _ k hk; rw [show k = 0 by omega]; exact Int.le_refl _
  | succ n ih =>
    intro hn k hk
    rw [sg_s]
    have q := h n (by omega)
    by_cases w : k = n + 1
    · rw [w, sg_s]
      exact Int.le_refl _
    · have := ih (by omega) k (by omega)
      omega
theorem sg_mono : ∀ n, (∀ k, k < n → F k ≤ G k) → zsg F n ≤ zsg G n := by
  intro n
  induction n with
  | zero => intro _; exact Int.le_refl _
  | succ n ih =>
    intro h
    rw [sg_s, sg_s]
    have := ih (fun k hk => h k (by omega))
    have := h n (by omega)
    omega
/-- the queue's sum is one by numbers -/
theorem Fq_sum (h : zFQ a) (F : Nat → Int) : zsg (fun j => F (a 76 j).toNatClampNeg) (a 75 4).toInt.toNat = zsg (fun n => if a 77 n ≠ 0 then F n else 0) 512 := by
  have key : ∀ M : Nat, M ≤ 512 → zsg (fun j => if (a 76 j).toNatClampNeg < M then F (a 76 j).toNatClampNeg else 0) (a 75 4).toInt.toNat = zsg (fun n => if a 77 n ≠ 0 then F n else 0) M := by
    intro M
    induction M with
    | zero =>
      intro _
      exact sg_0 _ (fun k hk => if_neg (by omega))
    | succ M ih =>
      intro hM
      rw [sg_s, ← ih (by omega)]
      have e : zsg (fun j => if (a 76 j).toNatClampNeg < M + 1 then F (a 76 j).toNatClampNeg else 0) (a 75 4).toInt.toNat = zsg (fun j => (if (a 76 j).toNatClampNeg < M then F (a 76 j).toNatClampNeg else 0) + (if (a 76 j).toNatClampNeg = M then F M else 0)) (a 75 4).toInt.toNat := by
        refine sg_cg _ (fun k hk => ?_)
        by_cases c1 : (a 76 k).toNatClampNeg < M
        · rw [if_pos (by omega), if_pos c1, if_neg (by omega), Int.add_zero]
        · rw [if_neg c1, Int.zero_add]
          by_cases c2 : (a 76 k).toNatClampNeg = M
          · rw [if_pos (by omega), if_pos c2, c2]
          · rw [if_neg (by omega), if_neg c2]
      rw [e, sg_ad]
      have key2 : zsg (fun j => if (a 76 j).toNatClampNeg = M then F M else 0) (a 75 4).toInt.toNat = if a 77 M ≠ 0 then F M else 0 := by
        by_cases w : a 77 M ≠ 0
        · obtain ⟨j, hj, ej⟩ := h.2.2.1 M (by omega) w
          have em : (a 76 j).toNatClampNeg = M := by rw [ej, tn_of (by omega)]
          rw [if_pos w, sg_1 _ j (by omega) (fun i hi hne => if_neg (fun z => ?_)), if_pos em]
          have qi := h.1 i (by omega)
          have e2 : a 76 i = a 76 j := by
            rw [ej, ← z]
            exact (ofN_tn qi.1).symm
          by_cases lt : i < j
          · exact h.2.1 i j lt (by omega) e2
          · exact h.2.1 j i (by omega) (by omega) e2.symm
        · rw [if_neg w]
          refine sg_0 _ (fun k hk => if_neg (fun z => w ?_))
          have q := (h.1 k (by omega)).2.2.1
          rw [z] at q
          exact q
      rw [key2]
  rw [← key 512 (Nat.le_refl _)]
  refine sg_cg _ (fun k hk => ?_)
  have q := h.1 k (by omega)
  have t := tn_cast q.1
  exact (if_pos (by omega)).symm
theorem gMf_y (h : hQc a j) : gMf (f + 1) j a = gMf f (j + 1) (gM1 a (a 76 j).toNatClampNeg) := if_pos h
theorem gMf_n (h : ¬ hQc a j) : gMf (f + 1) j a = gMf f (j + 1) a := if_neg h
/-- where the next one goes -/
def gTo (a : Nat → Nat → Int32) (n : Nat) : Int32 := if (a 87 11).toInt ≤ (a 131 n + 1).toInt then a 87 10 else a 87 4
theorem Jg_nx (h : qJg a st ot o0 P N j) (hj : (j : Int) < (a 75 4).toInt) : hQc a j ∧ qMv a (a 76 j).toNatClampNeg (gTo a (a 76 j).toNatClampNeg) ∧ qFr a (a 76 j).toNatClampNeg (gTo a (a 76 j).toNatClampNeg) ∧ (0 ≤ (gTo a (a 76 j).toNatClampNeg).toInt ∧ (gTo a (a 76 j).toNatClampNeg).toInt + (a 128 (a 76 j).toNatClampNeg).toInt ≤ (a 87 0).toInt) ∧ xAl a (a 76 j).toNatClampNeg ∧ (a 131 (a 76 j).toNatClampNeg + 1).toInt = (a 131 (a 76 j).toNatClampNeg).toInt + 1 ∧ (1 ≤ (a 128 (a 76 j).toNatClampNeg).toInt ∧ (a 128 (a 76 j).toNatClampNeg).toInt ≤ 61) ∧ (a 87 9).toInt ≤ (a 130 (a 76 j).toNatClampNeg).toInt ∧ (((a 87 11).toInt ≤ (a 131 (a 76 j).toNatClampNeg).toInt + 1 ∧ P j = (a 128 (a 76 j).toNatClampNeg).toInt ∧ N j = 0 ∧ (a 87 10).toInt + (a 128 (a 76 j).toNatClampNeg).toInt ≤ (a 87 9).toInt ∧ gTo a (a 76 j).toNatClampNeg = a 87 10) ∨ (¬ (a 87 11).toInt ≤ (a 131 (a 76 j).toNatClampNeg).toInt + 1 ∧ P j = 0 ∧ N j = (a 128 (a 76 j).toNatClampNeg).toInt ∧ (a 87 4).toInt + (a 128 (a 76 j).toNatClampNeg).toInt ≤ st + (a 87 5).toInt ∧ st ≤ (a 87 4).toInt ∧ gTo a (a 76 j).toNatClampNeg = a 87 4)) := by
  obtain ⟨hI, hF, h2, nm, hs, hO, hT, hl, hp, hu, hd, ha⟩ := h
  have al := (FQ_al hF hj).1
  have no := In_no hF hj
  have f := hF.1 j hj
  have i := hI.1 _ al
  have v := ha _ al
  have u := hu j (Nat.le_refl _) hj
  have b4 := hI.2.2.2.1.2.2.1
  have lP := sg_le (m := (a 75 4).toInt.toNat) (F := P) (fun i hi => (hp i (by omega)).1) (a 75 4).toInt.toNat (Nat.le_refl _) (j + 1) (by omega)
  have lN := sg_le (m := (a 75 4).toInt.toNat) (F := N) (fun i hi => (hp i (by omega)).2) (a 75 4).toInt.toNat (Nat.le_refl _) (j + 1) (by omega)
  have l0P := sg_le (m := (a 75 4).toInt.toNat) (F := P) (fun i hi => (hp i (by omega)).1) j (by omega) 0 (by omega)
  have l0N := sg_le (m := (a 75 4).toInt.toNat) (F := N) (fun i hi => (hp i (by omega)).2) j (by omega) 0 (by omega)
  have z0P : zsg P 0 = 0 := rfl
  have z0N : zsg N 0 = 0 := rfl
  rw [sg_s] at lP lN
  have e1 : (a 131 (a 76 j).toNatClampNeg + 1).toInt = (a 131 (a 76 j).toNatClampNeg).toInt + 1 := i_p1 (by omega)
  have yo : (a 87 9).toInt ≤ (a 130 (a 76 j).toNatClampNeg).toInt := by omega
  have ot0 : ∀ m, xAl a m → m ≠ (a 76 j).toNatClampNeg → (a 87 9).toInt ≤ (a 130 m).toInt → (st ≤ (a 130 m).toInt ∧ (a 130 m).toInt + (a 128 m).toInt ≤ (a 87 4).toInt) ∨ (ot ≤ (a 130 m).toInt ∧ (a 130 m).toInt + (a 128 m).toInt ≤ ot + (a 87 5).toInt) := fun m hm hne hy => by
    rcases ((ha m hm).2.2 hy).2.2 with w | w
    · exact Or.inl w.2
    · obtain ⟨q, hq, eq⟩ := w.2
      have jq : j ≤ q := by
        by_cases lt : q < j
        · exact absurd ⟨q, lt, eq⟩ w.1
        · omega
      have z := (hu q jq (by omega)).2.2
      rw [eq, tn_of hm.1] at z
      exact Or.inr z
  unfold gTo
  by_cases w : (a 87 11).toInt ≤ (a 131 (a 76 j).toNatClampNeg).toInt + 1
  · have Pj : P j = (a 128 (a 76 j).toNatClampNeg).toInt := u.1.trans (if_pos w)
    have Nj : N j = 0 := u.2.1.trans (if_pos w)
    rw [if_pos (by omega)]
    refine ⟨⟨f.1, f.2.1, f.2.2.2⟩, ⟨by omega, by omega, by omega, by omega, by omega, by omega⟩, fun m hm hne => ?_, by omega, al, e1, i.2.1, yo, Or.inl ⟨w, Pj, Nj, by omega, rfl⟩⟩
    by_cases q : (a 130 m).toInt < (a 87 9).toInt
    · exact Or.inr ((ha m hm).2.1 q)
    · exact Or.inl (by omega)
  · have Pj : P j = 0 := u.1.trans (if_neg w)
    have Nj : N j = (a 128 (a 76 j).toNatClampNeg).toInt := u.2.1.trans (if_neg w)
    rw [if_neg (by omega)]
    refine ⟨⟨f.1, f.2.1, f.2.2.2⟩, ⟨by omega, by omega, by omega, by omega, by omega, by omega⟩, fun m hm hne => ?_, by omega, al, e1, i.2.1, yo, Or.inr ⟨w, Pj, Nj, by omega, by omega, rfl⟩⟩
    by_cases q : (a 130 m).toInt < (a 87 9).toInt
    · have z := (ha m hm).2.1 q
      exact Or.inr (by omega)
    · rcases ot0 m hm hne (by omega) with z | z
      · exact Or.inr (by omega)
      · omega
theorem gM1_r (h1 : c ≠ 71) (h2 : c ≠ 130) (h3 : c ≠ 131) (h4 : c ≠ 87) : gM1 a n c = a c := funext (fun k => by
  unfold gM1
  split
  · rw [xu_o (fun w => h4 w.1), Mo_r h1 h2, xu_o (fun w => h3 w.1)]
  · rw [xu_o (fun w => h4 w.1), Mo_r h1 h2, xu_o (fun w => h3 w.1)])
theorem gM1_7 (h1 : k ≠ 4) (h2 : k ≠ 10) : gM1 a n 87 k = a 87 k := by
  unfold gM1
  split
  · rw [xu_o (fun w => h2 w.2), Mo_r (by decide) (by decide), xu_o (by omega)]
  · rw [xu_o (fun w => h1 w.2), Mo_r (by decide) (by decide), xu_o (by omega)]
theorem gM1_p : gM1 a n 130 n = gTo a n ∧ (∀ m, m ≠ n → gM1 a n 130 m = a 130 m) ∧ gM1 a n 131 n = a 131 n + 1 ∧ ∀ m, m ≠ n → gM1 a n 131 m = a 131 m := by
  unfold gM1 gTo
  by_cases w : (a 87 11).toInt ≤ (a 131 n + 1).toInt
  · rw [if_pos w, if_pos w]
    exact ⟨by rw [xu_o (by omega), Mo_pn], fun m hm => by rw [xu_o (by omega), Mo_po hm, xu_o (by omega)], by rw [xu_o (by omega), Mo_r (by decide) (by decide), xu_s], fun m hm => by rw [xu_o (by omega), Mo_r (by decide) (by decide), xu_o (fun z => hm z.2)]⟩
  · rw [if_neg w, if_neg w]
    exact ⟨by rw [xu_o (by omega), Mo_pn], fun m hm => by rw [xu_o (by omega), Mo_po hm, xu_o (by omega)], by rw [xu_o (by omega), Mo_r (by decide) (by decide), xu_s], fun m hm => by rw [xu_o (by omega), Mo_r (by decide) (by decide), xu_o (fun z => hm z.2)]⟩
theorem I_131 (h : qI a) : qI (ma_u a 131 n x) := I_cg h (un (by decide)) (un (by decide)) (un (by decide)) (un (by decide)) (un (by decide)) (un (by decide)) (fun j => un (by omega))
theorem gM1_I (hI : qI a) (al : xAl a n) (h0 : 0 ≤ (gTo a n).toInt) (h1 : (gTo a n).toInt + (a 128 n).toInt ≤ (a 87 0).toInt) (F : qFr a n (gTo a n)) (h2 : a 87 2 = 0) : qI (gM1 a n) := by
  have r : ∀ c, c ≠ 131 → ma_u a 131 n (a 131 n + 1) c = a c := fun c hc => ma_u_ne _ _ _ hc
  have q := I_mo (to := gTo a n) (I_131 (n := n) (x := a 131 n + 1) hI) (n := n) (by unfold xAl; rw [r 126 (by decide)]; exact al) h0 (by rw [r 128 (by decide), r 87 (by decide)]; exact h1) (fun m hm hne => by
    unfold xAl at hm
    rw [r 126 (by decide)] at hm
    rw [r 128 (by decide), r 130 (by decide)]
    exact F m hm hne) (by rw [r 87 (by decide), h2]; rfl)
  unfold gTo at q
  unfold gM1
  by_cases w : (a 87 11).toInt ≤ (a 131 n + 1).toInt
  · rw [if_pos w] at q ⊢
    exact I_87k q (by decide) (by decide) (by decide)
  · rw [if_neg w] at q ⊢
    exact I_87k q (by decide) (by decide) (by decide)
theorem gM1_rf (hI : qI a) (al : xAl a n) (h0 : 0 ≤ (gTo a n).toInt) (h1 : (gTo a n).toInt + (a 128 n).toInt ≤ (a 87 0).toInt) (F : qFr a n (gTo a n)) {i : Int32} (hm : xAl a m) (i0 : 0 ≤ i.toInt) (i1 : i.toInt < (a 128 m).toInt - 1) : aRef (gM1 a n) m i = aRef a m i := by
  have r : ∀ c, c ≠ 131 → ma_u a 131 n (a 131 n + 1) c = a c := fun c hc => ma_u_ne _ _ _ hc
  have rr : ∀ c, c ≠ 131 → aMo (ma_u a 131 n (a 131 n + 1)) n (gTo a n) c = aMo a n (gTo a n) c := fun c hc => funext (fun k => by
    unfold aMo
    rw [r 128 (by decide), r 130 (by decide), r 71 (by decide), r c hc])
  have g : ∀ c, c ≠ 87 → c ≠ 131 → gM1 a n c = aMo a n (gTo a n) c := fun c h1 h2 => by
    rw [← rr c h2]
    unfold gM1 gTo
    by_cases w : (a 87 11).toInt ≤ (a 131 n + 1).toInt
    · rw [if_pos w, if_pos w, ma_u_ne _ _ _ h1]
    · rw [if_neg w, if_neg w, ma_u_ne _ _ _ h1]
  rw [show aRef (gM1 a n) m i = aRef (aMo a n (gTo a n)) m i from rf_cg (g _ (by omega) (by omega)) (g _ (by decide) (by decide)) (g _ (by decide) (by decide))]
  exact Mo_ref hI al h0 h1 F hm i0 i1
theorem Jg_go (h : qJg a st ot o0 P N j) (hj : (j : Int) < (a 75 4).toInt) : qJg (gM1 a (a 76 j).toNatClampNeg) st ot o0 P N (j + 1) := by
  have nx := Jg_nx h hj
  obtain ⟨hI, hF, h2, nm, hs, hO, hT, hl, hp, hu, hd, ha⟩ := h
  obtain ⟨_, _, F, ⟨t0, t1⟩, al, e1, sz, yo, cs⟩ := nx
  have no := In_no hF hj
  have tj := (FQ_al hF hj).2
  have gp := gM1_p (a := a) (n := (a 76 j).toNatClampNeg)
  have r75 : gM1 a (a 76 j).toNatClampNeg 75 = a 75 := gM1_r (by decide) (by decide) (by decide) (by decide)
  have r76 : gM1 a (a 76 j).toNatClampNeg 76 = a 76 := gM1_r (by decide) (by decide) (by decide) (by decide)
  have r77 : gM1 a (a 76 j).toNatClampNeg 77 = a 77 := gM1_r (by decide) (by decide) (by decide) (by decide)
  have r126 : gM1 a (a 76 j).toNatClampNeg 126 = a 126 := gM1_r (by decide) (by decide) (by decide) (by decide)
  have r128 : gM1 a (a 76 j).toNatClampNeg 128 = a 128 := gM1_r (by decide) (by decide) (by decide) (by decide)
  have r133 : gM1 a (a 76 j).toNatClampNeg 133 = a 133 := gM1_r (by decide) (by decide) (by decide) (by decide)
  have q7 : ∀ k, k ≠ 4 → k ≠ 10 → gM1 a (a 76 j).toNatClampNeg 87 k = a 87 k := fun k h4 h10 => gM1_7 h4 h10
  have ne : ∀ i : Nat, (i : Int) < (a 75 4).toInt → i ≠ j → (a 76 i).toNatClampNeg ≠ (a 76 j).toNatClampNeg := fun i hi hne w => by
    have ti := (FQ_al hF hi).2
    rw [w, tj] at ti
    by_cases lt : i < j
    · exact hF.2.1 i j lt hj ti.symm
    · exact hF.2.1 j i (by omega) hi ti
  have b9 := nm.2.1
  have b5 := nm.1
  have b0 := hI.2.2.2.1.2.2.1
  have t10 : (gM1 a (a 76 j).toNatClampNeg 87 10).toInt = (a 87 10).toInt + P j ∧ (gM1 a (a 76 j).toNatClampNeg 87 4).toInt = (a 87 4).toInt + N j := by
    unfold gM1
    rcases cs with ⟨w, c1, c2, c3, c4⟩ | ⟨w, c1, c2, c3, c4, c5⟩
    · rw [if_pos (by omega), xu_s, xu_o (by decide), Mo_r (by decide) (by decide), xu_o (by omega)]
      rw [c4] at t0
      rw [i_add (by omega) (by omega)]
      exact ⟨by omega, by omega⟩
    · rw [if_neg (by omega), xu_s, xu_o (by decide), Mo_r (by decide) (by decide), xu_o (by omega)]
      rw [c5] at t0
      rw [i_add (by omega) (by omega)]
      exact ⟨by omega, by omega⟩
  have pj := hp j hj
  have inn : ∀ k n, zIn (gM1 a (a 76 j).toNatClampNeg) k n ↔ zIn a k n := fun k n => by
    unfold zIn
    rw [r76]
  unfold qJg
  rw [r75, q7 2 (by decide) (by decide), q7 5 (by decide) (by decide), q7 9 (by decide) (by decide), q7 0 (by decide) (by decide), q7 11 (by decide) (by decide), q7 12 (by decide) (by decide), r76]
  refine ⟨gM1_I hI al t0 t1 F h2, FQ_cg hF (congrFun r75 3) (congrFun r75 4) r76 (fun x _ => by rw [r77]) r126, h2, nm, hs, ⟨by rw [sg_s]; omega, hO.2⟩, ⟨by rw [sg_s]; omega, hT.2⟩, by omega, hp, fun i hi hi2 => ?_, fun i hi => ?_, fun n hn => ?_⟩
  · have z := hu i (by omega) hi2
    have nn := ne i hi2 (by omega)
    unfold gPf gNf at z ⊢
    rw [q7 11 (by decide) (by decide), r76, gp.2.2.2 _ nn, r128, gp.2.1 _ nn]
    exact z
  · by_cases w : i = j
    · rw [w, gp.1, r128]
      rcases cs with ⟨w1, c1, c2, c3, c4⟩ | ⟨w1, c1, c2, c3, c4, c5⟩
      · rw [c4, if_neg (by omega)]
        exact c2
      · rw [c5, if_pos (by omega)]
        exact c2
    · have nn := ne i (by omega) w
      rw [gp.2.1 _ nn, r128]
      exact hd i (by omega)
  · unfold xAl at hn
    rw [r126] at hn
    have v := ha n hn
    rw [r128, r133]
    by_cases w : n = (a 76 j).toNatClampNeg
    · rw [w, gp.1, gp.2.2.1, e1]
      rw [w] at v
      have yv := v.2.2 yo
      rcases cs with ⟨w1, c1, c2, c3, c4⟩ | ⟨w1, c1, c2, c3, c4, c5⟩
      · rw [c4]
        exact ⟨by omega, fun _ => by omega, fun q => by omega⟩
      · rw [c5]
        refine ⟨by omega, fun q => by omega, fun q => ⟨yv.1, by omega, Or.inl ⟨(inn _ _).mpr (In_s.mpr (Or.inr (by rw [tj]))), by omega, by omega⟩⟩⟩
    · rw [gp.2.1 n w, gp.2.2.2 n w]
      refine ⟨v.1, fun q => by have := v.2.1 q; omega, fun q => ?_⟩
      have z := v.2.2 q
      refine ⟨z.1, z.2.1, ?_⟩
      rcases z.2.2 with y | y
      · exact Or.inl ⟨(inn _ _).mpr (In_s.mpr (Or.inl y.1)), y.2.1, by omega⟩
      · refine Or.inr ⟨fun s => ?_, (inn _ _).mpr y.2⟩
        rcases In_s.mp ((inn _ _).mp s) with s | s
        · exact y.1 s
        · exact w (by rw [s, tn_of hn.1])
theorem gMf_J : ∀ (f j : Nat) (a : Nat → Nat → Int32), qJg a st ot o0 P N j → (j : Int) + f = (a 75 4).toInt → qJg (gMf f j a) st ot o0 P N (j + f) := by
  intro f
  induction f with
  | zero => intro j a h _; exact h
  | succ f ih =>
    intro j a h e
    have nx := Jg_nx h (by omega)
    rw [gMf_y nx.1, show j + (f + 1) = (j + 1) + f from by omega]
    exact ih _ _ (Jg_go h (by omega)) (by rw [gM1_r (by decide) (by decide) (by decide) (by decide)]; omega)
end F25

/-! from 95.u16 -/
/-! AGES, the class (written by wip/tools/gen15y.py) -/
/-! AGES: what holds stays so -/
def qDi (a : Nat → Nat → Int32) : Prop := ∀ n, xAl a n → (a 130 n).toInt < (a 87 9).toInt → ∀ i : Nat, (i : Int) < (a 128 n).toInt - 1 → gRw a n (Int32.ofNat i) → a 83 (gCx a n (i : Int)).toNat ≠ 0
def qA1 (a : Nat → Nat → Int32) (n : Nat) : Prop := (0 ≤ (a 131 n).toInt ∧ (a 131 n).toInt ≤ (a 87 11).toInt) ∧ ((a 130 n).toInt < (a 87 9).toInt → (a 130 n).toInt + (a 128 n).toInt ≤ (a 87 10).toInt) ∧ ((a 87 9).toInt ≤ (a 130 n).toInt → ((a 87 3).toInt ≤ (a 130 n).toInt ∧ (a 130 n).toInt + (a 128 n).toInt ≤ (a 87 4).toInt) ∧ (a 131 n).toInt < (a 87 11).toInt ∧ a 133 n = 0)
def qA0 (a : Nat → Nat → Int32) : Prop := qI a ∧ a 87 2 = 0 ∧ ((0 ≤ (a 87 5).toInt ∧ (a 87 5).toInt ≤ 1500) ∧ (0 ≤ (a 87 9).toInt ∧ (a 87 9).toInt ≤ 1500) ∧ (a 87 0).toInt = (a 87 9).toInt + 2 * (a 87 5).toInt ∧ (1 ≤ (a 87 11).toInt ∧ (a 87 11).toInt ≤ 1000) ∧ 4 ≤ (a 87 12).toInt) ∧ ((a 87 3).toInt = (a 87 9).toInt ∨ (a 87 3).toInt = (a 87 9).toInt + (a 87 5).toInt) ∧ ((a 87 3).toInt ≤ (a 87 4).toInt ∧ (a 87 4).toInt ≤ (a 87 3).toInt + (a 87 5).toInt ∧ gSy a 512 ≤ (a 87 4).toInt - (a 87 3).toInt) ∧ (0 ≤ (a 87 10).toInt ∧ (a 87 10).toInt ≤ (a 87 9).toInt) ∧ ∀ n, xAl a n → qA1 a n
section F26
variable {a b : Nat → Nat → Int32} {st ot o0 lim p e : Int} {P N F G : Nat → Int} {i j k n m f c : Nat} {to x : Int32}
theorem Av_mk (h : qA0 a) (d : qDi a) : qAv a := ⟨h.1, h.2.1, h.2.2.1, h.2.2.2.1, h.2.2.2.2.1, h.2.2.2.2.2.1, h.2.2.2.2.2.2, d⟩
theorem Av_0 (h : qAv a) : qA0 a := ⟨h.1, h.2.1, h.2.2.1, h.2.2.2.1, h.2.2.2.2.1, h.2.2.2.2.2.1, h.2.2.2.2.2.2.1⟩
theorem Sy_sg : ∀ n, gSy a n = zsg (fun n => if a 126 n ≠ 0 ∧ (a 87 9).toInt ≤ (a 130 n).toInt then (a 128 n).toInt else 0) n := by
  intro n
  induction n with
  | zero => rfl
  | succ n ih =>
    rw [sg_s, ← ih]
    rfl
theorem Gr_sg : ∀ n, gGr a n = zsg (fun n => if a 126 n ≠ 0 ∧ (a 87 9).toInt ≤ (a 130 n).toInt ∧ (a 87 11).toInt ≤ (a 131 n).toInt + 1 then (a 128 n).toInt else 0) n := by
  intro n
  induction n with
  | zero => rfl
  | succ n ih =>
    rw [sg_s, ← ih]
    rfl
/-! dirty cards -/
theorem Fd_r (h : c ≠ 83) : gFd a c = a c := funext (fun k => if_neg (fun w => h w.1))
theorem Wk_y (hr : gRw a n (Int32.ofNat i)) (hc : 0 < (a 87 12).toInt) (hk : gCx a n (i : Int) = (k : Int)) : ∀ m, i < m → gWk a k n m ≠ 0 := by
  intro m
  induction m with
  | zero => intro h; omega
  | succ m ih =>
    intro h
    show (if (0 ≤ (aRef a n (Int32.ofNat m)).toInt ∧ (aRef a n (Int32.ofNat m)).toInt < 512 ∧ a 126 (aRef a n (Int32.ofNat m)).toNatClampNeg ≠ 0 ∧ (a 87 9).toInt ≤ (a 130 (aRef a n (Int32.ofNat m)).toNatClampNeg).toInt) ∧ 0 < (a 87 12).toInt ∧ gCx a n (m : Int) = (k : Int) then 1 else gWk a k n m) ≠ 0
    by_cases w : i = m
    · rw [← w, if_pos ⟨hr, hc, hk⟩]
      decide
    · split
      · decide
      · exact ih (by omega)
theorem Nk_y (h6 : a 126 n ≠ 0) (ho : (a 130 n).toInt < (a 87 9).toInt) (hw : gWk a k n ((a 128 n).toInt - 1).toNat ≠ 0) : ∀ m, n < m → gNk a k m ≠ 0 := by
  intro m
  induction m with
  | zero => intro h; omega
  | succ m ih =>
    intro h
    show (if (a 126 m ≠ 0 ∧ (a 130 m).toInt < (a 87 9).toInt) ∧ gWk a k m ((a 128 m).toInt - 1).toNat ≠ 0 then 1 else gNk a k m) ≠ 0
    by_cases w : n = m
    · rw [← w, if_pos ⟨⟨h6, ho⟩, hw⟩]
      decide
    · split
      · decide
      · exact ih (by omega)
theorem cx_lt (h : qA0 a) (hn : xAl a n) (ho : (a 130 n).toInt < (a 87 9).toInt) (hi : (i : Int) < (a 128 n).toInt - 1) : 0 ≤ gCx a n (i : Int) ∧ gCx a n (i : Int) < 375 := by
  have p0 := (h.1.1 n hn).1.2
  have c4 := h.2.2.1.2.2.2.2
  have en := (h.2.2.2.2.2.2 n hn).2.1 ho
  have ot := h.2.2.2.2.2.1
  have ol := h.2.2.1.2.1
  unfold gCx
  refine ⟨Int.ediv_nonneg (by omega) (by omega), Int.ediv_lt_of_lt_mul (by omega) ?_⟩
  have m4 : 375 * 4 ≤ 375 * (a 87 12).toInt := Int.mul_le_mul_of_nonneg_left c4 (by decide)
  omega
theorem Fd_rw {i : Int32} : gRw (gFd a) n i ↔ gRw a n i := by
  have q := Nr_cg (a := a) (b := gFd a) (Fd_r (by decide)) (Fd_r (by decide)) (Fd_r (by decide)) (Fd_r (by decide)) (fun n => Fd_r (by omega))
  unfold gRw
  rw [q.1, Fd_r (c := 126) (by decide), Fd_r (c := 130) (by decide), Fd_r (c := 87) (by decide)]
theorem Av_fd (h : qA0 a) : qAv (gFd a) := by
  have r : ∀ c, c ≠ 83 → gFd a c = a c := fun c hc => Fd_r hc
  have q := Nr_cg (a := a) (b := gFd a) (Fd_r (by decide)) (Fd_r (by decide)) (Fd_r (by decide)) (Fd_r (by decide)) (fun n => Fd_r (by omega))
  refine Av_mk ?_ (fun n hn ho i hi hr => ?_)
  · have sy : gSy (gFd a) 512 = gSy a 512 := by
      rw [Sy_sg, Sy_sg, r 126 (by decide), r 130 (by decide), r 128 (by decide), r 87 (by decide)]
    unfold qA0 qA1 xAl
    rw [sy, r 87 (by decide), r 126 (by decide), r 128 (by decide), r 130 (by decide), r 131 (by decide), r 133 (by decide)]
    obtain ⟨h1, h2⟩ := h
    exact ⟨I_cg h1 (r _ (by decide)) (r _ (by decide)) (r _ (by decide)) (r _ (by decide)) (r _ (by decide)) (r _ (by decide)) (fun j => r _ (by omega)), h2⟩
  · unfold xAl at hn
    rw [r 126 (by decide)] at hn
    rw [r 130 (by decide), r 87 (by decide)] at ho
    rw [r 128 (by decide)] at hi
    have cx := cx_lt h hn ho hi
    rw [q.2]
    have hr₉ := Fd_rw.mp hr
    show (if (83 : Nat) = 83 ∧ (gCx a n (i : Int)).toNat < 375 then gNk a (gCx a n (i : Int)).toNat 512 else _) ≠ 0
    rw [if_pos ⟨rfl, by omega⟩]
    exact Nk_y hn.2 ho (Wk_y hr₉ (by have := h.2.2.1.2.2.2.2; omega) (by omega) _ (by omega)) 512 hn.1
/-! the major cleaning -/
theorem sw_f (hI : qI a) (h : xAl (aSw a) n) (h1 : 126 ≤ f) (h2 : f < 1000) (h3 : f ≠ 134) : aSw a f n = a f n := by
  have g := I_gf ((aRA a 69 6).toInt - (0 : Int32).toInt).toNat 0 _ (qI_of hI RA_zo) (E0_ra hI)
  have r : ∀ c k, c ≠ 69 → c ≠ 73 → c ≠ 74 → c ≠ 134 → c ≠ 75 → c ≠ 76 → c ≠ 77 → aGw (aRA a) 0 c k = a c k := fun c k h1 h2 h3 h4 h5 h6 h7 => (Gf_r h1 h2 h3 h4 h5 h6 h7 _ _ _).trans (RA_zo c k h5 h6 h7).symm
  have m := Md_mv g.1 g.2.1.2.2.2.2.2.1
  have al := (Md_al g.1 m).mp h
  have q := (Md_f m al.1.1 al.2).1
  have e : aGf ((aRA a 69 6).toInt - (0 : Int32).toInt).toNat 0 (aRA a) = aGw (aRA a) 0 := rfl
  rw [e] at q
  exact (q f h1 h2).trans (r f n (by omega) (by omega) (by omega) h3 (by omega) (by omega) (by omega))
theorem Sd_inv : ∀ (k : Nat) (a : Nat → Nat → Int32) (p e : Int), (lim - p).toNat ≤ k → lim ≤ 4500 → qJs a p e → a 87 2 = 0 → (∀ n, xAl a n → (a 130 n).toInt < lim → (a 130 n).toInt + (a 128 n).toInt ≤ lim) → e ≤ lim → (∃ p₉, lim ≤ p₉ ∧ qJs (zSd a lim p e).1 p₉ (zSd a lim p e).2) ∧ (zSd a lim p e).2 ≤ lim ∧ (∀ c, c ≠ 71 → c ≠ 130 → (zSd a lim p e).1 c = a c) ∧ (∀ n, xAl a n → lim ≤ (a 130 n).toInt → (zSd a lim p e).1 130 n = a 130 n) ∧ ∀ n, xAl a n → (a 130 n).toInt < lim → ((zSd a lim p e).1 130 n).toInt < lim := by
  intro k
  induction k with
  | zero =>
    intro a p e hk h4 hJ h2 hl he
    rw [Sd_n (by omega)]
    exact ⟨⟨p, by omega, hJ⟩, he, fun _ _ _ => rfl, fun _ _ _ => rfl, fun _ _ w => w⟩
  | succ k ih =>
    intro a p e hk h4 hJ h2 hl he
    by_cases c : p < lim
    · have s1 := S1_I hJ.1
      by_cases d : (zOb a p).toInt < 0
      · rw [Sd_fr s1 c d]
        exact ih a (p + 1) e (by omega) h4 (Js_fr hJ d (by omega)) h2 hl he
      · have ob := Js_ob hJ (show 0 ≤ (zOb a p).toInt by omega)
        have sz := (hJ.1.1 _ ob.1).2.1
        have en := hl _ ob.1 (by omega)
        by_cases hh : a 133 (zOb a p).toNatClampNeg = 0
        · rw [Sd_mv s1 c (by omega) hh]
          have b0 := hJ.1.2.2.2.1.2.2.1
          have te : (Int32.ofInt e).toInt = e := Int32.toInt_ofInt_of_le (by have := hJ.2.1; omega) (by have := hJ.2.1; omega)
          have j2 := Js_mv hJ (show 0 ≤ (zOb a p).toInt by omega) te (by rw [h2]; rfl)
          have q := ih (aMo a (zOb a p).toNatClampNeg (Int32.ofInt e)) (p + (a 128 (zOb a p).toNatClampNeg).toInt) (e + (a 128 (zOb a p).toNatClampNeg).toInt) (by omega) h4 j2 (by rw [Mo_r (by decide) (by decide)]; exact h2) (fun n hn w => ?_) (by have := hJ.2.1; omega)
          · refine ⟨q.1, q.2.1, fun c h1 h3 => (q.2.2.1 c h1 h3).trans (Mo_c h1 h3), fun n hn w => ?_, fun n hn w => ?_⟩
            · have ne : n ≠ (zOb a p).toNatClampNeg := fun z => by
                rw [z] at w
                omega
              rw [q.2.2.2.1 n (Mo_al.mpr hn) (by rw [Mo_po ne]; exact w), Mo_po ne]
            · refine q.2.2.2.2 n (Mo_al.mpr hn) ?_
              by_cases z : n = (zOb a p).toNatClampNeg
              · rw [z, Mo_pn, te]
                have := hJ.2.1
                omega
              · rw [Mo_po z]
                exact w
          · have hn₉ := Mo_al.mp hn
            rw [Mo_r (c := 128) (by decide) (by decide)]
            by_cases z : n = (zOb a p).toNatClampNeg
            · rw [z, Mo_pn, te]
              have := hJ.2.1
              omega
            · rw [Mo_po z] at w ⊢
              exact hl n hn₉ w
        · rw [Sd_ho s1 c (by omega) hh]
          exact ih a _ _ (by omega) h4 (Js_ho hJ (by omega)) h2 hl (by omega)
    · rw [Sd_n c]
      exact ⟨⟨p, by omega, hJ⟩, he, fun _ _ _ => rfl, fun _ _ _ => rfl, fun _ _ w => w⟩
theorem Sy_sub (h : ∀ n, n < 512 → (b 126 n ≠ 0 ∧ (b 87 9).toInt ≤ (b 130 n).toInt) → (a 126 n ≠ 0 ∧ (a 87 9).toInt ≤ (a 130 n).toInt) ∧ b 128 n = a 128 n) (hI : qI a) : gSy b 512 ≤ gSy a 512 := by
  rw [Sy_sg, Sy_sg]
  refine sg_mono _ (fun n hn => ?_)
  by_cases w : b 126 n ≠ 0 ∧ (b 87 9).toInt ≤ (b 130 n).toInt
  · have q := h n hn w
    rw [if_pos w, if_pos q.1, q.2]
    exact Int.le_refl _
  · rw [if_neg w]
    split
    · next z =>
      have := (hI.1 n ⟨hn, z.1⟩).2.1.1
      omega
    · exact Int.le_refl _
theorem A0_ma (h : qAv a) : qA0 (ma_u (gSd a).1 87 10 (Int32.ofInt (gSd a).2)) ∧ (Int32.ofInt (gSd a).2).toInt = (gSd a).2 := by
  have h0 := Av_0 h
  obtain ⟨hI, h2, nm, hs, ht, ho, ha⟩ := h0
  have sI := I_sw hI
  have al : ∀ n, xAl (aSw a) n → xAl a n ∧ aSw a 130 n = a 130 n ∧ aSw a 128 n = a 128 n ∧ aSw a 133 n = a 133 n ∧ aSw a 131 n = a 131 n := fun n hn => by
    have q := Al_sw hI hn
    exact ⟨q.1, q.2.1, q.2.2.1, q.2.2.2, sw_f hI hn (by decide) (by decide) (by decide)⟩
  have s7 : aSw a 87 = a 87 := funext (fun _ => sw_87)
  have q := Sd_inv (lim := (a 87 9).toInt) ((a 87 9).toInt - 0).toNat (aSw a) 0 0 (Nat.le_refl _) (by have := nm.2.1; omega) (Js_0 sI) (by rw [s7]; exact h2) (fun n hn w => by
    have z := al n hn
    rw [z.2.1] at w
    rw [z.2.1, z.2.2.1]
    have := (ha n z.1).2.1 w
    omega) (by have := nm.2.1; omega)
  have e : zSd (aSw a) (a 87 9).toInt 0 0 = gSd a := rfl
  rw [e] at q
  obtain ⟨⟨p₉, hp₉, hJ⟩, q2, q3, q4, q5⟩ := q
  have r : ∀ c, c ≠ 71 → c ≠ 130 → c ≠ 87 → ma_u (gSd a).1 87 10 (Int32.ofInt (gSd a).2) c = aSw a c := fun c h1 h3 h4 => (ma_u_ne _ _ _ h4).trans (q3 c h1 h3)
  have r130 : ma_u (gSd a).1 87 10 (Int32.ofInt (gSd a).2) 130 = (gSd a).1 130 := ma_u_ne _ _ _ (by decide)
  have r7 : ∀ k, k ≠ 10 → ma_u (gSd a).1 87 10 (Int32.ofInt (gSd a).2) 87 k = a 87 k := fun k hk => by
    rw [xu_o (fun z => hk z.2), q3 87 (by decide) (by decide), s7]
  have te : (Int32.ofInt (gSd a).2).toInt = (gSd a).2 := Int32.toInt_ofInt_of_le (by have := hJ.2.1; omega) (by have := nm.2.1; omega)
  have x10 : ma_u (gSd a).1 87 10 (Int32.ofInt (gSd a).2) 87 10 = Int32.ofInt (gSd a).2 := xu_s
  have alx : ∀ n, xAl (ma_u (gSd a).1 87 10 (Int32.ofInt (gSd a).2)) n → xAl (aSw a) n := fun n hn => by
    unfold xAl at hn ⊢
    rw [r 126 (by decide) (by decide) (by decide)] at hn
    exact hn
  have alg : ∀ n, xAl (aSw a) n → xAl (gSd a).1 n := fun n hn => by
    unfold xAl at hn ⊢
    rw [q3 126 (by decide) (by decide)]
    exact hn
  have yv : ∀ n, xAl (aSw a) n → (a 87 9).toInt ≤ ((gSd a).1 130 n).toInt → (a 87 9).toInt ≤ (a 130 n).toInt ∧ (gSd a).1 130 n = a 130 n := fun n hn w => by
    have z := al n hn
    by_cases d : (a 130 n).toInt < (a 87 9).toInt
    · have := q5 n hn (by rw [z.2.1]; exact d)
      omega
    · exact ⟨by omega, (q4 n hn (by rw [z.2.1]; omega)).trans z.2.1⟩
  refine ⟨⟨I_87k hJ.1 (by decide) (by decide) (by decide), ?_, ?_, ?_, ⟨?_, ?_, ?_⟩, ⟨?_, ?_⟩, fun n hn => ?_⟩, te⟩
  · rw [r7 2 (by decide)]
    exact h2
  · rw [r7 5 (by decide), r7 9 (by decide), r7 0 (by decide), r7 11 (by decide), r7 12 (by decide)]
    exact nm
  · rw [r7 3 (by decide), r7 9 (by decide), r7 5 (by decide)]
    exact hs
  · rw [r7 3 (by decide), r7 4 (by decide)]
    exact ht.1
  · rw [r7 3 (by decide), r7 4 (by decide), r7 5 (by decide)]
    exact ht.2.1
  · rw [r7 3 (by decide), r7 4 (by decide)]
    refine Int.le_trans (Sy_sub (a := a) (fun n hn w => ?_) hI) ht.2.2
    rw [r 126 (by decide) (by decide) (by decide), r7 9 (by decide), r130] at w
    have z := al n ⟨hn, w.1⟩
    have y := yv n ⟨hn, w.1⟩ w.2
    exact ⟨⟨z.1.2, y.1⟩, by rw [r 128 (by decide) (by decide) (by decide)]; exact z.2.2.1⟩
  · rw [x10, te]
    exact hJ.2.1.1
  · rw [x10, te, r7 9 (by decide)]
    exact q2
  · have hn₉ := alx n hn
    have z := al n hn₉
    have v := ha n z.1
    unfold qA1 at v ⊢
    rw [x10, te, r7 11 (by decide), r7 9 (by decide), r7 3 (by decide), r7 4 (by decide), r 131 (by decide) (by decide) (by decide), r 133 (by decide) (by decide) (by decide), r130, r 128 (by decide) (by decide) (by decide), z.2.2.2.2, z.2.2.2.1, z.2.2.1]
    refine ⟨v.1, fun w => ?_, fun w => ?_⟩
    · have j := hJ.2.2.2 n (alg n hn₉) (by omega)
      rw [q3 128 (by decide) (by decide), z.2.2.1] at j
      exact j
    · have y := yv n hn₉ w
      rw [y.2]
      exact v.2.2 y.1
theorem Av_ma (h : qAv a) : qAv (gMa a) := Av_fd (A0_ma h).1
/-! the minor cleaning -/
theorem v3_e (h : qAv a) : (a 87 9 + a 87 5 + a 87 9 - a 87 3).toInt = 2 * (a 87 9).toInt + (a 87 5).toInt - (a 87 3).toInt := by
  have nm := h.2.2.1
  have hs := h.2.2.2.1
  have e1 : (a 87 9 + a 87 5).toInt = (a 87 9).toInt + (a 87 5).toInt := i_add (by omega) (by omega)
  have e2 : (a 87 9 + a 87 5 + a 87 9).toInt = (a 87 9).toInt + (a 87 5).toInt + (a 87 9).toInt := by rw [i_add (by omega) (by omega), e1]
  rw [i_sub (by omega) (by omega), e2]
  omega
theorem Jg_0 (h : qAv a) (hf : ¬ gFu a) : qJg (gMk1 a) (2 * (a 87 9).toInt + (a 87 5).toInt - (a 87 3).toInt) (a 87 3).toInt (a 87 10).toInt (gPf (gMk1 a)) (gNf (gMk1 a)) 0 := by
  have v3 := v3_e h
  have h0 := Av_0 h
  obtain ⟨hI, h2, nm, hs, ht, ho, ha⟩ := h0
  have MI := Mi_I h
  have fy := Mi_FY h
  have r : ∀ c, c ≠ 87 → gMk1 a c = gMk0 a c := fun c hc => by
    unfold gMk1
    rw [ma_u_ne _ _ _ hc, ma_u_ne _ _ _ hc]
  have r7 : ∀ k, k ≠ 3 → k ≠ 4 → gMk1 a 87 k = a 87 k := fun k h3 h4 => by
    unfold gMk1
    rw [xu_o (fun z => h4 z.2), xu_o (fun z => h3 z.2), Mi_8 (by decide)]
  have r4 : gMk1 a 87 4 = a 87 9 + a 87 5 + a 87 9 - a 87 3 := xu_s
  have alx : ∀ n, xAl (gMk1 a) n ↔ xAl (gMk0 a) n := fun n => by
    unfold xAl
    rw [r 126 (by decide)]
  have FQ : zFQ (gMk1 a) := FQ_cg fy.1 (congrFun (r 75 (by decide)) 3) (congrFun (r 75 (by decide)) 4) (r 76 (by decide)) (fun x _ => by rw [r 77 (by decide)]) (r 126 (by decide))
  have row : ∀ n, xAl (gMk0 a) n → gMk1 a 128 n = a 128 n ∧ gMk1 a 130 n = a 130 n ∧ gMk1 a 131 n = a 131 n ∧ gMk1 a 133 n = a 133 n := fun n hn => by
    have q := (Mi_f h hn).1
    rw [r 128 (by decide), r 130 (by decide), r 131 (by decide), r 133 (by decide)]
    exact ⟨q 128 (by decide) (by decide) (by decide), q 130 (by decide) (by decide) (by decide), q 131 (by decide) (by decide) (by decide), q 133 (by decide) (by decide) (by decide)⟩
  have qu : ∀ i : Nat, (i : Int) < (gMk1 a 75 4).toInt → xAl (gMk0 a) (gMk1 a 76 i).toNatClampNeg ∧ (a 87 9).toInt ≤ (a 130 (gMk1 a 76 i).toNatClampNeg).toInt := fun i hi => by
    have q := FQ.1 i hi
    have t := tn_cast q.1
    have w := q.2.2.1
    rw [r 77 (by decide)] at w
    exact fy.2.1 _ (by omega) w
  have szn : ∀ n, xAl a n → 0 ≤ (a 128 n).toInt := fun n hn => by
    have := (hI.1 n hn).2.1.1
    omega
  have pos : ∀ i : Nat, (i : Int) < (gMk1 a 75 4).toInt → 0 ≤ gPf (gMk1 a) i ∧ 0 ≤ gNf (gMk1 a) i := fun i hi => by
    have q := qu i hi
    have s := szn _ ((Mi_al h).mp q.1).1
    unfold gPf gNf
    rw [(row _ q.1).1]
    constructor
    · split
      · exact s
      · exact Int.le_refl _
    · split
      · exact Int.le_refl _
      · exact s
  have sP : zsg (gPf (gMk1 a)) (gMk1 a 75 4).toInt.toNat ≤ gGr a 512 := by
    have e := Fq_sum FQ (fun n => if (gMk1 a 87 11).toInt ≤ (gMk1 a 131 n).toInt + 1 then (gMk1 a 128 n).toInt else 0)
    have e2 : zsg (gPf (gMk1 a)) (gMk1 a 75 4).toInt.toNat = zsg (fun j => if (gMk1 a 87 11).toInt ≤ (gMk1 a 131 (gMk1 a 76 j).toNatClampNeg).toInt + 1 then (gMk1 a 128 (gMk1 a 76 j).toNatClampNeg).toInt else 0) (gMk1 a 75 4).toInt.toNat := rfl
    rw [e2, e, Gr_sg]
    refine sg_mono _ (fun n hn => ?_)
    by_cases w : gMk1 a 77 n ≠ 0
    · have w₉ := w
      rw [r 77 (by decide)] at w₉
      have q := fy.2.1 n hn w₉
      have ra := row n q.1
      have aa := ((Mi_al h).mp q.1).1
      rw [if_pos w, ra.2.2.1, ra.1, r7 11 (by decide) (by decide)]
      by_cases d : (a 87 11).toInt ≤ (a 131 n).toInt + 1
      · rw [if_pos d, if_pos ⟨aa.2, q.2, d⟩]
        exact Int.le_refl _
      · rw [if_neg d, if_neg (fun z => d z.2.2)]
        exact Int.le_refl _
    · rw [if_neg w]
      split
      · next z => exact szn n ⟨hn, z.1⟩
      · exact Int.le_refl _
  have sN : zsg (gNf (gMk1 a)) (gMk1 a 75 4).toInt.toNat ≤ gSy a 512 := by
    have e := Fq_sum FQ (fun n => if (gMk1 a 87 11).toInt ≤ (gMk1 a 131 n).toInt + 1 then 0 else (gMk1 a 128 n).toInt)
    have e2 : zsg (gNf (gMk1 a)) (gMk1 a 75 4).toInt.toNat = zsg (fun j => if (gMk1 a 87 11).toInt ≤ (gMk1 a 131 (gMk1 a 76 j).toNatClampNeg).toInt + 1 then 0 else (gMk1 a 128 (gMk1 a 76 j).toNatClampNeg).toInt) (gMk1 a 75 4).toInt.toNat := rfl
    rw [e2, e, Sy_sg]
    refine sg_mono _ (fun n hn => ?_)
    by_cases w : gMk1 a 77 n ≠ 0
    · have w₉ := w
      rw [r 77 (by decide)] at w₉
      have q := fy.2.1 n hn w₉
      have ra := row n q.1
      have aa := ((Mi_al h).mp q.1).1
      rw [if_pos w, ra.2.2.1, ra.1, r7 11 (by decide) (by decide), if_pos (show a 126 n ≠ 0 ∧ (a 87 9).toInt ≤ (a 130 n).toInt from ⟨aa.2, q.2⟩)]
      have s := szn n aa
      split
      · exact s
      · exact Int.le_refl _
    · rw [if_neg w]
      split
      · next z => exact szn n ⟨hn, z.1⟩
      · exact Int.le_refl _
  unfold gFu at hf
  unfold qJg
  rw [r7 2 (by decide) (by decide), r7 5 (by decide) (by decide), r7 9 (by decide) (by decide), r7 0 (by decide) (by decide), r7 11 (by decide) (by decide), r7 12 (by decide) (by decide), r7 10 (by decide) (by decide), r4, v3]
  have zz : ∀ F : Nat → Int, zsg F 0 = 0 := fun _ => rfl
  refine ⟨?_, FQ, h2, nm, by omega, ⟨by rw [zz]; omega, ho.1, by omega⟩, ⟨by rw [zz]; omega, by omega⟩, Int.le_trans FQ.2.2.2.1 FQ.2.2.2.2.1, pos, fun i _ hi => ⟨rfl, rfl, ?_⟩, fun i hi => absurd hi (by omega), fun n hn => ?_⟩
  · unfold gMk1
    exact I_87k (I_87k MI (by decide) (by decide) (by decide)) (by decide) (by decide) (by decide)
  · have q := qu i hi
    have ra := row _ q.1
    rw [ra.1, ra.2.1]
    have v := (ha _ ((Mi_al h).mp q.1).1).2.2 q.2
    omega
  · have hn₉ := (alx n).mp hn
    have ra := row n hn₉
    have aa := ((Mi_al h).mp hn₉).1
    have v := ha n aa
    rw [ra.1, ra.2.1, ra.2.2.1, ra.2.2.2]
    refine ⟨v.1, v.2.1, fun w => ?_⟩
    have y := v.2.2 w
    refine ⟨y.2.2, y.2.1, Or.inr ⟨?_, ?_⟩⟩
    · rintro ⟨i, hi, _⟩
      omega
    · have w7 := fy.2.2 n hn₉ w
      obtain ⟨j, j1, j2⟩ := FQ.2.2.1 n hn.1 (by rw [r 77 (by decide)]; exact w7)
      exact ⟨j, by omega, j2⟩
theorem gMf_7 (h4 : k ≠ 4) (h10 : k ≠ 10) : ∀ (f j : Nat) (a : Nat → Nat → Int32), gMf f j a 87 k = a 87 k := by
  intro f
  induction f with
  | zero => intro j a; rfl
  | succ f ih =>
    intro j a
    by_cases w : hQc a j
    · rw [gMf_y w, ih, gM1_7 h4 h10]
    · rw [gMf_n w, ih]
theorem Jg_end (h : qJg b st ot o0 P N (b 75 4).toInt.toNat) (h3 : (b 87 3).toInt = st) : qA0 b := by
  obtain ⟨hI, hF, h2, nm, hs, hO, hT, hl, hp, hu, hd, ha⟩ := h
  have b4 := hF.2.2.2
  have l0P := sg_le (m := (b 75 4).toInt.toNat) (F := P) (fun i hi => (hp i (by omega)).1) (b 75 4).toInt.toNat (Nat.le_refl _) 0 (by omega)
  have l0N := sg_le (m := (b 75 4).toInt.toNat) (F := N) (fun i hi => (hp i (by omega)).2) (b 75 4).toInt.toNat (Nat.le_refl _) 0 (by omega)
  have z0P : zsg P 0 = 0 := rfl
  have z0N : zsg N 0 = 0 := rfl
  have sy : gSy b 512 = zsg N (b 75 4).toInt.toNat := by
    have e := Fq_sum hF (fun n => if (b 87 9).toInt ≤ (b 130 n).toInt then (b 128 n).toInt else 0)
    have e2 : zsg N (b 75 4).toInt.toNat = zsg (fun j => if (b 87 9).toInt ≤ (b 130 (b 76 j).toNatClampNeg).toInt then (b 128 (b 76 j).toNatClampNeg).toInt else 0) (b 75 4).toInt.toNat := sg_cg _ (fun i hi => hd i hi)
    rw [e2, e, Sy_sg]
    refine sg_cg _ (fun n hn => ?_)
    by_cases w : b 77 n ≠ 0
    · obtain ⟨j, j1, j2⟩ := hF.2.2.1 n hn w
      have a6 := (hF.1 j j1).2.2.2
      rw [j2, tn_of hn] at a6
      rw [if_pos w]
      by_cases y : (b 87 9).toInt ≤ (b 130 n).toInt
      · rw [if_pos y, if_pos ⟨a6, y⟩]
      · rw [if_neg y, if_neg (fun z => y z.2)]
    · rw [if_neg w, if_neg (fun z => w ?_)]
      have v := ((ha n ⟨hn, z.1⟩).2.2 z.2).2.2
      have inn : zIn b (b 75 4).toInt.toNat n := v.elim (fun q => q.1) (fun q => q.2)
      obtain ⟨j, j1, j2⟩ := inn
      have q := (hF.1 j (by omega)).2.2.1
      rw [j2, tn_of hn] at q
      exact q
  refine ⟨hI, h2, nm, by omega, ⟨by omega, by omega, by rw [sy]; omega⟩, ⟨by omega, by omega⟩, fun n hn => ?_⟩
  have v := ha n hn
  refine ⟨v.1, v.2.1, fun w => ?_⟩
  have y := v.2.2 w
  rcases y.2.2 with q | q
  · exact ⟨⟨by omega, q.2.2⟩, y.2.1, y.1⟩
  · exact absurd q.2 q.1
theorem Av_mv (h : qAv a) (hf : ¬ gFu a) : qAv (gMv a) := by
  have j := Jg_0 h hf
  have q4 := j.2.1.2.2.2
  have e := gMf_J (gMk1 a 75 4).toInt.toNat 0 (gMk1 a) j (by omega)
  have r75 : gMf (gMk1 a 75 4).toInt.toNat 0 (gMk1 a) 75 = gMk1 a 75 := by
    have g : ∀ (f j : Nat) (c : Nat → Nat → Int32), gMf f j c 75 = c 75 := by
      intro f
      induction f with
      | zero => intro j c; rfl
      | succ f ih =>
        intro j c
        by_cases w : hQc c j
        · rw [gMf_y w, ih, gM1_r (by decide) (by decide) (by decide) (by decide)]
        · rw [gMf_n w, ih]
    exact g _ _ _
  refine Av_fd (Jg_end (st := 2 * (a 87 9).toInt + (a 87 5).toInt - (a 87 3).toInt) (ot := (a 87 3).toInt) (o0 := (a 87 10).toInt) (P := gPf (gMk1 a)) (N := gNf (gMk1 a)) ?_ ?_)
  · rw [r75]
    rw [Nat.zero_add] at e
    exact e
  · rw [gMf_7 (by decide) (by decide)]
    unfold gMk1
    rw [xu_o (by decide), xu_s]
    exact v3_e h
theorem Av_m0 (h : qAv a) : qAv (gM0 a) := by
  unfold gM0
  split
  · exact Av_ma h
  · exact h
theorem Av_mi (h : qAv a) : qAv (gMi a) := by
  unfold gMi
  split
  · exact Av_m0 h
  · next w => exact Av_mv (Av_m0 h) w
theorem Av_ro {z : Int} (h : qAv a) : qAv (gRo a z) := by
  unfold gRo
  split
  · exact Av_ma h
  · exact h
theorem Av_r1 {z : Int} (h : qAv a) : qAv (gR1 a z) := by
  unfold gR1
  split
  · exact h
  · exact Av_mi h
theorem Av_r2 {z : Int} (h : qAv a) : qAv (gR2 a z) := by
  unfold gR2
  split
  · exact h
  · exact Av_mi (Av_ma h)
theorem Av_rs {z : Int} (h : qAv a) : qAv (gRs a z) := by
  unfold gRs
  split
  · exact Av_ro h
  · exact Av_r2 (Av_r1 h)
end F26

