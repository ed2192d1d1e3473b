/-! AGES, the class (written by wip/tools/gen15y.py) -/
/-! AGES: the minor cleaning, who is left -/
section F24
variable {a b : Nat → Nat → Int32} {y i x : Int32} {m k n u f : Nat} {p e : Int}
theorem hf_5 : ∀ (f : Nat) (n : Int32) (a : Nat → Nat → Int32), aHf f n a 75 5 = a 75 5 := by
  intro f
  induction f with
  | zero => intro n a; rfl
  | succ f ih =>
    intro n a
    show aHf f (n + 1) (if _ then aCm a n else a) 75 5 = a 75 5
    rw [ih]
    split
    · exact aCm_5
    · rfl
theorem wf_5 : ∀ (f : Nat) (n : Int32) (a : Nat → Nat → Int32), aWf f n a 75 5 = a 75 5 := by
  intro f
  induction f with
  | zero => intro n a; exact hf_5 _ _ _
  | succ f ih =>
    intro n a
    show aWf f (n + 1) (aCm a (a 74 n.toNatClampNeg)) 75 5 = a 75 5
    rw [ih, aCm_5]
theorem rf_5 : ∀ (f : Nat) (n : Int32) (a : Nat → Nat → Int32), aRf f n a 75 5 = a 75 5 := by
  intro f
  induction f with
  | zero => intro n a; exact wf_5 _ _ _
  | succ f ih =>
    intro n a
    show aRf f (n + 1) (aCm a (a 72 n.toNatClampNeg)) 75 5 = a 75 5
    rw [ih, aCm_5]
theorem ro_5 : aRo a 0 75 5 = a 75 5 := rf_5 _ _ _
def gB1 (a : Nat → Nat → Int32) : Nat → Nat → Int32 := aRo (aPc (aWh a (a 87 9))) 0
def gB2 (a : Nat → Nat → Int32) : Nat → Nat → Int32 := gDp (gB1 a) (a 87 10).toInt 0
def gB3 (a : Nat → Nat → Int32) : Nat → Nat → Int32 := aSp 512 (gB2 a)
theorem Kp_b (h : 0 ≤ (a 87 9).toInt) : aPc (gKp a) = aGw (gB3 a) 0 := by
  have h0 : 0 ≤ (aWh a (a 87 9) 75 5).toInt := by
    rw [wh_5]
    exact h
  have h1 : 0 ≤ (aRo (aWh a (a 87 9)) 0 75 5).toInt := by
    rw [ro_5]
    exact h0
  have h2 : 0 ≤ (gDp (aRo (aWh a (a 87 9)) 0) (a 87 10).toInt 0 75 5).toInt := by
    unfold gDp
    rw [df_5]
    exact h1
  have h3 : 0 ≤ (aSp 512 (gDp (aRo (aWh a (a 87 9)) 0) (a 87 10).toInt 0) 75 5).toInt := by
    rw [sp_5]
    exact h2
  unfold gKp gB3 gB2 gB1
  rw [Pc_gw h3, Pc_sp _ _ h2, Pc_dp h1, Pc_ro h0]
theorem B3_all (h : qAv a) : qE0 (gB3 a) ∧ zOf a (gB3 a) ∧ qCl (gB3 a) ∧ (∀ u, xAl a u → (a 130 u).toInt < (a 87 9).toInt → zNn (gB3 a) u) := by
  have hI := h.1
  have nm := h.2.2.1
  have g0 := WQ_pw (a := a) (x := a 87 9) (fun x hx => (hI.1 x hx).1.2)
  have o0 := g0.2.1
  have g1 := gr_ro g0.1 (by rw [← o0 69 6 (by decide) (by decide) (by decide)]; exact hI.2.2.2.1.1.2) (by rw [← o0 69 5 (by decide) (by decide) (by decide)]; exact hI.2.2.2.1.2.1.2)
  have o1 : zOf a (gB1 a) := Of_tr o0 g1.2.1
  have g2 := gq_df (e := (a 87 10).toInt) ((a 87 10).toInt - 0).toNat (gB1 a) 0 g1.1
  have o2 : zOf a (gB2 a) := Of_tr o1 g2.2.1
  have s3 := E0_sp g2.1
  have o3 : zOf a (gB3 a) := Of_tr o2 s3.2
  have nn3 : ∀ u, zNn (gB2 a) u → zNn (gB3 a) u := fun u w => (sp_Nn g2.1).mpr (zM_in w)
  have old0 : ∀ u, xAl a u → (a 130 u).toInt < (a 87 9).toInt → zNn (gB3 a) u := fun u hu hp => nn3 u (g2.2.2.2 u ((g1.2.2.2.1 u).mpr (Or.inl ((g0.2.2.1 u).mpr ((g0.2.2.2 u).mpr ⟨hu, hp⟩)))))
  refine ⟨s3.1, o3, ⟨fun u hu hr => ?_, fun u y hn hu he => ?_⟩, old0⟩
  · have al : xAl a u := (Of_al o3).mp hu
    have r : ∀ c, c ≠ 75 → c ≠ 76 → c ≠ 77 → gB3 a c = a c := fun c q1 q2 q3 => funext (fun k => (o3 c k q1 q2 q3).symm)
    have r0 : ∀ c, c ≠ 75 → c ≠ 76 → c ≠ 77 → aPc (aWh a (a 87 9)) c = a c := fun c q1 q2 q3 => funext (fun k => (o0 c k q1 q2 q3).symm)
    refine nn3 u (g2.2.2.2 u ((g1.2.2.2.1 u).mpr (Or.inr ⟨(Of_al o0).mpr al, ?_⟩)))
    unfold zRl zWl at hr ⊢
    rw [r 72 (by decide) (by decide) (by decide), r 74 (by decide) (by decide) (by decide), r 69 (by decide) (by decide) (by decide)] at hr
    rw [r0 72 (by decide) (by decide) (by decide), r0 74 (by decide) (by decide) (by decide), r0 69 (by decide) (by decide) (by decide)]
    exact hr.elim Or.inl (fun w => Or.inr (Or.inl w))
  · have hm := (sp_Nn g2.1).mp hn
    have he2 : zEd (gB2 a) u y := (Of_ed s3.2).mp he
    by_cases d : zDn (gB2 a) u
    · have ou := (g0.2.2.2 u).mp ((g1.2.2.1 u).mp ((g2.2.2.1 u).mp d))
      obtain ⟨ay, i, i0, i1, ir⟩ := (Of_ed o3).mp he
      by_cases w : (a 130 y).toInt < (a 87 9).toInt
      · exact old0 y ay w
      · refine nn3 y ?_
        have t := tn_cast i0
        have ei : Int32.ofNat i.toNatClampNeg = i := ofN_tn i0
        have sz := (hI.1 u ou.1).2.1
        have pu := (h.2.2.2.2.2.2.1 u ou.1).2.1 ou.2
        have p0 := (hI.1 u ou.1).1.2
        have yt : (Int32.ofNat y).toNatClampNeg = y := tn_of ay.1
        have yi : (Int32.ofNat y).toInt = (y : Int) := Int32.toInt_ofNat_of_lt (by have := ay.1; omega)
        have dr := h.2.2.2.2.2.2.2 u ou.1 ou.2 i.toNatClampNeg (by omega) (by
          unfold gRw
          rw [ei, ir, yt, yi]
          exact ⟨by omega, by have := ay.1; omega, ay.2, by omega⟩)
        have cx : gCx a u (i.toNatClampNeg : Int) < 375 := by
          unfold gCx
          have c4 := nm.2.2.2.2
          have ol := nm.2.1
          have ot := h.2.2.2.2.2.1
          refine Int.ediv_lt_of_lt_mul (by omega) ?_
          have m4 : 375 * 4 ≤ 375 * (a 87 12).toInt := Int.mul_le_mul_of_nonneg_left c4 (by decide)
          omega
        have ob1 : ∀ c k, c ≠ 75 → c ≠ 76 → c ≠ 77 → gB1 a c k = a c k := fun c k q1 q2 q3 => (o1 c k q1 q2 q3).symm
        refine df_in ((a 87 10).toInt - 0).toNat (gB1 a) 0 (qI_of hI o1) g1.1 (Gd_0 (qI_of hI o1)) (by decide) (by have := h.2.2.2.2.2.1; have := nm.2.1; omega) (Nat.le_refl _) u ((Of_al o1).mpr ou.1) (by rw [ob1 130 u (by decide) (by decide) (by decide)]; exact p0) (by rw [ob1 130 u (by decide) (by decide) (by decide)]; omega) i.toNatClampNeg (by rw [ob1 128 u (by decide) (by decide) (by decide)]; omega) ?_ y ((Of_al o1).mpr ay) ?_
        · unfold gDy
          have cxe : gCx (gB1 a) u (i.toNatClampNeg : Int) = gCx a u (i.toNatClampNeg : Int) := by
            unfold gCx
            rw [ob1 130 u (by decide) (by decide) (by decide), ob1 87 12 (by decide) (by decide) (by decide)]
          rw [cxe, ob1 87 12 (by decide) (by decide) (by decide), ob1 83 _ (by decide) (by decide) (by decide)]
          exact ⟨by have := nm.2.2.2.2; omega, cx, dr⟩
        · rw [ei, ← ir]
          exact rf_cg (funext (fun k => ob1 _ k (by omega) (by omega) (by omega))) (funext (fun k => ob1 _ k (by decide) (by decide) (by decide))) (funext (fun k => ob1 _ k (by decide) (by decide) (by decide)))
    · exact (sp_Nn g2.1).mpr (zM_cl hm d he2)
theorem Kp_I (h : qAv a) : qI (aPc (gKp a)) ∧ qE0 (aPc (gKp a)) := by
  have b3 := B3_all h
  rw [Kp_b h.2.2.1.2.1.1]
  exact I_gf _ 0 _ (qI_of h.1 b3.2.1) b3.1
theorem Mi_b (h : qAv a) : aPc (gMk0 a) = aMv (aPc (gKp a)) 0 := by
  have e5 : 0 ≤ (gKp a 75 5).toInt := by
    unfold gKp aGw
    rw [gf_5, sp_5]
    unfold gDp
    rw [df_5, ro_5, wh_5]
    exact h.2.2.1.2.1.1
  exact Pc_mv e5
theorem Mi_md (h : qAv a) : qMd (aPc (gKp a)) (aPc (gMk0 a)) (aPc (gKp a) 69 6).toInt := by
  rw [Mi_b h]
  exact Md_mv (Kp_I h).1 (Kp_I h).2.1.2.2.2.2.2.1
theorem oPc : zOf (aPc b) b := fun c k q1 _ q3 => Pc_o q1 q3
theorem Mi_I (h : qAv a) : qI (gMk0 a) := by
  refine qI_of ?_ (oPc (b := gMk0 a))
  rw [Mi_b h]
  exact I_mv (Kp_I h).1 (Kp_I h).2.1.2.2.2.2.2.1
theorem Kp_r (h1 : k ≠ 69) (h2 : k ≠ 73) (h3 : k ≠ 74) (h4 : k ≠ 134) (h5 : k ≠ 75) (h6 : k ≠ 76) (h7 : k ≠ 77) : gKp a k = a k := funext (fun j => by
  unfold gKp aGw
  rw [Gf_r h1 h2 h3 h4 h5 h6 h7, aSp_o ⟨h5, h6, h7⟩]
  have d : ∀ (f : Nat) (b : Nat → Nat → Int32) (p e : Int), gDf e f b p k j = b k j := by
    intro f
    induction f with
    | zero => intro b p e; rfl
    | succ f ih =>
      intro b p e
      by_cases c : p < e
      · by_cases q : (zOb b p).toInt < 0
        · rw [gDf_fr c q, ih]
        · rw [gDf_go c (by omega), ih, gDw_o ⟨h5, h6, h7⟩]
      · rw [gDf_e c]
  unfold gDp
  rw [d, aRo_o ⟨h5, h6, h7⟩]
  exact (wh_of (a := a) k j h5 h6 h7).symm)
theorem Kp_7 : gKp a 75 5 = a 87 9 := by
  unfold gKp aGw
  rw [gf_5, sp_5]
  unfold gDp
  rw [df_5, ro_5, wh_5]
theorem Mi_al (h : qAv a) : xAl (gMk0 a) n ↔ xAl a n ∧ ((a 130 n).toInt < (a 87 9).toInt ∨ gKp a 77 n ≠ 0) := by
  have md := Md_al (n := n) (Kp_I h).1 (Mi_md h)
  have r6 : gKp a 126 = a 126 := Kp_r (by decide) (by decide) (by decide) (by decide) (by decide) (by decide) (by decide)
  have r13 : gKp a 130 = a 130 := Kp_r (by decide) (by decide) (by decide) (by decide) (by decide) (by decide) (by decide)
  have al : xAl (gKp a) n ↔ xAl a n := by
    unfold xAl
    rw [r6]
  rw [← Pc_al (a := gMk0 a), md, Pc_al, al]
  constructor
  · rintro ⟨w1, w2⟩
    refine ⟨w1, ?_⟩
    by_cases d : (a 130 n).toInt < (a 87 9).toInt
    · exact Or.inl d
    · refine Or.inr ?_
      rw [Pc_7y (fun z => d ?_)] at w2
      · exact w2
      · have z2 := z.2.2
        rw [r13, Kp_7] at z2
        exact z2
  · rintro ⟨w1, w2⟩
    refine ⟨w1, ?_⟩
    by_cases d : (a 130 n).toInt < (a 87 9).toInt
    · rw [Pc_7o w1.1 (by rw [r6]; exact w1.2) (by rw [r13, Kp_7]; exact d)]
      decide
    · rw [Pc_7y (fun z => d ?_)]
      · exact w2.elim (fun q => absurd q d) id
      · have z2 := z.2.2
        rw [r13, Kp_7] at z2
        exact z2
theorem Mi_f (h : qAv a) (hn : xAl (gMk0 a) n) : (∀ f, 126 ≤ f → f < 1000 → f ≠ 134 → gMk0 a f n = a f n) ∧ gMk0 a (1000 + n) = a (1000 + n) ∧ ∀ p : Nat, (a 130 n).toInt ≤ (p : Int) → (p : Int) < (a 130 n).toInt + (a 128 n).toInt → gMk0 a 71 p = a 71 p := by
  have md := (Md_al (n := n) (Kp_I h).1 (Mi_md h)).mp (Pc_al.mpr hn)
  have q := Md_f (Mi_md h) hn.1 md.2
  have kr : ∀ c, c ≠ 69 → c ≠ 73 → c ≠ 74 → c ≠ 134 → c ≠ 75 → c ≠ 76 → c ≠ 77 → gKp a c = a c := fun c h1 h2 h3 h4 h5 h6 h7 => Kp_r h1 h2 h3 h4 h5 h6 h7
  refine ⟨fun f h1 h2 h3 => ?_, ?_, fun p h1 h2 => ?_⟩
  · have z := q.1 f h1 h2
    rw [Pc_o (by omega) (by omega), Pc_o (by omega) (by omega), kr f (by omega) (by omega) (by omega) h3 (by omega) (by omega) (by omega)] at z
    exact z
  · have z := q.2
    rw [Pc_r (by omega) (by omega), Pc_r (by omega) (by omega), kr (1000 + n) (by omega) (by omega) (by omega) (by omega) (by omega) (by omega) (by omega)] at z
    exact z
  · have z := Md_w (Kp_I h).1 (Mi_md h) md.1 md.2 (p := p) (by rw [Pc_o (by decide) (by decide), kr 130 (by decide) (by decide) (by decide) (by decide) (by decide) (by decide) (by decide)]; exact h1) (by rw [Pc_o (c := 130) (by decide) (by decide), Pc_o (c := 128) (by decide) (by decide), kr 130 (by decide) (by decide) (by decide) (by decide) (by decide) (by decide) (by decide), kr 128 (by decide) (by decide) (by decide) (by decide) (by decide) (by decide) (by decide)]; exact h2)
    rw [Pc_o (by decide) (by decide), Pc_o (by decide) (by decide), kr 71 (by decide) (by decide) (by decide) (by decide) (by decide) (by decide) (by decide)] at z
    exact z
theorem Mi_8 (h : 82 ≤ k ∧ k ≤ 93) : gMk0 a k = a k := funext (fun j => by
  unfold gMk0
  rw [show aMv (gKp a) 0 k j = gKp a k j from mf_9 h _ _ _, Kp_r (by omega) (by omega) (by omega) (by omega) (by omega) (by omega) (by omega)])
theorem Mi_w (h : k = 75 ∨ k = 76 ∨ k = 77) : gMk0 a k = gKp a k := funext (fun j => by
  have mf : ∀ (f : Nat) (x : Int32) (b : Nat → Nat → Int32), aMf f x b k j = b k j := by
    intro f
    induction f with
    | zero => intro x b; rfl
    | succ f ih =>
      intro x b
      by_cases w : aMc b x
      · rw [aMf_y w, ih, aRm_o (by omega) ⟨by omega, by omega, by omega, by omega⟩]
      · rw [aMf_n w, ih]
  exact mf _ _ _)
/-- the queue: each once, YOUNG, there; who is YOUNG and there is in it -/
theorem Mi_FY (h : qAv a) : zFQ (gMk0 a) ∧ (∀ n, n < 512 → gMk0 a 77 n ≠ 0 → xAl (gMk0 a) n ∧ (a 87 9).toInt ≤ (a 130 n).toInt) ∧ ∀ n, xAl (gMk0 a) n → (a 87 9).toInt ≤ (a 130 n).toInt → gMk0 a 77 n ≠ 0 := by
  have fy := FY_kp (a := a)
  have e5 := Mi_w (a := a) (k := 75) (by decide)
  have e6 := Mi_w (a := a) (k := 76) (by decide)
  have e7 := Mi_w (a := a) (k := 77) (by decide)
  have r13 : gKp a 130 = a 130 := Kp_r (by decide) (by decide) (by decide) (by decide) (by decide) (by decide) (by decide)
  have r6 : gKp a 126 = a 126 := Kp_r (by decide) (by decide) (by decide) (by decide) (by decide) (by decide) (by decide)
  have yg : ∀ n, n < 512 → gKp a 77 n ≠ 0 → (a 87 9).toInt ≤ (a 130 n).toInt := fun n hn w => by
    have q := fy.2 n hn w
    rw [Kp_7, r13] at q
    exact q
  have al : ∀ n, n < 512 → a 126 n ≠ 0 → gKp a 77 n ≠ 0 → xAl (gMk0 a) n := fun n hn h6 w => (Mi_al h).mpr ⟨⟨hn, h6⟩, Or.inr w⟩
  have a6 : ∀ n, n < 512 → gKp a 77 n ≠ 0 → a 126 n ≠ 0 := fun n hn w => by
    obtain ⟨j, j1, j2⟩ := fy.1.2.2.1 n hn w
    have q := (fy.1.1 j j1).2.2.2
    rw [j2, tn_of hn, r6] at q
    exact q
  refine ⟨?_, fun n hn w => ?_, fun n hn w => ?_⟩
  · have q := fy.1
    unfold zFQ at q ⊢
    rw [e5, e6, e7]
    refine ⟨fun j hj => ?_, q.2⟩
    have z := q.1 j hj
    have t := tn_cast z.1
    exact ⟨z.1, z.2.1, z.2.2.1, (al _ (by omega) (a6 _ (by omega) z.2.2.1) z.2.2.1).2⟩
  · rw [e7] at w
    exact ⟨al n hn (a6 n hn w) w, yg n hn w⟩
  · rw [e7]
    exact ((Mi_al h).mp hn).2.elim (fun q => by omega) id
end F24
