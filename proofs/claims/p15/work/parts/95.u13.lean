/-! AGES, the class (written by wip/tools/gen15y.py) -/
/-! AGES: the minor cleaning, what is kept -/
def zFY (a : Nat → Nat → Int32) : Prop := zFQ a ∧ ∀ x : Nat, x < 512 → a 77 x ≠ 0 → (a 75 5).toInt ≤ (a 130 x).toInt
section F23
variable {a b c : Nat → Nat → Int32} {y i x z : Int32} {m k n u f : Nat} {p e : Int}
theorem FY_cg (h : zFY a) (e3 : b 75 3 = a 75 3) (e4 : b 75 4 = a 75 4) (e5 : b 75 5 = a 75 5) (e6 : b 76 = a 76) (e7 : ∀ x, x < 512 → (b 77 x ≠ 0 ↔ a 77 x ≠ 0)) (e8 : b 126 = a 126) (e9 : b 130 = a 130) : zFY b := ⟨FQ_cg h.1 e3 e4 e6 e7 e8, fun x hx w => by
  rw [e5, e9]
  exact h.2 x hx ((e7 x hx).mp w)⟩
theorem FY_wh : zFY (aWh a x) := ⟨FQ_wh (by decide), fun k hk w => by
  refine absurd ?_ w
  unfold aWh
  rw [xu_o (by omega), xu_o (by omega), xu_o (by omega)]
  unfold zFl
  rw [if_pos ⟨rfl, by omega⟩]⟩
theorem FY_cm (h : zFY a) : zFY (aCm a y) := by
  refine ⟨FQ_cm h.1, fun k hk w => ?_⟩
  rw [aCm_5, aCm_o (c := 130) ⟨by decide, by decide, by decide⟩]
  by_cases d : 0 ≤ y.toInt ∧ y.toInt < 512 ∧ a 126 y.toNatClampNeg ≠ 0 ∧ (a 75 5).toInt ≤ (a 130 y.toNatClampNeg).toInt ∧ (a 75 4).toInt < 512 ∧ a 77 y.toNatClampNeg = 0
  · have e : aCm a y = ma_u (ma_u (ma_u a 77 y.toNatClampNeg 1) 76 (a 75 4).toNatClampNeg y) 75 4 (a 75 4 + 1) := if_pos d
    rw [e, xu_o (by omega), xu_o (by omega)] at w
    by_cases z : k = y.toNatClampNeg
    · rw [z]
      exact d.2.2.2.1
    · rw [xu_o (fun q => z q.2)] at w
      exact h.2 k hk w
  · have e : aCm a y = a := if_neg d
    rw [e] at w
    exact h.2 k hk w
theorem FY_cwf : ∀ (f : Nat) (i : Int32) (a : Nat → Nat → Int32), zFY a → zFY (aCwf m f i a) := by
  intro f
  induction f with
  | zero => intro i a h; exact h
  | succ f ih =>
    intro i a h
    exact ih _ _ (FY_cm h)
theorem FY_pop (h : zFY a) (hl : (a 75 3).toInt < (a 75 4).toInt) : zFY (aPop a) := by
  refine ⟨FQ_pop h.1 hl, ?_⟩
  have q4 := h.1.2.2.2
  have s0 : ∀ x : Nat, x < 512 → ma_u a 75 3 (a 75 3 + 1) 77 x ≠ 0 → (ma_u a 75 3 (a 75 3 + 1) 75 5).toInt ≤ (ma_u a 75 3 (a 75 3 + 1) 130 x).toInt := fun x hx w => by
    rw [xu_o (by omega)] at w
    rw [xu_o (by omega), xu_o (by omega)]
    exact h.2 x hx w
  have t := tn_cast (x := a 75 3) q4.1
  have q := h.1.1 (a 75 3).toNatClampNeg (by omega)
  have tq := tn_cast q.1
  unfold aPop
  split
  · have cw : ∀ (f : Nat) (i : Int32) (b : Nat → Nat → Int32), (∀ x : Nat, x < 512 → b 77 x ≠ 0 → (b 75 5).toInt ≤ (b 130 x).toInt) → ∀ x : Nat, x < 512 → aCwf (a 76 (a 75 3).toNatClampNeg).toNatClampNeg f i b 77 x ≠ 0 → (aCwf (a 76 (a 75 3).toNatClampNeg).toNatClampNeg f i b 75 5).toInt ≤ (aCwf (a 76 (a 75 3).toNatClampNeg).toNatClampNeg f i b 130 x).toInt := by
      intro f
      induction f with
      | zero => intro i b hb; exact hb
      | succ f ih =>
        intro i b hb
        refine ih (i + 1) (aCm b (aRef b _ i)) (fun x hx w => ?_)
        generalize aRef b (a 76 (a 75 3).toNatClampNeg).toNatClampNeg i = y at *
        rw [aCm_5, aCm_o (c := 130) ⟨by decide, by decide, by decide⟩]
        by_cases d : 0 ≤ y.toInt ∧ y.toInt < 512 ∧ b 126 y.toNatClampNeg ≠ 0 ∧ (b 75 5).toInt ≤ (b 130 y.toNatClampNeg).toInt ∧ (b 75 4).toInt < 512 ∧ b 77 y.toNatClampNeg = 0
        · have e : aCm b y = ma_u (ma_u (ma_u b 77 y.toNatClampNeg 1) 76 (b 75 4).toNatClampNeg y) 75 4 (b 75 4 + 1) := if_pos d
          rw [e, xu_o (by omega), xu_o (by omega)] at w
          by_cases z : x = y.toNatClampNeg
          · rw [z]
            exact d.2.2.2.1
          · rw [xu_o (fun q => z q.2)] at w
            exact hb x hx w
        · have e : aCm b y = b := if_neg d
          rw [e] at w
          exact hb x hx w
    refine cw _ _ _ (fun x hx w => ?_)
    rw [xu_o (c := 75) (by omega), xu_o (c := 130) (by omega)]
    by_cases z : x = (a 76 (a 75 3).toNatClampNeg).toNatClampNeg
    · rw [xu_o (by omega), xu_o (by omega), z]
      exact h.2 _ (by omega) q.2.2.1
    · rw [xu_o (fun q => z q.2)] at w
      exact s0 x hx w
  · exact s0
theorem FY_sp : ∀ (f : Nat) (a : Nat → Nat → Int32), zFY a → zFY (aSp f a) := by
  intro f
  induction f with
  | zero => intro a h; exact h
  | succ f ih =>
    intro a h
    show zFY (if (a 75 3).toInt < (a 75 4).toInt then aSp f (aPop a) else a)
    split
    · next w => exact ih _ (FY_pop h w)
    · exact h
theorem FY_hf : ∀ (f : Nat) (n : Int32) (a : Nat → Nat → Int32), zFY a → zFY (aHf f n a) := by
  intro f
  induction f with
  | zero => intro n a h; exact h
  | succ f ih =>
    intro n a h
    refine ih _ _ ?_
    split
    · exact FY_cm h
    · exact h
theorem FY_wf : ∀ (f : Nat) (n : Int32) (a : Nat → Nat → Int32), zFY a → zFY (aWf f n a) := by
  intro f
  induction f with
  | zero => intro n a h; exact FY_hf _ _ _ h
  | succ f ih => intro n a h; exact ih _ _ (FY_cm h)
theorem FY_rf : ∀ (f : Nat) (n : Int32) (a : Nat → Nat → Int32), zFY a → zFY (aRf f n a) := by
  intro f
  induction f with
  | zero => intro n a h; exact FY_wf _ _ _ h
  | succ f ih => intro n a h; exact ih _ _ (FY_cm h)
theorem FY_gr (h : zFY a) : zFY (aGr a y) := FY_cg h (congrFun (gr_r (by decide) (by decide) (by decide) (by decide)) 3) (congrFun (gr_r (by decide) (by decide) (by decide) (by decide)) 4) (congrFun (gr_r (by decide) (by decide) (by decide) (by decide)) 5) (gr_r (by decide) (by decide) (by decide) (by decide)) (fun x _ => by rw [gr_r (n := 77) (by decide) (by decide) (by decide) (by decide)]) (gr_r (by decide) (by decide) (by decide) (by decide)) (gr_r (by decide) (by decide) (by decide) (by decide))
theorem FY_gf : ∀ (f : Nat) (x : Int32) (a : Nat → Nat → Int32), zFY a → zFY (aGf f x a) := by
  intro f
  induction f with
  | zero => intro x a h; exact h
  | succ f ih =>
    intro x a h
    by_cases w : aGc a x
    · rw [aGf_y w]
      exact ih _ _ (FY_sp _ _ (FY_cm (FY_gr h)))
    · rw [aGf_n w]
      exact ih _ _ h
theorem FY_dc : ∀ (f : Nat) (i : Int32) (a : Nat → Nat → Int32), zFY a → zFY (gDc m f i a) := by
  intro f
  induction f with
  | zero => intro i a h; exact h
  | succ f ih =>
    intro i a h
    refine ih _ _ ?_
    split
    · exact FY_cm h
    · exact h
theorem FY_df : ∀ (f : Nat) (a : Nat → Nat → Int32) (p : Int), zFY a → zFY (gDf e f a p) := by
  intro f
  induction f with
  | zero => intro a p h; exact h
  | succ f ih =>
    intro a p h
    by_cases c : p < e
    · by_cases d : (zOb a p).toInt < 0
      · rw [gDf_fr c d]
        exact ih _ _ h
      · rw [gDf_go c (by omega)]
        exact ih _ _ (FY_dc _ _ _ h)
    · rw [gDf_e c]
      exact h
theorem FY_kp : zFY (gKp a) := FY_gf _ _ _ (FY_sp _ _ (FY_df _ _ _ (FY_rf _ _ _ FY_wh)))
/-! without a floor -/
theorem wh_5 : aWh a x 75 5 = x := by
  unfold aWh
  rw [xu_s]
theorem wh_of : zOf a (aWh a x) := fun c k q1 q2 q3 => by
  unfold aWh
  rw [xu_o (fun z => q1 z.1), xu_o (fun z => q1 z.1), xu_o (fun z => q1 z.1)]
  unfold zFl
  rw [if_neg (fun z => q3 z.1)]
theorem wh_7 (h : k < 512) : aWh a x 77 k = 0 := by
  unfold aWh
  rw [xu_o (by omega), xu_o (by omega), xu_o (by omega)]
  unfold zFl
  rw [if_pos ⟨rfl, by omega⟩]
theorem Pc_of (h : zOf a b) : zOf a (aPc b) := fun c k q1 q2 q3 => (h c k q1 q2 q3).trans (Pc_o q1 q3).symm
/-- those below the floor alone are BLACK -/
theorem WQ_pw (hp : ∀ x, xAl a x → 0 ≤ (a 130 x).toInt) : zWQ (aPc (aWh a x)) ∧ zOf a (aPc (aWh a x)) ∧ (∀ u, zNn (aPc (aWh a x)) u ↔ zDn (aPc (aWh a x)) u) ∧ ∀ u, zDn (aPc (aWh a x)) u ↔ (xAl a u ∧ (a 130 u).toInt < x.toInt) := by
  have of : zOf a (aPc (aWh a x)) := Pc_of wh_of
  have c7 : ∀ u, u < 512 → (xAl a u ∧ (a 130 u).toInt < x.toInt) → aPc (aWh a x) 77 u = 2 := fun u hu w => Pc_7o hu (by rw [← wh_of (a := a) (x := x) 126 u (by decide) (by decide) (by decide)]; exact w.1.2) (by rw [← wh_of (a := a) (x := x) 130 u (by decide) (by decide) (by decide), wh_5]; exact w.2)
  have n7 : ∀ u, u < 512 → ¬ (xAl a u ∧ (a 130 u).toInt < x.toInt) → aPc (aWh a x) 77 u = 0 := fun u hu w => by
    rw [Pc_7y (fun z => w ⟨⟨hu, ?_⟩, ?_⟩), wh_7 hu]
    · rw [wh_of (a := a) (x := x) 126 u (by decide) (by decide) (by decide)]
      exact z.2.1
    · have z2 := z.2.2
      rw [wh_5, ← wh_of (a := a) (x := x) 130 u (by decide) (by decide) (by decide)] at z2
      exact z2
  have r3 : aPc (aWh a x) 75 3 = 0 := by
    rw [Pc_75 (by decide)]
    unfold aWh
    rw [xu_o (by omega), xu_o (by omega), xu_s]
  have r4 : aPc (aWh a x) 75 4 = 0 := by
    rw [Pc_75 (by decide)]
    unfold aWh
    rw [xu_o (by omega), xu_s]
  have i0 : (0 : Int32).toInt = 0 := rfl
  have dn : ∀ u, zDn (aPc (aWh a x)) u ↔ (xAl a u ∧ (a 130 u).toInt < x.toInt) := fun u => by
    constructor
    · intro w
      by_cases d : xAl a u ∧ (a 130 u).toInt < x.toInt
      · exact d
      · have q := w.2
        rw [n7 u w.1 d] at q
        exact absurd q (by decide)
    · intro w
      exact ⟨w.1.1, c7 u w.1.1 w⟩
  refine ⟨⟨⟨?_, ?_, ?_⟩, ?_, ?_, ?_, ?_, ?_, ?_⟩, of, fun u => ?_, dn⟩
  · rw [r3]
    decide
  · rw [r3, r4]
    decide
  · rw [r4]
    omega
  · intro j j1 j2
    rw [r4] at j2
    omega
  · intro j j' j1 j2 j3
    rw [r4] at j3
    omega
  · intro u hu h1
    by_cases d : xAl a u ∧ (a 130 u).toInt < x.toInt
    · rw [c7 u hu d] at h1
      exact absurd h1 (by decide)
    · rw [n7 u hu d] at h1
      exact absurd h1 (by decide)
  · intro u hu
    by_cases d : xAl a u ∧ (a 130 u).toInt < x.toInt
    · exact Or.inr (Or.inr (c7 u hu d))
    · exact Or.inl (n7 u hu d)
  · rw [Pc_5]
    decide
  · intro u hu
    rw [Of_al of] at hu
    rw [← of 130 u (by decide) (by decide) (by decide)]
    exact hp u hu
  · constructor
    · intro w
      by_cases d : xAl a u ∧ (a 130 u).toInt < x.toInt
      · exact ⟨w.1, c7 u w.1 d⟩
      · exact absurd (n7 u w.1 d) w.2
    · intro w
      exact ⟨w.1, by rw [w.2]; decide⟩
/-- more have come -/
def zGq (a b : Nat → Nat → Int32) : Prop := zWQ b ∧ zOf a b ∧ (∀ u, zDn b u ↔ zDn a u) ∧ ∀ u, zNn a u → zNn b u
theorem gq_rf (h : zWQ a) : zGq a a := ⟨h, Of_rf, fun _ => Iff.rfl, fun _ w => w⟩
theorem gq_tr (h : zGq a b) (h2 : zGq b c) : zGq a c := ⟨h2.1, Of_tr h.2.1 h2.2.1, fun u => (h2.2.2.1 u).trans (h.2.2.1 u), fun u w => h2.2.2.2 u (h.2.2.2 u w)⟩
theorem gq_cm (h : zWQ a) : zGq a (aCm a y) := by
  have g := gr_cm (y := y) h
  exact ⟨g.1, g.2.1, g.2.2.1, fun u w => (g.2.2.2.1 u).mpr (Or.inl w)⟩
theorem gq_dc : ∀ (f : Nat) (i : Int32) (a : Nat → Nat → Int32), zWQ a → zGq a (gDc m f i a) := by
  intro f
  induction f with
  | zero => intro i a h; exact gq_rf h
  | succ f ih =>
    intro i a h
    show zGq a (gDc m f (i + 1) (if 0 < (a 87 12).toInt ∧ gCx a m i.toInt < 375 ∧ a 83 (gCx a m i.toInt).toNat ≠ 0 then aCm a (aRef a m i) else a))
    split
    · exact gq_tr (gq_cm h) (ih _ _ (WQ_cm h))
    · exact ih _ _ h
theorem dc_in : ∀ (f : Nat) (i : Int32) (a : Nat → Nat → Int32), zWQ a → 0 ≤ i.toInt → i.toInt + f ≤ 512 → ∀ j : Nat, i.toInt ≤ (j : Int) → (j : Int) < i.toInt + f → gDy a m (j : Int) → ∀ u, xAl a u → aRef a m (Int32.ofNat j) = Int32.ofNat u → zNn (gDc m f i a) u := by
  intro f
  induction f with
  | zero => intro i a h h0 h5 j h1 h2; omega
  | succ f ih =>
    intro i a h h0 h5 j h1 h2 hd u hu hr
    have ip : (i + 1).toInt = i.toInt + 1 := i_p1 (by omega)
    show zNn (gDc m f (i + 1) (if 0 < (a 87 12).toInt ∧ gCx a m i.toInt < 375 ∧ a 83 (gCx a m i.toInt).toNat ≠ 0 then aCm a (aRef a m i) else a)) u
    by_cases w : (j : Int) = i.toInt
    · have e : Int32.ofNat j = i := by
        have t := tn_cast h0
        rw [show j = i.toNatClampNeg from by omega]
        exact ofN_tn h0
      have hd' : 0 < (a 87 12).toInt ∧ gCx a m i.toInt < 375 ∧ a 83 (gCx a m i.toInt).toNat ≠ 0 := by
        rw [← w]
        exact hd
      rw [if_pos hd']
      rw [e] at hr
      have g := gr_cm (y := aRef a m i) h
      exact (gq_dc f (i + 1) _ g.1).2.2.2 u ((g.2.2.2.1 u).mpr (Or.inr ⟨hu, hr⟩))
    · have key : ∀ d : Nat → Nat → Int32, zWQ d → zOf a d → zNn (gDc m f (i + 1) d) u := fun d hd2 o => by
        have o1 : ∀ c k, c ≠ 75 → c ≠ 76 → c ≠ 77 → d c k = a c k := fun c k q1 q2 q3 => (o c k q1 q2 q3).symm
        refine ih (i + 1) d hd2 (by omega) (by omega) j (by omega) (by omega) ?_ u ((Of_al o).mpr hu) ?_
        · unfold gDy gCx at hd ⊢
          rw [o1 87 12 (by decide) (by decide) (by decide), o1 130 m (by decide) (by decide) (by decide), o1 83 _ (by decide) (by decide) (by decide)]
          exact hd
        · rw [← hr]
          exact rf_cg (funext (fun k => o1 _ k (by omega) (by omega) (by omega))) (funext (fun k => o1 _ k (by decide) (by decide) (by decide))) (funext (fun k => o1 _ k (by decide) (by decide) (by decide)))
      split
      · exact key _ (WQ_cm h) cm_of
      · exact key _ h Of_rf
theorem gq_df : ∀ (f : Nat) (a : Nat → Nat → Int32) (p : Int), zWQ a → zGq a (gDf e f a p) := by
  intro f
  induction f with
  | zero => intro a p h; exact gq_rf h
  | succ f ih =>
    intro a p h
    by_cases c : p < e
    · by_cases d : (zOb a p).toInt < 0
      · rw [gDf_fr c d]
        exact ih _ _ h
      · rw [gDf_go c (by omega)]
        have g := gq_dc (m := (zOb a p).toNatClampNeg) ((a 128 (zOb a p).toNatClampNeg).toInt - 1 - (0 : Int32).toInt).toNat 0 a h
        exact gq_tr g (ih _ _ g.1)
    · rw [gDf_e c]
      exact gq_rf h
/-- what the OLD ones refer to on dirty cards has come -/
theorem df_in : ∀ (f : Nat) (a : Nat → Nat → Int32) (p : Int), qI a → zWQ a → qGd a p → 0 ≤ p → e ≤ 4500 → (e - p).toNat ≤ f → ∀ n, xAl a n → p ≤ (a 130 n).toInt → (a 130 n).toInt < e → ∀ j : Nat, (j : Int) < (a 128 n).toInt - 1 → gDy a n (j : Int) → ∀ u, xAl a u → aRef a n (Int32.ofNat j) = Int32.ofNat u → zNn (gDf e f a p) u := by
  intro f
  induction f with
  | zero => intro a p hI h g h0 h4 hf n hn h1 h2; omega
  | succ f ih =>
    intro a p hI h g h0 h4 hf n hn h1 h2 j hj hd u hu hr
    have sz := (hI.1 n hn).2.1
    have pe : p < e := by omega
    by_cases d : (zOb a p).toInt < 0
    · rw [gDf_fr pe d]
      have ne : (a 130 n).toInt ≠ p := fun w => by
        rw [Ob_pl hI hn w, Int32.toInt_ofNat_of_lt (by have := hn.1; omega)] at d
        omega
      exact ih a (p + 1) hI h (Gd_s hI g d h0 (by omega)) (by omega) h4 (by omega) n hn (by omega) h2 j hj hd u hu hr
    · obtain ⟨n', al, e1, e2, e3⟩ := OB_al hI g (show 0 ≤ (zOb a p).toInt by omega)
      rw [gDf_go pe (by omega), e3]
      have sz' := (hI.1 n' al).2.1
      have gq := gq_dc (m := n') ((a 128 n').toInt - 1 - (0 : Int32).toInt).toNat 0 a h
      have z0 : (0 : Int32).toInt = 0 := rfl
      by_cases w : n = n'
      · rw [w] at hj hd hr
        exact (gq_df f _ _ gq.1).2.2.2 u (dc_in _ _ _ h (by decide) (by omega) j (by omega) (by omega) hd u hu hr)
      · have o := gq.2.1
        have o1 : ∀ c k, c ≠ 75 → c ≠ 76 → c ≠ 77 → gDw a n' 0 c k = a c k := fun c k q1 q2 q3 => (o c k q1 q2 q3).symm
        have dis := hI.2.1 n n' hn al w
        refine ih (gDw a n' 0) (p + (a 128 n').toInt) (qI_of hI o) gq.1 (fun m hm w2 => ?_) (by omega) h4 (by omega) n ((Of_al o).mpr hn) ?_ ?_ j ?_ ?_ u ((Of_al o).mpr hu) ?_
        · have hm' := (Of_al o).mp hm
          rw [o1 130 m (by decide) (by decide) (by decide), o1 128 m (by decide) (by decide) (by decide)] at w2
          by_cases q : m = n'
          · rw [q] at w2
            omega
          · have dm := hI.2.1 m n' hm' al q
            have sm := (hI.1 m hm').2.1
            omega
        · rw [o1 130 n (by decide) (by decide) (by decide)]
          omega
        · rw [o1 130 n (by decide) (by decide) (by decide)]
          exact h2
        · rw [o1 128 n (by decide) (by decide) (by decide)]
          exact hj
        · unfold gDy gCx at hd ⊢
          rw [o1 87 12 (by decide) (by decide) (by decide), o1 130 n (by decide) (by decide) (by decide), o1 83 _ (by decide) (by decide) (by decide)]
          exact hd
        · rw [← hr]
          exact rf_cg (funext (fun k => o1 _ k (by omega) (by omega) (by omega))) (funext (fun k => o1 _ k (by decide) (by decide) (by decide))) (funext (fun k => o1 _ k (by decide) (by decide) (by decide)))
end F23
