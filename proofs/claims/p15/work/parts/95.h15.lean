/-! the reference by numbers (written by wip/tools/gen18r.py) -/
/-! MARKING: what holds while it goes on -/
/-- news: what a BLACK one refers to is not WHITE; picture: ROOTS, WISHES, held ones are among those to come, and what those refer to -/
def qMI (a : Nat → Nat → Int32) : Prop := (a 87 7 = 1 → ∀ u y, zDn a u → xAl a u → zEd a u y → zNn a y) ∧ (a 87 7 ≠ 1 → (∀ u, zRt a u → zMk a u) ∧ ∀ u y, zMk a u → zEd a u y → zMk a y)
/-- while it goes on -/
def qMG (mk : Int32) (co gr : Nat → Int32) (ga gm : Int32) (us nr : Nat → Int32) (a : Nat → Nat → Int32) : Prop := mk.toInt ≠ 0 → qMQ co gr ga gm us nr a ∧ qMI a
def qGQ (mk : Int32) (co gr : Nat → Int32) (ga gm : Int32) (us nr : Nat → Int32) (a : Nat → Nat → Int32) : Prop := mk.toInt ≠ 0 → qMQ co gr ga gm us nr a
def qMS (mk : Int32) (a : Nat → Nat → Int32) (y : Int32) : Prop := mk.toInt ≠ 0 → a 87 7 ≠ 1 → y.toInt < 0 ∨ zMk a y.toNatClampNeg
section QJ
variable {aa a b c : Nat → Nat → Int32} {us nr kr kd ws at' ho wd wi ow rt wk wl kp co gr : Nat → Int32} {wm nu ro fo le ra pi y x i ga gm wt : Int32} {n k u : Nat} {T : Nat → Prop}
theorem Rt_of (o : zOf a b) : zRt b u ↔ zRt a u := by
  unfold zRt zRl zWl zHl
  rw [← Al_of o, ← Of_r (c := 72) o (by decide) (by decide) (by decide), ← Of_r (c := 74) o (by decide) (by decide) (by decide), ← Of_r (c := 69) o (by decide) (by decide) (by decide), ← Of_r (c := 133) o (by decide) (by decide) (by decide)]
/-- some come -/
theorem MI_gr (h : qMI a) (g : zGr a b T) : qMI b := by
  have e7 := g.2.1 87 7 (by decide) (by decide) (by decide)
  refine ⟨fun w u y hd ha he => ?_, fun w => ?_⟩
  · rw [g.2.2.2.1]
    rw [← Al_of g.2.1] at ha
    exact Or.inl (h.1 (by rw [e7]; exact w) u y ((g.2.2.1 u).mp hd) ha ((Of_ed g.2.1).mp he))
  · have q := h.2 (by rw [e7]; exact w)
    have mk : ∀ x, zMk b x ↔ zM (fun u => zMk a u ∨ (xAl a u ∧ T u)) (zMk a) (zEd a) x := fun x =>
      (zM_cg g.2.2.2.1 g.2.2.1 (fun u y => Of_ed g.2.1)).trans (zM_gy (fun u w => Dn_Nn w))
    refine ⟨fun u hu => (mk u).mpr (zM_in (Or.inl (q.1 u ((Rt_of g.2.1).mp hu)))), fun u y hu he => ?_⟩
    rw [mk] at hu ⊢
    have he2 := (Of_ed g.2.1).mp he
    by_cases z : zMk a u
    · exact zM_in (Or.inl (q.2 u y z he2))
    · exact zM_cl hu z he2
theorem MI_cm (h : qMI a) (hw : zWQ a) : qMI (aCm a y) := MI_gr h (gr_cm hw)
theorem MI_ro (h : qMI a) (hw : zWQ a) (h6 : (a 69 6).toInt ≤ 512) (h5 : (a 69 5).toInt ≤ 512) : qMI (aRo a 0) := MI_gr h (gr_ro hw h6 h5)
theorem pop_nn (h : zWQ a) (hl : (a 75 3).toInt < (a 75 4).toInt) (hn : zNn a u) : zNn (aPop a) u := by
  obtain ⟨q1, q2, q3, q4, q5, q6, q7⟩ := h
  have cb : cnt (a 77) 512 ≤ 512 := cnt_le
  have q12 := q1.2.2
  have ch := tn_cast q1.1
  have p := q2 (a 75 3).toNatClampNeg (by omega) (by omega)
  have w := WQ_mid (y := a 76 (a 75 3).toNatClampNeg) ⟨q1, q2, q3, q4, q5, q6, q7⟩ hl rfl
  rw [aPop_y (a := a) (y := a 76 (a 75 3).toNatClampNeg) rfl p.1 p.2.1 p.2.2.1]
  have i0 : (0 : Int32).toInt = 0 := rfl
  have sb := i_bd ((ma_u (ma_u a 75 3 (a 75 3 + 1)) 77 (a 76 (a 75 3).toNatClampNeg).toNatClampNeg 2) 128 (a 76 (a 75 3).toNatClampNeg).toNatClampNeg)
  have g := gr_cwf (m := (a 76 (a 75 3).toNatClampNeg).toNatClampNeg) (((ma_u (ma_u a 75 3 (a 75 3 + 1)) 77 (a 76 (a 75 3).toNatClampNeg).toNatClampNeg 2) 128 (a 76 (a 75 3).toNatClampNeg).toNatClampNeg).toInt - 1 - (0 : Int32).toInt).toNat 0 _ (by omega) w
  refine (g.2.2.2.1 u).mpr (Or.inl ⟨hn.1, ?_⟩)
  by_cases z : u = (a 76 (a 75 3).toNatClampNeg).toNatClampNeg
  · rw [z, xu_s]
    decide
  · rw [xu_o (fun w => z w.2), xu_o (by omega)]
    exact hn.2
theorem pop_bl (h : zWQ a) (hl : (a 75 3).toInt < (a 75 4).toInt) {z v : Nat} (hz : ¬ zDn a z) (hd : zDn (aPop a) z) (he : zEd a z v) : zNn (aPop a) v := by
  have H := h
  obtain ⟨q1, q2, q3, q4, q5, q6, q7⟩ := h
  have cb : cnt (a 77) 512 ≤ 512 := cnt_le
  have q12 := q1.2.2
  have ch := tn_cast q1.1
  have p := q2 (a 75 3).toNatClampNeg (by omega) (by omega)
  have w := WQ_mid (y := a 76 (a 75 3).toNatClampNeg) H hl rfl
  have e := aPop_y (a := a) (y := a 76 (a 75 3).toNatClampNeg) rfl p.1 p.2.1 p.2.2.1
  rw [e] at hd ⊢
  generalize hq : a 76 (a 75 3).toNatClampNeg = q at *
  have i0 : (0 : Int32).toInt = 0 := rfl
  have sb := i_bd ((ma_u (ma_u a 75 3 (a 75 3 + 1)) 77 q.toNatClampNeg 2) 128 q.toNatClampNeg)
  have g := gr_cwf (m := q.toNatClampNeg) (((ma_u (ma_u a 75 3 (a 75 3 + 1)) 77 q.toNatClampNeg 2) 128 q.toNatClampNeg).toInt - 1 - (0 : Int32).toInt).toNat 0 _ (by omega) w
  have o : zOf a (ma_u (ma_u a 75 3 (a 75 3 + 1)) 77 q.toNatClampNeg 2) := fun c k w1 w2 w3 => by rw [xu_o (fun y => w3 y.1), xu_o (fun y => w1 y.1)]
  have zq : z = q.toNatClampNeg := by
    by_cases w2 : z = q.toNatClampNeg
    · exact w2
    · have d := (g.2.2.1 z).mp hd
      unfold zDn at d
      rw [xu_o (fun w3 => w2 w3.2), xu_o (by omega)] at d
      exact absurd d hz
  rw [zq] at he
  obtain ⟨al, i, h0, h1, h2⟩ := he
  refine (g.2.2.2.1 v).mpr (Or.inr ⟨by rw [← Al_of o]; exact al, i, by omega, ?_, ?_⟩)
  · rw [o 128 q.toNatClampNeg (by decide) (by decide) (by decide)] at h1
    omega
  · rw [← Of_ref o]
    exact h2
theorem MI_pop (h : qMI a) (hw : zWQ a) (hl : (a 75 3).toInt < (a 75 4).toInt) : qMI (aPop a) := by
  have p := pop_all hw hl
  have o := p.2.1
  have e7 := o 87 7 (by decide) (by decide) (by decide)
  refine ⟨fun w u y hd ha he => ?_, fun w => ?_⟩
  · rw [← Al_of o] at ha
    have he2 := (Of_ed o).mp he
    by_cases z : zDn a u
    · exact pop_nn hw hl (h.1 (by rw [e7]; exact w) u y z ha he2)
    · exact pop_bl hw hl z hd he2
  · have q := h.2 (by rw [e7]; exact w)
    refine ⟨fun u hu => (p.2.2.1 u).mpr (q.1 u ((Rt_of o).mp hu)), fun u y hu he => (p.2.2.1 y).mpr (q.2 u y ((p.2.2.1 u).mp hu) ((Of_ed o).mp he))⟩
theorem MI_sp : ∀ (k : Nat) (a : Nat → Nat → Int32), qMI a → zWQ a → qMI (aSp k a) := by
  intro k
  induction k with
  | zero => intro a h _; exact h
  | succ k ih =>
    intro a h hw
    by_cases hl : (a 75 3).toInt < (a 75 4).toInt
    · rw [aSp_go hl]
      exact ih _ (MI_pop h hw hl) (pop_all hw hl).1
    · rw [aSp_st (Or.inr hl)]
      exact h
/-- it begins -/
theorem MI_b0 (hI : qI a) : qMI (aB0 a) := by
  have hI2 := I_87 (x := 1) hI
  have w := WQ_wh (a := ma_u a 87 8 1) (fun x hx => (hI2.1 x hx).1.2)
  have o := w.2.1
  have g := gr_ro w.1 (by rw [← o 69 6 (by decide) (by decide) (by decide)]; exact hI2.2.2.2.1.1.2) (by rw [← o 69 5 (by decide) (by decide) (by decide)]; exact hI2.2.2.2.1.2.1.2)
  have nd : ∀ u, ¬ zDn (aRo (aWh (ma_u a 87 8 1) 0) 0) u := fun u hd => w.2.2 u (Dn_Nn ((g.2.2.1 u).mp hd))
  refine ⟨fun _ u y hd => absurd hd (nd u), fun _ => ⟨fun u hu => ?_, fun u y hu he => zM_cl hu (nd u) he⟩⟩
  have hr := (Rt_of g.2.1).mp hu
  exact zM_in ((g.2.2.2.1 u).mpr (Or.inr hr))
theorem Nw_y (h : qRB us nr kr kd ws at' ho wd wi ow rt wk wl wm nu ro fo le ra pi a) (hp : ¬ pi = 0) : aNw a = a := by
  refine aNw_n ?_
  rw [h.2.2.2.2.2.2.2.2.2.2.2.2, if_neg hp]
  decide
theorem Nw_n (h : qRB us nr kr kd ws at' ho wd wi ow rt wk wl wm nu ro fo le ra pi a) (hp : pi = 0) : aNw a = aRo a 0 := by
  refine aNw_y ?_
  rw [h.2.2.2.2.2.2.2.2.2.2.2.2, if_pos hp]
/-- the row is empty, no news: a closed set -/
theorem Cl_0 (hI : qI a) (hm : qMI a) (hw : zWQ a) (hE : qE0 (aNw a)) : qCl (aNw a) := by
  by_cases h7 : a 87 7 = 1
  · rw [aNw_y h7] at hE ⊢
    have g := gr_ro hw hI.2.2.2.1.1.2 hI.2.2.2.1.2.1.2
    have m2 := MI_gr hm g
    have e7 := g.2.1 87 7 (by decide) (by decide) (by decide)
    refine ⟨fun u hu hr => ?_, fun u y hu ha he => m2.1 (by rw [← e7]; exact h7) u y ((E0_bl hE).mpr hu) ha he⟩
    have hr2 : zRt (aRo a 0) u := ⟨hu, hr.elim Or.inl (fun z => Or.inr (Or.inl z))⟩
    exact (g.2.2.2.1 u).mpr (Or.inr ((Rt_of g.2.1).mp hr2))
  · rw [aNw_n h7] at hE ⊢
    have q := hm.2 h7
    refine ⟨fun u hu hr => (Nn_end hE.1 hE.2).mp (q.1 u ⟨hu, hr.elim Or.inl (fun z => Or.inr (Or.inl z))⟩), fun u y hu _ he => (Nn_end hE.1 hE.2).mp (q.2 u y (zM_in hu) he)⟩
theorem MQ_of (h : qMQ co gr ga gm us nr a) : (a 75 3).toInt = ga.toInt ∧ (a 75 4).toInt = gm.toInt ∧ zWQ a := ⟨by rw [h.1], by rw [h.2.1], h.2.2.2.2⟩
theorem E0_of (h : qMQ co gr ga gm us nr a) (hl : gm.toInt ≤ ga.toInt) : qE0 a := ⟨h.2.2.2.2, by rw [h.1, h.2.1]; omega⟩
theorem u87 {c : Nat} (hc : c ≠ 87) : ma_u a 87 8 x c = a c := ma_u_ne _ _ _ hc
theorem E0_87 (h : qE0 a) : qE0 (ma_u a 87 8 x) := ⟨WQ_cg h.1 (u87 (by decide)).symm (u87 (by decide)).symm (u87 (by decide)).symm (u87 (by decide)).symm (u87 (by decide)).symm, by rw [u87 (by decide)]; exact h.2⟩
theorem Ed_87 {v : Nat} : zEd (ma_u a 87 8 x) u v ↔ zEd a u v := by
  have er : ∀ n i, aRef (ma_u a 87 8 x) n i = aRef a n i := fun n i => by
    unfold aRef
    rw [u87 (c := 1000 + n) (by omega), u87 (c := 130) (by decide), u87 (c := 71) (by decide)]
  unfold zEd xAl
  rw [u87 (c := 126) (by decide), u87 (c := 128) (by decide)]
  constructor
  · rintro ⟨w1, i, w2, w3, w4⟩
    exact ⟨w1, i, w2, w3, by rw [← er]; exact w4⟩
  · rintro ⟨w1, i, w2, w3, w4⟩
    exact ⟨w1, i, w2, w3, by rw [er]; exact w4⟩
theorem Cl_87 (h : qCl a) : qCl (ma_u a 87 8 x) := by
  have al : xAl (ma_u a 87 8 x) = xAl a := by
    funext n
    unfold xAl
    rw [u87 (by decide)]
  have nn : zNn (ma_u a 87 8 x) = zNn a := by
    funext n
    unfold zNn
    rw [u87 (by decide)]
  refine ⟨fun u hu hr => ?_, fun u y hu ha he => ?_⟩
  · rw [al] at hu
    rw [nn]
    unfold zRl zWl at hr
    rw [u87 (c := 72) (by decide), u87 (c := 74) (by decide), u87 (c := 69) (by decide)] at hr
    exact h.1 u hu hr
  · rw [nn] at hu ⊢
    rw [al] at ha
    exact h.2 u y hu ha (Ed_87.mp he)
theorem KB_87 (h : qMQ co gr ga gm us nr a) (h1 : qR1 us nr ws at' ho a) (hk : ∀ s : Nat, (s : Int) < 3100 → (kp s ≠ 0 ↔ us s ≠ 0 ∧ co s ≠ 0)) : qKB kp us nr (ma_u a 87 8 x) := by
  refine ⟨fun s hs hk2 => ((hk s (by omega)).mp hk2).1, fun s hs hu => ?_⟩
  rw [hk s (by omega)]
  have q := h.2.2.1 s hs hu
  have al := R1_al h1 hs hu
  unfold zNn
  rw [u87 (by decide), q]
  exact ⟨fun w => ⟨al.1, w.2⟩, fun w => ⟨hu, w.2⟩⟩
theorem kp_s {us co : Nat → Int32} {m : Nat → Nat → Int32} {i j : Int32} {x : Int32} (h : ∀ s : Nat, (s : Int) < i.toInt → (m 110 s ≠ 0 ↔ us s ≠ 0 ∧ co s ≠ 0)) (h0 : 0 ≤ i.toInt) (e : j.toInt = i.toInt + 1) (hx : x ≠ 0 ↔ us i.toNatClampNeg ≠ 0 ∧ co i.toNatClampNeg ≠ 0) : ∀ s : Nat, (s : Int) < j.toInt → (ma_u m 110 i.toNatClampNeg x 110 s ≠ 0 ↔ us s ≠ 0 ∧ co s ≠ 0) := by
  intro s hs
  have c := tn_cast h0
  by_cases z : s = i.toNatClampNeg
  · rw [z, mu_self]
    exact hx
  · rw [mu_ne z]
    exact h s (by omega)
/-- what an empty row ends -/
theorem Lk_1 (h : (a 75 3).toInt < (a 75 4).toInt) : aLk a = a := by
  unfold aLk
  rw [if_pos h]
theorem Lk_2 (h : ¬ (a 75 3).toInt < (a 75 4).toInt) (h2 : (aNw a 75 3).toInt < (aNw a 75 4).toInt) : aLk a = aNw a := by
  unfold aLk
  rw [if_neg h, if_pos h2]
theorem Nw_3 (hw : zWQ a) (h6 : (a 69 6).toInt ≤ 512) (h5 : (a 69 5).toInt ≤ 512) : aNw a 75 3 = a 75 3 := by
  unfold aNw
  split
  · exact (gr_ro hw h6 h5).2.2.2.2
  · rfl
theorem Nw_em (hw : zWQ a) (h6 : (a 69 6).toInt ≤ 512) (h5 : (a 69 5).toInt ≤ 512) (h : ¬ (aNw a 75 3).toInt < (aNw a 75 4).toInt) : ¬ (a 75 3).toInt < (a 75 4).toInt := by
  intro w
  unfold aNw at h
  split at h
  · have g := gr_ro hw h6 h5
    have ch := tn_cast hw.1.1
    have p := hw.2.1 (a 75 3).toNatClampNeg (by omega) (by omega)
    have cp := tn_cast p.1
    generalize a 76 (a 75 3).toNatClampNeg = q at *
    have hz : q.toNatClampNeg < 512 := by omega
    have nn := (g.2.2.2.1 q.toNatClampNeg).mpr (Or.inl ⟨hz, by rw [p.2.2.2]; decide⟩)
    have nd : ¬ zDn (aRo a 0) q.toNatClampNeg := fun w2 => by
      have w3 := ((g.2.2.1 _).mp w2).2
      rw [p.2.2.2] at w3
      exact absurd w3 (by decide)
    exact nd ((E0_bl ⟨g.1, h⟩).mpr nn)
  · exact h w
theorem Lk_3 (hw : zWQ a) (h6 : (a 69 6).toInt ≤ 512) (h5 : (a 69 5).toInt ≤ 512) (h2 : ¬ (aNw a 75 3).toInt < (aNw a 75 4).toInt) : aLk a = aFi (aNw a) := by
  unfold aLk
  rw [if_neg (Nw_em hw h6 h5 h2), if_neg h2]
end QJ
