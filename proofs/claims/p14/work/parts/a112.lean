/-! from 95.h15 -/
/-! the reference by numbers (written by wip/tools/gen18r.py) -/
/-! MARKING: what holds while it goes on -/
/-- news: what a BLACK one refers to is not WHITE; picture: ROOTS, WISHES, held ones are among those to come, and what those refer to -/
def qMI (a : Nat → Nat → Int32) : Prop := (a 87 7 = 1 → ∀ u y, zDn a u → xAl a u → zEd a u y → zNn a y) ∧ (a 87 7 ≠ 1 → (∀ u, zRt a u → zMk a u) ∧ ∀ u y, zMk a u → zEd a u y → zMk a y)
/-- while it goes on -/
def qMG (mk : Int32) (co gr : Nat → Int32) (ga gm : Int32) (us nr : Nat → Int32) (a : Nat → Nat → Int32) : Prop := mk.toInt ≠ 0 → qMQ co gr ga gm us nr a ∧ qMI a
def qGQ (mk : Int32) (co gr : Nat → Int32) (ga gm : Int32) (us nr : Nat → Int32) (a : Nat → Nat → Int32) : Prop := mk.toInt ≠ 0 → qMQ co gr ga gm us nr a
def qMS (mk : Int32) (a : Nat → Nat → Int32) (y : Int32) : Prop := mk.toInt ≠ 0 → a 87 7 ≠ 1 → y.toInt < 0 ∨ zMk a y.toNatClampNeg
section QJ
variable {aa a b c : Nat → Nat → Int32} {us nr kr kd ws at₉ ho wd wi ow rt wk wl kp co gr : Nat → Int32} {wm nu ro fo le ra pi y x i ga gm wt : Int32} {n k u : Nat} {T : Nat → Prop}
theorem Rt_of (o : zOf a b) : zRt b u ↔ zRt a u := by
  unfold zRt zRl zWl zHl
  rw [← Al_of o, ← Of_r (c := 72) o (by decide) (by decide) (by decide), ← Of_r (c := 74) o (by decide) (by decide) (by decide), ← Of_r (c := 69) o (by decide) (by decide) (by decide), ← Of_r (c := 133) o (by decide) (by decide) (by decide)]
/-- some come -/
theorem MI_gr (h : qMI a) (g : zGr a b T) : qMI b := by
  have e7 := g.2.1 87 7 (by decide) (by decide) (by decide)
  refine ⟨fun w u y hd ha he => ?_, fun w => ?_⟩
  · rw [g.2.2.2.1]
    rw [← Al_of g.2.1] at ha
    exact Or.inl (h.1 (by rw [e7]; exact w) u y ((g.2.2.1 u).mp hd) ha ((Of_ed g.2.1).mp he))
  · have q := h.2 (by rw [e7]; exact w)
    have mk : ∀ x, zMk b x ↔ zM (fun u => zMk a u ∨ (xAl a u ∧ T u)) (zMk a) (zEd a) x := fun x =>
      (zM_cg g.2.2.2.1 g.2.2.1 (fun u y => Of_ed g.2.1)).trans (zM_gy (fun u w => Dn_Nn w))
    refine ⟨fun u hu => (mk u).mpr (zM_in (Or.inl (q.1 u ((Rt_of g.2.1).mp hu)))), fun u y hu he => ?_⟩
    rw [mk] at hu ⊢
    have he2 := (Of_ed g.2.1).mp he
    by_cases z : zMk a u
    · exact zM_in (Or.inl (q.2 u y z he2))
    · exact zM_cl hu z he2
theorem MI_cm (h : qMI a) (hw : zWQ a) : qMI (aCm a y) := MI_gr h (gr_cm hw)
theorem MI_ro (h : qMI a) (hw : zWQ a) (h6 : (a 69 6).toInt ≤ 512) (h5 : (a 69 5).toInt ≤ 512) : qMI (aRo a 0) := MI_gr h (gr_ro hw h6 h5)
theorem pop_nn (h : zWQ a) (hl : (a 75 3).toInt < (a 75 4).toInt) (hn : zNn a u) : zNn (aPop a) u := by
  obtain ⟨q1, q2, q3, q4, q5, q6, q7⟩ := h
  have cb : cnt (a 77) 512 ≤ 512 := cnt_le
  have q12 := q1.2.2
  have ch := tn_cast q1.1
  have p := q2 (a 75 3).toNatClampNeg (by omega) (by omega)
  have w := WQ_mid (y := a 76 (a 75 3).toNatClampNeg) ⟨q1, q2, q3, q4, q5, q6, q7⟩ hl rfl
  rw [aPop_y (a := a) (y := a 76 (a 75 3).toNatClampNeg) rfl p.1 p.2.1 p.2.2.1]
  have i0 : (0 : Int32).toInt = 0 := rfl
  have sb := i_bd ((ma_u (ma_u a 75 3 (a 75 3 + 1)) 77 (a 76 (a 75 3).toNatClampNeg).toNatClampNeg 2) 128 (a 76 (a 75 3).toNatClampNeg).toNatClampNeg)
  have g := gr_cwf (m := (a 76 (a 75 3).toNatClampNeg).toNatClampNeg) (((ma_u (ma_u a 75 3 (a 75 3 + 1)) 77 (a 76 (a 75 3).toNatClampNeg).toNatClampNeg 2) 128 (a 76 (a 75 3).toNatClampNeg).toNatClampNeg).toInt - 1 - (0 : Int32).toInt).toNat 0 _ (by omega) w
  refine (g.2.2.2.1 u).mpr (Or.inl ⟨hn.1, ?_⟩)
  by_cases z : u = (a 76 (a 75 3).toNatClampNeg).toNatClampNeg
  · rw [z, xu_s]
    decide
  · rw [xu_o (fun w => z w.2), xu_o (by omega)]
    exact hn.2
theorem pop_bl (h : zWQ a) (hl : (a 75 3).toInt < (a 75 4).toInt) {z v : Nat} (hz : ¬ zDn a z) (hd : zDn (aPop a) z) (he : zEd a z v) : zNn (aPop a) v := by
  have H := h
  obtain ⟨q1, q2, q3, q4, q5, q6, q7⟩ := h
  have cb : cnt (a 77) 512 ≤ 512 := cnt_le
  have q12 := q1.2.2
  have ch := tn_cast q1.1
  have p := q2 (a 75 3).toNatClampNeg (by omega) (by omega)
  have w := WQ_mid (y := a 76 (a 75 3).toNatClampNeg) H hl rfl
  have e := aPop_y (a := a) (y := a 76 (a 75 3).toNatClampNeg) rfl p.1 p.2.1 p.2.2.1
  rw [e] at hd ⊢
  generalize hq : a 76 (a 75 3).toNatClampNeg = q at *
  have i0 : (0 : Int32).toInt = 0 := rfl
  have sb := i_bd ((ma_u (ma_u a 75 3 (a 75 3 + 1)) 77 q.toNatClampNeg 2) 128 q.toNatClampNeg)
  have g := gr_cwf (m := q.toNatClampNeg) (((ma_u (ma_u a 75 3 (a 75 3 + 1)) 77 q.toNatClampNeg 2) 128 q.toNatClampNeg).toInt - 1 - (0 : Int32).toInt).toNat 0 _ (by omega) w
  have o : zOf a (ma_u (ma_u a 75 3 (a 75 3 + 1)) 77 q.toNatClampNeg 2) := fun c k w1 w2 w3 => by rw [xu_o (fun y => w3 y.1), xu_o (fun y => w1 y.1)]
  have zq : z = q.toNatClampNeg := by
    by_cases w2 : z = q.toNatClampNeg
    · exact w2
    · have d := (g.2.2.1 z).mp hd
      unfold zDn at d
      rw [xu_o (fun w3 => w2 w3.2), xu_o (by omega)] at d
      exact absurd d hz
  rw [zq] at he
  obtain ⟨al, i, h0, h1, h2⟩ := he
  refine (g.2.2.2.1 v).mpr (Or.inr ⟨by rw [← Al_of o]; exact al, i, by omega, ?_, ?_⟩)
  · rw [o 128 q.toNatClampNeg (by decide) (by decide) (by decide)] at h1
    omega
  · rw [← Of_ref o]
    exact h2
theorem MI_pop (h : qMI a) (hw : zWQ a) (hl : (a 75 3).toInt < (a 75 4).toInt) : qMI (aPop a) := by
  have p := pop_all hw hl
  have o := p.2.1
  have e7 := o 87 7 (by decide) (by decide) (by decide)
  refine ⟨fun w u y hd ha he => ?_, fun w => ?_⟩
  · rw [← Al_of o] at ha
    have he2 := (Of_ed o).mp he
    by_cases z : zDn a u
    · exact pop_nn hw hl (h.1 (by rw [e7]; exact w) u y z ha he2)
    · exact pop_bl hw hl z hd he2
  · have q := h.2 (by rw [e7]; exact w)
    refine ⟨fun u hu => (p.2.2.1 u).mpr (q.1 u ((Rt_of o).mp hu)), fun u y hu he => (p.2.2.1 y).mpr (q.2 u y ((p.2.2.1 u).mp hu) ((Of_ed o).mp he))⟩
theorem MI_sp : ∀ (k : Nat) (a : Nat → Nat → Int32), qMI a → zWQ a → qMI (aSp k a) := by
  intro k
  induction k with
  | zero => intro a h _; exact h
  | succ k ih =>
    intro a h hw
    by_cases hl : (a 75 3).toInt < (a 75 4).toInt
    · rw [aSp_go hl]
      exact ih _ (MI_pop h hw hl) (pop_all hw hl).1
    · rw [aSp_st (Or.inr hl)]
      exact h
/-- it begins -/
theorem MI_b0 (hI : qI a) : qMI (aB0 a) := by
  have hI2 := I_87 (x := 1) hI
  have w := WQ_wh (a := ma_u a 87 8 1) (fun x hx => (hI2.1 x hx).1.2)
  have o := w.2.1
  have g := gr_ro w.1 (by rw [← o 69 6 (by decide) (by decide) (by decide)]; exact hI2.2.2.2.1.1.2) (by rw [← o 69 5 (by decide) (by decide) (by decide)]; exact hI2.2.2.2.1.2.1.2)
  have nd : ∀ u, ¬ zDn (aRo (aWh (ma_u a 87 8 1) 0) 0) u := fun u hd => w.2.2 u (Dn_Nn ((g.2.2.1 u).mp hd))
  refine ⟨fun _ u y hd => absurd hd (nd u), fun _ => ⟨fun u hu => ?_, fun u y hu he => zM_cl hu (nd u) he⟩⟩
  have hr := (Rt_of g.2.1).mp hu
  exact zM_in ((g.2.2.2.1 u).mpr (Or.inr hr))
theorem Nw_y (h : qRB us nr kr kd ws at₉ ho wd wi ow rt wk wl wm nu ro fo le ra pi a) (hp : ¬ pi = 0) : aNw a = a := by
  refine aNw_n ?_
  rw [h.2.2.2.2.2.2.2.2.2.2.2.2, if_neg hp]
  decide
theorem Nw_n (h : qRB us nr kr kd ws at₉ ho wd wi ow rt wk wl wm nu ro fo le ra pi a) (hp : pi = 0) : aNw a = aRo a 0 := by
  refine aNw_y ?_
  rw [h.2.2.2.2.2.2.2.2.2.2.2.2, if_pos hp]
/-- the row is empty, no news: a closed set -/
theorem Cl_0 (hI : qI a) (hm : qMI a) (hw : zWQ a) (hE : qE0 (aNw a)) : qCl (aNw a) := by
  by_cases h7 : a 87 7 = 1
  · rw [aNw_y h7] at hE ⊢
    have g := gr_ro hw hI.2.2.2.1.1.2 hI.2.2.2.1.2.1.2
    have m2 := MI_gr hm g
    have e7 := g.2.1 87 7 (by decide) (by decide) (by decide)
    refine ⟨fun u hu hr => ?_, fun u y hu ha he => m2.1 (by rw [← e7]; exact h7) u y ((E0_bl hE).mpr hu) ha he⟩
    have hr2 : zRt (aRo a 0) u := ⟨hu, hr.elim Or.inl (fun z => Or.inr (Or.inl z))⟩
    exact (g.2.2.2.1 u).mpr (Or.inr ((Rt_of g.2.1).mp hr2))
  · rw [aNw_n h7] at hE ⊢
    have q := hm.2 h7
    refine ⟨fun u hu hr => (Nn_end hE.1 hE.2).mp (q.1 u ⟨hu, hr.elim Or.inl (fun z => Or.inr (Or.inl z))⟩), fun u y hu _ he => (Nn_end hE.1 hE.2).mp (q.2 u y (zM_in hu) he)⟩
theorem MQ_of (h : qMQ co gr ga gm us nr a) : (a 75 3).toInt = ga.toInt ∧ (a 75 4).toInt = gm.toInt ∧ zWQ a := ⟨by rw [h.1], by rw [h.2.1], h.2.2.2.2⟩
theorem E0_of (h : qMQ co gr ga gm us nr a) (hl : gm.toInt ≤ ga.toInt) : qE0 a := ⟨h.2.2.2.2, by rw [h.1, h.2.1]; omega⟩
theorem u87 {c : Nat} (hc : c ≠ 87) : ma_u a 87 8 x c = a c := ma_u_ne _ _ _ hc
theorem E0_87 (h : qE0 a) : qE0 (ma_u a 87 8 x) := ⟨WQ_cg h.1 (u87 (by decide)).symm (u87 (by decide)).symm (u87 (by decide)).symm (u87 (by decide)).symm (u87 (by decide)).symm, by rw [u87 (by decide)]; exact h.2⟩
theorem Ed_87 {v : Nat} : zEd (ma_u a 87 8 x) u v ↔ zEd a u v := by
  have er : ∀ n i, aRef (ma_u a 87 8 x) n i = aRef a n i := fun n i => by
    unfold aRef
    rw [u87 (c := 1000 + n) (by omega), u87 (c := 130) (by decide), u87 (c := 71) (by decide)]
  unfold zEd xAl
  rw [u87 (c := 126) (by decide), u87 (c := 128) (by decide)]
  constructor
  · rintro ⟨w1, i, w2, w3, w4⟩
    exact ⟨w1, i, w2, w3, by rw [← er]; exact w4⟩
  · rintro ⟨w1, i, w2, w3, w4⟩
    exact ⟨w1, i, w2, w3, by rw [er]; exact w4⟩
theorem Cl_87 (h : qCl a) : qCl (ma_u a 87 8 x) := by
  have al : xAl (ma_u a 87 8 x) = xAl a := by
    funext n
    unfold xAl
    rw [u87 (by decide)]
  have nn : zNn (ma_u a 87 8 x) = zNn a := by
    funext n
    unfold zNn
    rw [u87 (by decide)]
  refine ⟨fun u hu hr => ?_, fun u y hu ha he => ?_⟩
  · rw [al] at hu
    rw [nn]
    unfold zRl zWl at hr
    rw [u87 (c := 72) (by decide), u87 (c := 74) (by decide), u87 (c := 69) (by decide)] at hr
    exact h.1 u hu hr
  · rw [nn] at hu ⊢
    rw [al] at ha
    exact h.2 u y hu ha (Ed_87.mp he)
theorem KB_87 (h : qMQ co gr ga gm us nr a) (h1 : qR1 us nr ws at₉ ho a) (hk : ∀ s : Nat, (s : Int) < 3100 → (kp s ≠ 0 ↔ us s ≠ 0 ∧ co s ≠ 0)) : qKB kp us nr (ma_u a 87 8 x) := by
  refine ⟨fun s hs hk2 => ((hk s (by omega)).mp hk2).1, fun s hs hu => ?_⟩
  rw [hk s (by omega)]
  have q := h.2.2.1 s hs hu
  have al := R1_al h1 hs hu
  unfold zNn
  rw [u87 (by decide), q]
  exact ⟨fun w => ⟨al.1, w.2⟩, fun w => ⟨hu, w.2⟩⟩
theorem kp_s {us co : Nat → Int32} {m : Nat → Nat → Int32} {i j : Int32} {x : Int32} (h : ∀ s : Nat, (s : Int) < i.toInt → (m 110 s ≠ 0 ↔ us s ≠ 0 ∧ co s ≠ 0)) (h0 : 0 ≤ i.toInt) (e : j.toInt = i.toInt + 1) (hx : x ≠ 0 ↔ us i.toNatClampNeg ≠ 0 ∧ co i.toNatClampNeg ≠ 0) : ∀ s : Nat, (s : Int) < j.toInt → (ma_u m 110 i.toNatClampNeg x 110 s ≠ 0 ↔ us s ≠ 0 ∧ co s ≠ 0) := by
  intro s hs
  have c := tn_cast h0
  by_cases z : s = i.toNatClampNeg
  · rw [z, mu_self]
    exact hx
  · rw [mu_ne z]
    exact h s (by omega)
/-- what an empty row ends -/
theorem Lk_1 (h : (a 75 3).toInt < (a 75 4).toInt) : aLk a = a := by
  unfold aLk
  rw [if_pos h]
theorem Lk_2 (h : ¬ (a 75 3).toInt < (a 75 4).toInt) (h2 : (aNw a 75 3).toInt < (aNw a 75 4).toInt) : aLk a = aNw a := by
  unfold aLk
  rw [if_neg h, if_pos h2]
theorem Nw_em (hw : zWQ a) (h6 : (a 69 6).toInt ≤ 512) (h5 : (a 69 5).toInt ≤ 512) (h : ¬ (aNw a 75 3).toInt < (aNw a 75 4).toInt) : ¬ (a 75 3).toInt < (a 75 4).toInt := by
  intro w
  unfold aNw at h
  split at h
  · have g := gr_ro hw h6 h5
    have ch := tn_cast hw.1.1
    have p := hw.2.1 (a 75 3).toNatClampNeg (by omega) (by omega)
    have cp := tn_cast p.1
    generalize a 76 (a 75 3).toNatClampNeg = q at *
    have hz : q.toNatClampNeg < 512 := by omega
    have nn := (g.2.2.2.1 q.toNatClampNeg).mpr (Or.inl ⟨hz, by rw [p.2.2.2]; decide⟩)
    have nd : ¬ zDn (aRo a 0) q.toNatClampNeg := fun w2 => by
      have w3 := ((g.2.2.1 _).mp w2).2
      rw [p.2.2.2] at w3
      exact absurd w3 (by decide)
    exact nd ((E0_bl ⟨g.1, h⟩).mpr nn)
  · exact h w
theorem Lk_3 (hw : zWQ a) (h6 : (a 69 6).toInt ≤ 512) (h5 : (a 69 5).toInt ≤ 512) (h2 : ¬ (aNw a 75 3).toInt < (aNw a 75 4).toInt) : aLk a = aFi (aNw a) := by
  unfold aLk
  rw [if_neg (Nw_em hw h6 h5 h2), if_neg h2]
end QJ

/-! from 95.h16 -/
/-! the reference by numbers (written by wip/tools/gen18r.py) -/
/-! SUMS OF WORDS, the end of MARKING -/
section QS
variable {aa a b c T : Nat → Nat → Int32} {us nr kr kd ws at₉ ho wd wi ow rt wk wl kp co gr : Nat → Int32} {wm nu ro fo le ra pi y x i ga gm wt mk : Int32} {n k u s : Nat} {m : Nat → Nat → Int32} {z : Int}
theorem sm_ub : ∀ n, (∀ t, t < n → (ws t).toInt ≤ 60) → ∀ b : Nat → Bool, (∀ t, t < n → 0 ≤ (ws t).toInt) → sm b ws n ≤ 61 * (n : Int) ∧ 0 ≤ sm b ws n := by
  intro n
  induction n with
  | zero => intro _ b _; exact ⟨by show (0 : Int) ≤ _; omega, by show (0 : Int) ≤ 0; omega⟩
  | succ n ih =>
    intro h b h0
    have q := ih (fun t ht => h t (by omega)) b (fun t ht => h0 t (by omega))
    have w := h n (by omega)
    have w0 := h0 n (by omega)
    unfold sm
    split <;> omega
theorem WT_rm (h : wt.toInt = sm (zbU (m 99)) ws 3100) (hs : s < 3100) (hu : m 99 s ≠ 0) (hw : ∀ t, t < 3100 → 0 ≤ (ws t).toInt ∧ (ws t).toInt ≤ 60) : (wt - (ws s + 1)).toInt = sm (zbU (ma_u m 99 s 0 99)) ws 3100 := by
  have o := sm_out (ws := ws) (b := zbU (m 99)) (b₉ := zbU (ma_u m 99 s 0 99)) (n := 3100) hs (decide_eq_true hu) (decide_eq_false (fun w => w mu_self)) (fun t ht e => by unfold zbU; rw [mu_ne e])
  have ub := sm_ub 3100 (fun t ht => (hw t ht).2) (zbU (m 99)) (fun t ht => (hw t ht).1)
  have w := hw s hs
  have e1 : (ws s + 1).toInt = (ws s).toInt + 1 := i_p1 (by omega)
  rw [i_sub (by omega) (by omega)]
  omega
theorem cnt_ex : ∀ n, 0 < cnt us n → ∃ s, s < n ∧ us s ≠ 0 := by
  intro n
  induction n with
  | zero => intro h; exact absurd h (Nat.lt_irrefl 0)
  | succ n ih =>
    intro h
    unfold cnt at h
    by_cases e : us n = 0
    · rw [if_pos e] at h
      obtain ⟨s, h1, h2⟩ := ih (by omega)
      exact ⟨s, by omega, h2⟩
    · exact ⟨n, by omega, e⟩
theorem Su_0 : ∀ n, (∀ x, x < n → a 126 x = 0) → qSu a n = 0 := by
  intro n
  induction n with
  | zero => intro _; rfl
  | succ n ih =>
    intro h
    unfold qSu
    rw [ih (fun x hx => h x (by omega)), if_neg (fun w => w (h n (by omega)))]
    rfl
/-- as many words by slots as by numbers -/
theorem Su_b : ∀ (N : Nat) (us : Nat → Int32) (a : Nat → Nat → Int32), cnt us 3100 = N → (∀ s, s < 3100 → us s ≠ 0 → (0 ≤ (nr s).toInt ∧ (nr s).toInt < 512) ∧ a 126 (nr s).toNatClampNeg ≠ 0 ∧ (a 128 (nr s).toNatClampNeg).toInt = (ws s).toInt + 1) → (∀ s t, s < 3100 → t < 3100 → us s ≠ 0 → us t ≠ 0 → nr s = nr t → s = t) → (∀ n, n < 512 → a 126 n ≠ 0 → ∃ s, s < 3100 ∧ us s ≠ 0 ∧ nr s = Int32.ofNat n) → qSu a 512 = sm (zbU us) ws 3100 := by
  intro N
  induction N with
  | zero =>
    intro us a hc h1 h2 h3
    have no : ∀ s, s < 3100 → us s = 0 := fun s hs => by
      by_cases e : us s = 0
      · exact e
      · have := cnt_pos (r := us) hs e
        omega
    rw [sm_zero (b := zbU us) (ws := ws) (n := 3100) (fun s hs => decide_eq_false (fun w => w (no s hs)))]
    refine Su_0 512 (fun x hx => ?_)
    by_cases e : a 126 x = 0
    · exact e
    · obtain ⟨s, hs, hu, _⟩ := h3 x hx e
      exact absurd (no s hs) hu
  | succ N ih =>
    intro us a hc h1 h2 h3
    obtain ⟨s, hs, hu⟩ := cnt_ex (us := us) 3100 (by omega)
    have q := h1 s hs hu
    have cs := tn_cast q.1.1
    have dn := cnt_dn (m := fun _ => us) (c := 0) (k := s) (n := 3100) hs hu
    have e1 : cnt (ma_u (fun _ => us) 0 s 0 0) 3100 + 1 = cnt us 3100 := dn
    have rd : ∀ t, ma_u (fun _ => us) 0 s 0 0 t = if t = s then 0 else us t := fun t => mu_at t
    have ne : ∀ t, ma_u (fun _ => us) 0 s 0 0 t ≠ 0 → us t ≠ 0 ∧ t ≠ s := fun t ht => by
      rw [rd] at ht
      by_cases e : t = s
      · rw [if_pos e] at ht
        exact absurd rfl ht
      · rw [if_neg e] at ht
        exact ⟨ht, e⟩
    have nn : ∀ t, t < 3100 → us t ≠ 0 → t ≠ s → (nr t).toNatClampNeg ≠ (nr s).toNatClampNeg := fun t ht hv e w => by
      have c2 := tn_cast (h1 t ht hv).1.1
      exact e (h2 t s ht hs hv hu (Int32.toInt_inj.mp (by omega)))
    have zr : ∀ f n, 126 ≤ f → f < 1000 → n ≠ (nr s).toNatClampNeg → zNo a (nr s).toNatClampNeg f n = a f n := fun f n f1 f2 hn => if_neg (by omega)
    have i := ih (ma_u (fun _ => us) 0 s 0 0) (zNo a (nr s).toNatClampNeg) (by omega) (fun t ht hv => by
      have w := ne t hv
      have q2 := h1 t ht w.1
      have n2 := nn t ht w.1 w.2
      rw [zr 126 _ (by decide) (by decide) n2, zr 128 _ (by decide) (by decide) n2]
      exact q2) (fun t r ht hr hv hv2 e => h2 t r ht hr (ne t hv).1 (ne r hv2).1 e) (fun n hn ha => by
      have n2 : n ≠ (nr s).toNatClampNeg := fun w => by
        rw [w] at ha
        unfold zNo at ha
        rw [if_pos (Or.inl ⟨by decide, by decide, rfl⟩)] at ha
        exact absurd rfl ha
      rw [zr 126 _ (by decide) (by decide) n2] at ha
      obtain ⟨t, ht, hv, e⟩ := h3 n hn ha
      refine ⟨t, ht, ?_, e⟩
      rw [rd, if_neg]
      · exact hv
      · intro w
        rw [w] at e
        rw [e, tn_of hn] at n2
        exact n2 rfl)
    have d := Su_dn (a := a) (b := zNo a (nr s).toNatClampNeg) (k := (nr s).toNatClampNeg) (n := 512) (by omega) q.2.1 (by unfold zNo; rw [if_pos (Or.inl ⟨by decide, by decide, rfl⟩)]) (fun x hx hne => ⟨(zr 126 x (by decide) (by decide) hne).symm, (zr 128 x (by decide) (by decide) hne).symm⟩)
    have o := sm_out (ws := ws) (b := zbU us) (b₉ := zbU (ma_u (fun _ => us) 0 s 0 0)) (n := 3100) hs (decide_eq_true hu) (decide_eq_false (fun w => (ne s w).2 rfl)) (fun t ht e => by unfold zbU; rw [rd, if_neg e])
    rw [d] at i
    omega
theorem WT_eq (hR : qRB us nr kr kd ws at₉ ho wd wi ow rt wk wl wm nu ro fo le ra pi a) (hI : qI a) (h : wt.toInt = sm (zbU us) ws 3100) : a 69 8 = wt := by
  have q := Su_b (nr := nr) (ws := ws) _ us a rfl (fun s hs hu => ⟨(hR.1.1 s hs hu).1, (hR.1.1 s hs hu).2.1, by rw [(hR.1.1 s hs hu).2.2.1]; exact i_p1 (by have := (hR.1.1 s hs hu).2.2.2.2.2.1; omega)⟩) hR.1.2.1 hR.1.2.2
  rw [hI.2.2.2.2.1, q, ← h, Int32.ofInt_toInt]
theorem aGf_87 : ∀ (f : Nat) (n : Int32) (a : Nat → Nat → Int32), aGf f n a 87 k = a 87 k := by
  intro f
  induction f with
  | zero => intro n a; rfl
  | succ f ih =>
    intro n a
    show aGf f (n + 1) (if _ then aSp 512 (aCm (aGr a n) n) else a) 87 k = a 87 k
    rw [ih]
    split
    · rw [aSp_o ⟨by decide, by decide, by decide⟩, aCm_o ⟨by decide, by decide, by decide⟩, aGr_o ⟨by decide, by decide, by decide, fun w => absurd w.1 (by decide)⟩]
    · rfl
theorem aMf_87 : ∀ (f : Nat) (n : Int32) (a : Nat → Nat → Int32), aMf f n a 87 k = a 87 k := by
  intro f
  induction f with
  | zero => intro n a; rfl
  | succ f ih =>
    intro n a
    show aMf f (n + 1) (if _ then aRm a n else a) 87 k = a 87 k
    rw [ih]
    split
    · rw [aRm_o (by decide) ⟨by decide, by decide, fun w => absurd w.1 (by decide), fun w => absurd w.1 (by decide)⟩]
    · rfl
theorem Fi_87 : aFi a 87 8 = 0 := by
  unfold aFi aMv
  rw [aMf_87]
  unfold aGw
  rw [aGf_87, xu_s]
theorem Nw_87 : aNw a 87 k = a 87 k := by
  unfold aNw
  split
  · exact aRo_o ⟨by decide, by decide, by decide⟩
  · rfl
theorem Sp_87 : aSp n a 87 k = a 87 k := aSp_o ⟨by decide, by decide, by decide⟩ _ _
theorem B0_87 : aB0 a 87 8 = 1 := by
  have q := B0_of (a := a) 87 8 (by decide) (by decide) (by decide)
  rw [← q, xu_s]
/-! steps as long as there are news -/
theorem sp_fu (h : zWQ a) : ∀ k, 512 ≤ k → aSp k a = aSp 512 a := by
  intro k hk
  have q : ∀ (d j : Nat) (a : Nat → Nat → Int32), ¬ (aSp j a 75 3).toInt < (aSp j a 75 4).toInt → aSp (j + d) a = aSp j a := by
    intro d j
    induction j with
    | zero =>
      intro a hn
      have hn2 : ¬ (a 75 3).toInt < (a 75 4).toInt := hn
      rw [aSp_st (k := 0 + d) (Or.inr hn2)]
      rfl
    | succ j ih =>
      intro a hn
      by_cases hl : (a 75 3).toInt < (a 75 4).toInt
      · rw [aSp_go hl] at hn ⊢
        rw [show j + 1 + d = (j + d) + 1 by omega, aSp_go hl]
        exact ih _ hn
      · rw [aSp_st (Or.inr hl), aSp_st (Or.inr hl)]
  have r := q (k - 512) 512 a (sp_end h)
  rw [show 512 + (k - 512) = k by omega] at r
  exact r
theorem cm_full (h : ∀ x, x < 512 → a 77 x ≠ 0) : ∀ y, aCm a y = a := fun y => aCm_n (fun w => by
  have c := tn_cast w.1
  have w2 := w.2.1
  exact h y.toNatClampNeg (by omega) w.2.2.2.2.2)
theorem ro_full (h : ∀ y, aCm a y = a) : aRo a 0 = a := by
  have hf : ∀ (f : Nat) (n : Int32), aHf f n a = a := by
    intro f
    induction f with
    | zero => intro n; rfl
    | succ f ih =>
      intro n
      show aHf f (n + 1) (if _ then aCm a n else a) = a
      rw [h, ite_self]
      exact ih _
  have wf : ∀ (f : Nat) (n : Int32), aWf f n a = a := by
    intro f
    induction f with
    | zero => intro n; exact hf _ _
    | succ f ih =>
      intro n
      show aWf f (n + 1) (aCm a _) = a
      rw [h]
      exact ih _
  have rf : ∀ (f : Nat) (n : Int32), aRf f n a = a := by
    intro f
    induction f with
    | zero => intro n; exact wf _ _
    | succ f ih =>
      intro n
      show aRf f (n + 1) (aCm a _) = a
      rw [h]
      exact ih _
  exact rf _ _
theorem nw_full (h : zWQ a) (h5 : 512 ≤ (a 75 3).toInt) : aNw a = a := by
  have c : cnt (a 77) 512 ≤ 512 := cnt_le
  have q := h.1.2.1
  have q2 := h.1.2.2
  have al : ∀ x, x < 512 → a 77 x ≠ 0 := fun x hx w => by
    have := cnt_lt (r := a 77) hx w
    omega
  unfold aNw
  split
  · exact ro_full (cm_full al)
  · rfl
theorem nw_wq (h : zWQ a) (h6 : (a 69 6).toInt ≤ 512) (h5 : (a 69 5).toInt ≤ 512) : zWQ (aNw a) ∧ zOf a (aNw a) ∧ aNw a 75 3 = a 75 3 := by
  unfold aNw
  split
  · have g := gr_ro h h6 h5
    exact ⟨g.1, g.2.1, g.2.2.2.2⟩
  · exact ⟨h, Of_rf, rfl⟩
theorem sp_hd : ∀ (k : Nat) (a : Nat → Nat → Int32), zWQ a → (a 75 3).toInt ≤ (aSp k a 75 3).toInt ∧ ((a 75 3).toInt < (a 75 4).toInt → 0 < k → (a 75 3).toInt + 1 ≤ (aSp k a 75 3).toInt) := by
  intro k
  induction k with
  | zero => intro a _; exact ⟨Int.le_refl _, fun _ w => absurd w (by decide)⟩
  | succ k ih =>
    intro a h
    by_cases hl : (a 75 3).toInt < (a 75 4).toInt
    · rw [aSp_go hl]
      have p := pop_all h hl
      have q := (ih _ p.1).1
      have e := p.2.2.2.1
      exact ⟨by omega, fun _ _ => by omega⟩
    · rw [aSp_st (Or.inr hl)]
      exact ⟨Int.le_refl _, fun w => absurd w hl⟩
theorem aC2_fu : ∀ (k k₉ : Nat) (a : Nat → Nat → Int32), qE0 a → (a 69 6).toInt ≤ 512 → (a 69 5).toInt ≤ 512 → (512 - (a 75 3).toInt).toNat ≤ k → (512 - (a 75 3).toInt).toNat ≤ k₉ → aC2 k a = aC2 k₉ a := by
  have base : ∀ (k : Nat) (a : Nat → Nat → Int32), zWQ a → 512 ≤ (a 75 3).toInt → aC2 k a = a := by
    intro k a hw h5
    cases k with
    | zero => rfl
    | succ k =>
      have e := nw_full hw h5
      have q := hw.1.2.1
      have q2 := hw.1.2.2
      have c : cnt (a 77) 512 ≤ 512 := cnt_le
      rw [aC2_n (by rw [e]; omega), e]
  intro k
  induction k with
  | zero =>
    intro k₉ a hE h6 h5 h1 h2
    rw [base 0 a hE.1 (by omega), base k₉ a hE.1 (by omega)]
  | succ k ih =>
    intro k₉ a hE h6 h5 h1 h2
    by_cases hh : 512 ≤ (a 75 3).toInt
    · rw [base _ a hE.1 hh, base _ a hE.1 hh]
    · cases k₉ with
      | zero => omega
      | succ k₉ =>
        by_cases hn : (aNw a 75 3).toInt < (aNw a 75 4).toInt
        · rw [aC2_y hn, aC2_y hn]
          have w := nw_wq hE.1 h6 h5
          have e := E0_sp w.1
          have o := Of_tr w.2.1 e.2
          have hd := (sp_hd 512 _ w.1).2 hn (by decide)
          rw [w.2.2] at hd
          exact ih k₉ _ e.1 (by rw [← o 69 6 (by decide) (by decide) (by decide)]; exact h6) (by rw [← o 69 5 (by decide) (by decide) (by decide)]; exact h5) (by omega) (by omega)
        · rw [aC2_n hn, aC2_n hn]
/-- one more turn -/
theorem FN_go (h : zWQ b) (hI : qI b) {k : Nat} (hk : 512 ≤ k) (hl : (aLk (aSp k b) 75 3).toInt < (aLk (aSp k b) 75 4).toInt) (hne : aLk (aSp k b) 87 8 ≠ 0) (hT : aFi (aC2 512 (aSp 512 b)) = T) : aFi (aC2 512 (aSp 512 (aLk (aSp k b)))) = T := by
  rw [sp_fu h k hk] at hl hne ⊢
  have e := E0_sp h
  have h6 := hI.2.2.2.1.1.2
  have h5 := hI.2.2.2.1.2.1.2
  rw [e.2 69 6 (by decide) (by decide) (by decide)] at h6
  rw [e.2 69 5 (by decide) (by decide) (by decide)] at h5
  have q : aLk (aSp 512 b) = aNw (aSp 512 b) ∧ (aNw (aSp 512 b) 75 3).toInt < (aNw (aSp 512 b) 75 4).toInt := by
    unfold aLk at hl hne ⊢
    rw [if_neg e.1.2] at hl hne ⊢
    by_cases z : (aNw (aSp 512 b) 75 3).toInt < (aNw (aSp 512 b) 75 4).toInt
    · rw [if_pos z]
      exact ⟨rfl, z⟩
    · rw [if_neg z, Fi_87] at hne
      exact absurd rfl hne
  rw [q.1]
  rw [aC2_y q.2] at hT
  have w := nw_wq e.1.1 h6 h5
  have e2 := E0_sp w.1
  have o := Of_tr w.2.1 e2.2
  have hd := (sp_hd 512 _ w.1).2 q.2 (by decide)
  have h0 := w.1.1.1
  rw [← hT, aC2_fu 512 511 _ e2.1 (by rw [← o 69 6 (by decide) (by decide) (by decide)]; exact h6) (by rw [← o 69 5 (by decide) (by decide) (by decide)]; exact h5) (by omega) (by omega)]
theorem FN_end (h : zWQ b) {k : Nat} (hk : 512 ≤ k) (hz : b 87 8 ≠ 0) (hne : aLk (aSp k b) 87 8 = 0) (hT : aFi (aC2 512 (aSp 512 b)) = T) : aLk (aSp k b) = T := by
  rw [sp_fu h k hk] at hne ⊢
  have e := E0_sp h
  unfold aLk at hne ⊢
  rw [if_neg e.1.2] at hne ⊢
  by_cases z : (aNw (aSp 512 b) 75 3).toInt < (aNw (aSp 512 b) 75 4).toInt
  · rw [if_pos z, Nw_87, Sp_87] at hne
    exact absurd hne hz
  · rw [if_neg z, ← hT, aC2_n z]
theorem Cl_m (h : a 87 8 ≠ 0) : aCl a = aFi (aC2 512 (aSp 512 a)) := by
  unfold aCl aC1
  rw [aBg_n h]
theorem Cl_b (h : a 87 8 = 0) : aCl (aB0 a) = aCl a := by
  rw [Cl_m (by rw [B0_87]; decide)]
  unfold aCl aC1
  rw [aBg_y h]
theorem Cl_8 : aCl a 87 8 = 0 := Fi_87
/-- finishing -/
def qFN (us nr kr kd ws at₉ ho wd wi ow rt wk wl : Nat → Int32) (wm nu ro fo le ra pi : Int32) (co gr : Nat → Int32) (ga gm mk : Int32) (T : Nat → Nat → Int32) : Prop := (mk ≠ 0 ∧ ∃ b, qRB us nr kr kd ws at₉ ho wd wi ow rt wk wl wm nu ro fo le ra pi b ∧ qI b ∧ qMQ co gr ga gm us nr b ∧ qMI b ∧ b 87 8 = mk ∧ aFi (aC2 512 (aSp 512 b)) = T) ∨ (mk = 0 ∧ qRB us nr kr kd ws at₉ ho wd wi ow rt wk wl wm nu ro fo le ra pi T ∧ qI T)
theorem FN_y (h : qFN us nr kr kd ws at₉ ho wd wi ow rt wk wl wm nu ro fo le ra pi co gr ga gm mk T) (hm : ¬ mk = 0) : ∃ b, qRB us nr kr kd ws at₉ ho wd wi ow rt wk wl wm nu ro fo le ra pi b ∧ qI b ∧ qMQ co gr ga gm us nr b ∧ qMI b ∧ b 87 8 = mk ∧ aFi (aC2 512 (aSp 512 b)) = T := h.elim (fun w => w.2) (fun w => absurd w.1 hm)
theorem FN_n (h : qFN us nr kr kd ws at₉ ho wd wi ow rt wk wl wm nu ro fo le ra pi co gr ga gm mk T) (hm : mk = 0) : qRB us nr kr kd ws at₉ ho wd wi ow rt wk wl wm nu ro fo le ra pi T ∧ qI T := h.elim (fun w => absurd hm w.1) (fun w => w.2)
theorem FN_s {k : Nat} (hw : zWQ b) (hI0 : qI b) (hz : b 87 8 ≠ 0) (hk : 512 ≤ k) (hT : aFi (aC2 512 (aSp 512 b)) = T) (hR : qRB us nr kr kd ws at₉ ho wd wi ow rt wk wl wm nu ro fo le ra pi (aLk (aSp k b))) (hI : qI (aLk (aSp k b))) (hM : mk.toInt ≠ 0 → qMQ co gr ga gm us nr (aLk (aSp k b)) ∧ qMI (aLk (aSp k b))) (hK : aLk (aSp k b) 87 8 = mk) (hl : mk.toInt = 0 ∨ ga.toInt < gm.toInt) : qFN us nr kr kd ws at₉ ho wd wi ow rt wk wl wm nu ro fo le ra pi co gr ga gm mk T := by
  by_cases e : mk = 0
  · refine Or.inr ⟨e, ?_⟩
    rw [← FN_end hw hk hz (by rw [hK]; exact e) hT]
    exact ⟨hR, hI⟩
  · have e2 : mk.toInt ≠ 0 := fun w => e (Int32.toInt_inj.mp w)
    have q := hM e2
    refine Or.inl ⟨e, _, hR, hI, q.1, q.2, hK, FN_go hw hI0 hk ?_ (by rw [hK]; exact e) hT⟩
    rw [q.1.1, q.1.2.1]
    exact hl.elim (fun w => absurd w e2) id
/-! room in steps -/
theorem F0_y (hR : qRB us nr kr kd ws at₉ ho wd wi ow rt wk wl wm nu ro fo le ra pi a) (hI : qI a) (h : wt.toInt = sm (zbU us) ws 3100) (hk : a 87 8 = 0) (hc : (ro - wt) * 4 < ro) : aF0 a = aB0 a := by
  refine aF0_y hk ?_
  rw [RB_ro hR, WT_eq hR hI h, Int32.mul_comm]
  exact hc
theorem F0_n (hR : qRB us nr kr kd ws at₉ ho wd wi ow rt wk wl wm nu ro fo le ra pi a) (hI : qI a) (h : wt.toInt = sm (zbU us) ws 3100) (hc : ¬ a 87 8 = 0 ∨ ¬ (ro - wt) * 4 < ro) : aF0 a = a := by
  refine aF0_n (fun w => ?_)
  rw [RB_ro hR, WT_eq hR hI h, Int32.mul_comm] at w
  exact hc.elim (fun z => z w.1) (fun z => z w.2)
theorem F1_0 (e : aF0 a = b) (h : b 87 8 = 0) : aF1 a = b := by
  unfold aF1
  rw [e, aGo_0 h]
theorem F1_1 (hR : a 87 6 = ra) (e : aF0 a = b) (h : ¬ b 87 8 = 0) : aF1 a = aLk (aSp ra.toInt.toNat b) := by
  unfold aF1 aGo
  rw [e, if_neg h, hR]
theorem RB_ra (h : qRB us nr kr kd ws at₉ ho wd wi ow rt wk wl wm nu ro fo le ra pi a) : a 87 6 = ra := h.2.2.2.2.2.2.2.2.2.2.2.1
end QS
theorem lp_200r_50 {X : Nat × (Nat → Int32)} {P : Option ma_V → (Nat → Nat → Int32) → Prop} {T : Nat} {m0 : Nat → Nat → Int32} (h0 : zV m0) (K : ∀ v m₉, zF wr_200 m0 m₉ → zV m₉ → (zrm (m0 99) (m₉ 99) (m₉ 110) 3100) → (zowr (m0 111) (m₉ 111) (m0 99) (m₉ 110) (m₉ 103)) → (zGU T (m₉ 94 46) (m₉ 99)) → (zOw (m₉ 99) (m₉ 103) (m₉ 111)) → ((m₉ 94 45).toInt = sm (zbU (m₉ 99)) (m₉ 102) 3100) → P (some (.inl v)) m₉) {n4 : Nat} (OUT4 : ∀ (m₉ : Nat → Nat → Int32) (l1 : Int32) (l2 : Int32), (3100 - l2.toInt).toNat < n4 → zF wr_200 m0 m₉ → zV m₉ → (0 ≤ l2.toInt) → ((m₉ 94 10).toInt = 5) → (zW (m₉ 94 7) (m₉ 98) (m₉ 101) (m₉ 102) (m₉ 108)) → (zGU T (m₉ 94 46) (m₉ 99)) → (zOw (m₉ 99) (m₉ 103) (m₉ 111)) → (zrm (m0 99) (m₉ 99) (m₉ 110) l2.toNatClampNeg) → (zowr (m0 111) (m₉ 111) (m0 99) (m₉ 110) (m₉ 103)) → ((m₉ 94 45).toInt = sm (zbU (m₉ 99)) (m₉ 102) 3100) → zm X 2 44 200 4 [(0, .inr (.inr (some 94))), (1, .inl l1), (2, .inl l2)] m₉ P) : ∀ (n : Nat) (m : Nat → Nat → Int32) (l1 : Int32) (l2 : Int32) (l3 : Int32), (61 - l3.toInt).toNat = n → zF wr_200 m0 m → zV m → (0 ≤ l2.toInt) → (l2.toInt ≤ 3099) → (0 ≤ l3.toInt) → ((m 94 10).toInt = 5) → ((m 94 10).toInt = 4) → ((3100 - l2.toInt).toNat = n4) → (zW (m 94 7) (m 98) (m 101) (m 102) (m 108)) → (zGU T (m 94 46) (m 99)) → (zOw (m 99) (m 103) (m 111)) → (zrm (m0 99) (m 99) (m 110) l2.toNatClampNeg) → (zowr (m0 111) (m 111) (m0 99) (m 110) (m 103)) → ((m 99) l2.toNatClampNeg ≠ 0 ∧ (m 110) l2.toNatClampNeg = 0) → ((m 94 45).toInt = sm (zbU (m 99)) (m 102) 3100) → zm X 2 44 200 50 [(0, .inr (.inr (some 94))), (1, .inl l1), (2, .inl l2), (3, .inl l3)] m P := by
  intro n
  induction n using Nat.strongRecOn with
  | _ n IH =>
    intro m l1 l2 l3 hmu hF hV hi0 hi1 hi2 hi3 hi4 hi5 r_W r_GU r_OW r_RM r_OWR r_UK r_WTS
    refine g_200_50 l1 l2 l3 ?_
    have f1 : 0 ≤ (m 94 10).toInt ∧ (m 94 10).toInt ≤ 6 := rs_94_10 (m := m) hV
    have b2 := i_bd l2
    have hg3 : (0 ≤ l2 ∧ l2.toNatClampNeg < 3100) := i_ix (by omega) (by omega)
    refine ⟨hg3, ?_⟩
    first | have f4 : 0 ≤ (m 102 l2.toNatClampNeg).toInt ∧ (m 102 l2.toNatClampNeg).toInt ≤ 60 := ra_102 (m := m) hV (k := l2.toNatClampNeg) (i_ix (n := 3100) (by omega) (by omega)).2 | have b5 := i_bd (m 102 l2.toNatClampNeg)
    have b6 := i_bd l3
    refine zd (fun (h7 : (m 102 l2.toNatClampNeg) ≤ l3) => ?_) (fun (h7 : ¬ (m 102 l2.toNatClampNeg) ≤ l3) => ?_)
    · skip
      have g8 := i_le h7
      have hg9 : (0 ≤ l2 ∧ l2.toNatClampNeg < 3100) := i_ix (by omega) (by omega)
      refine ⟨hg9, ?_⟩
      have hg10 : (0 ≤ l2 ∧ l2.toNatClampNeg < 3100) := i_ix (by omega) (by omega)
      refine ⟨hg10, ?_⟩
      first | have f11 : 0 ≤ (m 103 l2.toNatClampNeg).toInt ∧ (m 103 l2.toNatClampNeg).toInt ≤ 4599 := ra_103 (m := m) hV (k := l2.toNatClampNeg) (i_ix (n := 3100) (by omega) (by omega)).2 | have b12 := i_bd (m 103 l2.toNatClampNeg)
      have hg13 : (0 ≤ (m 103 l2.toNatClampNeg) ∧ (m 103 l2.toNatClampNeg).toNatClampNeg < 4600) := i_ix (by omega) (by omega)
      refine ⟨hg13, ?_⟩
      have hg14 : (0 ≤ l2 ∧ l2.toNatClampNeg < 3100) := i_ix (by omega) (by omega)
      refine ⟨hg14, ?_⟩
      have hg15 : (0 ≤ l2 ∧ l2.toNatClampNeg < 3100) := i_ix (by omega) (by omega)
      refine ⟨hg15, ?_⟩
      have li17 : (0 : Int32).toInt = 0 := rfl
      have hV16 : zV (ma_u m 99 l2.toNatClampNeg (0 : Int32)) := ua_99 hV (by omega) (by omega)
      have li19 : (-1 : Int32).toInt = -1 := rfl
      have hV18 : zV (ma_u (ma_u m 99 l2.toNatClampNeg (0 : Int32)) 111 (m 103 l2.toNatClampNeg).toNatClampNeg (-1 : Int32)) := ua_111 hV16 (by omega) (by omega)
      have hV20 : zV (ma_u (ma_u (ma_u m 99 l2.toNatClampNeg (0 : Int32)) 111 (m 103 l2.toNatClampNeg).toNatClampNeg (-1 : Int32)) 94 44 ((m 94 44) - (1 : Int32))) := uf_94_44 hV18
      have hV21 : zV (ma_u (ma_u (ma_u (ma_u m 99 l2.toNatClampNeg (0 : Int32)) 111 (m 103 l2.toNatClampNeg).toNatClampNeg (-1 : Int32)) 94 44 ((m 94 44) - (1 : Int32))) 94 45 ((m 94 45) - ((m 102 l2.toNatClampNeg) + (1 : Int32)))) := uf_94_45 hV20
      have hV22 : zV (ma_u (ma_u (ma_u (ma_u (ma_u m 99 l2.toNatClampNeg (0 : Int32)) 111 (m 103 l2.toNatClampNeg).toNatClampNeg (-1 : Int32)) 94 44 ((m 94 44) - (1 : Int32))) 94 45 ((m 94 45) - ((m 102 l2.toNatClampNeg) + (1 : Int32)))) 94 49 ((m 94 49) + ((m 102 l2.toNatClampNeg) + (1 : Int32)))) := uf_94_49 hV21
      have b23 := i_bd l1
      first | have e24 : (l2 + (1 : Int32)).toInt = l2.toInt + (1) := i_addk rfl (by omega) (by omega) | have b25 := i_bd (l2 + (1 : Int32))
      exact OUT4 _ (l1) ((l2 + (1 : Int32))) (show (3100 - (l2 + (1 : Int32)).toInt).toNat < n4 from by omega) (zF_u (zF_u (zF_u (zF_u (zF_u hF rfl) rfl) rfl) rfl) rfl) hV22 (by omega) (show (m 94 10).toInt = 5 from by omega) r_W (show zGU T (m 94 46) ((ma_u m 99 l2.toNatClampNeg (0 : Int32)) 99) from by first | (exact GU_0 r_GU) | (exfalso; omega; done) | (exfalso; contradiction; done)) (show zOw ((ma_u m 99 l2.toNatClampNeg (0 : Int32)) 99) (m 103) ((ma_u m 111 (m 103 l2.toNatClampNeg).toNatClampNeg (-1 : Int32)) 111) from by first | (exact Ow_rm r_OW (by decide) (tn_cast (by omega)).symm) | (exfalso; omega; done) | (exfalso; contradiction; done)) (show zrm (m0 99) ((ma_u m 99 l2.toNatClampNeg (0 : Int32)) 99) (m 110) (l2 + (1 : Int32)).toNatClampNeg from by first | (exact rm_put r_RM (by assumption) (tn_succ (by omega) (by omega))) | (exact rm_put r_RM r_UK.2 (tn_succ (by omega) (by omega))) | (exfalso; omega; done) | (exfalso; contradiction; done)) (show zowr (m0 111) ((ma_u m 111 (m 103 l2.toNatClampNeg).toNatClampNeg (-1 : Int32)) 111) (m0 99) (m 110) (m 103) from by first | (exact owr_put r_OWR (s := l2.toNatClampNeg) (by omega) (rm_us r_RM (by omega) (by assumption)) (by assumption) (by decide) (tn_cast (by omega)).symm) | (exact owr_put r_OWR (s := l2.toNatClampNeg) (by omega) (rm_us r_RM (by omega) r_UK.1) r_UK.2 (by decide) (tn_cast (by omega)).symm) | (exfalso; omega; done) | (exfalso; contradiction; done)) (show ((m 94 45) - ((m 102 l2.toNatClampNeg) + (1 : Int32))).toInt = sm (zbU ((ma_u m 99 l2.toNatClampNeg (0 : Int32)) 99)) (m 102) 3100 from by first | (exact WT_rm r_WTS (by omega) (by assumption) (fun t ht => ra_102 hV ht)) | (exfalso; omega; done) | (exfalso; contradiction; done))
    · skip
      have g26 := i_nle h7
      refine sp_192 (l2) (l3) hV (by omega) (by omega) (by omega) (show l3.toInt < (m 102 l2.toNatClampNeg).toInt from by omega) (fun v2 m1 hV_m1 p0_m1 => zmi_n ?_)
      have p0_m1 : v2 = zrf (m 98) (m 101) (m 108) l2.toNatClampNeg l3.toNatClampNeg := p0_m1
      try have := W_ref r_W (by omega) (by omega) (by omega) (by omega) p0_m1
      have b27 := i_bd v2
      have li28 : (0 : Int32).toInt = 0 := rfl
      refine zd (fun (h29 : v2 < (0 : Int32)) => ?_) (fun (h29 : ¬ v2 < (0 : Int32)) => ?_)
      · skip
        have g30 := i_lt h29
        have b31 := i_bd l1
        first | have e32 : (l3 + (1 : Int32)).toInt = l3.toInt + (1) := i_addk rfl (by omega) (by omega) | have b33 := i_bd (l3 + (1 : Int32))
        exact IH (61 - (l3 + (1 : Int32)).toInt).toNat (by omega) _ (l1) (l2) ((l3 + (1 : Int32))) rfl (zF_zov hF ws_192_200) hV_m1 (by omega) (by omega) (by omega) (show (m 94 10).toInt = 5 from by omega) (show (m 94 10).toInt = 4 from by omega) (by omega) r_W r_GU r_OW r_RM r_OWR r_UK r_WTS
      · skip
        have g34 := i_nlt h29
        have hg35 : (0 ≤ v2 ∧ v2.toNatClampNeg < 3100) := i_ix (by omega) (by omega)
        refine ⟨hg35, ?_⟩
        first | have f36 : 0 ≤ (m 110 v2.toNatClampNeg).toInt ∧ (m 110 v2.toNatClampNeg).toInt ≤ 1 := ra_110 (m := m) hV (k := v2.toNatClampNeg) (i_ix (n := 3100) (by omega) (by omega)).2 | have b37 := i_bd (m 110 v2.toNatClampNeg)
        refine zd (fun (h38 : (m 110 v2.toNatClampNeg) = (0 : Int32)) => ?_) (fun (h38 : ¬ (m 110 v2.toNatClampNeg) = (0 : Int32)) => ?_)
        · skip
          have g39 := i_eq h38
          have b40 := i_bd l1
          first | have e41 : (l3 + (1 : Int32)).toInt = l3.toInt + (1) := i_addk rfl (by omega) (by omega) | have b42 := i_bd (l3 + (1 : Int32))
          exact IH (61 - (l3 + (1 : Int32)).toInt).toNat (by omega) _ (l1) (l2) ((l3 + (1 : Int32))) rfl (zF_zov hF ws_192_200) hV_m1 (by omega) (by omega) (by omega) (show (m 94 10).toInt = 5 from by omega) (show (m 94 10).toInt = 4 from by omega) (by omega) r_W r_GU r_OW r_RM r_OWR r_UK r_WTS
        · skip
          have g43 := i_ne h38
          have hg44 : (0 ≤ v2 ∧ v2.toNatClampNeg < 3100) := i_ix (by omega) (by omega)
          refine ⟨hg44, ?_⟩
          have hg45 : (0 ≤ v2 ∧ v2.toNatClampNeg < 3100) := i_ix (by omega) (by omega)
          refine ⟨hg45, ?_⟩
          have hV46 : zV (ma_u (zov wr_192 m m1) 105 v2.toNatClampNeg ((m 105 v2.toNatClampNeg) - (1 : Int32))) := ua_105 hV_m1
          have b47 := i_bd l1
          first | have e48 : (l3 + (1 : Int32)).toInt = l3.toInt + (1) := i_addk rfl (by omega) (by omega) | have b49 := i_bd (l3 + (1 : Int32))
          exact IH (61 - (l3 + (1 : Int32)).toInt).toNat (by omega) _ (l1) (l2) ((l3 + (1 : Int32))) rfl (zF_u (zF_zov hF ws_192_200) rfl) hV46 (by omega) (by omega) (by omega) (show (m 94 10).toInt = 5 from by omega) (show (m 94 10).toInt = 4 from by omega) (by omega) r_W r_GU r_OW r_RM r_OWR r_UK r_WTS
theorem lp_200r_4 {X : Nat × (Nat → Int32)} {P : Option ma_V → (Nat → Nat → Int32) → Prop} {T : Nat} {m0 : Nat → Nat → Int32} (h0 : zV m0) (K : ∀ v m₉, zF wr_200 m0 m₉ → zV m₉ → (zrm (m0 99) (m₉ 99) (m₉ 110) 3100) → (zowr (m0 111) (m₉ 111) (m0 99) (m₉ 110) (m₉ 103)) → (zGU T (m₉ 94 46) (m₉ 99)) → (zOw (m₉ 99) (m₉ 103) (m₉ 111)) → ((m₉ 94 45).toInt = sm (zbU (m₉ 99)) (m₉ 102) 3100) → P (some (.inl v)) m₉) : ∀ (n : Nat) (m : Nat → Nat → Int32) (l1 : Int32) (l2 : Int32), (3100 - l2.toInt).toNat = n → zF wr_200 m0 m → zV m → (0 ≤ l2.toInt) → ((m 94 10).toInt = 5) → (zW (m 94 7) (m 98) (m 101) (m 102) (m 108)) → (zGU T (m 94 46) (m 99)) → (zOw (m 99) (m 103) (m 111)) → (zrm (m0 99) (m 99) (m 110) l2.toNatClampNeg) → (zowr (m0 111) (m 111) (m0 99) (m 110) (m 103)) → ((m 94 45).toInt = sm (zbU (m 99)) (m 102) 3100) → zm X 2 44 200 4 [(0, .inr (.inr (some 94))), (1, .inl l1), (2, .inl l2)] m P := by
  intro n
  induction n using Nat.strongRecOn with
  | _ n IH =>
    intro m l1 l2 hmu hF hV hi0 hi1 r_W r_GU r_OW r_RM r_OWR r_WTS
    refine g_200_4 l1 l2 ?_
    have f1 : 0 ≤ (m 94 10).toInt ∧ (m 94 10).toInt ≤ 6 := rs_94_10 (m := m) hV
    have li2 : (3100 : Int32).toInt = 3100 := rfl
    have b3 := i_bd l2
    refine zd (fun (h4 : (3100 : Int32) ≤ l2) => ?_) (fun (h4 : ¬ (3100 : Int32) ≤ l2) => ?_)
    · skip
      have g5 := i_le h4
      have b6 := i_bd l1
      exact K (l1) _ hF hV (show zrm (m0 99) (m 99) (m 110) 3100 from by first | (exact rm_end r_RM (by rw [tn_eq]; omega)) | (exfalso; omega; done) | (exfalso; contradiction; done)) r_OWR r_GU r_OW r_WTS
    · skip
      have g7 := i_nle h4
      have hg8 : (0 ≤ l2 ∧ l2.toNatClampNeg < 3100) := i_ix (by omega) (by omega)
      refine ⟨hg8, ?_⟩
      first | have f9 : 0 ≤ (m 99 l2.toNatClampNeg).toInt ∧ (m 99 l2.toNatClampNeg).toInt ≤ 1 := ra_99 (m := m) hV (k := l2.toNatClampNeg) (i_ix (n := 3100) (by omega) (by omega)).2 | have b10 := i_bd (m 99 l2.toNatClampNeg)
      have li11 : (0 : Int32).toInt = 0 := rfl
      refine zd (fun (h12 : (m 99 l2.toNatClampNeg) = (0 : Int32)) => ?_) (fun (h12 : ¬ (m 99 l2.toNatClampNeg) = (0 : Int32)) => ?_)
      · skip
        have g13 := i_eq h12
        have b14 := i_bd l1
        first | have e15 : (l2 + (1 : Int32)).toInt = l2.toInt + (1) := i_addk rfl (by omega) (by omega) | have b16 := i_bd (l2 + (1 : Int32))
        exact IH (3100 - (l2 + (1 : Int32)).toInt).toNat (by omega) _ (l1) ((l2 + (1 : Int32))) rfl hF hV (by omega) (show (m 94 10).toInt = 5 from by omega) r_W r_GU r_OW (show zrm (m0 99) (m 99) (m 110) (l2 + (1 : Int32)).toNatClampNeg from by first | (exact rm_skip r_RM (Or.inl (by assumption)) (tn_succ (by omega) (by omega))) | (exact rm_skip r_RM (Or.inr (by assumption)) (tn_succ (by omega) (by omega))) | (exfalso; omega; done) | (exfalso; contradiction; done)) r_OWR r_WTS
      · skip
        have g17 := i_ne h12
        have hg18 : (0 ≤ l2 ∧ l2.toNatClampNeg < 3100) := i_ix (by omega) (by omega)
        refine ⟨hg18, ?_⟩
        first | have f19 : 0 ≤ (m 110 l2.toNatClampNeg).toInt ∧ (m 110 l2.toNatClampNeg).toInt ≤ 1 := ra_110 (m := m) hV (k := l2.toNatClampNeg) (i_ix (n := 3100) (by omega) (by omega)).2 | have b20 := i_bd (m 110 l2.toNatClampNeg)
        refine zd (fun (h21 : (m 110 l2.toNatClampNeg) = (0 : Int32)) => ?_) (fun (h21 : ¬ (m 110 l2.toNatClampNeg) = (0 : Int32)) => ?_)
        · skip
          have g22 := i_eq h21
          have hg23 : (0 ≤ l2 ∧ l2.toNatClampNeg < 3100) := i_ix (by omega) (by omega)
          refine ⟨hg23, ?_⟩
          have li24 : (4 : Int32).toInt = 4 := rfl
          refine zd (fun (h25 : (m 94 10) = (4 : Int32)) => ?_) (fun (h25 : ¬ (m 94 10) = (4 : Int32)) => ?_)
          · skip
            have g26 := i_eq h25
            have b27 := i_bd l1
            first | have f28 : 0 ≤ (m 102 l2.toNatClampNeg).toInt ∧ (m 102 l2.toNatClampNeg).toInt ≤ 60 := ra_102 (m := m) hV (k := l2.toNatClampNeg) (i_ix (n := 3100) (by omega) (by omega)).2 | have b29 := i_bd (m 102 l2.toNatClampNeg)
            first | have e30 : ((m 102 l2.toNatClampNeg) + (1 : Int32)).toInt = (m 102 l2.toNatClampNeg).toInt + (1) := i_addk rfl (by omega) (by omega) | have b31 := i_bd ((m 102 l2.toNatClampNeg) + (1 : Int32))
            first | have e32 : (l1 + ((m 102 l2.toNatClampNeg) + (1 : Int32))).toInt = l1.toInt + ((m 102 l2.toNatClampNeg) + (1 : Int32)).toInt := i_add (by omega) (by omega) | have b33 := i_bd (l1 + ((m 102 l2.toNatClampNeg) + (1 : Int32)))
            exact lp_200r_50 h0 K (fun _ _ _ z1 z2 z3 y0 y1 y2 y3 y4 y5 y6 y7 => IH _ z1 _ _ _ rfl z2 z3 y0 y1 y2 y3 y4 y5 y6 y7) _ _ ((l1 + ((m 102 l2.toNatClampNeg) + (1 : Int32)))) (l2) ((0 : Int32)) rfl hF hV (by omega) (by omega) (by omega) (show (m 94 10).toInt = 5 from by omega) (show (m 94 10).toInt = 4 from by omega) (by omega) r_W r_GU r_OW r_RM r_OWR (show (m 99) l2.toNatClampNeg ≠ 0 ∧ (m 110) l2.toNatClampNeg = 0 from by first | (exact ⟨by assumption, by assumption⟩) | (exfalso; omega; done) | (exfalso; contradiction; done)) r_WTS
          · skip
            have g34 := i_ne h25
            have hg35 : (0 ≤ l2 ∧ l2.toNatClampNeg < 3100) := i_ix (by omega) (by omega)
            refine ⟨hg35, ?_⟩
            have hg36 : (0 ≤ l2 ∧ l2.toNatClampNeg < 3100) := i_ix (by omega) (by omega)
            refine ⟨hg36, ?_⟩
            first | have f37 : 0 ≤ (m 103 l2.toNatClampNeg).toInt ∧ (m 103 l2.toNatClampNeg).toInt ≤ 4599 := ra_103 (m := m) hV (k := l2.toNatClampNeg) (i_ix (n := 3100) (by omega) (by omega)).2 | have b38 := i_bd (m 103 l2.toNatClampNeg)
            have hg39 : (0 ≤ (m 103 l2.toNatClampNeg) ∧ (m 103 l2.toNatClampNeg).toNatClampNeg < 4600) := i_ix (by omega) (by omega)
            refine ⟨hg39, ?_⟩
            have hg40 : (0 ≤ l2 ∧ l2.toNatClampNeg < 3100) := i_ix (by omega) (by omega)
            refine ⟨hg40, ?_⟩
            have hg41 : (0 ≤ l2 ∧ l2.toNatClampNeg < 3100) := i_ix (by omega) (by omega)
            refine ⟨hg41, ?_⟩
            have hV42 : zV (ma_u m 99 l2.toNatClampNeg (0 : Int32)) := ua_99 hV (by omega) (by omega)
            have li44 : (-1 : Int32).toInt = -1 := rfl
            have hV43 : zV (ma_u (ma_u m 99 l2.toNatClampNeg (0 : Int32)) 111 (m 103 l2.toNatClampNeg).toNatClampNeg (-1 : Int32)) := ua_111 hV42 (by omega) (by omega)
            have hV45 : zV (ma_u (ma_u (ma_u m 99 l2.toNatClampNeg (0 : Int32)) 111 (m 103 l2.toNatClampNeg).toNatClampNeg (-1 : Int32)) 94 44 ((m 94 44) - (1 : Int32))) := uf_94_44 hV43
            have hV46 : zV (ma_u (ma_u (ma_u (ma_u m 99 l2.toNatClampNeg (0 : Int32)) 111 (m 103 l2.toNatClampNeg).toNatClampNeg (-1 : Int32)) 94 44 ((m 94 44) - (1 : Int32))) 94 45 ((m 94 45) - ((m 102 l2.toNatClampNeg) + (1 : Int32)))) := uf_94_45 hV45
            have hV47 : zV (ma_u (ma_u (ma_u (ma_u (ma_u m 99 l2.toNatClampNeg (0 : Int32)) 111 (m 103 l2.toNatClampNeg).toNatClampNeg (-1 : Int32)) 94 44 ((m 94 44) - (1 : Int32))) 94 45 ((m 94 45) - ((m 102 l2.toNatClampNeg) + (1 : Int32)))) 94 49 ((m 94 49) + ((m 102 l2.toNatClampNeg) + (1 : Int32)))) := uf_94_49 hV46
            have b48 := i_bd l1
            first | have f49 : 0 ≤ (m 102 l2.toNatClampNeg).toInt ∧ (m 102 l2.toNatClampNeg).toInt ≤ 60 := ra_102 (m := m) hV (k := l2.toNatClampNeg) (i_ix (n := 3100) (by omega) (by omega)).2 | have b50 := i_bd (m 102 l2.toNatClampNeg)
            first | have e51 : ((m 102 l2.toNatClampNeg) + (1 : Int32)).toInt = (m 102 l2.toNatClampNeg).toInt + (1) := i_addk rfl (by omega) (by omega) | have b52 := i_bd ((m 102 l2.toNatClampNeg) + (1 : Int32))
            first | have e53 : (l1 + ((m 102 l2.toNatClampNeg) + (1 : Int32))).toInt = l1.toInt + ((m 102 l2.toNatClampNeg) + (1 : Int32)).toInt := i_add (by omega) (by omega) | have b54 := i_bd (l1 + ((m 102 l2.toNatClampNeg) + (1 : Int32)))
            first | have e55 : (l2 + (1 : Int32)).toInt = l2.toInt + (1) := i_addk rfl (by omega) (by omega) | have b56 := i_bd (l2 + (1 : Int32))
            exact IH (3100 - (l2 + (1 : Int32)).toInt).toNat (by omega) _ ((l1 + ((m 102 l2.toNatClampNeg) + (1 : Int32)))) ((l2 + (1 : Int32))) rfl (zF_u (zF_u (zF_u (zF_u (zF_u hF rfl) rfl) rfl) rfl) rfl) hV47 (by omega) (show (m 94 10).toInt = 5 from by omega) r_W (show zGU T (m 94 46) ((ma_u m 99 l2.toNatClampNeg (0 : Int32)) 99) from by first | (exact GU_0 r_GU) | (exfalso; omega; done) | (exfalso; contradiction; done)) (show zOw ((ma_u m 99 l2.toNatClampNeg (0 : Int32)) 99) (m 103) ((ma_u m 111 (m 103 l2.toNatClampNeg).toNatClampNeg (-1 : Int32)) 111) from by first | (exact Ow_rm r_OW (by decide) (tn_cast (by omega)).symm) | (exfalso; omega; done) | (exfalso; contradiction; done)) (show zrm (m0 99) ((ma_u m 99 l2.toNatClampNeg (0 : Int32)) 99) (m 110) (l2 + (1 : Int32)).toNatClampNeg from by first | (exact rm_put r_RM (by assumption) (tn_succ (by omega) (by omega))) | (exfalso; omega; done) | (exfalso; contradiction; done)) (show zowr (m0 111) ((ma_u m 111 (m 103 l2.toNatClampNeg).toNatClampNeg (-1 : Int32)) 111) (m0 99) (m 110) (m 103) from by first | (exact owr_put r_OWR (s := l2.toNatClampNeg) (by omega) (rm_us r_RM (by omega) (by assumption)) (by assumption) (by decide) (tn_cast (by omega)).symm) | (exfalso; omega; done) | (exfalso; contradiction; done)) (show ((m 94 45) - ((m 102 l2.toNatClampNeg) + (1 : Int32))).toInt = sm (zbU ((ma_u m 99 l2.toNatClampNeg (0 : Int32)) 99)) (m 102) 3100 from by first | (exact WT_rm r_WTS (by omega) (by assumption) (fun t ht => ra_102 hV ht)) | (exfalso; omega; done) | (exfalso; contradiction; done))
        · skip
          have g57 := i_ne h21
          have b58 := i_bd l1
          first | have e59 : (l2 + (1 : Int32)).toInt = l2.toInt + (1) := i_addk rfl (by omega) (by omega) | have b60 := i_bd (l2 + (1 : Int32))
          exact IH (3100 - (l2 + (1 : Int32)).toInt).toNat (by omega) _ (l1) ((l2 + (1 : Int32))) rfl hF hV (by omega) (show (m 94 10).toInt = 5 from by omega) r_W r_GU r_OW (show zrm (m0 99) (m 99) (m 110) (l2 + (1 : Int32)).toNatClampNeg from by first | (exact rm_skip r_RM (Or.inl (by assumption)) (tn_succ (by omega) (by omega))) | (exact rm_skip r_RM (Or.inr (by assumption)) (tn_succ (by omega) (by omega))) | (exfalso; omega; done) | (exfalso; contradiction; done)) r_OWR r_WTS
theorem sp_200r {X : Nat × (Nat → Int32)} {P : Option ma_V → (Nat → Nat → Int32) → Prop} {T : Nat} {m : Nat → Nat → Int32}  (hV : zV m) (hpre0 : (m 94 10).toInt = 5) (r_W : zW (m 94 7) (m 98) (m 101) (m 102) (m 108)) (r_GU : zGU T (m 94 46) (m 99)) (r_OW : zOw (m 99) (m 103) (m 111)) (r_WTS : (m 94 45).toInt = sm (zbU (m 99)) (m 102) 3100) (KZ : ∀ v m₉, zV (zov wr_200 m m₉) → (zrm (m 99) (m₉ 99) (m 110) 3100) → (zowr (m 111) (m₉ 111) (m 99) (m 110) (m 103)) → (zGU T (m 94 46) (m₉ 99)) → (zOw (m₉ 99) (m 103) (m₉ 111)) → ((m₉ 94 45).toInt = sm (zbU (m₉ 99)) (m 102) 3100) → P (some (.inl v)) (zov wr_200 m m₉)) : zm X 2 44 200 0 [(0, .inr (.inr (some 94)))] m P := by
  have K : ∀ v m₉, zF wr_200 m m₉ → zV m₉ → (zrm (m 99) (m₉ 99) (m₉ 110) 3100) → (zowr (m 111) (m₉ 111) (m 99) (m₉ 110) (m₉ 103)) → (zGU T (m₉ 94 46) (m₉ 99)) → (zOw (m₉ 99) (m₉ 103) (m₉ 111)) → ((m₉ 94 45).toInt = sm (zbU (m₉ 99)) (m₉ 102) 3100) → P (some (.inl v)) m₉ := by
    intro v m₉ hf z q0 q1 q2 q3 q4
    have e := zov_eq hf
    rw [e] at z ⊢
    try rw [e] at q0
    try rw [e] at q1
    try rw [e] at q2
    try rw [e] at q3
    try rw [e] at q4
    exact KZ v m₉ z q0 q1 q2 q3 q4
  refine g_200_0  ?_
  have f1 : 0 ≤ (m 94 10).toInt ∧ (m 94 10).toInt ≤ 6 := rs_94_10 (m := m) hV
  have li2 : (0 : Int32).toInt = 0 := rfl
  exact lp_200r_4 hV K _ _ ((0 : Int32)) ((0 : Int32)) rfl zF_rfl hV (by omega) (show (m 94 10).toInt = 5 from by omega) r_W r_GU r_OW (show zrm (m 99) (m 99) (m 110) (0 : Int32).toNatClampNeg from by first | (exact rm_0) | (exfalso; omega; done) | (exfalso; contradiction; done)) (show zowr (m 111) (m 111) (m 99) (m 110) (m 103) from by first | (exact owr_rfl) | (exfalso; omega; done) | (exfalso; contradiction; done)) r_WTS

