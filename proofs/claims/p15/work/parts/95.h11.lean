/-! the reference by numbers (written by wip/tools/gen18r.py) -/
/-! LAST WISHES ARE GRANTED, the reference -/
abbrev qCw (us kp wi nr : Nat → Int32) (l : Int32) : Nat → Prop := fun t => us t ≠ 0 ∧ kp t = 0 ∧ wi t ≠ 0 ∧ l.toInt < (nr t).toInt
def qKB (kp us nr : Nat → Int32) (b : Nat → Nat → Int32) : Prop := (∀ s, s < 3100 → kp s ≠ 0 → us s ≠ 0) ∧ ∀ s, s < 3100 → us s ≠ 0 → (kp s ≠ 0 ↔ zNn b (nr s).toNatClampNeg)
def qE0 (b : Nat → Nat → Int32) : Prop := zWQ b ∧ ¬ (b 75 3).toInt < (b 75 4).toInt
def qUn (wk0 wk : Nat → Int32) (s : Int32) (l : Int) : Prop := ∀ k : Nat, wk k = (if (k : Int) < l ∧ wk0 k = s then -1 else wk0 k)
/-- all that are not WHITE: ROOTS and WISHES, and what they refer to -/
def qCl (b : Nat → Nat → Int32) : Prop := (∀ u, xAl b u → zRl b u ∨ zWl b u → zNn b u) ∧ ∀ u y, zNn b u → xAl b u → zEd b u y → zNn b y
def qGL (us nr kr kd ws at' ho wd wi ow rt wk wl : Nat → Int32) (wm nu ro fo le ra pi : Int32) (kp : Nat → Int32) (x : Int32) (T : Nat → Nat → Int32) : Prop := ∃ (b : Nat → Nat → Int32) (l : Int32), qRB us nr kr kd ws at' ho wd wi ow rt wk wl wm nu ro fo le ra pi b ∧ qKB kp us nr b ∧ qE0 b ∧ qI b ∧ qCl b ∧ (-1 ≤ l.toInt ∧ l.toInt + 1 ≤ (b 69 6).toInt) ∧ qMin (qCw us kp wi nr l) nr x 3100 ∧ aGw b (l + 1) = T
section QG
variable {aa a b c T : Nat → Nat → Int32} {us nr kr kd ws at' ho wd wi ow rt wk wk' wl kp kp' st wk0 : Nat → Int32} {wm nu ro fo le ra pi z v y x j s l i : Int32} {cur n k t u : Nat} {m ms m2 : Nat → Nat → Int32} {d : Nat → Nat → Int32}
theorem Un_0 {e : Int} (h : e ≤ 0) : qUn wk wk s e := fun k => by rw [if_neg (by omega)]
theorem Un_y {e : Int} (h : qUn wk0 (m 113) s i.toInt) (h0 : 0 ≤ i.toInt) (e1 : e = i.toInt + 1) (hs : m 113 i.toNatClampNeg = s) : qUn wk0 (ma_u m 113 i.toNatClampNeg (-1) 113) s e := by
  intro k
  have c := tn_cast h0
  by_cases w : k = i.toNatClampNeg
  · have q := h k
    rw [w, if_neg (by omega)] at q
    rw [w, mu_self, if_pos ⟨by omega, by rw [← q]; exact hs⟩]
  · rw [mu_ne w, h k]
    by_cases w2 : (k : Int) < i.toInt ∧ wk0 k = s
    · rw [if_pos w2, if_pos ⟨by omega, w2.2⟩]
    · rw [if_neg w2, if_neg (fun q => w2 ⟨by omega, q.2⟩)]
theorem Un_n {e : Int} (h : qUn wk0 wk s i.toInt) (h0 : 0 ≤ i.toInt) (e1 : e = i.toInt + 1) (hs : ¬ wk i.toNatClampNeg = s) : qUn wk0 wk s e := by
  intro k
  have c := tn_cast h0
  rw [h k]
  by_cases w : k = i.toNatClampNeg
  · have q := h k
    rw [w, if_neg (by omega)] at q
    rw [w, if_neg (by omega), if_neg (fun q2 => hs (by rw [q]; exact q2.2))]
  · by_cases w2 : (k : Int) < i.toInt ∧ wk0 k = s
    · rw [if_pos w2, if_pos ⟨by omega, w2.2⟩]
    · rw [if_neg w2, if_neg (fun q => w2 ⟨by omega, q.2⟩)]
theorem gr_5 (h : (a 69 5).toInt < 512) : aGr a y 69 5 = a 69 5 + 1 ∧ aGr a y 74 (a 69 5).toNatClampNeg = y ∧ (∀ k, k ≠ (a 69 5).toNatClampNeg → aGr a y 74 k = a 74 k) ∧ (∀ k, aGr a y 73 k = zUw a y 16 73 k) ∧ aGr a y 134 y.toNatClampNeg = 0 ∧ ∀ k, k ≠ y.toNatClampNeg → aGr a y 134 k = a 134 k := by
  unfold aGr
  rw [if_pos h]
  refine ⟨xu_s, ?_, fun k hk => ?_, fun k => ?_, ?_, fun k hk => ?_⟩
  · rw [xu_o (by omega), xu_s]
  · rw [xu_o (by omega), xu_o (fun w => hk w.2), xu_o (by omega), zUw_o (by decide)]
  · rw [xu_o (by omega), xu_o (by omega), xu_o (by omega)]
  · rw [xu_o (by omega), xu_o (by omega), xu_s]
  · rw [xu_o (by omega), xu_o (by omega), xu_o (fun w => hk w.2), zUw_o (by decide)]
theorem gr_r (h : n ≠ 73) (h1 : n ≠ 134) (h2 : n ≠ 74) (h3 : n ≠ 69) : aGr a y n = a n := funext (fun k => aGr_o ⟨h, h1, h2, fun w => h3 w.1⟩)
theorem gr_ref : aRef (aGr a y) n i = aRef a n i := by
  unfold aRef
  rw [gr_r (n := 1000 + n) (by omega) (by omega) (by omega) (by omega), gr_r (n := 130) (by decide) (by decide) (by decide) (by decide), gr_r (n := 71) (by decide) (by decide) (by decide) (by decide)]
theorem RB_gr (h : qRB us nr kr kd ws at' ho wd (m 109) ow rt wk (m2 114) wm nu ro fo le ra pi a) (h0 : 0 ≤ s.toInt) (h3 : s.toInt ≤ 3099) (hu : us s.toNatClampNeg ≠ 0) (hw : qUn wk wk' s 16) (hm : wm.toInt < 512) (hm0 : 0 ≤ wm.toInt) : qRB us nr kr kd ws at' ho wd (ma_u m 109 s.toNatClampNeg 0 109) ow rt wk' (ma_u m2 114 wm.toNatClampNeg s 114) (wm + 1) nu ro fo le ra pi (aGr a (nr s.toNatClampNeg)) := by
  obtain ⟨q1, q2, q3, q4, q5, q6, q7, q8⟩ := h
  have hs := tn_lt h0 (by omega)
  have ts := q1.1 _ hs hu
  have g := gr_5 (a := a) (y := nr s.toNatClampNeg) (by rw [q5.1]; exact hm)
  rw [q5.1] at g
  have cm := tn_cast hm0
  have e1 := i_p1 (i := wm) (by omega)
  refine ⟨?_, ?_, ?_, ?_, ?_, ?_, q7, ?_⟩
  · unfold qR1 at q1 ⊢
    rw [gr_r (n := 126) (by decide) (by decide) (by decide) (by decide), gr_r (n := 128) (by decide) (by decide) (by decide) (by decide), gr_r (n := 130) (by decide) (by decide) (by decide) (by decide), gr_r (n := 133) (by decide) (by decide) (by decide) (by decide)]
    exact q1
  · intro t ht hv i hi
    have q := q2 t ht hv i hi
    rw [gr_ref, gr_r (n := 1000 + (nr t).toNatClampNeg) (by omega) (by omega) (by omega) (by omega)]
    exact q
  · unfold qR3 at q3 ⊢
    rw [gr_r (n := 72) (by decide) (by decide) (by decide) (by decide)]
    exact q3
  · intro k hk
    have q := q4 k hk
    rw [hw k, g.2.2.2.1 k]
    unfold zUw
    by_cases w : wk k = s
    · rw [if_pos ⟨by omega, w⟩]
      rw [w, No_y h0] at q
      rw [if_pos ⟨rfl, by omega, q.2⟩]
      exact ⟨Or.inl (by decide), rfl⟩
    · rw [if_neg (fun z => w z.2)]
      refine ⟨q.1, ?_⟩
      rw [if_neg]
      · exact q.2
      · rintro ⟨_, _, z3⟩
        rw [q.2] at z3
        by_cases z : (wk k).toInt < 0
        · rw [No_n z] at z3
          have := ts.1.1
          rw [← z3] at this
          exact absurd this (by decide)
        · have u := U_y q.1 (by omega)
          rw [No_y (by omega)] at z3
          have e := q1.2.1 _ _ (tn_lt (by omega) u.1) hs u.2 hu z3
          apply w
          have c1 := tn_cast (x := wk k) (by omega)
          have c2 := tn_cast h0
          exact Int32.toInt_inj.mp (by omega)
  · refine ⟨g.1, fun k hk => ?_⟩
    by_cases w : k = wm.toNatClampNeg
    · rw [w, mu_self, g.2.1]
      exact ⟨⟨h0, by omega, hu⟩, rfl⟩
    · rw [mu_ne w, g.2.2.1 k w]
      exact q5.2 k (by omega)
  · intro t ht hv
    by_cases w : t = s.toNatClampNeg
    · rw [w, mu_self]
      exact g.2.2.2.2.1
    · rw [mu_ne w, g.2.2.2.2.2 _ (fun z => w (R1_in q1 ht hs hv hu z))]
      exact q6 t ht hv
  · unfold qR8 at q8 ⊢
    rw [aGr_o ⟨by decide, by decide, by decide, by decide⟩, gr_r (n := 87) (by decide) (by decide) (by decide) (by decide)]
    exact q8
theorem I_gr (h : qI a) (h5 : (a 69 5).toInt < 512) : qI (aGr a y) := by
  have al : xAl (aGr a y) = xAl a := by
    funext n
    unfold xAl
    rw [gr_r (n := 126) (by decide) (by decide) (by decide) (by decide)]
  have e8 := gr_r (a := a) (y := y) (n := 128) (by decide) (by decide) (by decide) (by decide)
  have e6 := gr_r (a := a) (y := y) (n := 126) (by decide) (by decide) (by decide) (by decide)
  have su := Su_cg (a := aGr a y) (b := a) e6 e8 512
  obtain ⟨h1, h2, h3, h4, h6, h7⟩ := h
  have i5 := h4.2.1
  have e8' : qI6 (aGr a y) := fun n hn k => by
    rw [gr_r (n := 1000 + n) (by omega) (by omega) (by omega) (by omega)]
    exact h7 n (by rw [← al]; exact hn) k
  unfold qI qI1 qI2 qI3 qI4 qGd at *
  rw [al, su, e8, gr_r (n := 130) (by decide) (by decide) (by decide) (by decide), gr_r (n := 71) (by decide) (by decide) (by decide) (by decide), gr_r (n := 87) (by decide) (by decide) (by decide) (by decide), aGr_o (c := 69) (k := 6) ⟨by decide, by decide, by decide, by decide⟩, aGr_o (c := 69) (k := 8) ⟨by decide, by decide, by decide, by decide⟩, (gr_5 h5).1, i_p1 (by omega)]
  exact ⟨h1, h2, h3, ⟨h4.1, ⟨by omega, by omega⟩, h4.2.2⟩, h6, e8'⟩
theorem WQ_cg (h : zWQ a) (e1 : a 75 = b 75) (e2 : a 76 = b 76) (e3 : a 77 = b 77) (e4 : a 126 = b 126) (e5 : a 130 = b 130) : zWQ b := by
  unfold zWQ zQ1 zQ2 zQ3 zQ4 zQ5 xFp xAl at h ⊢
  rw [← e1, ← e2, ← e3, ← e4, ← e5]
  exact h
theorem E0_gr (h : qE0 a) : qE0 (aGr a y) := by
  have e := gr_r (a := a) (y := y) (n := 75) (by decide) (by decide) (by decide) (by decide)
  refine ⟨WQ_cg h.1 e.symm (gr_r (by decide) (by decide) (by decide) (by decide)).symm (gr_r (by decide) (by decide) (by decide) (by decide)).symm (gr_r (by decide) (by decide) (by decide) (by decide)).symm (gr_r (by decide) (by decide) (by decide) (by decide)).symm, ?_⟩
  rw [e]
  exact h.2
theorem Nn_gr : zNn (aGr a y) = zNn a := by
  funext n
  unfold zNn
  rw [gr_r (n := 77) (by decide) (by decide) (by decide) (by decide)]
/-- nothing GREY: all that are not WHITE are BLACK -/
theorem E0_bl (h : qE0 c) : zDn c u ↔ zNn c u := by
  refine ⟨Dn_Nn, fun w => ⟨w.1, ?_⟩⟩
  rcases h.1.2.2.2.2.1 u w.1 with z | z | z
  · exact absurd z w.2
  · obtain ⟨j, j1, j2, _⟩ := h.1.2.2.2.1 u w.1 z
    have := h.2
    omega
  · exact z
abbrev qQ (c : Nat → Nat → Int32) (y : Int32) : Nat → Prop := zM (fun u => zNn c u ∨ u = y.toNatClampNeg) (zNn c) (zEd c)
theorem KA_b (h : qKB kp us nr c) (hz : z.toInt = 0) : qKA kp us nr kr kd ws wd st z (qQ c y) (zNn c) 3100 0 :=
  ⟨fun s hs hk => ⟨h.1 s hs hk, zM_in (Or.inl ((h.2 s hs (h.1 s hs hk)).mp hk))⟩, fun j hj => by omega, fun e => absurd e (by decide), fun s hs hu hd => (h.2 s hs hu).mpr hd, fun s hs hk => Or.inl ((h.2 s hs (h.1 s hs hk)).mp hk)⟩
theorem KB_gr (h : qKB kp us nr b) : qKB kp us nr (aGr b y) := by
  unfold qKB at h ⊢
  rw [Nn_gr]
  exact h
/-- one is granted: what is kept behind it -/
theorem KB_nx (hR : qRB us nr kr kd ws at' ho wd wi ow rt wk wl wm nu ro fo le ra pi c) (h : qKB (m 110) us nr c) (hE : qE0 c) (h0 : 0 ≤ s.toInt) (h3 : s.toInt ≤ 3099) (hu : us s.toNatClampNeg ≠ 0) (hK : qKA kp' us nr kr kd ws wd st z (qQ c (nr s.toNatClampNeg)) (zNn c) 3100 0) (hz : z.toInt = 0) (hl : zle (ma_u m 110 s.toNatClampNeg x 110) kp') (hx : x ≠ 0) : qKB kp' us nr (aSp 512 (aCm c (nr s.toNatClampNeg))) := by
  have hs := tn_lt h0 (by omega)
  have ts := hR.1.1 _ hs hu
  have cy := tn_cast ts.1.1
  refine ⟨fun t ht hk => (hK.1 t ht hk).1, fun t ht hv => ?_⟩
  have g := gr_cm (y := nr s.toNatClampNeg) hE.1
  have e : zNn (aSp 512 (aCm c (nr s.toNatClampNeg))) (nr t).toNatClampNeg ↔ qQ c (nr s.toNatClampNeg) (nr t).toNatClampNeg := by
    refine (sp_Nn g.1).trans (zM_cg (fun u => ?_) (fun u => (g.2.2.1 u).trans (E0_bl hE)) (fun u y => Of_ed g.2.1))
    rw [g.2.2.2.1 u]
    constructor
    · rintro (w | w)
      · exact Or.inl w
      · refine Or.inr ?_
        rw [w.2]
        exact (tn_of w.1.1).symm
    · rintro (w | w)
      · exact Or.inl w
      · refine Or.inr ⟨?_, ?_⟩
        · rw [w]
          exact R1_al hR.1 hs hu
        · rw [w]
          exact (ofN_tn ts.1.1).symm
  rw [e]
  refine ⟨fun w => (hK.1 t ht w).2, fun w => ?_⟩
  have q := w (fun x => zNn c x ∨ ∃ r, r < 3100 ∧ us r ≠ 0 ∧ (nr r).toNatClampNeg = x ∧ kp' r ≠ 0) (fun g hg => ?_) (fun u y hp hd he => ?_)
  · rcases q with q | ⟨r, hr, hv2, e2, hk⟩
    · exact hl t ht (mu_mono hx ((h.2 t ht hv).mpr q))
    · rw [← R1_in hR.1 hr ht hv2 hv e2]
      exact hk
  · rcases hg with hg | hg
    · exact Or.inl hg
    · exact Or.inr ⟨_, hs, hu, hg.symm, hl _ hs (by rw [mu_self]; exact hx)⟩
  · rcases hp with hp | ⟨r, hr, hv2, e2, hk⟩
    · exact absurd hp hd
    · rw [← e2] at he hd
      obtain ⟨i, i1, i2, i3, i4, i5⟩ := Ed_t hR hr hv2 he
      refine Or.inr ⟨_, i3, i4, i5, ?_⟩
      rcases hK.2.2.2.2 r hr hk with w2 | ⟨j, j1, _⟩ | w2 | ⟨w2, _⟩
      · exact absurd w2 hd
      · omega
      · exact (w2 i i1).elim (fun w3 => by omega) id
      · omega
theorem E0_sp (h : zWQ a) : qE0 (aSp 512 a) ∧ zOf a (aSp 512 a) := ⟨⟨(sp_all 512 a h).1, sp_end h⟩, (sp_all 512 a h).2.1⟩
theorem aGw_to : ∀ (k : Nat) (n y : Int32), 0 ≤ n.toInt → y.toInt = n.toInt + (k : Int) → y.toInt ≤ (b 69 6).toInt → (∀ z : Int32, n.toInt ≤ z.toInt → z.toInt < y.toInt → ¬ aGc b z) → aGw b n = aGw b y := by
  intro k
  induction k with
  | zero =>
    intro n y _ e _ _
    rw [show n = y from Int32.toInt_inj.mp (by omega)]
  | succ k ih =>
    intro n y h0 e h6 hz
    have bd := i_bd y
    have e1 := i_p1 (i := n) (by omega)
    rw [aGw_n (by omega) (hz n (by omega) (by omega))]
    exact ih (n + 1) y (by omega) (by omega) h6 (fun z z1 z2 => hz z (by omega) z2)
theorem GL_no (hR : qRB us nr kr kd ws at' ho wd wi ow rt wk wl wm nu ro fo le ra pi b) (hK : qKB kp us nr b) {v : Int} (hm : ∀ t : Nat, t < 3100 → qCw us kp wi nr l t → v ≤ (nr t).toInt) (h1 : l.toInt < z.toInt) (h2 : z.toInt < v) : ¬ aGc b z := by
  rintro ⟨w0, w1, w2, w3, w4, w5⟩
  have c := tn_cast w0
  obtain ⟨t, ht, hu, hn⟩ := R1_ex hR.1 (show xAl b z.toNatClampNeg from ⟨by omega, w2⟩)
  have q := hR.1.1 t ht hu
  have ct := tn_cast q.1.1
  have k0 : kp t = 0 := by
    by_cases w : kp t = 0
    · exact w
    · have := ((hK.2 t ht hu).mp w).2
      rw [hn] at this
      exact absurd w5 this
  have wt := hR.2.2.2.2.2.1 t ht hu
  rw [hn] at wt
  have := hm t ht ⟨hu, k0, by rw [← wt]; exact w3, by omega⟩
  omega
theorem GL_end (hR : qRB us nr kr kd ws at' ho wd wi ow rt wk wl wm nu ro fo le ra pi b) (hI : qI b) (hK : qKB kp us nr b) (h1 : -1 ≤ l.toInt) (h2 : l.toInt + 1 ≤ (b 69 6).toInt) (hm : qMin (qCw us kp wi nr l) nr x 3100) (hx : x.toInt < 0) (hT : aGw b (l + 1) = T) : b = T := by
  have i4 := hI.2.2.2.1.1
  have e1 := i_p1 (i := l) (by omega)
  rw [← hT, aGw_to (b := b) ((b 69 6).toInt - (l + 1).toInt).toNat (l + 1) (b 69 6) (by omega) (by omega) (by omega) (fun z z1 z2 => GL_no hR hK (v := 600) (fun t ht hc => by
      rcases hm with q | q
      · exact absurd hc (q.2 t (by omega))
      · omega) (by omega) (by omega)), aGw_st (by omega)]
theorem GL_nx (hR : qRB us nr kr kd ws at' ho wd wi ow rt wk wl wm nu ro fo le ra pi b) (hI : qI b) (hE : qE0 b) (hK : qKB kp us nr b) (h1 : -1 ≤ l.toInt) (h2 : l.toInt + 1 ≤ (b 69 6).toInt) (hm : qMin (qCw us kp wi nr l) nr x 3100) (hx : 0 ≤ x.toInt) (hT : aGw b (l + 1) = T) : aGw (aSp 512 (aCm (aGr b (nr x.toNatClampNeg)) (nr x.toNatClampNeg))) (nr x.toNatClampNeg + 1) = T ∧ (nr x.toNatClampNeg).toInt + 1 ≤ (b 69 6).toInt ∧ -1 ≤ (nr x.toNatClampNeg).toInt := by
  rcases hm with q | q
  · omega
  · have i4 := hI.2.2.2.1.1
    have e1 := i_p1 (i := l) (by omega)
    have hs := tn_lt hx q.2.1
    have t := hR.1.1 _ hs q.2.2.1.1
    have al := R1_al hR.1 hs q.2.2.1.1
    have l6 := (hI.1 _ al).1
    have ct := tn_cast t.1.1
    have l3 := q.2.2.1.2.2.2
    have wt := hR.2.2.2.2.2.1 _ hs q.2.2.1.1
    refine ⟨?_, by omega, by omega⟩
    rw [← hT, aGw_to (b := b) ((nr x.toNatClampNeg).toInt - (l + 1).toInt).toNat (l + 1) (nr x.toNatClampNeg) (by omega) (by omega) (by omega) (fun z z1 z2 => GL_no hR hK (fun t ht hc => q.2.2.2 t (by omega) hc) (by omega) z2)]
    refine (aGw_y (by omega) ⟨t.1.1, t.1.2, t.2.1, ?_, ?_, ?_⟩).symm
    · rw [wt]
      exact q.2.2.1.2.2.1
    · have f := hE.1.2.2.2.2.2.1
      have l7 := l6.2
      omega
    · by_cases w : b 77 (nr x.toNatClampNeg).toNatClampNeg = 0
      · exact w
      · exact absurd q.2.2.1.2.1 ((hK.2 _ hs q.2.2.1.1).mpr ⟨al.1, w⟩)
theorem gr_ed : zEd (aGr a y) u n ↔ zEd a u n := by
  have al : xAl (aGr a y) = xAl a := by
    funext n
    unfold xAl
    rw [gr_r (n := 126) (by decide) (by decide) (by decide) (by decide)]
  unfold zEd
  rw [al, gr_r (n := 128) (by decide) (by decide) (by decide) (by decide)]
  constructor
  · rintro ⟨w1, i, w2, w3, w4⟩
    exact ⟨w1, i, w2, w3, by rw [← gr_ref (y := y)]; exact w4⟩
  · rintro ⟨w1, i, w2, w3, w4⟩
    exact ⟨w1, i, w2, w3, by rw [gr_ref]; exact w4⟩
theorem Cl_nx (h : qCl b) (hE : qE0 b) (h5 : (b 69 5).toInt < 512) (h50 : 0 ≤ (b 69 5).toInt) (hy : xAl b y.toNatClampNeg) (hy0 : 0 ≤ y.toInt) : qCl (aSp 512 (aCm (aGr b y) y)) := by
  have hc := E0_gr (y := y) hE
  have g := gr_cm (y := y) hc.1
  have al : xAl (aGr b y) = xAl b := by
    funext n
    unfold xAl
    rw [gr_r (n := 126) (by decide) (by decide) (by decide) (by decide)]
  have sp := E0_sp g.1
  have o : zOf (aGr b y) (aSp 512 (aCm (aGr b y) y)) := Of_tr g.2.1 sp.2
  have nn : ∀ x, zNn (aSp 512 (aCm (aGr b y) y)) x ↔ zM (fun u => zNn b u ∨ u = y.toNatClampNeg) (zNn b) (zEd b) x := fun x => by
    refine (sp_Nn g.1).trans (zM_cg (fun u => ?_) (fun u => (g.2.2.1 u).trans ((E0_bl hc).trans (by rw [Nn_gr]))) (fun u y2 => (Of_ed g.2.1).trans gr_ed))
    rw [g.2.2.2.1 u, Nn_gr, al]
    constructor
    · rintro (w | w)
      · exact Or.inl w
      · refine Or.inr ?_
        rw [w.2]
        exact (tn_of w.1.1).symm
    · rintro (w | w)
      · exact Or.inl w
      · refine Or.inr ⟨?_, ?_⟩
        · rw [w]
          exact hy
        · rw [w]
          exact (ofN_tn hy0).symm
  have q5 := gr_5 (a := b) (y := y) h5
  have e1 := i_p1 (i := b 69 5) (by omega)
  have c5 := tn_cast h50
  refine ⟨fun u hu hr => ?_, fun u v hu ha he => ?_⟩
  · rw [← Al_of o, al] at hu
    rw [nn]
    have e2 := Of_r (c := 72) o (by decide) (by decide) (by decide)
    have e4 := Of_r (c := 74) o (by decide) (by decide) (by decide)
    have e9 := Of_r (c := 69) o (by decide) (by decide) (by decide)
    unfold zRl zWl at hr
    rw [← e2, ← e4, ← e9, gr_r (n := 72) (by decide) (by decide) (by decide) (by decide), q5.1, e1] at hr
    rcases hr with hr | ⟨j, j1, j2⟩
    · exact zM_in (Or.inl (h.1 u hu (Or.inl hr)))
    · by_cases z : j = (b 69 5).toNatClampNeg
      · rw [z, q5.2.1] at j2
        refine zM_in (Or.inr ?_)
        rw [j2]
        exact (tn_of hu.1).symm
      · rw [q5.2.2.1 j z] at j2
        exact zM_in (Or.inl (h.1 u hu (Or.inr ⟨j, by omega, j2⟩)))
  · rw [nn] at hu ⊢
    rw [← Al_of o, al] at ha
    have he2 := gr_ed.mp ((Of_ed o).mp he)
    by_cases z : zNn b u
    · exact zM_in (Or.inl (h.2 u v z ha he2))
    · exact zM_cl hu z he2
def qCK (kp us rt wl : Nat → Int32) (wm : Int32) (kr kd ws wd : Nat → Int32) : Prop := zcov kp rt 16 ∧ zcov kp wl wm.toInt ∧ ∀ s, s < 3100 → us s ≠ 0 → kp s ≠ 0 → ∀ i : Nat, (i : Int) < (ws s).toInt → zcl kp kr kd wd s i
theorem CK_of (h : qCl b) (hR : qRB us nr kr kd ws at' ho wd wi ow rt wk wl wm nu ro fo le ra pi b) (hK : qKB kp us nr b) : qCK kp us rt wl wm kr kd ws wd := by
  refine ⟨fun k hk => ?_, fun k hk => ?_, fun s hs hu hk i hi => ?_⟩
  · have q := hR.2.2.1 k (by omega)
    by_cases z : (rt k).toInt < 0
    · exact Or.inl z
    · have u := U_y q.1 (by omega)
      have hs := tn_lt (by omega) u.1
      rw [No_y (by omega)] at q
      refine Or.inr ((hK.2 _ hs u.2).mpr (h.1 _ (R1_al hR.1 hs u.2) (Or.inl ⟨k, by omega, ?_⟩)))
      rw [q.2, R1_of_nr hR.1 hs u.2]
  · have q := hR.2.2.2.2.1.2 k hk
    have hs := tn_lt q.1.1 q.1.2.1
    refine Or.inr ((hK.2 _ hs q.1.2.2).mpr (h.1 _ (R1_al hR.1 hs q.1.2.2) (Or.inr ⟨k, by rw [hR.2.2.2.2.1.1]; exact hk, ?_⟩)))
    rw [q.2, R1_of_nr hR.1 hs q.1.2.2]
  · by_cases z : (zrf kr kd wd s i).toInt < 0
    · exact Or.inl z
    · have u := U_y (hR.2.1 s hs hu i hi).1 (by omega)
      have ht := tn_lt (by omega) u.1
      exact Or.inr ((hK.2 _ ht u.2).mpr (h.2 _ _ ((hK.2 s hs hu).mp hk) (R1_al hR.1 hs hu) (Ed_s hR hs hu hi (by omega))))
theorem sp_6 : aSp 512 (aCm (aGr a y) y) 69 6 = a 69 6 := by
  rw [aSp_o ⟨by decide, by decide, by decide⟩, aCm_o ⟨by decide, by decide, by decide⟩, aGr_o ⟨by decide, by decide, by decide, by decide⟩]
end QG
