/-! COUNTS, the class (written by wip/tools/gen20k.py) -/
/-! COUNTS: a cleaning keeps the counts right -/
section C8
variable {a b e : Nat → Nat → Int32} {K K' : Nat → Int32} {x y i d : Int32} {n m k c u : Nat} {B : Int}
theorem Of_8 (h : zOf a b) : zO8 a b := fun c k h1 h2 h3 _ => h c k h1 h2 h3
theorem sp_zo {f : Nat} : zOf a (aSp f a) := fun c k h1 h2 h3 => (aSp_o ⟨h1, h2, h3⟩ f a).symm
theorem O8_sy (h : zO8 a b) : zO8 b a := fun c k h1 h2 h3 h4 => (h c k h1 h2 h3 h4).symm
theorem T_o8 {P : Nat} {S : ma_S} : zO8 (aT P S) (aS 75 S) := fun c k _ _ _ h4 => if_neg h4
theorem o8_r (o : zO8 a b) (h1 : c ≠ 75) (h2 : c ≠ 76) (h3 : c ≠ 77) (h4 : c ≠ 87) : a c = b c := funext (fun k => o c k h1 h2 h3 h4)
theorem o8_al (o : zO8 a b) : xAl a = xAl b := by
  funext n
  unfold xAl
  rw [o8_r o (by decide) (by decide) (by decide) (by decide)]
theorem cQ_o8 (o : zO8 a b) (h : cQI a) : cQI b := by
  obtain ⟨h1, h2, h3⟩ := h
  refine ⟨?_, ?_, fun n hn k => ?_⟩
  · rw [← o8_al o, ← o8_r (c := 130) o (by decide) (by decide) (by decide) (by decide), ← o8_r (c := 128) o (by decide) (by decide) (by decide) (by decide)]
    exact h1
  · unfold qI2
    rw [← o8_al o, ← o8_r (c := 130) o (by decide) (by decide) (by decide) (by decide), ← o8_r (c := 128) o (by decide) (by decide) (by decide) (by decide)]
    exact h2
  · rw [← o8_al o] at hn
    rw [← o8_r (c := 1000 + n) o (by omega) (by omega) (by omega) (by omega)]
    exact h3 n hn k
theorem J_o8 (o : zO8 a b) (h : kJ a K) : kJ b K := by
  obtain ⟨q1, q5, qk⟩ := h
  refine ⟨cQ_o8 o q1, ?_, fun n hn => ?_⟩
  · rw [← o 69 5 (by decide) (by decide) (by decide) (by decide)]
    exact q5
  · rw [← o8_al o] at hn
    rw [← Rf_o8 o]
    exact qk n hn
theorem J_gr (h : kJ a K) (hK : ∀ n, xAl a n → K' n = K n + (if (a 69 5).toInt < 512 then Int32.ofNat (cIs y n) else 0)) : kJ (aGr a y) K' := by
  obtain ⟨q1, q5, qk⟩ := h
  refine ⟨cQ_gr q1, ?_, fun n hn => ?_⟩
  · by_cases w : (a 69 5).toInt < 512
    · obtain ⟨g1, _⟩ := gr_5 (y := y) w
      have e1 := i_p1 (i := a 69 5) (by omega)
      rw [g1]
      omega
    · rw [(gr_n5 (y := y) w).1]
      exact q5
  · rw [gr_al] at hn
    rw [hK n hn, qk n hn]
    by_cases w : (a 69 5).toInt < 512
    · rw [if_pos w, Rf_gr q5.1 w, Int32.ofInt_add, Int32.ofInt_eq_ofNat]
    · rw [if_neg w, Rf_gn w, Int32.add_zero]
theorem J_rm (h : kJ a K) (h0 : 0 ≤ y.toInt) (hy : xAl a y.toNatClampNeg) (hK : ∀ n, xAl a n → n ≠ y.toNatClampNeg → K' n = K n - Int32.ofNat (cOb a y.toNatClampNeg n)) : kJ (aRm a y) K' := by
  obtain ⟨q1, q5, qk⟩ := h
  refine ⟨cQ_rm h0 q1, ?_, fun n hn => ?_⟩
  · rw [aRm_o (by decide) ⟨by decide, by decide, by decide, by decide⟩]
    exact q5
  · have w := (rm_al h0).mp hn
    have r := Rf_rm q1 h0 hy w.2
    rw [hK n w.1 w.2, qk n w.1, ← Int32.ofInt_eq_ofNat (n := cOb a y.toNatClampNeg n), ← Int32.ofInt_sub]
    exact congrArg Int32.ofInt (by omega)
theorem C_J (h : cC a [] K B) : kJ a K := by
  obtain ⟨q1, _, _, q5, qk⟩ := C0_un h
  exact ⟨q1, q5, qk⟩
theorem Nd_o8 (o : zO8 a b) (h : cNd a) : cNd b := by
  obtain ⟨n1, n2, n3⟩ := h
  have al := o8_al o
  refine ⟨fun k hk => ?_, fun k hk => ?_, fun u j w => ?_⟩
  · rw [← o 72 k (by decide) (by decide) (by decide) (by decide), ← cOk_cg al]
    exact n1 k hk
  · rw [← o 69 5 (by decide) (by decide) (by decide) (by decide)] at hk
    rw [← o 74 k (by decide) (by decide) (by decide) (by decide), ← cOk_cg al]
    exact n2 k hk
  · have rf : aRef b u j = aRef a u j := (rf_cg (o8_r o (by omega) (by omega) (by omega) (by omega)) (o8_r o (by decide) (by decide) (by decide) (by decide)) (o8_r o (by decide) (by decide) (by decide) (by decide))).symm
    rw [rf, ← cOk_cg al]
    refine n3 u j ?_
    unfold qWp at w ⊢
    rw [al, o8_r (c := 128) o (by decide) (by decide) (by decide) (by decide)]
    exact w
theorem Nd_gr (h : cNd a) (h5 : 0 ≤ (a 69 5).toInt) (hy : xAl a y.toNatClampNeg) : cNd (aGr a y) := by
  obtain ⟨n1, n2, n3⟩ := h
  have al := gr_al (a := a) (y := y)
  refine ⟨fun k hk => ?_, fun k hk => ?_, fun u j h => ?_⟩
  · rw [gr_r (by decide) (by decide) (by decide) (by decide), cOk_cg al]
    exact n1 k hk
  · rw [cOk_cg al]
    by_cases w : (a 69 5).toInt < 512
    · obtain ⟨g1, g2, g3, _⟩ := gr_5 (y := y) w
      have e1 := i_p1 (i := a 69 5) (by omega)
      have c := tn_cast h5
      by_cases z : k = (a 69 5).toNatClampNeg
      · rw [z, g2]
        exact Or.inr hy
      · rw [g3 k z]
        rw [g1, e1] at hk
        exact n2 k (by omega)
    · have g := gr_n5 (y := y) w
      rw [g.2]
      rw [g.1] at hk
      exact n2 k hk
  · rw [gr_ref, cOk_cg al]
    exact n3 u j (Wp_gr.mp h)
theorem Cl_n2 (h : qCl b) (hE : qE0 b) (h5 : ¬ (b 69 5).toInt < 512) (hy : xAl b y.toNatClampNeg) (hy0 : 0 ≤ y.toInt) : qCl (aSp 512 (aCm (aGr b y) y)) := by
  have hc := E0_gr (y := y) hE
  have g := gr_cm (y := y) hc.1
  have al : xAl (aGr b y) = xAl b := gr_al
  have sp := E0_sp g.1
  have o : zOf (aGr b y) (aSp 512 (aCm (aGr b y) y)) := Of_tr g.2.1 sp.2
  have nn : ∀ x, zNn (aSp 512 (aCm (aGr b y) y)) x ↔ zM (fun u => zNn b u ∨ u = y.toNatClampNeg) (zNn b) (zEd b) x := fun x => by
    refine (sp_Nn g.1).trans (zM_cg (fun u => ?_) (fun u => (g.2.2.1 u).trans ((E0_bl hc).trans (by rw [Nn_gr]))) (fun u y2 => (Of_ed g.2.1).trans gr_ed))
    rw [g.2.2.2.1 u, Nn_gr, al]
    constructor
    · rintro (w | w)
      · exact Or.inl w
      · refine Or.inr ?_
        rw [w.2]
        exact (tn_of w.1.1).symm
    · rintro (w | w)
      · exact Or.inl w
      · refine Or.inr ⟨?_, ?_⟩
        · rw [w]
          exact hy
        · rw [w]
          exact (ofN_tn hy0).symm
  have q5 := gr_n5 (y := y) h5
  refine ⟨fun u hu hr => ?_, fun u v hu ha he => ?_⟩
  · rw [← Al_of o, al] at hu
    rw [nn]
    have e2 := Of_r (c := 72) o (by decide) (by decide) (by decide)
    have e4 := Of_r (c := 74) o (by decide) (by decide) (by decide)
    have e9 := Of_r (c := 69) o (by decide) (by decide) (by decide)
    unfold zRl zWl at hr
    rw [← e2, ← e4, ← e9, gr_r (n := 72) (by decide) (by decide) (by decide) (by decide), q5.1, q5.2] at hr
    exact zM_in (Or.inl (h.1 u hu hr))
  · rw [nn] at hu ⊢
    rw [← Al_of o, al] at ha
    have he2 := gr_ed.mp ((Of_ed o).mp he)
    by_cases z : zNn b u
    · exact zM_in (Or.inl (h.2 u v z ha he2))
    · exact zM_cl hu z he2
theorem Gf_all : ∀ (f : Nat) (x : Int32) (a : Nat → Nat → Int32), qI a → qE0 a → qCl a → cNd a → qI (aGf f x a) ∧ qE0 (aGf f x a) ∧ qCl (aGf f x a) ∧ cNd (aGf f x a) ∧ aGf f x a 133 = a 133 := by
  intro f
  induction f with
  | zero => intro x a h h2 h3 h4; exact ⟨h, h2, h3, h4, rfl⟩
  | succ f ih =>
    intro x a h h2 h3 h4
    by_cases w : aGc a x
    · rw [aGf_y w]
      have hx : xAl a x.toNatClampNeg := ⟨by have c := tn_cast w.1; have := w.2.1; omega, w.2.2.1⟩
      have h5 := h.2.2.2.1.2.1
      have s := E0_sp (WQ_cm (y := x) (E0_gr (y := x) h2).1)
      have o : zOf (aGr a x) (aSp 512 (aCm (aGr a x) x)) := Of_tr cm_of s.2
      have cl : qCl (aSp 512 (aCm (aGr a x) x)) := by
        by_cases z : (a 69 5).toInt < 512
        · exact Cl_nx h3 h2 z h5.1 hx w.1
        · exact Cl_n2 h3 h2 z hx w.1
      have r := ih (x + 1) _ (qI_of (I_gr2 h) o) s.1 cl (Nd_o8 (Of_8 o) (Nd_gr h4 h5.1 hx))
      refine ⟨r.1, r.2.1, r.2.2.1, r.2.2.2.1, r.2.2.2.2.trans ?_⟩
      rw [← Of_r (c := 133) o (by decide) (by decide) (by decide)]
      exact gr_r (by decide) (by decide) (by decide) (by decide)
    · rw [aGf_n w]
      exact ih _ _ h h2 h3 h4
theorem Gw_126 : ∀ (f : Nat) (x : Int32) (a : Nat → Nat → Int32), aGf f x a 126 = a 126 := by
  intro f
  induction f with
  | zero => intro x a; rfl
  | succ f ih =>
    intro x a
    by_cases w : aGc a x
    · rw [aGf_y w, ih]
      funext k
      rw [show aSp 512 (aCm (aGr a x) x) 126 k = aCm (aGr a x) x 126 k from aSp_o ⟨by decide, by decide, by decide⟩ 512 _, aCm_o ⟨by decide, by decide, by decide⟩]
      exact congrFun (gr_r (by decide) (by decide) (by decide) (by decide)) k
    · rw [aGf_n w]
      exact ih _ _
theorem Nd_sw (hI : qI a) (h : cNd a) : cNd (aSw a) ∧ ∀ n, xAl (aSw a) n → xAl a n ∧ aSw a 133 n = a 133 n := by
  have o : zOf a (aRA a) := RA_zo
  have g := Gf_all ((aRA a 69 6).toInt - (0 : Int32).toInt).toNat 0 (aRA a) (qI_of hI o) (E0_ra hI) (Cl_ra hI) (Nd_o8 (Of_8 o) h)
  have hb : aGw (aRA a) 0 = aGf ((aRA a 69 6).toInt - (0 : Int32).toInt).toNat 0 (aRA a) := rfl
  rw [← hb] at g
  unfold aSw
  generalize hB : aGw (aRA a) 0 = b at g ⊢
  obtain ⟨gI, gE, gC, ⟨n1, n2, n3⟩, g133⟩ := g
  have hw : (b 75 5).toInt ≤ 0 := gE.1.2.2.2.2.2.1
  have M := Md_mv gI hw
  have al : ∀ n, xAl (aMv b 0) n ↔ xAl b n ∧ b 77 n ≠ 0 := fun n => Md_al gI M
  have hIe := I_mv gI hw
  refine ⟨⟨fun k hk => ?_, fun k hk => ?_, fun u j w => ?_⟩, fun n hn => ?_⟩
  · rw [M.2.1.1 72 (by decide) (by decide) (by decide) (by decide)]
    by_cases z : (b 72 k).toInt < 0
    · exact Or.inl z
    · have q := (n1 k hk).elim (fun w => absurd w z) id
      exact Or.inr ((al _).mpr ⟨q, (gC.1 _ q (Or.inl ⟨k, hk, (ofN_tn (by omega)).symm⟩)).2⟩)
  · rw [M.2.1.2.1] at hk
    rw [M.2.1.1 74 (by decide) (by decide) (by decide) (by decide)]
    by_cases z : (b 74 k).toInt < 0
    · exact Or.inl z
    · have q := (n2 k hk).elim (fun w => absurd w z) id
      exact Or.inr ((al _).mpr ⟨q, (gC.1 _ q (Or.inr ⟨k, hk, (ofN_tn (by omega)).symm⟩)).2⟩)
  · have wa := (al u).mp w.1
    have f := Md_f M wa.1.1 wa.2
    have wb : qWp b u j := ⟨wa.1, w.2.1, by rw [← f.1 128 (by decide) (by decide)]; exact w.2.2⟩
    have q := cwp_i (cQ_I gI) wb
    have cq := tn_cast q.2.1
    have wj := wb.2
    have e : aRef (aMv b 0) u j = aRef b u j := by
      rw [wp_rf hIe w, wp_rf gI wb, f.2, f.1 130 (by decide) (by decide), Md_w gI M wa.1 wa.2 (p := (b 130 u + 1 + j).toNatClampNeg) (by omega) (by omega)]
    rw [e]
    by_cases z : (aRef b u j).toInt < 0
    · exact Or.inl z
    · have q := (n3 u j wb).elim (fun w => absurd w z) id
      exact Or.inr ((al _).mpr ⟨q, (gC.2 u _ ⟨wa.1.1, wa.2⟩ wa.1 ⟨q, j, wb.2.1, wb.2.2, (ofN_tn (by omega)).symm⟩).2⟩)
  · have wa := (al n).mp hn
    have f := Md_f M wa.1.1 wa.2
    refine ⟨?_, ?_⟩
    · have e126 : b 126 = a 126 := by
        rw [← hB]
        exact (Gw_126 ((aRA a 69 6).toInt - (0 : Int32).toInt).toNat 0 (aRA a)).trans (Of_r (c := 126) o (by decide) (by decide) (by decide)).symm
      exact ⟨wa.1.1, by rw [← e126]; exact wa.1.2⟩
    · rw [f.1 133 (by decide) (by decide), g133]
      exact congrFun (Of_r (c := 133) o (by decide) (by decide) (by decide)).symm n
theorem C_sw (hI : qI a) (h : cC a [] K B) (hJ : kJ (aSw a) K') : cC (aSw a) [] K' B := by
  obtain ⟨q1, q2, q3, q5, qk⟩ := C0_un h
  have s := Nd_sw hI q2
  refine C0_mk hJ.1 s.1 (fun n hn => ?_) hJ.2.1 hJ.2.2
  have w := s.2 n hn
  rw [w.2]
  exact q3 n w.1
end C8
