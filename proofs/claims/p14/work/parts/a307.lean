/-! from 95.y06 -/
/-! the reference opens a heap (written by wip/tools/gen15w.py) -/
/-! calls under the moving collectors: rows 75 to 77 and 82 to 93 are no matter -/
def zO6 (a b : Nat → Nat → Int32) : Prop := ∀ c k, c ≠ 75 → c ≠ 76 → c ≠ 77 → ¬ (82 ≤ c ∧ c ≤ 93) → a c k = b c k
/-- X is what Y is, but for the rows 82 to 93, which are a's -/
def zAy (X Y a : Nat → Nat → Int32) : Prop := zO6 X Y ∧ ∀ c k, 82 ≤ c → c ≤ 93 → X c k = a c k
/-- nothing but ROOTS, WEAK ones, WISHES, words and wishes has changed -/
def zRw (X a : Nat → Nat → Int32) : Prop := ∀ c, c ≠ 69 → c ≠ 71 → c ≠ 72 → c ≠ 73 → c ≠ 74 → c ≠ 134 → X c = a c
section F40
variable {a b d e aa X Y : Nat → Nat → Int32} {x y z i o r t kk w rt : Int32} {n k c m : Nat} {p : Int} {F : Nat → Int32} {L : Int64} {S S₉ : ma_S} {P : Nat}
theorem O6_Rq (h : zO6 a b) : zRq a x ↔ zRq b x := by
  refine (Of_Rq (Br_of (a := a) (b := b))).trans ?_
  have o : zO9 (zBr a b) b := fun c k hc => by
    unfold zBr
    by_cases w : c = 75 ∨ c = 76 ∨ c = 77
    · rw [if_pos w]
    · rw [if_neg w]
      exact h c k (by omega) (by omega) (by omega) (by omega)
  unfold zRq
  rw [o 126 _ (by decide), o9_ra o 77 _ (by decide)]
theorem O6_u (h : zO6 a b) : zO6 (ma_u a n k x) (ma_u b n k x) := fun c₉ k₉ h1 h2 h3 h4 => by
  show (if c₉ = n ∧ k₉ = k then x else a c₉ k₉) = (if c₉ = n ∧ k₉ = k then x else b c₉ k₉)
  rw [h c₉ k₉ h1 h2 h3 h4]
theorem O6_if {P Q : Prop} {a₉ b₉ : Nat → Nat → Int32} (e : P ↔ Q) (h1 : Q → zO6 a₉ b₉) (h2 : zO6 a b) : zO6 (qIf P a₉ a) (qIf Q b₉ b) := by
  by_cases w : Q
  · rw [qIf_y (e.mpr w), qIf_y w]
    exact h1 w
  · rw [qIf_n (fun q => w (e.mp q)), qIf_n w]
    exact h2
theorem O6_c (h : zO6 a b) (h1 : c ≠ 75) (h2 : c ≠ 76) (h3 : c ≠ 77) (h4 : ¬ (82 ≤ c ∧ c ≤ 93)) : a c k = b c k := h c k h1 h2 h3 h4
theorem O6_Nm (h : zO6 a b) : aNm a y = aNm b y := by
  unfold aNm
  rw [O6_c (c := 126) h (by decide) (by decide) (by decide) (by decide)]
theorem O6_Hw (h : zO6 a b) : zHw a o i ↔ zHw b o i := by
  unfold zHw
  rw [O6_c (c := 128) h (by decide) (by decide) (by decide) (by decide)]
theorem O6_Ir (h : zO6 a b) : zIr a o i ↔ zIr b o i := by
  unfold zIr
  rw [h (1000 + o.toNatClampNeg) _ (by omega) (by omega) (by omega) (by omega)]
theorem O6_ci (h : zO6 a b) : zO6 (aCi a n i x) (aCi b n i x) := by
  unfold aCi
  rw [O6_c (c := 130) h (by decide) (by decide) (by decide) (by decide)]
  split
  · exact O6_u h
  · exact h
theorem O6_r0 (h : zO6 a b) : zO6 (aR0 a i y) (aR0 b i y) := by
  unfold aR0
  rw [O6_Nm h]
  exact O6_u h
theorem O6_tw (h : zO6 a b) : zO6 (aTw a) (aTw b) ∧ aTy a = aTy b := by
  have e5 := O6_c (c := 69) (k := 5) h (by decide) (by decide) (by decide) (by decide)
  have e74 := O6_c (c := 74) (k := 0) h (by decide) (by decide) (by decide) (by decide)
  unfold aTw aTy
  rw [e5, e74]
  refine ⟨?_, rfl⟩
  split
  · intro c₉ k₉ h1 h2 h3 h4
    show (if c₉ = 74 ∧ (k₉ : Int) < _ then ma_u a 69 5 (b 69 5 - 1) 74 (k₉ + 1) else ma_u a 69 5 (b 69 5 - 1) c₉ k₉) = (if c₉ = 74 ∧ (k₉ : Int) < _ then ma_u b 69 5 (b 69 5 - 1) 74 (k₉ + 1) else ma_u b 69 5 (b 69 5 - 1) c₉ k₉)
    rw [O6_u (n := 69) (k := 5) (x := b 69 5 - 1) h c₉ k₉ h1 h2 h3 h4, O6_u (n := 69) (k := 5) (x := b 69 5 - 1) h 74 (k₉ + 1) (by decide) (by decide) (by decide) (by decide)]
  · exact h
theorem O6_l0 (h : zO6 a b) : zO6 (aL0 a n i y) (aL0 b n i y) := by
  unfold aL0
  rw [O6_Nm h]
  exact O6_ci h
theorem ci_9 (h : c ≠ 71) : aCi a n i x c k = a c k := by
  unfold aCi
  split
  · exact xu_o (fun z => h z.1)
  · rfl
theorem If_c {Q : Prop} {a₉ : Nat → Nat → Int32} (h : a₉ c k = a c k) : qIf Q a₉ a c k = a c k := by
  by_cases w : Q
  · rw [qIf_y w]
    exact h
  · rw [qIf_n w]
theorem tw_c (h1 : c ≠ 69) (h2 : c ≠ 74) : aTw a c k = a c k := congrFun (Tw_e h1 h2) k
theorem r0_c (h : c ≠ 72) : aR0 a i y c k = a c k := xu_o (fun z => h z.1)
theorem gr_c (h1 : c ≠ 69) (h2 : c ≠ 74) (h3 : c ≠ 72) : oGr a r c k = a c k := by
  unfold oGr
  refine If_c ?_
  by_cases w : aNm a (aTy a) = -1
  · rw [qIf_y w]
    exact tw_c h1 h2
  · rw [qIf_n w, r0_c h3]
    exact tw_c h1 h2
theorem Ay_pu (h : zO6 a b) : zAy (xPu a o i x) (xPu b o i x) a := ⟨O6_if (by rw [O6_Rq h, O6_Hw h, O6_Ir h]) (fun _ => O6_ci h) h, fun _ _ h1 h2 => If_c (ci_9 (by omega))⟩
theorem Ay_we (h : zO6 a b) : zAy (xWe a i o) (xWe b i o) a := ⟨O6_if (by rw [O6_Rq h]) (fun _ => by rw [O6_Nm h]; exact O6_u h) h, fun _ _ h1 h2 => If_c (xu_o (by omega))⟩
theorem Ay_wi (h : zO6 a b) : zAy (xWi a o) (xWi b o) a := ⟨O6_if (O6_Rq h) (fun _ => O6_u h) h, fun _ _ h1 h2 => If_c (xu_o (by omega))⟩
theorem Ay_ho (h : zO6 a b) : zAy (xHo a o x) (xHo b o x) a := ⟨O6_if (by rw [O6_Rq h, O6_c (c := 133) h (by decide) (by decide) (by decide) (by decide)]) (fun _ => by rw [O6_c (c := 133) h (by decide) (by decide) (by decide) (by decide)]; exact O6_u h) h, fun _ _ h1 h2 => If_c (xu_o (by omega))⟩
theorem Ay_ro (h : zO6 a b) : zAy (oRo a i o) (oRo b i o) a := ⟨O6_if (by rw [O6_Rq h]) (fun _ => O6_r0 h) h, fun _ _ h1 h2 => If_c (r0_c (by omega))⟩
theorem Ay_li (h : zO6 a b) : zAy (oLi a o i t) (oLi b o i t) a := ⟨O6_if (by rw [O6_Rq h, O6_Rq h, O6_Hw h, O6_Ir h]) (fun _ => O6_l0 h) h, fun _ _ h1 h2 => If_c (ci_9 (by omega))⟩
theorem Ay_sg (h : zO6 a b) : zAy (oSg a i r) (oSg b i r) a := ⟨O6_if (by rw [O6_Nm h, O6_c (c := 73) h (by decide) (by decide) (by decide) (by decide)]) (fun _ => by rw [O6_c (c := 73) h (by decide) (by decide) (by decide) (by decide)]; exact O6_r0 h) h, fun _ _ h1 h2 => If_c (r0_c (by omega))⟩
theorem Ay_gr (h : zO6 a b) : zAy (oGr a r) (oGr b r) a := by
  have tw := O6_tw h
  refine ⟨O6_if Iff.rfl (fun _ => ?_) h, fun _ _ h1 h2 => gr_c (by omega) (by omega) (by omega)⟩
  refine ?_
  have e : (aNm a (aTy a) = -1 ↔ aNm b (aTy b) = -1) := by rw [O6_Nm h, tw.2]
  by_cases w : aNm b (aTy b) = -1
  · rw [qIf_y (e.mpr w), qIf_y w]
    exact tw.1
  · rw [qIf_n (fun q => w (e.mp q)), qIf_n w, tw.2]
    exact O6_r0 tw.1
theorem Rw_if {Q : Prop} {a₉ : Nat → Nat → Int32} (h : zRw a₉ a) : zRw (qIf Q a₉ a) a := by
  by_cases w : Q
  · rw [qIf_y w]
    exact h
  · rw [qIf_n w]
    exact fun _ _ _ _ _ _ _ => rfl
theorem Rw_u (h : n = 72 ∨ n = 73 ∨ n = 134) : zRw (ma_u a n k x) a := fun c h1 h2 h3 h4 h5 h6 => ma_u_ne _ _ _ (by omega)
theorem Rw_ci : zRw (aCi a n i x) a := fun c h1 h2 h3 h4 h5 h6 => funext (fun _ => ci_9 h2)
theorem Rw_pu : zRw (xPu a o i x) a := Rw_if Rw_ci
theorem Rw_we : zRw (xWe a i o) a := Rw_if (Rw_u (Or.inr (Or.inl rfl)))
theorem Rw_wi : zRw (xWi a o) a := Rw_if (Rw_u (Or.inr (Or.inr rfl)))
theorem Rw_ro : zRw (oRo a i o) a := Rw_if (Rw_u (Or.inl rfl))
theorem Rw_li : zRw (oLi a o i t) a := Rw_if Rw_ci
theorem Rw_sg : zRw (oSg a i r) a := Rw_if (Rw_u (Or.inl rfl))
theorem Rw_gr : zRw (oGr a r) a := fun c h1 h2 h3 h4 h5 h6 => funext (fun _ => gr_c h1 h5 h3)
/-! the collectors' own heaps -/
theorem M_88 {q : Nat → Int32} : zO6 (aM q S) (aS 88 S) := fun c k h1 h2 h3 h4 => (aM_o (by omega)).trans (aS_W ⟨h1, h2, h3⟩)
theorem G_88 : zO6 (aG S) (aS 88 S) := fun c k h1 h2 h3 h4 => (aG_o (by omega) (by omega)).trans (aS_W ⟨h1, h2, h3⟩)
theorem Z_88 : zO6 (aZ S) (aS 88 S) := fun c k h1 h2 h3 h4 => by
  unfold aZ
  rw [if_neg (by omega)]
  exact M_88 c k h1 h2 h3 h4
theorem M_kp {q q₉ : Nat → Int32} (hx : zAy X Y (aM q S)) (hs : aS 88 S₉ = Y) (e : q₉ = q) (hr : ∀ k c, c ≠ 87 → 82 ≤ c → c ≤ 93 → aS 75 S₉ c k = aS 75 S c k) : zOf X (aM q₉ S₉) := fun c k h1 h2 h3 => by
  by_cases w : 82 ≤ c ∧ c ≤ 93
  · rw [hx.2 c k w.1 w.2, e]
    by_cases v : c = 87
    · rw [v, aM_7, aM_7]
    · rw [aM_o v, aM_o v, hr k c v w.1 w.2]
  · rw [hx.1 c k h1 h2 h3 w, ← hs]
    exact (M_88 c k h1 h2 h3 w).symm
end F40

/-! from 95.y07 -/
/-! the reference opens a heap (written by wip/tools/gen15w.py) -/
/-! what holds under the moving collectors stays, whatever a call makes of ROOTS, WEAK ones, WISHES, words and wishes -/
/-- a link under AGES: the card too -/
noncomputable def yLi (a : Nat → Nat → Int32) (o i t : Int32) : Nat → Nat → Int32 := fun c => if c = 83 then yNl a o i t 83 else oLi a o i t c
section F41
variable {a b d X Y : Nat → Nat → Int32} {us nr gs kr kd ws at₉ ho wd wi ow rt wk wl dt tp : Nat → Int32} {wm nu ro fo le ra pi x y z i o t rm hf tq si rg sh pr yo ol ag cd ot : Int32} {n k c : Nat} {S S₉ : ma_S}
theorem Of_rx (h : zOf X b) (w : c ≠ 75 ∧ c ≠ 76 ∧ c ≠ 77) : b c = X c := funext (fun k => (h c k w.1 w.2.1 w.2.2).symm)
theorem Rw_r (r : zRw X a) (h : c ≠ 69 ∧ c ≠ 71 ∧ c ≠ 72 ∧ c ≠ 73 ∧ c ≠ 74 ∧ c ≠ 134) : X c = a c := r c h.1 h.2.1 h.2.2.1 h.2.2.2.1 h.2.2.2.2.1 h.2.2.2.2.2
theorem Tp_rw (h : qTp a) (r : zRw X a) : qTp X := Tp_cg h (Rw_r r (by decide)) (Rw_r r (by decide)) (Rw_r r (by decide)) (congrFun (Rw_r (c := 87) r (by decide)) 2)
theorem Tp_of (h : qTp X) (r : zOf X b) : qTp b := Tp_cg h (Of_rx r (by decide)) (Of_rx r (by decide)) (Of_rx r (by decide)) (congrFun (Of_rx (c := 87) r (by decide)) 2)
theorem Hv_rw (h : qHv a) (r : zRw X a) (hI : qI X) : qHv X := Hv_cg h (Rw_r r (by decide)) (Rw_r r (by decide)) (Rw_r r (by decide)) (Rw_r r (by decide)) (Rw_r r (by decide)) hI
theorem Hv_of (h : qHv X) (r : zOf X b) : qHv b := Hv_cg h (Of_rx r (by decide)) (Of_rx r (by decide)) (Of_rx r (by decide)) (Of_rx r (by decide)) (Of_rx r (by decide)) (qI_of h.1 r)
theorem HL_rw (h : qHL a rm hf tq) (r : zRw X a) : qHL X rm hf tq := HL_cg h (congrFun (Rw_r (c := 87) r (by decide)) 3) (congrFun (Rw_r (c := 87) r (by decide)) 4) (congrFun (Rw_r (c := 87) r (by decide)) 5)
theorem HL_of (h : qHL X rm hf tq) (r : zOf X b) : qHL b rm hf tq := HL_cg h (congrFun (Of_rx (c := 87) r (by decide)) 3) (congrFun (Of_rx (c := 87) r (by decide)) 4) (congrFun (Of_rx (c := 87) r (by decide)) 5)
theorem Rv_rw (h : qRv a) (r : zRw X a) (hI : qI X) : qRv X := Rv_cg h (Rw_r r (by decide)) (Rw_r r (by decide)) (Rw_r r (by decide)) (Rw_r r (by decide)) (Rw_r r (by decide)) hI
theorem Rv_of (h : qRv X) (r : zOf X b) : qRv b := Rv_cg h (Of_rx r (by decide)) (Of_rx r (by decide)) (Of_rx r (by decide)) (Of_rx r (by decide)) (Of_rx r (by decide)) (qI_of h.1 r)
theorem RL_rw (h : qRL a si rg sh pr tp) (r : zRw X a) : qRL X si rg sh pr tp := RL_cg h (Rw_r r (by decide)) (Rw_r r (by decide))
theorem RL_of (h : qRL X si rg sh pr tp) (r : zOf X b) : qRL b si rg sh pr tp := RL_cg h (Of_rx r (by decide)) (Of_rx r (by decide))
theorem AL_rw (h : qAL a yo ol ag cd tq ot hf) (r : zRw X a) : qAL X yo ol ag cd tq ot hf := AL_cg h (Rw_r r (by decide))
theorem AL_of (h : qAL X yo ol ag cd tq ot hf) (r : zOf X b) : qAL b yo ol ag cd tq ot hf := AL_cg h (Of_rx r (by decide))
theorem Ag_rw (h : qAg us nr gs a) (r : zRw X a) : qAg us nr gs X := Ag_cg h (Rw_r r (by decide))
theorem Ag_of (h : qAg us nr gs X) (r : zOf X b) : qAg us nr gs b := Ag_cg h (Of_rx r (by decide))
theorem Dt_rw (h : qDt dt a) (r : zRw X a) : qDt dt X := Dt_cg h (Rw_r r (by decide))
theorem Dt_of (h : qDt dt X) (r : zOf X b) : qDt dt b := Dt_cg h (Of_rx r (by decide))
/-! AGES: the cards -/
theorem Av_di (h : qAv a) : qDi a := h.2.2.2.2.2.2.2
theorem Di_cg (h : qDi a) (e1 : X 126 = a 126) (e2 : X 128 = a 128) (e3 : X 130 = a 130) (e7 : X 87 = a 87) (e8 : ∀ k, a 83 k ≠ 0 → X 83 k ≠ 0) (hr : ∀ (n i : Nat), xAl a n → (a 130 n).toInt < (a 87 9).toInt → (i : Int) < (a 128 n).toInt - 1 → aRef X n (Int32.ofNat i) = aRef a n (Int32.ofNat i) ∨ (gRw X n (Int32.ofNat i) → X 83 (gCx a n (i : Int)).toNat ≠ 0)) : qDi X := by
  intro n hn h9 i hi hg
  have al : xAl a n := by
    unfold xAl at hn ⊢
    rw [e1] at hn
    exact hn
  rw [e3, e7] at h9
  rw [e2] at hi
  have ec : gCx X n (i : Int) = gCx a n (i : Int) := by
    unfold gCx
    rw [e3, e7]
  rw [ec]
  rcases hr n i al h9 hi with r | r
  · unfold gRw at hg
    rw [r, e1, e7, e3] at hg
    exact e8 _ (h n al h9 i hi hg)
  · exact r hg
theorem Av_rw (h : qAv a) (r : zRw X a) (hI : qI X) (h71 : X 71 = a 71) : qAv X :=
  Av_mk (A0_cg (Av_0 h) hI (Rw_r r (by decide)) (Rw_r r (by decide)) (Rw_r r (by decide)) (Rw_r r (by decide)) (Rw_r r (by decide)) (Rw_r r (by decide)))
    (Di_cg (Av_di h) (Rw_r r (by decide)) (Rw_r r (by decide)) (Rw_r r (by decide)) (Rw_r r (by decide)) (fun k w => by rw [Rw_r (c := 83) r (by decide)]; exact w) (fun n i _ _ _ => Or.inl (rf_cg (Rw_r r (by omega)) (Rw_r r (by decide)) h71)))
theorem Av_of (h : qAv X) (r : zOf X b) : qAv b :=
  Av_mk (A0_cg (Av_0 h) (qI_of h.1 r) (Of_rx r (by decide)) (Of_rx r (by decide)) (Of_rx r (by decide)) (Of_rx r (by decide)) (Of_rx r (by decide)) (Of_rx r (by decide)))
    (Di_cg (Av_di h) (Of_rx r (by decide)) (Of_rx r (by decide)) (Of_rx r (by decide)) (Of_rx r (by decide)) (fun k w => by rw [Of_rx (c := 83) r (by decide)]; exact w) (fun n i _ _ _ => Or.inl (rf_cg (Of_rx r (by omega)) (Of_rx r (by decide)) (Of_rx r (by decide)))))
theorem wp_n (hI : qI a) (hn : xAl a n) (hi : (k : Int) < (a 128 n).toInt - 1) : qWp a n (Int32.ofNat k) ∧ (Int32.ofNat k).toInt = (k : Int) := by
  have q := hI.1 n hn
  have e : (Int32.ofNat k).toInt = (k : Int) := ofN_s (by omega)
  exact ⟨⟨hn, by omega, by omega⟩, e⟩
theorem Av_pu (h : qAv a) (hI : qI (xPu a o i x)) : qAv (xPu a o i x) := by
  by_cases w : zRq a o ∧ zHw a o i ∧ ¬ zIr a o i
  · have wp := Rq_wp w.1 w.2.1
    have e : xPu a o i x = ma_u a 71 (a 130 o.toNatClampNeg + 1 + i).toNatClampNeg x := (qIf_y w).trans (Ci_eq h.1 wp)
    rw [e] at hI ⊢
    refine Av_mk (A0_cg (Av_0 h) hI (un (by decide)) (un (by decide)) (un (by decide)) (un (by decide)) (un (by decide)) (un (by decide))) (Di_cg (Av_di h) (un (by decide)) (un (by decide)) (un (by decide)) (un (by decide)) (fun k w => by rw [un (by decide)]; exact w) (fun n j hn h9 hj => Or.inl ?_))
    rw [rf_w h.1 wp (wp_n h.1 hn hj).1]
    split
    · rename_i z
      rw [if_neg (show ¬ a (1000 + o.toNatClampNeg) i.toNatClampNeg ≠ 0 from w.2.2), z.1, z.2]
      exact (aRef_no (fun q => w.2.2 q.1)).symm
    · rfl
  · have e : xPu a o i x = a := qIf_n w
    rw [e]
    exact h
theorem nr_83 {q : Int} (h : a 83 k ≠ 0) : gNr a n q y 83 k ≠ 0 := by
  unfold gNr
  split
  · by_cases w : k = (gCx a n q).toNat
    · rw [w, xu_s]
      decide
    · rw [xu_o (fun z => w z.2)]
      exact h
  · exact h
theorem Ll_o (h : c ≠ 83) : yLi a o i t c = oLi a o i t c := if_neg h
theorem Ll_83 : yLi a o i t 83 = yNl a o i t 83 := if_pos rfl
theorem RB_ll (h : qRB us nr kr kd ws at₉ ho wd wi ow rt wk wl wm nu ro fo le ra pi (oLi a o i t)) : qRB us nr kr kd ws at₉ ho wd wi ow rt wk wl wm nu ro fo le ra pi (yLi a o i t) := RB_83 h (fun c hc => Ll_o hc)
theorem I_ll (hI : qI (oLi a o i t)) : qI (yLi a o i t) := I_cg hI (Ll_o (by decide)) (Ll_o (by decide)) (Ll_o (by decide)) (Ll_o (by decide)) (Ll_o (by decide)) (Ll_o (by decide)) (fun n => Ll_o (by omega))
theorem Av_li (h : qAv a) (hI : qI (oLi a o i t)) : qAv (yLi a o i t) := by
  have hI2 := I_ll hI
  by_cases w : zRq a o ∧ (t = -1 ∨ zRq a t) ∧ zHw a o i ∧ zIr a o i
  · have wp := Rq_wp w.1 w.2.2.1
    have e : oLi a o i t = ma_u a 71 (a 130 o.toNatClampNeg + 1 + i).toNatClampNeg (aNm a t) := (qIf_y w).trans (Ci_eq h.1 wp)
    have e8 : yNl a o i t = gNr a o.toNatClampNeg i.toInt t := qIf_y w
    have r : ∀ c, c ≠ 83 → c ≠ 71 → yLi a o i t c = a c := fun c h1 h2 => (Ll_o h1).trans (by rw [e]; exact un h2)
    refine Av_mk (A0_cg (Av_0 h) hI2 (r 126 (by decide) (by decide)) (r 87 (by decide) (by decide)) (r 130 (by decide) (by decide)) (r 128 (by decide) (by decide)) (r 131 (by decide) (by decide)) (r 133 (by decide) (by decide))) (Di_cg (Av_di h) (r 126 (by decide) (by decide)) (r 128 (by decide) (by decide)) (r 130 (by decide) (by decide)) (r 87 (by decide) (by decide)) (fun k w => by rw [Ll_83, e8]; exact nr_83 w) (fun n j hn h9 hj => ?_))
    have wj := wp_n h.1 hn hj
    have rf : aRef (yLi a o i t) n (Int32.ofNat j) = aRef (ma_u a 71 (a 130 o.toNatClampNeg + 1 + i).toNatClampNeg (aNm a t)) n (Int32.ofNat j) := by
      rw [← e]
      exact rf_cg (Ll_o (by omega)) (Ll_o (by decide)) (Ll_o (by decide))
    rw [rf_w h.1 wp wj.1] at rf
    by_cases z : n = o.toNatClampNeg ∧ Int32.ofNat j = i
    · refine Or.inr (fun g => ?_)
      rw [if_pos z, if_pos (show a (1000 + o.toNatClampNeg) i.toNatClampNeg ≠ 0 from w.2.2.2)] at rf
      unfold gRw at g
      rw [rf, r 126 (by decide) (by decide), r 87 (by decide) (by decide), r 130 (by decide) (by decide)] at g
      have ht : aNm a t = t := by
        unfold aNm at g ⊢
        split
        · rfl
        · rename_i q
          rw [if_neg q] at g
          exact absurd g.1 (by decide)
      rw [ht] at g
      have ej : (j : Int) = i.toInt := by rw [← z.2]; exact wj.2.symm
      have cx := cx_lt (Av_0 h) hn h9 hj
      have c12 := (Av_0 h).2.2.1.2.2.2.2
      rw [Ll_83, e8]
      unfold gNr
      rw [← z.1, ← ej, if_pos ⟨⟨g.1, g.2.1, g.2.2.1, g.2.2.2⟩, h9, by omega, cx.2⟩, xu_s]
      decide
    · rw [if_neg z] at rf
      exact Or.inl rf
  · have e : oLi a o i t = a := qIf_n w
    have e8 : yNl a o i t = a := qIf_n w
    have ey : yLi a o i t = a := funext (fun c => by
      by_cases q : c = 83
      · rw [q, Ll_83, e8]
      · rw [Ll_o q, e])
    rw [ey]
    exact h
/-- a hold of an OLD one -/
theorem Av_133 (h : qAv a) (ho : (a 130 n).toInt < (a 87 9).toInt) : qAv (ma_u a 133 n x) := by
  have hI : qI (ma_u a 133 n x) := I_u h.1 (Or.inr (Or.inr (Or.inl rfl)))
  have h0 := Av_0 h
  refine Av_mk ?_ (Di_cg (Av_di h) (un (by decide)) (un (by decide)) (un (by decide)) (un (by decide)) (fun k w => by rw [un (by decide)]; exact w) (fun n i _ _ _ => Or.inl (rf_cg (un (by omega)) (un (by decide)) (un (by decide)))))
  refine ⟨hI, ?_, ?_, ?_, ?_, ?_, fun m hm => ?_⟩
  · rw [un (by decide)]; exact h0.2.1
  · rw [un (by decide)]; exact h0.2.2.1
  · rw [un (by decide)]; exact h0.2.2.2.1
  · rw [un (n := 87) (by decide), Sy_cg (d := ma_u a 133 n x) (c := a) (un (by decide)) (un (by decide)) (un (by decide)) (un (by decide))]; exact h0.2.2.2.2.1
  · rw [un (by decide)]; exact h0.2.2.2.2.2.1
  · have hm2 : xAl a m := by
      unfold xAl at hm ⊢
      rw [un (by decide)] at hm
      exact hm
    have q := h0.2.2.2.2.2.2 m hm2
    unfold qA1 at q ⊢
    rw [un (n := 131) (by decide), un (n := 130) (by decide), un (n := 128) (by decide), un (n := 87) (by decide)]
    by_cases w : m = n
    · rw [w] at q ⊢
      exact ⟨q.1, q.2.1, fun z => absurd z (by omega)⟩
    · rw [xu_o (fun z => w z.2)]
      exact q
theorem Av_ho (h : qAv a) : qAv (yHo a o x) := by
  unfold yHo
  by_cases w : (a 130 o.toNatClampNeg).toInt < (a 87 9).toInt
  · rw [qIf_y w]
    unfold xHo
    by_cases z : zRq a o ∧ (¬ x = 0 ∨ ¬ a 133 o.toNatClampNeg = 0)
    · rw [qIf_y z]
      exact Av_133 h w
    · rw [qIf_n z]
      exact h
  · rw [qIf_n w]
    exact h
/-! the collectors' own heaps behind a call -/
theorem aS_z (h : c ≠ 87) (h1 : 78 ≤ c) (h2 : c < 126) : aS 75 S c k = 0 := by
  unfold aS aF
  rw [if_pos h2, if_neg (fun z => ?_)]
  simp only [zrl, Bool.or_eq_true, Bool.and_eq_true, decide_eq_true_eq] at z
  omega
theorem M_kp2 {q q₉ : Nat → Int32} (hx : zAy X Y (aM q S)) (hs : aS 88 S₉ = Y) (e : q₉ = q) : zOf X (aM q₉ S₉) := M_kp hx hs e (fun k c h h1 h2 => by rw [aS_z h (by omega) (by omega), aS_z h (by omega) (by omega)])
theorem G_kp (hx : zAy X Y (aG S)) (hs : aS 88 S₉ = Y) (e : mI S₉ 82 = mI S 82) (e3 : mI S₉ 83 = mI S 83) : zOf X (aG S₉) := fun c k h1 h2 h3 => by
  by_cases w : 82 ≤ c ∧ c ≤ 93
  · rw [hx.2 c k w.1 w.2]
    by_cases v : c = 87
    · rw [v, aG_7, aG_7]
      unfold zfG
      rw [e]
    · by_cases u : c = 83
      · rw [u, aG_8, aG_8, e3]
      · rw [aG_o v u, aG_o v u, aS_z v (by omega) (by omega), aS_z v (by omega) (by omega)]
  · rw [hx.1 c k h1 h2 h3 w, ← hs]
    exact (G_88 c k h1 h2 h3 w).symm
theorem G_kl (hx : zAy X Y (aG S)) (hs : aS 88 S₉ = Y) (e : mI S₉ 82 = mI S 82) (f : Nat → Int32) (e3 : mI S₉ 83 = f) : zOf (fun c => if c = 83 then f else X c) (aG S₉) := fun c k h1 h2 h3 => by
  by_cases u : c = 83
  · rw [u, aG_8, e3]
    rfl
  show (if c = 83 then f else X c) k = _
  rw [if_neg u]
  by_cases w : 82 ≤ c ∧ c ≤ 93
  · rw [hx.2 c k w.1 w.2]
    by_cases v : c = 87
    · rw [v, aG_7, aG_7]
      unfold zfG
      rw [e]
    · rw [aG_o v u, aG_o v u, aS_z v (by omega) (by omega), aS_z v (by omega) (by omega)]
  · rw [hx.1 c k h1 h2 h3 w, ← hs]
    exact (G_88 c k h1 h2 h3 w).symm
/-- row 93 is no matter -/
def zX93 (X : Nat → Nat → Int32) (f : Nat → Int32) : Nat → Nat → Int32 := fun c => if c = 93 then f else X c
theorem Z_kp (hx : zAy X Y (aZ S)) (hs : aS 88 S₉ = Y) (e : mI S₉ 91 = mI S 91) (e2 : mI S₉ 92 = mI S 92) : zOf (zX93 X (mI S₉ 93)) (aZ S₉) := fun c k h1 h2 h3 => by
  by_cases u : c = 93
  · rw [u, aZ_9 (Or.inr rfl)]
    rfl
  show (if c = 93 then mI S₉ 93 else X c) k = _
  rw [if_neg u]
  by_cases w : 82 ≤ c ∧ c ≤ 93
  · rw [hx.2 c k w.1 w.2]
    by_cases v : c = 87
    · rw [v, aZ_7, aZ_7]
      unfold zfZ
      rw [e]
    · by_cases u2 : c = 92
      · rw [u2, aZ_9 (Or.inl rfl), aZ_9 (Or.inl rfl), e2]
      · rw [aZ_o v u2 u, aZ_o v u2 u, aS_z v (by omega) (by omega), aS_z v (by omega) (by omega)]
  · rw [hx.1 c k h1 h2 h3 w, ← hs]
    exact (Z_88 c k h1 h2 h3 w).symm
theorem X93 (h : c ≠ 93) {f : Nat → Int32} : zX93 X f c = X c := if_neg h
theorem I_93 {f : Nat → Int32} (h : qI X) : qI (zX93 X f) := I_cg h (X93 (by decide)) (X93 (by decide)) (X93 (by decide)) (X93 (by decide)) (X93 (by decide)) (X93 (by decide)) (fun n => X93 (by omega))
theorem Rv_93 {f : Nat → Int32} (h : qRv X) : qRv (zX93 X f) := Rv_cg h (X93 (by decide)) (X93 (by decide)) (X93 (by decide)) (X93 (by decide)) (X93 (by decide)) (I_93 h.1)
theorem RL_93 {f : Nat → Int32} (h : qRL X si rg sh pr tp) : qRL (zX93 X f) si rg sh pr tp := RL_cg h (X93 (by decide)) (X93 (by decide))
theorem RB_93 {f : Nat → Int32} (h : qRB us nr kr kd ws at₉ ho wd wi ow rt wk wl wm nu ro fo le ra pi X) : qRB us nr kr kd ws at₉ ho wd wi ow rt wk wl wm nu ro fo le ra pi (zX93 X f) := by
  have rf : ∀ n i, aRef (zX93 X f) n i = aRef X n i := fun n i => rf_cg (X93 (by omega)) (X93 (by decide)) (X93 (by decide))
  obtain ⟨h1, h2, h3, h4, h5, h6, h7, h8⟩ := h
  refine ⟨?_, fun s hs hu i hi => ?_, ?_, ?_, ?_, ?_, h7, ?_⟩
  · unfold qR1 at h1 ⊢
    rw [X93 (c := 126) (by decide), X93 (c := 128) (by decide), X93 (c := 130) (by decide), X93 (c := 133) (by decide)]
    exact h1
  · rw [rf, X93 (c := 1000 + (nr s).toNatClampNeg) (by omega)]
    exact h2 s hs hu i hi
  · unfold qR3 at h3 ⊢
    rw [X93 (c := 72) (by decide)]
    exact h3
  · unfold qR3 at h4 ⊢
    rw [X93 (c := 73) (by decide)]
    exact h4
  · unfold qR5 at h5 ⊢
    rw [X93 (c := 69) (by decide), X93 (c := 74) (by decide)]
    exact h5
  · unfold qR6 at h6 ⊢
    rw [X93 (c := 134) (by decide)]
    exact h6
  · unfold qR8 at h8 ⊢
    rw [X93 (c := 69) (by decide), X93 (c := 87) (by decide)]
    exact h8
end F41

/-! from 95.y08 -/
/-! the reference opens a heap (written by wip/tools/gen15w.py) -/
/-! two things told of one run -/
/-- the reference answered: what holds of the answer and of its ints -/
def zRj (S : ma_S) (F : Int32 → (Nat → Nat → Int32) → Prop) : Option ma_V ⊕ Nat → ma_S → Prop := fun o S₉ => ∃ v m₉, o = .inl (some (.inl v)) ∧ S₉ = zst S m₉ ∧ F v m₉
section F42
variable {X : Nat × (Nat → Int32)} {d w M pc : Nat} {L : ma_L} {st : List ma_V} {S : ma_S} {Q Q₉ : Option ma_V ⊕ Nat → ma_S → Prop} {F G : Int32 → (Nat → Nat → Int32) → Prop}
theorem ma_wp_and (h1 : ma_wp X d w M pc L st S Q) (h2 : ma_wp X d w M pc L st S Q₉) : ma_wp X d w M pc L st S (fun o S₉ => Q o S₉ ∧ Q₉ o S₉) := by
  obtain ⟨f, o, S1, e, q⟩ := h1
  obtain ⟨g, o₉, S2, e₉, q₉⟩ := h2
  have a := ma_run_le (Nat.le_max_left f g) e
  have b := ma_run_le (Nat.le_max_right f g) e₉
  have c := Prod.mk.inj (Option.some.inj (a.symm.trans b))
  rw [← c.1, ← c.2] at q₉
  exact ⟨_, _, _, a, q, q₉⟩
theorem wp_mn (h : ma_wp X d w M pc L st S Q) (k : ∀ o S₉, Q o S₉ → Q₉ o S₉) : ma_wp X d w M pc L st S Q₉ := by
  obtain ⟨f, o, S1, e, q⟩ := h
  exact ⟨f, o, S1, e, k _ _ q⟩
theorem Rj_i (v : Int32) (m₉ : Nat → Nat → Int32) (h : F v m₉) : zRj S F (.inl (some (.inl v))) (zst S m₉) := ⟨v, m₉, rfl, rfl, h⟩
theorem Rj_and (h1 : ma_wp X d w M pc L st S (zRj S F)) (h2 : ma_wp X d w M pc L st S (zRj S G)) (K : ∀ v m₉, F v m₉ → G v m₉ → Q (.inl (some (.inl v))) (zst S m₉)) : ma_wp X d w M pc L st S Q := by
  refine wp_mn (ma_wp_and h1 h2) (fun o S₉ h => ?_)
  obtain ⟨⟨v, m₉, e1, e2, f⟩, v2, m2, e3, e4, g⟩ := h
  have ev : v = v2 := Sum.inl.inj (Option.some.inj (Sum.inl.inj (e1.symm.trans e3)))
  have em : m₉ = m2 := congrArg mI (e2.symm.trans e4)
  rw [← ev, ← em] at g
  rw [e1, e2]
  exact K v m₉ f g
end F42

/-! from 95.z00 -/
/-! what holds of the reference under each moving collector, against a heap by numbers -/
def zN1 (m aa : Nat → Nat → Int32) : Prop := (qRB (m 99) (m 100) (m 98) (m 101) (m 102) (m 103) (m 107) (m 108) (m 109) (m 111) (m 112) (m 113) (m 114) (m 94 55) (m 94 46) (m 94 11) 0 (m 94 59) 0 1 aa) ∧ (qI aa) ∧ (qTp aa) ∧ (aa 87 8 = (m 94 58)) ∧ ((m 94 45).toInt = sm (zbU (m 99)) (m 102) 3100) ∧ ((m 94 58).toInt = 0)
def zN2 (m aa : Nat → Nat → Int32) : Prop := (qRB (m 99) (m 100) (m 98) (m 101) (m 102) (m 103) (m 107) (m 108) (m 109) (m 111) (m 112) (m 113) (m 114) (m 94 55) (m 94 46) (aa 87 0) 0 0 0 1 aa) ∧ (qHv aa) ∧ (qHL aa (m 94 11) (m 94 61) (m 94 59)) ∧ (aa 87 8 = (m 94 58)) ∧ ((m 94 45).toInt = sm (zbU (m 99)) (m 102) 3100) ∧ ((m 94 58).toInt = 0)
def zN3 (m aa : Nat → Nat → Int32) : Prop := (qRB (m 99) (m 100) (m 98) (m 101) (m 102) (m 103) (m 107) (m 108) (m 109) (m 111) (m 112) (m 113) (m 114) (m 94 55) (m 94 46) (aa 87 0) 0 0 0 1 aa) ∧ (qAv aa) ∧ (qAL aa (m 94 13) (m 94 14) (m 94 15) (m 94 16) (m 94 59) (m 94 60) (m 94 61)) ∧ (qAg (m 99) (m 100) (m 104) aa) ∧ (qDt (m 117) aa) ∧ (aa 87 8 = (m 94 58)) ∧ ((m 94 45).toInt = sm (zbU (m 99)) (m 102) 3100) ∧ ((m 94 58).toInt = 0)
def zN6 (m aa : Nat → Nat → Int32) : Prop := (qRB (m 99) (m 100) (m 98) (m 101) (m 102) (m 103) (m 107) (m 108) (m 109) (m 111) (m 112) (m 113) (m 114) (m 94 55) (m 94 46) (aa 87 0) 0 0 0 1 aa) ∧ (qRv aa) ∧ (qRL aa (m 94 18) (m 94 64) (m 94 19) (m 94 63) (m 116)) ∧ (aa 87 8 = (m 94 58)) ∧ ((m 94 45).toInt = sm (zbU (m 99)) (m 102) 3100) ∧ ((m 94 58).toInt = 0)

/-! from 95.z01 -/
/-! the reference's calls under the moving collectors, put together -/
section F43
variable {a b d X Y : Nat → Nat → Int32} {us nr kr kd ws at₉ ho wd wi ow rt wk wl : Nat → Int32} {wm nu ro fo le ra pi x y z i o t r : Int32} {n k c : Nat}
theorem RB_87o (h : qRB us nr kr kd ws at₉ ho wd wi ow rt wk wl wm nu ro fo le ra pi a) : qRB us nr kr kd ws at₉ ho wd wi ow rt wk wl wm nu (a 87 0) fo le ra pi a := by
  have e : a 87 0 = ro := h.2.2.2.2.2.2.2.2.1
  rw [e]
  exact h
theorem If_r {Q : Prop} {a₉ : Nat → Nat → Int32} (h : a₉ c = a c) : qIf Q a₉ a c = a c := by
  by_cases w : Q
  · rw [qIf_y w]
    exact h
  · rw [qIf_n w]
theorem we_71 : xWe a i o 71 = a 71 := If_r (un (by decide))
theorem wi_71 : xWi a o 71 = a 71 := If_r (un (by decide))
theorem ro_71 : oRo a i o 71 = a 71 := If_r (un (by decide))
theorem sg_71 : oSg a i r 71 = a 71 := If_r (un (by decide))
theorem gr_71 : oGr a r 71 = a 71 := funext (fun _ => gr_c (by decide) (by decide) (by decide))
theorem Ho_r (h : c ≠ 133) : xHo a o x c = a c := If_r (un h)
theorem yHo_r (h : c ≠ 133) : yHo a o x c = a c := If_r (Ho_r h)
theorem li_r (h : c ≠ 71) : oLi a o i t c = a c := If_r (funext (fun _ => ci_9 h))
theorem yli_r (h : c ≠ 71) (h2 : c ≠ 83) : yLi a o i t c = a c := (Ll_o h2).trans (li_r h)
end F43

