/-! from 95.h06 -/
/-! the reference by numbers (written by wip/tools/gen18r.py) -/
/-! MARKING, the reference -/
section QM
variable {a b aa T : Nat → Nat → Int32} {us nr kr kd ws at₉ ho wd wi ow rt wk wl co gr : Nat → Int32} {wm nu ro fo le ra pi ga gm x y i s : Int32} {n k k₉ N t : Nat} {m m2 : Nat → Nat → Int32} {d : Int}
/-- a step's beginning -/
theorem WQ_mid (h : zWQ a) (hl : (a 75 3).toInt < (a 75 4).toInt) (hq : a 76 (a 75 3).toNatClampNeg = y) : zWQ (ma_u (ma_u a 75 3 (a 75 3 + 1)) 77 y.toNatClampNeg 2) := by
  obtain ⟨q1, q2, q3, q4, q5, q6, q7⟩ := h
  have cb : cnt (a 77) 512 ≤ 512 := cnt_le
  have q12 := q1.2.2
  have e1 : (a 75 3 + 1).toInt = (a 75 3).toInt + 1 := i_p1 (by omega)
  have ch := tn_cast q1.1
  have p := q2 (a 75 3).toNatClampNeg (by omega) (by omega)
  rw [hq] at p
  have cq := tn_cast p.1
  generalize hz : y.toNatClampNeg = z at *
  have hz5 : z < 512 := by omega
  generalize hv : a 75 3 + 1 = v at *
  have r3 : (ma_u (ma_u a 75 3 v) 77 z 2) 75 3 = v := by rw [xu_o (by omega), xu_s]
  have r4 : (ma_u (ma_u a 75 3 v) 77 z 2) 75 4 = a 75 4 := by rw [xu_o (by omega), xu_o (by omega)]
  have r5 : (ma_u (ma_u a 75 3 v) 77 z 2) 75 5 = a 75 5 := by rw [xu_o (by omega), xu_o (by omega)]
  have r6 : ∀ j, (ma_u (ma_u a 75 3 v) 77 z 2) 76 j = a 76 j := fun j => by rw [xu_o (by omega), xu_o (by omega)]
  have r7 : ∀ j, j ≠ z → (ma_u (ma_u a 75 3 v) 77 z 2) 77 j = a 77 j := fun j w => by rw [xu_o (fun y => w y.2), xu_o (by omega)]
  have r7t : (ma_u (ma_u a 75 3 v) 77 z 2) 77 z = 2 := xu_s
  have rc : (a 75 4).toInt ≤ (cnt ((ma_u (ma_u a 75 3 v) 77 z 2) 77) 512 : Int) := by
    have e : ma_u a 75 3 v 77 = a 77 := ma_u_ne _ _ _ (by decide)
    have w := cnt_u1 (m := ma_u a 75 3 v) (c := 77) (k := z) (x := (2 : Int32)) (n := 512) (by decide)
    rw [e] at w
    omega
  have ro : ∀ c k, c ≠ 75 → c ≠ 76 → c ≠ 77 → (ma_u (ma_u a 75 3 v) 77 z 2) c k = a c k := fun c k w1 w2 w3 => by rw [xu_o (fun y => w3 y.1), xu_o (fun y => w1 y.1)]
  generalize hb : ma_u (ma_u a 75 3 v) 77 z 2 = b at *
  have ob : zOf a b := fun c k w1 w2 w3 => (ro c k w1 w2 w3).symm
  refine ⟨⟨?_, ?_, ?_⟩, ?_, ?_, ?_, ?_, ?_, ?_⟩
  · rw [r3, e1]
    omega
  · rw [r3, r4, e1]
    omega
  · rw [r4]
    exact rc
  · intro j j1 j2
    rw [r3, e1] at j1
    rw [r4] at j2
    rw [r6, ro _ _ (by decide) (by decide) (by decide)]
    have pj := q2 j (by omega) j2
    refine ⟨pj.1, pj.2.1, pj.2.2.1, ?_⟩
    rw [r7 _ ?_]
    · exact pj.2.2.2
    · intro w
      have n3 := q3 (a 75 3).toNatClampNeg j (by omega) (by omega) j2
      rw [hq] at n3
      apply n3
      have cj := tn_cast pj.1
      apply Int32.toInt_inj.mp
      omega
  · intro j j₉ j1 j2 j3
    rw [r3, e1] at j1
    rw [r4] at j3
    rw [r6, r6]
    exact q3 j j₉ (by omega) j2 j3
  · intro x hx hx1
    by_cases w : x = z
    · rw [w, r7t] at hx1
      exact absurd hx1 (by decide)
    · rw [r7 x w] at hx1
      obtain ⟨j, j1, j2, j3⟩ := q4 x hx hx1
      refine ⟨j, ?_, by rw [r4]; exact j2, by rw [r6]; exact j3⟩
      rw [r3, e1]
      by_cases w2 : j = (a 75 3).toNatClampNeg
      · rw [w2, hq] at j3
        exfalso
        apply w
        have := ofN_i hx
        rw [← j3] at this
        omega
      · omega
  · intro x hx
    by_cases w : x = z
    · rw [w, r7t]
      exact Or.inr (Or.inr rfl)
    · rw [r7 x w]
      exact q5 x hx
  · rw [r5]
    exact q6
  · intro x hx
    rw [Of_al ob] at hx
    rw [ro _ _ (by decide) (by decide) (by decide)]
    exact q7 x hx
/-- in the midst of steps: so many more, so many done -/
def qSO (co gr us nr : Nat → Int32) (ga gm : Int32) (aa : Nat → Nat → Int32) (k : Nat) (d : Int) (N : Nat) : Prop := ∃ b, qMQ co gr ga gm us nr b ∧ zOf aa b ∧ zSr k b d N aa
def qSI (co gr us nr : Nat → Int32) (ga gm : Int32) (aa : Nat → Nat → Int32) (n : Nat) (i : Int32) (k : Nat) (d : Int) (N : Nat) : Prop := ∃ b, qMQ co gr ga gm us nr b ∧ zOf aa b ∧ zSr k (aCw b n i) d N aa
theorem SO_0 (h : qMQ co gr ga gm us nr aa) (e : k = N) (hd : d = 0) : qSO co gr us nr ga gm aa k d N := by
  subst e
  exact ⟨aa, h, Of_rf, rfl, by omega⟩
theorem SO_go (h : qSO (m 106) gr us nr ga gm aa k d N) (h1 : qR1 us nr ws at₉ ho aa) (hl : ga.toInt < gm.toInt) (h0 : 0 ≤ ga.toInt) (e : k = k₉ + 1) {d₉ : Int} (hd : d₉ = d + 1) (hg : y = ga + 1) : qSI (ma_u m 106 (gr ga.toNatClampNeg).toNatClampNeg 2 106) gr us nr y gm aa (nr (gr ga.toNatClampNeg).toNatClampNeg).toNatClampNeg 0 k₉ d₉ N := by
  obtain ⟨b, hb, ho2, hz⟩ := h
  obtain ⟨q1, q2, q3, q4, q5⟩ := hb
  have cg := tn_cast h0
  have p := q4 ga.toNatClampNeg (by omega) (by omega)
  have hs := tn_lt p.1.1 p.1.2.1
  have hl2 : (b 75 3).toInt < (b 75 4).toInt := by rw [q1, q2]; exact hl
  have eq : b 76 (b 75 3).toNatClampNeg = nr (gr ga.toNatClampNeg).toNatClampNeg := by rw [q1]; exact p.2
  have h1b := R1_of h1 ho2
  have t := h1b.1 _ hs p.1.2.2
  have z := zSr_go hz e hl2
  rw [aPop_y eq t.1.1 t.1.2 t.2.1] at z
  refine ⟨_, ⟨?_, ?_, fun s hs2 hu2 => ?_, fun j j1 j2 => ?_, WQ_mid q5 hl2 eq⟩, ?_, ?_⟩
  · rw [xu_o (by omega), xu_s, q1, hg]
  · rw [xu_o (by omega), xu_o (by omega), q2]
  · by_cases w : s = (gr ga.toNatClampNeg).toNatClampNeg
    · rw [w, mu_self, xu_s]
    · rw [mu_ne w, xu_o (c := 77) (c₉ := 77) (fun y => w (R1_in h1 hs2 hs hu2 p.1.2.2 y.2)), xu_o (c := 77) (c₉ := 75) (by omega)]
      exact q3 s hs2 hu2
  · rw [hg, i_p1 (by have := i_bd gm; omega)] at j1
    rw [xu_o (c := 76) (c₉ := 77) (by omega), xu_o (c := 76) (c₉ := 75) (by omega)]
    exact q4 j (by omega) j2
  · exact Of_tr ho2 (fun c k w1 w2 w3 => by rw [xu_o (fun y => w3 y.1), xu_o (fun y => w1 y.1)])
  · rw [hd]
    exact z
theorem CW_rf (h : qRB us nr kr kd ws at₉ ho wd wi ow rt wk wl wm nu ro fo le ra pi aa) (o : zOf aa b) (h0 : 0 ≤ s.toInt) (h3 : s.toInt ≤ 3099) (hu : us s.toNatClampNeg ≠ 0) (hi : 0 ≤ i.toInt) (hi2 : i.toInt < (ws s.toNatClampNeg).toInt) (hx : x = zrf kr kd wd s.toNatClampNeg i.toNatClampNeg) : aCw b (nr s.toNatClampNeg).toNatClampNeg i = aCw (aCm b (qNo nr x)) (nr s.toNatClampNeg).toNatClampNeg (i + 1) ∧ qU us x := by
  have hs := tn_lt h0 (by omega)
  have hb := RB_of h o
  have t := hb.1.1 _ hs hu
  have c := tn_cast hi
  have r := hb.2.1 _ hs hu i.toNatClampNeg (by omega)
  rw [ofN_tn hi, ← hx] at r
  refine ⟨?_, r.1⟩
  rw [← r.2.1]
  refine aCw_go ?_
  rw [t.2.2.1, i_p1 (by have := t.2.2.2.2.2.1; omega)]
  omega
theorem SI_push (h : qSI (m 106) (m2 115) us nr ga gm aa (nr s.toNatClampNeg).toNatClampNeg i k d N) (hR : qRB us nr kr kd ws at₉ ho wd wi ow rt wk wl wm nu ro fo le ra pi aa) (h0 : 0 ≤ s.toInt) (h3 : s.toInt ≤ 3099) (hu : us s.toNatClampNeg ≠ 0) (hi : 0 ≤ i.toInt) (hi2 : i.toInt < (ws s.toNatClampNeg).toInt) (hx : x = zrf kr kd wd s.toNatClampNeg i.toNatClampNeg) (hx0 : 0 ≤ x.toInt) (hw : m 106 x.toNatClampNeg = 0) : qSI (ma_u m 106 x.toNatClampNeg 1 106) (ma_u m2 115 gm.toNatClampNeg x 115) us nr ga (gm + 1) aa (nr s.toNatClampNeg).toNatClampNeg (i + 1) k d N := by
  obtain ⟨b, hb, o, hz⟩ := h
  have c := CW_rf hR o h0 h3 hu hi hi2 hx
  have u := U_y c.2 hx0
  rw [c.1] at hz
  exact ⟨_, MQ_push hb (R1_of hR.1 o) hx0 u.1 u.2 hw rfl, Of_tr o cm_of, hz⟩
theorem SI_skip (h : qSI co gr us nr ga gm aa (nr s.toNatClampNeg).toNatClampNeg i k d N) (hR : qRB us nr kr kd ws at₉ ho wd wi ow rt wk wl wm nu ro fo le ra pi aa) (h0 : 0 ≤ s.toInt) (h3 : s.toInt ≤ 3099) (hu : us s.toNatClampNeg ≠ 0) (hi : 0 ≤ i.toInt) (hi2 : i.toInt < (ws s.toNatClampNeg).toInt) (hx : x = zrf kr kd wd s.toNatClampNeg i.toNatClampNeg) (hw : x.toInt < 0 ∨ co x.toNatClampNeg ≠ 0) : qSI co gr us nr ga gm aa (nr s.toNatClampNeg).toNatClampNeg (i + 1) k d N := by
  obtain ⟨b, hb, o, hz⟩ := h
  have c := CW_rf hR o h0 h3 hu hi hi2 hx
  rw [c.1, MQ_skip hb (by
    by_cases z : x.toInt < 0
    · exact Or.inl z
    · have u := U_y c.2 (by omega)
      exact Or.inr ⟨u.1, u.2, hw.elim (fun q => absurd q z) id⟩)] at hz
  exact ⟨b, hb, o, hz⟩
theorem SI_end (h : qSI co gr us nr ga gm aa (nr s.toNatClampNeg).toNatClampNeg i k d N) (hR : qRB us nr kr kd ws at₉ ho wd wi ow rt wk wl wm nu ro fo le ra pi aa) (h0 : 0 ≤ s.toInt) (h3 : s.toInt ≤ 3099) (hu : us s.toNatClampNeg ≠ 0) (hi2 : (ws s.toNatClampNeg).toInt ≤ i.toInt) (e : k = k₉) {d₉ : Int} (hd : d = d₉) : qSO co gr us nr ga gm aa k₉ d₉ N := by
  subst e
  subst hd
  obtain ⟨b, hb, o, hz⟩ := h
  have hs := tn_lt h0 (by omega)
  have t := (R1_of hR.1 o).1 _ hs hu
  rw [aCw_st (by rw [t.2.2.1, i_p1 (by have := t.2.2.2.2.2.1; omega)]; omega)] at hz
  exact ⟨b, hb, o, hz⟩
theorem SO_end (h : qSO co gr us nr ga gm aa k d N) (hl : k = 0 ∨ gm.toInt ≤ ga.toInt) : qMQ co gr ga gm us nr (aSp N aa) ∧ zOf aa (aSp N aa) ∧ d = (aSn N aa : Int) := by
  obtain ⟨b, hb, o, hz⟩ := h
  have z := zSr_st hz (hl.imp id (fun w => by rw [hb.1, hb.2.1]; omega))
  rw [← z.1]
  exact ⟨hb, o, z.2⟩
theorem SI_us (h : qSO co gr us nr ga gm aa k d N) (hl : ga.toInt < gm.toInt) (h0 : 0 ≤ ga.toInt) : us (gr ga.toNatClampNeg).toNatClampNeg ≠ 0 := by
  obtain ⟨b, hb, o, hz⟩ := h
  have cg := tn_cast h0
  exact (hb.2.2.2.1 ga.toNatClampNeg (by omega) (by omega)).1.2.2
/-! ROOTS, WISHES, held ones come -/
def qG2 (co gr us nr : Nat → Int32) (ga gm : Int32) (aa : Nat → Nat → Int32) (i : Int32) (T : Nat → Nat → Int32) : Prop := ∃ b, qMQ co gr ga gm us nr b ∧ zOf aa b ∧ aRo b i = T
def qG3 (co gr us nr : Nat → Int32) (ga gm : Int32) (aa : Nat → Nat → Int32) (i : Int32) (T : Nat → Nat → Int32) : Prop := ∃ b, qMQ co gr ga gm us nr b ∧ zOf aa b ∧ aWi b i = T
def qG5 (co gr us nr : Nat → Int32) (ga gm : Int32) (aa : Nat → Nat → Int32) (i : Int32) (T : Nat → Nat → Int32) : Prop := ∃ b, qMQ co gr ga gm us nr b ∧ zOf aa b ∧ ((i.toInt = -2 ∧ b = T) ∨ (-1 ≤ i.toInt ∧ i.toInt + 1 ≤ (aa 69 6).toInt ∧ aHo b (i + 1) = T))
theorem G2_push (h : qG2 (m 106) (m2 115) us nr ga gm aa i T) (hR : qRB us nr kr kd ws at₉ ho wd wi ow rt wk wl wm nu ro fo le ra pi aa) (hi : 0 ≤ i.toInt) (hi2 : i.toInt < 16) (hx : x = rt i.toNatClampNeg) (hx0 : 0 ≤ x.toInt) (hw : m 106 x.toNatClampNeg = 0) : qG2 (ma_u m 106 x.toNatClampNeg 1 106) (ma_u m2 115 gm.toNatClampNeg x 115) us nr ga (gm + 1) aa (i + 1) T := by
  obtain ⟨b, hb, o, hz⟩ := h
  have c := tn_cast hi
  have r := (RB_of hR o).2.2.1 i.toNatClampNeg (by omega)
  rw [← hx] at r
  have u := U_y r.1 hx0
  rw [aRo_go hi2, r.2] at hz
  exact ⟨_, MQ_push hb (R1_of hR.1 o) hx0 u.1 u.2 hw rfl, Of_tr o cm_of, hz⟩
theorem MQ_sk (hb : qMQ co gr ga gm us nr b) (u : qU us x) (hw : x.toInt < 0 ∨ co x.toNatClampNeg ≠ 0) : aCm b (qNo nr x) = b := MQ_skip hb (by
    by_cases z : x.toInt < 0
    · exact Or.inl z
    · have u := U_y u (by omega)
      exact Or.inr ⟨u.1, u.2, hw.elim (fun q => absurd q z) id⟩)
theorem G2_skip (h : qG2 co gr us nr ga gm aa i T) (hR : qRB us nr kr kd ws at₉ ho wd wi ow rt wk wl wm nu ro fo le ra pi aa) (hi : 0 ≤ i.toInt) (hi2 : i.toInt < 16) (hx : x = rt i.toNatClampNeg) (hw : x.toInt < 0 ∨ co x.toNatClampNeg ≠ 0) : qG2 co gr us nr ga gm aa (i + 1) T := by
  obtain ⟨b, hb, o, hz⟩ := h
  have c := tn_cast hi
  have r := (RB_of hR o).2.2.1 i.toNatClampNeg (by omega)
  rw [← hx] at r
  rw [aRo_go hi2, r.2, MQ_sk hb r.1 hw] at hz
  exact ⟨b, hb, o, hz⟩
theorem G2_end (h : qG2 co gr us nr ga gm aa i T) (hi : 16 ≤ i.toInt) : qG3 co gr us nr ga gm aa 0 T := by
  obtain ⟨b, hb, o, hz⟩ := h
  rw [aRo_st (by omega)] at hz
  exact ⟨b, hb, o, hz⟩
theorem G3_x (hR : qRB us nr kr kd ws at₉ ho wd wi ow rt wk wl wm nu ro fo le ra pi aa) (o : zOf aa b) (hi : 0 ≤ i.toInt) (hi2 : i.toInt < wm.toInt) (hx : x = wl i.toNatClampNeg) : (0 ≤ x.toInt ∧ x.toInt < 3100 ∧ us x.toNatClampNeg ≠ 0) ∧ aWi b i = aWi (aCm b (qNo nr x)) (i + 1) := by
  have c := tn_cast hi
  have r := (RB_of hR o).2.2.2.2.1
  have r2 := r.2 i.toNatClampNeg (by omega)
  rw [← hx] at r2
  refine ⟨r2.1, ?_⟩
  rw [aWi_go (by rw [r.1]; exact hi2), r2.2, No_y r2.1.1]
theorem G3_push (h : qG3 (m 106) (m2 115) us nr ga gm aa i T) (hR : qRB us nr kr kd ws at₉ ho wd wi ow rt wk wl wm nu ro fo le ra pi aa) (hi : 0 ≤ i.toInt) (hi2 : i.toInt < wm.toInt) (hx : x = wl i.toNatClampNeg) (hw : m 106 x.toNatClampNeg = 0) : qG3 (ma_u m 106 x.toNatClampNeg 1 106) (ma_u m2 115 gm.toNatClampNeg x 115) us nr ga (gm + 1) aa (i + 1) T := by
  obtain ⟨b, hb, o, hz⟩ := h
  have r := G3_x hR o hi hi2 hx
  rw [r.2] at hz
  exact ⟨_, MQ_push hb (R1_of hR.1 o) r.1.1 r.1.2.1 r.1.2.2 hw rfl, Of_tr o cm_of, hz⟩
theorem G3_skip (h : qG3 co gr us nr ga gm aa i T) (hR : qRB us nr kr kd ws at₉ ho wd wi ow rt wk wl wm nu ro fo le ra pi aa) (hi : 0 ≤ i.toInt) (hi2 : i.toInt < wm.toInt) (hx : x = wl i.toNatClampNeg) (hw : x.toInt < 0 ∨ co x.toNatClampNeg ≠ 0) : qG3 co gr us nr ga gm aa (i + 1) T := by
  obtain ⟨b, hb, o, hz⟩ := h
  have r := G3_x hR o hi hi2 hx
  rw [r.2, MQ_sk hb (Or.inr r.1.2) hw] at hz
  exact ⟨b, hb, o, hz⟩
theorem G3_end (h : qG3 co gr us nr ga gm aa i T) (hR : qRB us nr kr kd ws at₉ ho wd wi ow rt wk wl wm nu ro fo le ra pi aa) (hI : qI aa) (hi : wm.toInt ≤ i.toInt) : qG5 co gr us nr ga gm aa (-1) T := by
  obtain ⟨b, hb, o, hz⟩ := h
  rw [aWi_st (by rw [(RB_of hR o).2.2.2.2.1.1]; omega)] at hz
  refine ⟨b, hb, o, Or.inr ⟨by decide, ?_, hz⟩⟩
  have := hI.2.2.2.1.1.1
  have e : (-1 : Int32).toInt = -1 := rfl
  omega
/-- the least of those with P -/
def qMin (P : Nat → Prop) (nr : Nat → Int32) (best : Int32) (l : Int) : Prop := (best.toInt < 0 ∧ ∀ t : Nat, (t : Int) < l → ¬ P t) ∨ (0 ≤ best.toInt ∧ best.toInt < 3100 ∧ P best.toNatClampNeg ∧ ∀ t : Nat, (t : Int) < l → P t → (nr best.toNatClampNeg).toInt ≤ (nr t).toInt)
theorem Min_0 {P : Nat → Prop} {l : Int} (h : x.toInt < 0) (hl : l ≤ 0) : qMin P nr x l := Or.inl ⟨h, fun t ht => by omega⟩
theorem Min_skip {P : Nat → Prop} {l : Int} (h : qMin P nr x i.toInt) (h0 : 0 ≤ i.toInt) (e : l = i.toInt + 1) (hn : ¬ P i.toNatClampNeg) : qMin P nr x l := by
  have c := tn_cast h0
  refine h.imp (fun w => ⟨w.1, fun t ht => ?_⟩) (fun w => ⟨w.1, w.2.1, w.2.2.1, fun t ht hp => ?_⟩)
  · by_cases z : t = i.toNatClampNeg
    · rw [z]
      exact hn
    · exact w.2 t (by omega)
  · by_cases z : t = i.toNatClampNeg
    · rw [z] at hp
      exact absurd hp hn
    · exact w.2.2.2 t (by omega) hp
theorem Min_keep {P : Nat → Prop} {l : Int} (h : qMin P nr x i.toInt) (h0 : 0 ≤ i.toInt) (hx : 0 ≤ x.toInt) (e : l = i.toInt + 1) (hn : (nr x.toNatClampNeg).toInt ≤ (nr i.toNatClampNeg).toInt) : qMin P nr x l := by
  have c := tn_cast h0
  rcases h with w | w
  · omega
  · refine Or.inr ⟨w.1, w.2.1, w.2.2.1, fun t ht hp => ?_⟩
    by_cases z : t = i.toNatClampNeg
    · rw [z]
      exact hn
    · exact w.2.2.2 t (by omega) hp
theorem Min_new {P : Nat → Prop} {l : Int} (h : qMin P nr x i.toInt) (h0 : 0 ≤ i.toInt) (h3 : i.toInt < 3100) (e : l = i.toInt + 1) (hp : P i.toNatClampNeg) (hn : x.toInt < 0 ∨ (nr i.toNatClampNeg).toInt < (nr x.toNatClampNeg).toInt) : qMin P nr i l := by
  have c := tn_cast h0
  refine Or.inr ⟨h0, h3, hp, fun t ht hpt => ?_⟩
  by_cases z : t = i.toNatClampNeg
  · rw [z]
    exact Int.le_refl _
  · rcases h with w | w
    · exact absurd hpt (w.2 t (by omega))
    · have q := w.2.2.2 t (by omega) hpt
      rcases hn with q2 | q2
      · omega
      · omega
abbrev qCd (us ho nr : Nat → Int32) (l : Int32) : Nat → Prop := fun t => us t ≠ 0 ∧ 0 < (ho t).toInt ∧ l.toInt < (nr t).toInt
theorem aHo_to : ∀ (k : Nat) (n y : Int32), 0 ≤ n.toInt → y.toInt = n.toInt + (k : Int) → y.toInt ≤ (b 69 6).toInt → (∀ z : Int32, n.toInt ≤ z.toInt → z.toInt < y.toInt → ¬ (0 ≤ z.toInt ∧ z.toInt < 512 ∧ b 126 z.toNatClampNeg ≠ 0 ∧ 0 < (b 133 z.toNatClampNeg).toInt)) → aHo b n = aHo b y := by
  intro k
  induction k with
  | zero =>
    intro n y _ e _ _
    rw [show n = y from Int32.toInt_inj.mp (by omega)]
  | succ k ih =>
    intro n y h0 e h6 hz
    have bd := i_bd y
    have e1 := i_p1 (i := n) (by omega)
    rw [aHo_n (by omega) (hz n (by omega) (by omega))]
    exact ih (n + 1) y (by omega) (by omega) h6 (fun z z1 z2 => hz z (by omega) z2)
theorem G5_no (hR : qRB us nr kr kd ws at₉ ho wd wi ow rt wk wl wm nu ro fo le ra pi aa) (o : zOf aa b) {l : Int32} {v : Int} (hm : ∀ t : Nat, t < 3100 → qCd us ho nr l t → v ≤ (nr t).toInt) {z : Int32} (h1 : l.toInt < z.toInt) (h2 : z.toInt < v) : ¬ (0 ≤ z.toInt ∧ z.toInt < 512 ∧ b 126 z.toNatClampNeg ≠ 0 ∧ 0 < (b 133 z.toNatClampNeg).toInt) := by
  rintro ⟨w0, w1, w2, w3⟩
  have hb := (RB_of hR o).1
  have c := tn_cast w0
  obtain ⟨t, ht, hu, hn⟩ := R1_ex hb (show xAl b z.toNatClampNeg from ⟨by omega, w2⟩)
  have q := hb.1 t ht hu
  rw [hn] at q
  have ct := tn_cast q.1.1
  have := hm t ht ⟨hu, by rw [← q.2.2.2.2.1]; exact w3, by omega⟩
  omega
theorem G5_none (h : qG5 co gr us nr ga gm aa i T) (hR : qRB us nr kr kd ws at₉ ho wd wi ow rt wk wl wm nu ro fo le ra pi aa) (hI : qI aa) (h0 : -1 ≤ i.toInt) (hm : qMin (qCd us ho nr i) nr x 3100) (hx : x.toInt < 0) : qG5 co gr us nr ga gm aa (-2) T := by
  obtain ⟨b, hb, o, hz⟩ := h
  have i4 := hI.2.2.2.1.1
  have e6 : (b 69 6).toInt = (aa 69 6).toInt := by rw [o 69 6 (by decide) (by decide) (by decide)]
  rcases hz with w | w
  · omega
  · have e1 := i_p1 (i := i) (by omega)
    refine ⟨b, hb, o, Or.inl ⟨by decide, ?_⟩⟩
    rw [← w.2.2]
    have st := aHo_to (b := b) ((b 69 6).toInt - (i + 1).toInt).toNat (i + 1) (b 69 6) (by omega) (by omega) (by omega) (fun z z1 z2 => G5_no hR o (v := 600) (fun t ht hc => by
      rcases hm with q | q
      · exact absurd hc (q.2 t (by omega))
      · omega) (by omega) (by omega))
    rw [st, aHo_st (by omega)]
theorem G5_y (hR : qRB us nr kr kd ws at₉ ho wd wi ow rt wk wl wm nu ro fo le ra pi aa) (hI : qI aa) (o : zOf aa b) (h0 : -1 ≤ i.toInt) (hi : i.toInt + 1 ≤ (aa 69 6).toInt) (hm : qMin (qCd us ho nr i) nr x 3100) (hx : 0 ≤ x.toInt) : (x.toInt < 3100 ∧ us x.toNatClampNeg ≠ 0) ∧ (nr x.toNatClampNeg).toInt + 1 ≤ (aa 69 6).toInt ∧ 0 ≤ (nr x.toNatClampNeg).toInt ∧ aHo b (i + 1) = aHo (aCm b (qNo nr x)) (nr x.toNatClampNeg + 1) := by
  have i4 := hI.2.2.2.1.1
  have e6 : (b 69 6).toInt = (aa 69 6).toInt := by rw [o 69 6 (by decide) (by decide) (by decide)]
  rcases hm with q | q
  · omega
  · have e1 := i_p1 (i := i) (by omega)
    have hs := tn_lt hx q.2.1
    have hb := (RB_of hR o).1
    have t := hb.1 _ hs q.2.2.1.1
    have al := R1_al hR.1 hs q.2.2.1.1
    have l6 := (hI.1 _ al).1.1
    have ct := tn_cast t.1.1
    have l3 := q.2.2.1.2.2
    refine ⟨⟨q.2.1, q.2.2.1.1⟩, by omega, t.1.1, ?_⟩
    rw [aHo_to (b := b) ((nr x.toNatClampNeg).toInt - (i + 1).toInt).toNat (i + 1) (nr x.toNatClampNeg) (by omega) (by omega) (by omega) (fun z z1 z2 => G5_no hR o (fun t ht hc => q.2.2.2 t (by omega) hc) (by omega) z2), No_y hx]
    exact aHo_y (by omega) ⟨t.1.1, t.1.2, t.2.1, by rw [t.2.2.2.2.1]; exact q.2.2.1.2.1⟩
theorem G5_push (h : qG5 (m 106) (m2 115) us nr ga gm aa i T) (hR : qRB us nr kr kd ws at₉ ho wd wi ow rt wk wl wm nu ro fo le ra pi aa) (hI : qI aa) (h0 : -1 ≤ i.toInt) (hm : qMin (qCd us ho nr i) nr x 3100) (hx : 0 ≤ x.toInt) (hw : m 106 x.toNatClampNeg = 0) : qG5 (ma_u m 106 x.toNatClampNeg 1 106) (ma_u m2 115 gm.toNatClampNeg x 115) us nr ga (gm + 1) aa (nr x.toNatClampNeg) T := by
  obtain ⟨b, hb, o, hz⟩ := h
  rcases hz with w | w
  · omega
  · have y := G5_y hR hI o h0 w.2.1 hm hx
    refine ⟨_, MQ_push hb (R1_of hR.1 o) hx y.1.1 y.1.2 hw rfl, Of_tr o cm_of, Or.inr ⟨by omega, y.2.1, ?_⟩⟩
    rw [← y.2.2.2]
    exact w.2.2
theorem G5_skip (h : qG5 co gr us nr ga gm aa i T) (hR : qRB us nr kr kd ws at₉ ho wd wi ow rt wk wl wm nu ro fo le ra pi aa) (hI : qI aa) (h0 : -1 ≤ i.toInt) (hm : qMin (qCd us ho nr i) nr x 3100) (hx : 0 ≤ x.toInt) (hw : co x.toNatClampNeg ≠ 0) : qG5 co gr us nr ga gm aa (nr x.toNatClampNeg) T := by
  obtain ⟨b, hb, o, hz⟩ := h
  rcases hz with w | w
  · omega
  · have y := G5_y hR hI o h0 w.2.1 hm hx
    refine ⟨b, hb, o, Or.inr ⟨by omega, y.2.1, ?_⟩⟩
    rw [← w.2.2, y.2.2.2, MQ_sk hb (Or.inr y.1) (Or.inr hw)]
theorem G5_end (h : qG5 co gr us nr ga gm aa i T) (h0 : i.toInt = -2) : qMQ co gr ga gm us nr T ∧ zOf aa T := by
  obtain ⟨b, hb, o, hz⟩ := h
  rcases hz with w | w
  · rw [← w.2]
    exact ⟨hb, o⟩
  · omega
/-! MARKING begins -/
theorem RB_87 (h : qRB us nr kr kd ws at₉ ho wd wi ow rt wk wl wm nu ro fo le ra pi a) : qRB us nr kr kd ws at₉ ho wd wi ow rt wk wl wm nu ro fo le ra pi (ma_u a 87 8 x) := by
  have e : ∀ c, c ≠ 87 → ma_u a 87 8 x c = a c := fun c hc => ma_u_ne _ _ _ hc
  have e2 : ∀ k, k ≠ 8 → ma_u a 87 8 x 87 k = a 87 k := fun k hk => xu_o (fun z => hk z.2)
  have er : ∀ n i, aRef (ma_u a 87 8 x) n i = aRef a n i := fun n i => by
    unfold aRef
    rw [e (1000 + n) (by omega), e 130 (by decide), e 71 (by decide)]
  refine ⟨?_, ?_, ?_, ?_, ?_, ?_, h.2.2.2.2.2.2.1, ?_⟩
  · have q := h.1
    unfold qR1 at q ⊢
    rw [e 126 (by decide), e 128 (by decide), e 130 (by decide), e 133 (by decide)]
    exact q
  · intro s hs hu i hi
    rw [er, e (1000 + (nr s).toNatClampNeg) (by omega)]
    exact h.2.1 s hs hu i hi
  · have q := h.2.2.1
    unfold qR3 at q ⊢
    rw [e 72 (by decide)]
    exact q
  · have q := h.2.2.2.1
    unfold qR3 at q ⊢
    rw [e 73 (by decide)]
    exact q
  · have q := h.2.2.2.2.1
    unfold qR5 at q ⊢
    rw [e 69 (by decide), e 74 (by decide)]
    exact q
  · have q := h.2.2.2.2.2.1
    unfold qR6 at q ⊢
    rw [e 134 (by decide)]
    exact q
  · have q := h.2.2.2.2.2.2.2
    unfold qR8 at q ⊢
    rw [e 69 (by decide), e2 0 (by decide), e2 1 (by decide), e2 2 (by decide), e2 6 (by decide), e2 7 (by decide)]
    exact q
theorem Su_cg (h1 : a 126 = b 126) (h2 : a 128 = b 128) : ∀ n, qSu a n = qSu b n := by
  intro n
  induction n with
  | zero => rfl
  | succ n ih =>
    unfold qSu
    rw [ih, h1, h2]
theorem I_87 (h : qI a) : qI (ma_u a 87 8 x) := by
  have e : ∀ c, c ≠ 87 → ma_u a 87 8 x c = a c := fun c hc => ma_u_ne _ _ _ hc
  have e2 : ∀ k, k ≠ 8 → ma_u a 87 8 x 87 k = a 87 k := fun k hk => xu_o (fun z => hk z.2)
  have al : xAl (ma_u a 87 8 x) = xAl a := by
    funext n
    unfold xAl
    rw [e 126 (by decide)]
  have su := Su_cg (a := ma_u a 87 8 x) (b := a) (e 126 (by decide)) (e 128 (by decide)) 512
  have e8 : qI6 (ma_u a 87 8 x) := fun n hn k => by
    rw [e (1000 + n) (by omega)]
    exact h.2.2.2.2.2 n (by rw [← al]; exact hn) k
  unfold qI qI1 qI2 qI3 qI4 qGd at h ⊢
  rw [al, su, e 69 (by decide), e 128 (by decide), e 130 (by decide), e 71 (by decide), e2 0 (by decide), e2 2 (by decide), e2 6 (by decide)]
  exact ⟨h.1, h.2.1, h.2.2.1, h.2.2.2.1, h.2.2.2.2.1, e8⟩
theorem B0_of : zOf (ma_u a 87 8 1) (aB0 a) := fun c k h1 h2 h3 => by
  unfold aB0
  rw [aRo_o ⟨h1, h2, h3⟩]
  show _ = (if c = 75 ∧ k = 5 then _ else if c = 75 ∧ k = 4 then _ else if c = 75 ∧ k = 3 then _ else if c = 77 ∧ _ then _ else ma_u a 87 8 1 c k)
  rw [if_neg (fun w => h1 w.1), if_neg (fun w => h1 w.1), if_neg (fun w => h1 w.1), if_neg (fun w => h3 w.1)]
theorem Wh_of : zOf a (aWh a 0) := fun c k h1 h2 h3 => by
  show _ = (if c = 75 ∧ k = 5 then _ else if c = 75 ∧ k = 4 then _ else if c = 75 ∧ k = 3 then _ else if c = 77 ∧ _ then _ else a c k)
  rw [if_neg (fun w => h1 w.1), if_neg (fun w => h1 w.1), if_neg (fun w => h1 w.1), if_neg (fun w => h3 w.1)]
theorem MQ_wh (hI : qI a) (h1 : qR1 us nr ws at₉ ho a) (hc : ∀ s, s < 3100 → co s = 0) (hg : ga = 0) (hm : gm = 0) : qMQ co gr ga gm us nr (aWh a 0) := by
  have w := WQ_wh (a := a) (fun x hx => (hI.1 x hx).1.2)
  refine ⟨?_, ?_, fun s hs hu => ?_, fun j j1 j2 => ?_, w.1⟩
  · rw [hg]
    unfold aWh
    rw [xu_o (by omega), xu_o (by omega), xu_s]
  · rw [hm]
    unfold aWh
    rw [xu_o (by omega), xu_s]
  · have al := R1_al h1 hs hu
    rw [hc s hs]
    by_cases z : aWh a 0 77 (nr s).toNatClampNeg = 0
    · exact z.symm
    · exact absurd ⟨al.1, z⟩ (w.2.2 _)
  · rw [hm] at j2
    rw [hg] at j1
    have : (0 : Int32).toInt = 0 := rfl
    omega
end QM

/-! from 95.h07 -/
/-! the reference by numbers (written by wip/tools/gen18r.py) -/
theorem lp_220r_62 {X : Nat × (Nat → Int32)} {P : Option ma_V → (Nat → Nat → Int32) → Prop} {aa : Nat→Nat→Int32} {m0 : Nat → Nat → Int32} (h0 : zV m0) (K : ∀ m₉, zF wr_220 m0 m₉ → zV m₉ → (zG1 (m₉ 94 56) (m₉ 94 57) (m₉ 106)) → ((m0 94 56).toInt ≤ (m₉ 94 56).toInt) → (qRB (m₉ 99) (m₉ 100) (m₉ 98) (m₉ 101) (m₉ 102) (m₉ 103) (m₉ 107) (m₉ 108) (m₉ 109) (m₉ 111) (m₉ 112) (m₉ 113) (m₉ 114) (m₉ 94 55) (m₉ 94 46) (m₉ 94 11) (m₉ 94 12) (m₉ 94 62) (m₉ 94 17) (m₉ 94 9) (aRo aa 0)) → (qI (aRo aa 0)) → (qMQ (m₉ 106) (m₉ 115) (m₉ 94 57) (m₉ 94 56) (m₉ 99) (m₉ 100) (aRo aa 0)) → P none m₉) {n52 : Nat} (OUT52 : ∀ (m₉ : Nat → Nat → Int32) (l1 : Int32), (100002 - (l1.toInt + 1) % 100003).toNat < n52 → zF wr_220 m0 m₉ → zV m₉ → (-2 ≤ l1.toInt) → (l1.toInt ≤ 100000) → (zG1 (m₉ 94 56) (m₉ 94 57) (m₉ 106)) → ((m0 94 56).toInt ≤ (m₉ 94 56).toInt) → (qRB (m₉ 99) (m₉ 100) (m₉ 98) (m₉ 101) (m₉ 102) (m₉ 103) (m₉ 107) (m₉ 108) (m₉ 109) (m₉ 111) (m₉ 112) (m₉ 113) (m₉ 114) (m₉ 94 55) (m₉ 94 46) (m₉ 94 11) (m₉ 94 12) (m₉ 94 62) (m₉ 94 17) (m₉ 94 9) aa) → (qI aa) → (qG5 (m₉ 106) (m₉ 115) (m₉ 99) (m₉ 100) (m₉ 94 57) (m₉ 94 56) aa l1 (aRo aa 0)) → zm X 1 21 220 52 [(0, .inr (.inr (some 94))), (1, .inl l1)] m₉ P) : ∀ (n : Nat) (m : Nat → Nat → Int32) (l1 : Int32) (l2 : Int32) (l3 : Int32), (3100 - l3.toInt).toNat = n → zF wr_220 m0 m → zV m → (-1 ≤ l1.toInt) → (l1.toInt ≤ 100000) → (0 ≤ l3.toInt) → (l3.toInt ≤ 3100) → (-1 ≤ l2.toInt) → (l2.toInt ≤ 3099) → ((100002 - (l1.toInt + 1) % 100003).toNat = n52) → (l2.toInt < 0 ∨ l1.toInt < ((m 100) l2.toNatClampNeg).toInt) → (zG1 (m 94 56) (m 94 57) (m 106)) → ((m0 94 56).toInt ≤ (m 94 56).toInt) → (qRB (m 99) (m 100) (m 98) (m 101) (m 102) (m 103) (m 107) (m 108) (m 109) (m 111) (m 112) (m 113) (m 114) (m 94 55) (m 94 46) (m 94 11) (m 94 12) (m 94 62) (m 94 17) (m 94 9) aa) → (qI aa) → (qG5 (m 106) (m 115) (m 99) (m 100) (m 94 57) (m 94 56) aa l1 (aRo aa 0)) → (qMin (qCd (m 99) (m 107) (m 100) l1) (m 100) l2 l3.toInt) → zm X 1 21 220 62 [(0, .inr (.inr (some 94))), (1, .inl l1), (2, .inl l2), (3, .inl l3)] m P := by
  intro n
  induction n using Nat.strongRecOn with
  | _ n IH =>
    intro m l1 l2 l3 hmu hF hV hi0 hi1 hi2 hi3 hi4 hi5 hi6 r_NB r_G1 hi9 r_RB r_QI r_G5 r_MN
    refine g_220_62 l1 l2 l3 ?_
    have f1 : 0 ≤ (m0 94 56).toInt ∧ (m0 94 56).toInt ≤ 3100 := rs_94_56 (m := m0) h0
    have f2 : 0 ≤ (m 94 56).toInt ∧ (m 94 56).toInt ≤ 3100 := rs_94_56 (m := m) hV
    have li3 : (3100 : Int32).toInt = 3100 := rfl
    have b4 := i_bd l3
    refine zd (fun (h5 : (3100 : Int32) ≤ l3) => ?_) (fun (h5 : ¬ (3100 : Int32) ≤ l3) => ?_)
    · skip
      have g6 := i_le h5
      have li7 : (0 : Int32).toInt = 0 := rfl
      have b8 := i_bd l2
      refine zd (fun (h9 : (0 : Int32) ≤ l2) => ?_) (fun (h9 : ¬ (0 : Int32) ≤ l2) => ?_)
      · skip
        have g10 := i_le h9
        refine zd (fun (h11 : l2 < (0 : Int32)) => ?_) (fun (h11 : ¬ l2 < (0 : Int32)) => ?_)
        · skip
          have g12 := i_lt h11
          have hg13 : (0 ≤ l2 ∧ l2.toNatClampNeg < 3100) := i_ix (by omega) (by omega)
          refine ⟨hg13, ?_⟩
          try have nb := r_NB
          first | have f14 : 0 ≤ (m 100 l2.toNatClampNeg).toInt ∧ (m 100 l2.toNatClampNeg).toInt ≤ 100000 := ra_100 (m := m) hV (k := l2.toNatClampNeg) (i_ix (n := 3100) (by omega) (by omega)).2 | have b15 := i_bd (m 100 l2.toNatClampNeg)
          exact OUT52 _ ((m 100 l2.toNatClampNeg)) (show (100002 - ((m 100 l2.toNatClampNeg).toInt + 1) % 100003).toNat < n52 from by omega) hF hV (by omega) (by omega) r_G1 (show (m0 94 56).toInt ≤ (m 94 56).toInt from by omega) r_RB r_QI (show qG5 (m 106) (m 115) (m 99) (m 100) (m 94 57) (m 94 56) aa (m 100 l2.toNatClampNeg) (aRo aa 0) from by first | (exact r_G5) | (exact G5_none r_G5 r_RB r_QI (by omega) (show qMin _ _ _ 3100 from (show l3.toInt = 3100 from by omega) ▸ r_MN) (by omega)) | (exact G5_skip r_G5 r_RB r_QI (by omega) (show qMin _ _ _ 3100 from (show l3.toInt = 3100 from by omega) ▸ r_MN) (by omega) (by assumption)) | (exfalso; omega; done) | (exfalso; contradiction; done))
        · skip
          have g16 := i_nlt h11
          have hg17 : (0 ≤ l2 ∧ l2.toNatClampNeg < 3100) := i_ix (by omega) (by omega)
          refine ⟨hg17, ?_⟩
          have b18 := i_bd (m 106 l2.toNatClampNeg)
          refine zd (fun (h19 : (m 106 l2.toNatClampNeg) = (0 : Int32)) => ?_) (fun (h19 : ¬ (m 106 l2.toNatClampNeg) = (0 : Int32)) => ?_)
          · skip
            have g20 := i_eq h19
            have hg21 : (0 ≤ l2 ∧ l2.toNatClampNeg < 3100) := i_ix (by omega) (by omega)
            refine ⟨hg21, ?_⟩
            try have gk := G1_room r_G1 (by assumption) (by omega)
            have hg22 : (0 ≤ (m 94 56) ∧ (m 94 56).toNatClampNeg < 3100) := i_ix (by omega) (by omega)
            refine ⟨hg22, ?_⟩
            have hg23 : (0 ≤ l2 ∧ l2.toNatClampNeg < 3100) := i_ix (by omega) (by omega)
            refine ⟨hg23, ?_⟩
            try have nb := r_NB
            have hV24 : zV (ma_u m 106 l2.toNatClampNeg (1 : Int32)) := ua_106 hV
            have hV25 : zV (ma_u (ma_u m 106 l2.toNatClampNeg (1 : Int32)) 115 (m 94 56).toNatClampNeg l2) := ua_115 hV24 (by omega) (by omega)
            first | have e27 : ((m 94 56) + (1 : Int32)).toInt = (m 94 56).toInt + (1) := i_addk rfl (by omega) (by omega) | have b28 := i_bd ((m 94 56) + (1 : Int32))
            have hV26 : zV (ma_u (ma_u (ma_u m 106 l2.toNatClampNeg (1 : Int32)) 115 (m 94 56).toNatClampNeg l2) 94 56 ((m 94 56) + (1 : Int32))) := us_94_56 hV25 (by omega) (by omega)
            first | have f29 : 0 ≤ (m 100 l2.toNatClampNeg).toInt ∧ (m 100 l2.toNatClampNeg).toInt ≤ 100000 := ra_100 (m := m) hV (k := l2.toNatClampNeg) (i_ix (n := 3100) (by omega) (by omega)).2 | have b30 := i_bd (m 100 l2.toNatClampNeg)
            exact OUT52 _ ((m 100 l2.toNatClampNeg)) (show (100002 - ((m 100 l2.toNatClampNeg).toInt + 1) % 100003).toNat < n52 from by omega) (zF_u (zF_u (zF_u hF rfl) rfl) rfl) hV26 (by omega) (by omega) (show zG1 ((m 94 56) + (1 : Int32)) (m 94 57) ((ma_u m 106 l2.toNatClampNeg (1 : Int32)) 106) from by first | (exact G1_push r_G1 (by assumption) (by omega) (by decide) (by assumption)) | (exact G1_dark0 r_G1 (by decide)) | (exfalso; omega; done) | (exfalso; contradiction; done)) (show (m0 94 56).toInt ≤ ((m 94 56) + (1 : Int32)).toInt from by omega) r_RB r_QI (show qG5 ((ma_u m 106 l2.toNatClampNeg (1 : Int32)) 106) ((ma_u m 115 (m 94 56).toNatClampNeg l2) 115) (m 99) (m 100) (m 94 57) ((m 94 56) + (1 : Int32)) aa (m 100 l2.toNatClampNeg) (aRo aa 0) from by first | (exact G5_push r_G5 r_RB r_QI (by omega) (show qMin _ _ _ 3100 from (show l3.toInt = 3100 from by omega) ▸ r_MN) (by omega) (by assumption)) | (exfalso; omega; done) | (exfalso; contradiction; done))
          · skip
            have g31 := i_ne h19
            have hg32 : (0 ≤ l2 ∧ l2.toNatClampNeg < 3100) := i_ix (by omega) (by omega)
            refine ⟨hg32, ?_⟩
            try have nb := r_NB
            first | have f33 : 0 ≤ (m 100 l2.toNatClampNeg).toInt ∧ (m 100 l2.toNatClampNeg).toInt ≤ 100000 := ra_100 (m := m) hV (k := l2.toNatClampNeg) (i_ix (n := 3100) (by omega) (by omega)).2 | have b34 := i_bd (m 100 l2.toNatClampNeg)
            exact OUT52 _ ((m 100 l2.toNatClampNeg)) (show (100002 - ((m 100 l2.toNatClampNeg).toInt + 1) % 100003).toNat < n52 from by omega) hF hV (by omega) (by omega) r_G1 (show (m0 94 56).toInt ≤ (m 94 56).toInt from by omega) r_RB r_QI (show qG5 (m 106) (m 115) (m 99) (m 100) (m 94 57) (m 94 56) aa (m 100 l2.toNatClampNeg) (aRo aa 0) from by first | (exact r_G5) | (exact G5_none r_G5 r_RB r_QI (by omega) (show qMin _ _ _ 3100 from (show l3.toInt = 3100 from by omega) ▸ r_MN) (by omega)) | (exact G5_skip r_G5 r_RB r_QI (by omega) (show qMin _ _ _ 3100 from (show l3.toInt = 3100 from by omega) ▸ r_MN) (by omega) (by assumption)) | (exfalso; omega; done) | (exfalso; contradiction; done))
      · skip
        have g35 := i_nle h9
        try have nb := r_NB
        have li36 : (-2 : Int32).toInt = -2 := rfl
        exact OUT52 _ ((-2 : Int32)) (show (100002 - ((-2 : Int32).toInt + 1) % 100003).toNat < n52 from by omega) hF hV (by omega) (by omega) r_G1 (show (m0 94 56).toInt ≤ (m 94 56).toInt from by omega) r_RB r_QI (show qG5 (m 106) (m 115) (m 99) (m 100) (m 94 57) (m 94 56) aa (-2 : Int32) (aRo aa 0) from by first | (exact r_G5) | (exact G5_none r_G5 r_RB r_QI (by omega) (show qMin _ _ _ 3100 from (show l3.toInt = 3100 from by omega) ▸ r_MN) (by omega)) | (exact G5_skip r_G5 r_RB r_QI (by omega) (show qMin _ _ _ 3100 from (show l3.toInt = 3100 from by omega) ▸ r_MN) (by omega) (by assumption)) | (exfalso; omega; done) | (exfalso; contradiction; done))
    · skip
      have g37 := i_nle h5
      have hg38 : (0 ≤ l3 ∧ l3.toNatClampNeg < 3100) := i_ix (by omega) (by omega)
      refine ⟨hg38, ?_⟩
      first | have f39 : 0 ≤ (m 99 l3.toNatClampNeg).toInt ∧ (m 99 l3.toNatClampNeg).toInt ≤ 1 := ra_99 (m := m) hV (k := l3.toNatClampNeg) (i_ix (n := 3100) (by omega) (by omega)).2 | have b40 := i_bd (m 99 l3.toNatClampNeg)
      have li41 : (0 : Int32).toInt = 0 := rfl
      refine zd (fun (h42 : (m 99 l3.toNatClampNeg) = (0 : Int32)) => ?_) (fun (h42 : ¬ (m 99 l3.toNatClampNeg) = (0 : Int32)) => ?_)
      · skip
        have g43 := i_eq h42
        try have nb := r_NB
        have b44 := i_bd l1
        have b45 := i_bd l2
        first | have e46 : (l3 + (1 : Int32)).toInt = l3.toInt + (1) := i_addk rfl (by omega) (by omega) | have b47 := i_bd (l3 + (1 : Int32))
        exact IH (3100 - (l3 + (1 : Int32)).toInt).toNat (by omega) _ (l1) (l2) ((l3 + (1 : Int32))) rfl hF hV (by omega) (by omega) (by omega) (by omega) (by omega) (by omega) (show (100002 - (l1.toInt + 1) % 100003).toNat = n52 from by omega) r_NB r_G1 (show (m0 94 56).toInt ≤ (m 94 56).toInt from by omega) r_RB r_QI r_G5 (show qMin (qCd (m 99) (m 107) (m 100) l1) (m 100) l2 (l3 + (1 : Int32)).toInt from by first | (exact Min_0 (by decide) (by decide)) | (exact Min_new r_MN (by omega) (by omega) (by omega) ⟨by assumption, by omega, by omega⟩ (Or.inl (by omega))) | (exact Min_new r_MN (by omega) (by omega) (by omega) ⟨by assumption, by omega, by omega⟩ (Or.inr (by omega))) | (exact Min_keep r_MN (by omega) (by omega) (by omega) (by omega)) | (exact Min_skip r_MN (by omega) (by omega) (fun z => z.1 (by assumption))) | (exact Min_skip r_MN (by omega) (by omega) (fun z => by have z1 := z.2.1; have z2 := z.2.2; omega)) | (exfalso; omega; done) | (exfalso; contradiction; done))
      · skip
        have g48 := i_ne h42
        have hg49 : (0 ≤ l3 ∧ l3.toNatClampNeg < 3100) := i_ix (by omega) (by omega)
        refine ⟨hg49, ?_⟩
        have b50 := i_bd (m 107 l3.toNatClampNeg)
        refine zd (fun (h51 : (m 107 l3.toNatClampNeg) ≤ (0 : Int32)) => ?_) (fun (h51 : ¬ (m 107 l3.toNatClampNeg) ≤ (0 : Int32)) => ?_)
        · skip
          have g52 := i_le h51
          try have nb := r_NB
          have b53 := i_bd l1
          have b54 := i_bd l2
          first | have e55 : (l3 + (1 : Int32)).toInt = l3.toInt + (1) := i_addk rfl (by omega) (by omega) | have b56 := i_bd (l3 + (1 : Int32))
          exact IH (3100 - (l3 + (1 : Int32)).toInt).toNat (by omega) _ (l1) (l2) ((l3 + (1 : Int32))) rfl hF hV (by omega) (by omega) (by omega) (by omega) (by omega) (by omega) (show (100002 - (l1.toInt + 1) % 100003).toNat = n52 from by omega) r_NB r_G1 (show (m0 94 56).toInt ≤ (m 94 56).toInt from by omega) r_RB r_QI r_G5 (show qMin (qCd (m 99) (m 107) (m 100) l1) (m 100) l2 (l3 + (1 : Int32)).toInt from by first | (exact Min_0 (by decide) (by decide)) | (exact Min_new r_MN (by omega) (by omega) (by omega) ⟨by assumption, by omega, by omega⟩ (Or.inl (by omega))) | (exact Min_new r_MN (by omega) (by omega) (by omega) ⟨by assumption, by omega, by omega⟩ (Or.inr (by omega))) | (exact Min_keep r_MN (by omega) (by omega) (by omega) (by omega)) | (exact Min_skip r_MN (by omega) (by omega) (fun z => z.1 (by assumption))) | (exact Min_skip r_MN (by omega) (by omega) (fun z => by have z1 := z.2.1; have z2 := z.2.2; omega)) | (exfalso; omega; done) | (exfalso; contradiction; done))
        · skip
          have g57 := i_nle h51
          have hg58 : (0 ≤ l3 ∧ l3.toNatClampNeg < 3100) := i_ix (by omega) (by omega)
          refine ⟨hg58, ?_⟩
          first | have f59 : 0 ≤ (m 100 l3.toNatClampNeg).toInt ∧ (m 100 l3.toNatClampNeg).toInt ≤ 100000 := ra_100 (m := m) hV (k := l3.toNatClampNeg) (i_ix (n := 3100) (by omega) (by omega)).2 | have b60 := i_bd (m 100 l3.toNatClampNeg)
          have b61 := i_bd l1
          refine zd (fun (h62 : (m 100 l3.toNatClampNeg) ≤ l1) => ?_) (fun (h62 : ¬ (m 100 l3.toNatClampNeg) ≤ l1) => ?_)
          · skip
            have g63 := i_le h62
            try have nb := r_NB
            have b64 := i_bd l2
            first | have e65 : (l3 + (1 : Int32)).toInt = l3.toInt + (1) := i_addk rfl (by omega) (by omega) | have b66 := i_bd (l3 + (1 : Int32))
            exact IH (3100 - (l3 + (1 : Int32)).toInt).toNat (by omega) _ (l1) (l2) ((l3 + (1 : Int32))) rfl hF hV (by omega) (by omega) (by omega) (by omega) (by omega) (by omega) (show (100002 - (l1.toInt + 1) % 100003).toNat = n52 from by omega) r_NB r_G1 (show (m0 94 56).toInt ≤ (m 94 56).toInt from by omega) r_RB r_QI r_G5 (show qMin (qCd (m 99) (m 107) (m 100) l1) (m 100) l2 (l3 + (1 : Int32)).toInt from by first | (exact Min_0 (by decide) (by decide)) | (exact Min_new r_MN (by omega) (by omega) (by omega) ⟨by assumption, by omega, by omega⟩ (Or.inl (by omega))) | (exact Min_new r_MN (by omega) (by omega) (by omega) ⟨by assumption, by omega, by omega⟩ (Or.inr (by omega))) | (exact Min_keep r_MN (by omega) (by omega) (by omega) (by omega)) | (exact Min_skip r_MN (by omega) (by omega) (fun z => z.1 (by assumption))) | (exact Min_skip r_MN (by omega) (by omega) (fun z => by have z1 := z.2.1; have z2 := z.2.2; omega)) | (exfalso; omega; done) | (exfalso; contradiction; done))
          · skip
            have g67 := i_nle h62
            have b68 := i_bd l2
            refine zd (fun (h69 : l2 < (0 : Int32)) => ?_) (fun (h69 : ¬ l2 < (0 : Int32)) => ?_)
            · skip
              have g70 := i_lt h69
              try have nb := r_NB
              first | have e71 : (l3 + (1 : Int32)).toInt = l3.toInt + (1) := i_addk rfl (by omega) (by omega) | have b72 := i_bd (l3 + (1 : Int32))
              exact IH (3100 - (l3 + (1 : Int32)).toInt).toNat (by omega) _ (l1) (l3) ((l3 + (1 : Int32))) rfl hF hV (by omega) (by omega) (by omega) (by omega) (by omega) (by omega) (show (100002 - (l1.toInt + 1) % 100003).toNat = n52 from by omega) (show l3.toInt < 0 ∨ l1.toInt < ((m 100) l3.toNatClampNeg).toInt from by first | (exact Or.inl (by decide)) | (exact Or.inr (by omega)) | (exfalso; omega; done) | (exfalso; contradiction; done)) r_G1 (show (m0 94 56).toInt ≤ (m 94 56).toInt from by omega) r_RB r_QI r_G5 (show qMin (qCd (m 99) (m 107) (m 100) l1) (m 100) l3 (l3 + (1 : Int32)).toInt from by first | (exact Min_0 (by decide) (by decide)) | (exact Min_new r_MN (by omega) (by omega) (by omega) ⟨by assumption, by omega, by omega⟩ (Or.inl (by omega))) | (exact Min_new r_MN (by omega) (by omega) (by omega) ⟨by assumption, by omega, by omega⟩ (Or.inr (by omega))) | (exact Min_keep r_MN (by omega) (by omega) (by omega) (by omega)) | (exact Min_skip r_MN (by omega) (by omega) (fun z => z.1 (by assumption))) | (exact Min_skip r_MN (by omega) (by omega) (fun z => by have z1 := z.2.1; have z2 := z.2.2; omega)) | (exfalso; omega; done) | (exfalso; contradiction; done))
            · skip
              have g73 := i_nlt h69
              have hg74 : (0 ≤ l3 ∧ l3.toNatClampNeg < 3100) := i_ix (by omega) (by omega)
              refine ⟨hg74, ?_⟩
              have hg75 : (0 ≤ l2 ∧ l2.toNatClampNeg < 3100) := i_ix (by omega) (by omega)
              refine ⟨hg75, ?_⟩
              first | have f76 : 0 ≤ (m 100 l2.toNatClampNeg).toInt ∧ (m 100 l2.toNatClampNeg).toInt ≤ 100000 := ra_100 (m := m) hV (k := l2.toNatClampNeg) (i_ix (n := 3100) (by omega) (by omega)).2 | have b77 := i_bd (m 100 l2.toNatClampNeg)
              refine zd (fun (h78 : (m 100 l2.toNatClampNeg) ≤ (m 100 l3.toNatClampNeg)) => ?_) (fun (h78 : ¬ (m 100 l2.toNatClampNeg) ≤ (m 100 l3.toNatClampNeg)) => ?_)
              · skip
                have g79 := i_le h78
                try have nb := r_NB
                first | have e80 : (l3 + (1 : Int32)).toInt = l3.toInt + (1) := i_addk rfl (by omega) (by omega) | have b81 := i_bd (l3 + (1 : Int32))
                exact IH (3100 - (l3 + (1 : Int32)).toInt).toNat (by omega) _ (l1) (l2) ((l3 + (1 : Int32))) rfl hF hV (by omega) (by omega) (by omega) (by omega) (by omega) (by omega) (show (100002 - (l1.toInt + 1) % 100003).toNat = n52 from by omega) r_NB r_G1 (show (m0 94 56).toInt ≤ (m 94 56).toInt from by omega) r_RB r_QI r_G5 (show qMin (qCd (m 99) (m 107) (m 100) l1) (m 100) l2 (l3 + (1 : Int32)).toInt from by first | (exact Min_0 (by decide) (by decide)) | (exact Min_new r_MN (by omega) (by omega) (by omega) ⟨by assumption, by omega, by omega⟩ (Or.inl (by omega))) | (exact Min_new r_MN (by omega) (by omega) (by omega) ⟨by assumption, by omega, by omega⟩ (Or.inr (by omega))) | (exact Min_keep r_MN (by omega) (by omega) (by omega) (by omega)) | (exact Min_skip r_MN (by omega) (by omega) (fun z => z.1 (by assumption))) | (exact Min_skip r_MN (by omega) (by omega) (fun z => by have z1 := z.2.1; have z2 := z.2.2; omega)) | (exfalso; omega; done) | (exfalso; contradiction; done))
              · skip
                have g82 := i_nle h78
                try have nb := r_NB
                first | have e83 : (l3 + (1 : Int32)).toInt = l3.toInt + (1) := i_addk rfl (by omega) (by omega) | have b84 := i_bd (l3 + (1 : Int32))
                exact IH (3100 - (l3 + (1 : Int32)).toInt).toNat (by omega) _ (l1) (l3) ((l3 + (1 : Int32))) rfl hF hV (by omega) (by omega) (by omega) (by omega) (by omega) (by omega) (show (100002 - (l1.toInt + 1) % 100003).toNat = n52 from by omega) (show l3.toInt < 0 ∨ l1.toInt < ((m 100) l3.toNatClampNeg).toInt from by first | (exact Or.inl (by decide)) | (exact Or.inr (by omega)) | (exfalso; omega; done) | (exfalso; contradiction; done)) r_G1 (show (m0 94 56).toInt ≤ (m 94 56).toInt from by omega) r_RB r_QI r_G5 (show qMin (qCd (m 99) (m 107) (m 100) l1) (m 100) l3 (l3 + (1 : Int32)).toInt from by first | (exact Min_0 (by decide) (by decide)) | (exact Min_new r_MN (by omega) (by omega) (by omega) ⟨by assumption, by omega, by omega⟩ (Or.inl (by omega))) | (exact Min_new r_MN (by omega) (by omega) (by omega) ⟨by assumption, by omega, by omega⟩ (Or.inr (by omega))) | (exact Min_keep r_MN (by omega) (by omega) (by omega) (by omega)) | (exact Min_skip r_MN (by omega) (by omega) (fun z => z.1 (by assumption))) | (exact Min_skip r_MN (by omega) (by omega) (fun z => by have z1 := z.2.1; have z2 := z.2.2; omega)) | (exfalso; omega; done) | (exfalso; contradiction; done))
theorem lp_220r_52 {X : Nat × (Nat → Int32)} {P : Option ma_V → (Nat → Nat → Int32) → Prop} {aa : Nat→Nat→Int32} {m0 : Nat → Nat → Int32} (h0 : zV m0) (K : ∀ m₉, zF wr_220 m0 m₉ → zV m₉ → (zG1 (m₉ 94 56) (m₉ 94 57) (m₉ 106)) → ((m0 94 56).toInt ≤ (m₉ 94 56).toInt) → (qRB (m₉ 99) (m₉ 100) (m₉ 98) (m₉ 101) (m₉ 102) (m₉ 103) (m₉ 107) (m₉ 108) (m₉ 109) (m₉ 111) (m₉ 112) (m₉ 113) (m₉ 114) (m₉ 94 55) (m₉ 94 46) (m₉ 94 11) (m₉ 94 12) (m₉ 94 62) (m₉ 94 17) (m₉ 94 9) (aRo aa 0)) → (qI (aRo aa 0)) → (qMQ (m₉ 106) (m₉ 115) (m₉ 94 57) (m₉ 94 56) (m₉ 99) (m₉ 100) (aRo aa 0)) → P none m₉) : ∀ (n : Nat) (m : Nat → Nat → Int32) (l1 : Int32), (100002 - (l1.toInt + 1) % 100003).toNat = n → zF wr_220 m0 m → zV m → (-2 ≤ l1.toInt) → (l1.toInt ≤ 100000) → (zG1 (m 94 56) (m 94 57) (m 106)) → ((m0 94 56).toInt ≤ (m 94 56).toInt) → (qRB (m 99) (m 100) (m 98) (m 101) (m 102) (m 103) (m 107) (m 108) (m 109) (m 111) (m 112) (m 113) (m 114) (m 94 55) (m 94 46) (m 94 11) (m 94 12) (m 94 62) (m 94 17) (m 94 9) aa) → (qI aa) → (qG5 (m 106) (m 115) (m 99) (m 100) (m 94 57) (m 94 56) aa l1 (aRo aa 0)) → zm X 1 21 220 52 [(0, .inr (.inr (some 94))), (1, .inl l1)] m P := by
  intro n
  induction n using Nat.strongRecOn with
  | _ n IH =>
    intro m l1 hmu hF hV hi0 hi1 r_G1 hi3 r_RB r_QI r_G5
    refine g_220_52 l1 ?_
    have f1 : 0 ≤ (m0 94 56).toInt ∧ (m0 94 56).toInt ≤ 3100 := rs_94_56 (m := m0) h0
    have f2 : 0 ≤ (m 94 56).toInt ∧ (m 94 56).toInt ≤ 3100 := rs_94_56 (m := m) hV
    have b3 := i_bd l1
    have li4 : (-2 : Int32).toInt = -2 := rfl
    refine zd (fun (h5 : l1 = (-2 : Int32)) => ?_) (fun (h5 : ¬ l1 = (-2 : Int32)) => ?_)
    · skip
      have g6 := i_eq h5
      exact K _ hF hV r_G1 (show (m0 94 56).toInt ≤ (m 94 56).toInt from by omega) (show qRB (m 99) (m 100) (m 98) (m 101) (m 102) (m 103) (m 107) (m 108) (m 109) (m 111) (m 112) (m 113) (m 114) (m 94 55) (m 94 46) (m 94 11) (m 94 12) (m 94 62) (m 94 17) (m 94 9) (aRo aa 0) from by first | (exact RB_of r_RB (G5_end r_G5 (by omega)).2) | (exfalso; omega; done) | (exfalso; contradiction; done)) (show qI (aRo aa 0) from by first | (exact qI_of r_QI (G5_end r_G5 (by omega)).2) | (exfalso; omega; done) | (exfalso; contradiction; done)) (show qMQ (m 106) (m 115) (m 94 57) (m 94 56) (m 99) (m 100) (aRo aa 0) from by first | (exact (G5_end r_G5 (by omega)).1) | (exfalso; omega; done) | (exfalso; contradiction; done))
    · skip
      have g7 := i_ne h5
      have li8 : (-1 : Int32).toInt = -1 := rfl
      have li9 : (0 : Int32).toInt = 0 := rfl
      exact lp_220r_62 h0 K (fun _ _ z1 z2 z3 y0 y1 y2 y3 y4 y5 y6 => IH _ z1 _ _ rfl z2 z3 y0 y1 y2 y3 y4 y5 y6) _ _ (l1) ((-1 : Int32)) ((0 : Int32)) rfl hF hV (by omega) (by omega) (by omega) (by omega) (by omega) (by omega) (show (100002 - (l1.toInt + 1) % 100003).toNat = n from by omega) (show (-1 : Int32).toInt < 0 ∨ l1.toInt < ((m 100) (-1 : Int32).toNatClampNeg).toInt from by first | (exact Or.inl (by decide)) | (exact Or.inr (by omega)) | (exfalso; omega; done) | (exfalso; contradiction; done)) r_G1 (show (m0 94 56).toInt ≤ (m 94 56).toInt from by omega) r_RB r_QI r_G5 (show qMin (qCd (m 99) (m 107) (m 100) l1) (m 100) (-1 : Int32) (0 : Int32).toInt from by first | (exact Min_0 (by decide) (by decide)) | (exfalso; omega; done) | (exfalso; contradiction; done))
theorem lp_220r_26 {X : Nat × (Nat → Int32)} {P : Option ma_V → (Nat → Nat → Int32) → Prop} {aa : Nat→Nat→Int32} {m0 : Nat → Nat → Int32} (h0 : zV m0) (K : ∀ m₉, zF wr_220 m0 m₉ → zV m₉ → (zG1 (m₉ 94 56) (m₉ 94 57) (m₉ 106)) → ((m0 94 56).toInt ≤ (m₉ 94 56).toInt) → (qRB (m₉ 99) (m₉ 100) (m₉ 98) (m₉ 101) (m₉ 102) (m₉ 103) (m₉ 107) (m₉ 108) (m₉ 109) (m₉ 111) (m₉ 112) (m₉ 113) (m₉ 114) (m₉ 94 55) (m₉ 94 46) (m₉ 94 11) (m₉ 94 12) (m₉ 94 62) (m₉ 94 17) (m₉ 94 9) (aRo aa 0)) → (qI (aRo aa 0)) → (qMQ (m₉ 106) (m₉ 115) (m₉ 94 57) (m₉ 94 56) (m₉ 99) (m₉ 100) (aRo aa 0)) → P none m₉) : ∀ (n : Nat) (m : Nat → Nat → Int32) (l1 : Int32), (3100 - l1.toInt).toNat = n → zF wr_220 m0 m → zV m → (0 ≤ l1.toInt) → (zG1 (m 94 56) (m 94 57) (m 106)) → ((m0 94 56).toInt ≤ (m 94 56).toInt) → (qRB (m 99) (m 100) (m 98) (m 101) (m 102) (m 103) (m 107) (m 108) (m 109) (m 111) (m 112) (m 113) (m 114) (m 94 55) (m 94 46) (m 94 11) (m 94 12) (m 94 62) (m 94 17) (m 94 9) aa) → (qI aa) → (qG3 (m 106) (m 115) (m 99) (m 100) (m 94 57) (m 94 56) aa l1 (aRo aa 0)) → zm X 1 21 220 26 [(0, .inr (.inr (some 94))), (1, .inl l1)] m P := by
  intro n
  induction n using Nat.strongRecOn with
  | _ n IH =>
    intro m l1 hmu hF hV hi0 r_G1 hi2 r_RB r_QI r_G3
    refine g_220_26 l1 ?_
    have f1 : 0 ≤ (m0 94 56).toInt ∧ (m0 94 56).toInt ≤ 3100 := rs_94_56 (m := m0) h0
    have f2 : 0 ≤ (m 94 56).toInt ∧ (m 94 56).toInt ≤ 3100 := rs_94_56 (m := m) hV
    have f3 : 0 ≤ (m 94 55).toInt ∧ (m 94 55).toInt ≤ 3100 := rs_94_55 (m := m) hV
    have b4 := i_bd l1
    refine zd (fun (h5 : (m 94 55) ≤ l1) => ?_) (fun (h5 : ¬ (m 94 55) ≤ l1) => ?_)
    · skip
      have g6 := i_le h5
      have li7 : (-1 : Int32).toInt = -1 := rfl
      exact lp_220r_52 h0 K _ _ ((-1 : Int32)) rfl hF hV (by omega) (by omega) r_G1 (show (m0 94 56).toInt ≤ (m 94 56).toInt from by omega) r_RB r_QI (show qG5 (m 106) (m 115) (m 99) (m 100) (m 94 57) (m 94 56) aa (-1 : Int32) (aRo aa 0) from by first | (exact G3_end r_G3 r_RB r_QI (by omega)) | (exfalso; omega; done) | (exfalso; contradiction; done))
    · skip
      have g8 := i_nle h5
      have hg9 : (0 ≤ l1 ∧ l1.toNatClampNeg < 3100) := i_ix (by omega) (by omega)
      refine ⟨hg9, ?_⟩
      first | have f10 : 0 ≤ (m 114 l1.toNatClampNeg).toInt ∧ (m 114 l1.toNatClampNeg).toInt ≤ 3099 := ra_114 (m := m) hV (k := l1.toNatClampNeg) (i_ix (n := 3100) (by omega) (by omega)).2 | have b11 := i_bd (m 114 l1.toNatClampNeg)
      have li12 : (0 : Int32).toInt = 0 := rfl
      refine zd (fun (h13 : (m 114 l1.toNatClampNeg) < (0 : Int32)) => ?_) (fun (h13 : ¬ (m 114 l1.toNatClampNeg) < (0 : Int32)) => ?_)
      · skip
        have g14 := i_lt h13
        first | have e15 : (l1 + (1 : Int32)).toInt = l1.toInt + (1) := i_addk rfl (by omega) (by omega) | have b16 := i_bd (l1 + (1 : Int32))
        exact IH (3100 - (l1 + (1 : Int32)).toInt).toNat (by omega) _ ((l1 + (1 : Int32))) rfl hF hV (by omega) r_G1 (show (m0 94 56).toInt ≤ (m 94 56).toInt from by omega) r_RB r_QI (show qG3 (m 106) (m 115) (m 99) (m 100) (m 94 57) (m 94 56) aa (l1 + (1 : Int32)) (aRo aa 0) from by first | (exact G3_skip r_G3 r_RB (by omega) (by omega) rfl (Or.inl (by omega))) | (exact G3_skip r_G3 r_RB (by omega) (by omega) rfl (Or.inr (by assumption))) | (exfalso; omega; done) | (exfalso; contradiction; done))
      · skip
        have g17 := i_nlt h13
        have hg18 : (0 ≤ (m 114 l1.toNatClampNeg) ∧ (m 114 l1.toNatClampNeg).toNatClampNeg < 3100) := i_ix (by omega) (by omega)
        refine ⟨hg18, ?_⟩
        have b19 := i_bd (m 106 (m 114 l1.toNatClampNeg).toNatClampNeg)
        refine zd (fun (h20 : (m 106 (m 114 l1.toNatClampNeg).toNatClampNeg) = (0 : Int32)) => ?_) (fun (h20 : ¬ (m 106 (m 114 l1.toNatClampNeg).toNatClampNeg) = (0 : Int32)) => ?_)
        · skip
          have g21 := i_eq h20
          have hg22 : (0 ≤ (m 114 l1.toNatClampNeg) ∧ (m 114 l1.toNatClampNeg).toNatClampNeg < 3100) := i_ix (by omega) (by omega)
          refine ⟨hg22, ?_⟩
          try have gk := G1_room r_G1 (by assumption) (by omega)
          have hg23 : (0 ≤ (m 94 56) ∧ (m 94 56).toNatClampNeg < 3100) := i_ix (by omega) (by omega)
          refine ⟨hg23, ?_⟩
          have hV24 : zV (ma_u m 106 (m 114 l1.toNatClampNeg).toNatClampNeg (1 : Int32)) := ua_106 hV
          have hV25 : zV (ma_u (ma_u m 106 (m 114 l1.toNatClampNeg).toNatClampNeg (1 : Int32)) 115 (m 94 56).toNatClampNeg (m 114 l1.toNatClampNeg)) := ua_115 hV24 (by omega) (by omega)
          first | have e27 : ((m 94 56) + (1 : Int32)).toInt = (m 94 56).toInt + (1) := i_addk rfl (by omega) (by omega) | have b28 := i_bd ((m 94 56) + (1 : Int32))
          have hV26 : zV (ma_u (ma_u (ma_u m 106 (m 114 l1.toNatClampNeg).toNatClampNeg (1 : Int32)) 115 (m 94 56).toNatClampNeg (m 114 l1.toNatClampNeg)) 94 56 ((m 94 56) + (1 : Int32))) := us_94_56 hV25 (by omega) (by omega)
          first | have e29 : (l1 + (1 : Int32)).toInt = l1.toInt + (1) := i_addk rfl (by omega) (by omega) | have b30 := i_bd (l1 + (1 : Int32))
          exact IH (3100 - (l1 + (1 : Int32)).toInt).toNat (by omega) _ ((l1 + (1 : Int32))) rfl (zF_u (zF_u (zF_u hF rfl) rfl) rfl) hV26 (by omega) (show zG1 ((m 94 56) + (1 : Int32)) (m 94 57) ((ma_u m 106 (m 114 l1.toNatClampNeg).toNatClampNeg (1 : Int32)) 106) from by first | (exact G1_push r_G1 (by assumption) (by omega) (by decide) (by assumption)) | (exact G1_dark0 r_G1 (by decide)) | (exfalso; omega; done) | (exfalso; contradiction; done)) (show (m0 94 56).toInt ≤ ((m 94 56) + (1 : Int32)).toInt from by omega) r_RB r_QI (show qG3 ((ma_u m 106 (m 114 l1.toNatClampNeg).toNatClampNeg (1 : Int32)) 106) ((ma_u m 115 (m 94 56).toNatClampNeg (m 114 l1.toNatClampNeg)) 115) (m 99) (m 100) (m 94 57) ((m 94 56) + (1 : Int32)) aa (l1 + (1 : Int32)) (aRo aa 0) from by first | (exact G3_push r_G3 r_RB (by omega) (by omega) rfl (by assumption)) | (exfalso; omega; done) | (exfalso; contradiction; done))
        · skip
          have g31 := i_ne h20
          first | have e32 : (l1 + (1 : Int32)).toInt = l1.toInt + (1) := i_addk rfl (by omega) (by omega) | have b33 := i_bd (l1 + (1 : Int32))
          exact IH (3100 - (l1 + (1 : Int32)).toInt).toNat (by omega) _ ((l1 + (1 : Int32))) rfl hF hV (by omega) r_G1 (show (m0 94 56).toInt ≤ (m 94 56).toInt from by omega) r_RB r_QI (show qG3 (m 106) (m 115) (m 99) (m 100) (m 94 57) (m 94 56) aa (l1 + (1 : Int32)) (aRo aa 0) from by first | (exact G3_skip r_G3 r_RB (by omega) (by omega) rfl (Or.inl (by omega))) | (exact G3_skip r_G3 r_RB (by omega) (by omega) rfl (Or.inr (by assumption))) | (exfalso; omega; done) | (exfalso; contradiction; done))
theorem lp_220r_2 {X : Nat × (Nat → Int32)} {P : Option ma_V → (Nat → Nat → Int32) → Prop} {aa : Nat→Nat→Int32} {m0 : Nat → Nat → Int32} (h0 : zV m0) (K : ∀ m₉, zF wr_220 m0 m₉ → zV m₉ → (zG1 (m₉ 94 56) (m₉ 94 57) (m₉ 106)) → ((m0 94 56).toInt ≤ (m₉ 94 56).toInt) → (qRB (m₉ 99) (m₉ 100) (m₉ 98) (m₉ 101) (m₉ 102) (m₉ 103) (m₉ 107) (m₉ 108) (m₉ 109) (m₉ 111) (m₉ 112) (m₉ 113) (m₉ 114) (m₉ 94 55) (m₉ 94 46) (m₉ 94 11) (m₉ 94 12) (m₉ 94 62) (m₉ 94 17) (m₉ 94 9) (aRo aa 0)) → (qI (aRo aa 0)) → (qMQ (m₉ 106) (m₉ 115) (m₉ 94 57) (m₉ 94 56) (m₉ 99) (m₉ 100) (aRo aa 0)) → P none m₉) : ∀ (n : Nat) (m : Nat → Nat → Int32) (l1 : Int32), (16 - l1.toInt).toNat = n → zF wr_220 m0 m → zV m → (0 ≤ l1.toInt) → (zG1 (m 94 56) (m 94 57) (m 106)) → ((m0 94 56).toInt ≤ (m 94 56).toInt) → (qRB (m 99) (m 100) (m 98) (m 101) (m 102) (m 103) (m 107) (m 108) (m 109) (m 111) (m 112) (m 113) (m 114) (m 94 55) (m 94 46) (m 94 11) (m 94 12) (m 94 62) (m 94 17) (m 94 9) aa) → (qI aa) → (qG2 (m 106) (m 115) (m 99) (m 100) (m 94 57) (m 94 56) aa l1 (aRo aa 0)) → zm X 1 21 220 2 [(0, .inr (.inr (some 94))), (1, .inl l1)] m P := by
  intro n
  induction n using Nat.strongRecOn with
  | _ n IH =>
    intro m l1 hmu hF hV hi0 r_G1 hi2 r_RB r_QI r_G2
    refine g_220_2 l1 ?_
    have f1 : 0 ≤ (m0 94 56).toInt ∧ (m0 94 56).toInt ≤ 3100 := rs_94_56 (m := m0) h0
    have f2 : 0 ≤ (m 94 56).toInt ∧ (m 94 56).toInt ≤ 3100 := rs_94_56 (m := m) hV
    have li3 : (16 : Int32).toInt = 16 := rfl
    have b4 := i_bd l1
    refine zd (fun (h5 : (16 : Int32) ≤ l1) => ?_) (fun (h5 : ¬ (16 : Int32) ≤ l1) => ?_)
    · skip
      have g6 := i_le h5
      have li7 : (0 : Int32).toInt = 0 := rfl
      exact lp_220r_26 h0 K _ _ ((0 : Int32)) rfl hF hV (by omega) r_G1 (show (m0 94 56).toInt ≤ (m 94 56).toInt from by omega) r_RB r_QI (show qG3 (m 106) (m 115) (m 99) (m 100) (m 94 57) (m 94 56) aa (0 : Int32) (aRo aa 0) from by first | (exact G2_end r_G2 (by omega)) | (exfalso; omega; done) | (exfalso; contradiction; done))
    · skip
      have g8 := i_nle h5
      have hg9 : (0 ≤ l1 ∧ l1.toNatClampNeg < 16) := i_ix (by omega) (by omega)
      refine ⟨hg9, ?_⟩
      first | have f10 : -1 ≤ (m 112 l1.toNatClampNeg).toInt ∧ (m 112 l1.toNatClampNeg).toInt ≤ 3099 := ra_112 (m := m) hV (k := l1.toNatClampNeg) (i_ix (n := 16) (by omega) (by omega)).2 | have b11 := i_bd (m 112 l1.toNatClampNeg)
      have li12 : (0 : Int32).toInt = 0 := rfl
      refine zd (fun (h13 : (m 112 l1.toNatClampNeg) < (0 : Int32)) => ?_) (fun (h13 : ¬ (m 112 l1.toNatClampNeg) < (0 : Int32)) => ?_)
      · skip
        have g14 := i_lt h13
        first | have e15 : (l1 + (1 : Int32)).toInt = l1.toInt + (1) := i_addk rfl (by omega) (by omega) | have b16 := i_bd (l1 + (1 : Int32))
        exact IH (16 - (l1 + (1 : Int32)).toInt).toNat (by omega) _ ((l1 + (1 : Int32))) rfl hF hV (by omega) r_G1 (show (m0 94 56).toInt ≤ (m 94 56).toInt from by omega) r_RB r_QI (show qG2 (m 106) (m 115) (m 99) (m 100) (m 94 57) (m 94 56) aa (l1 + (1 : Int32)) (aRo aa 0) from by first | (exact G2_skip r_G2 r_RB (by omega) (by omega) rfl (Or.inl (by omega))) | (exact G2_skip r_G2 r_RB (by omega) (by omega) rfl (Or.inr (by assumption))) | (exfalso; omega; done) | (exfalso; contradiction; done))
      · skip
        have g17 := i_nlt h13
        have hg18 : (0 ≤ (m 112 l1.toNatClampNeg) ∧ (m 112 l1.toNatClampNeg).toNatClampNeg < 3100) := i_ix (by omega) (by omega)
        refine ⟨hg18, ?_⟩
        have b19 := i_bd (m 106 (m 112 l1.toNatClampNeg).toNatClampNeg)
        refine zd (fun (h20 : (m 106 (m 112 l1.toNatClampNeg).toNatClampNeg) = (0 : Int32)) => ?_) (fun (h20 : ¬ (m 106 (m 112 l1.toNatClampNeg).toNatClampNeg) = (0 : Int32)) => ?_)
        · skip
          have g21 := i_eq h20
          have hg22 : (0 ≤ (m 112 l1.toNatClampNeg) ∧ (m 112 l1.toNatClampNeg).toNatClampNeg < 3100) := i_ix (by omega) (by omega)
          refine ⟨hg22, ?_⟩
          try have gk := G1_room r_G1 (by assumption) (by omega)
          have hg23 : (0 ≤ (m 94 56) ∧ (m 94 56).toNatClampNeg < 3100) := i_ix (by omega) (by omega)
          refine ⟨hg23, ?_⟩
          have hV24 : zV (ma_u m 106 (m 112 l1.toNatClampNeg).toNatClampNeg (1 : Int32)) := ua_106 hV
          have hV25 : zV (ma_u (ma_u m 106 (m 112 l1.toNatClampNeg).toNatClampNeg (1 : Int32)) 115 (m 94 56).toNatClampNeg (m 112 l1.toNatClampNeg)) := ua_115 hV24 (by omega) (by omega)
          first | have e27 : ((m 94 56) + (1 : Int32)).toInt = (m 94 56).toInt + (1) := i_addk rfl (by omega) (by omega) | have b28 := i_bd ((m 94 56) + (1 : Int32))
          have hV26 : zV (ma_u (ma_u (ma_u m 106 (m 112 l1.toNatClampNeg).toNatClampNeg (1 : Int32)) 115 (m 94 56).toNatClampNeg (m 112 l1.toNatClampNeg)) 94 56 ((m 94 56) + (1 : Int32))) := us_94_56 hV25 (by omega) (by omega)
          first | have e29 : (l1 + (1 : Int32)).toInt = l1.toInt + (1) := i_addk rfl (by omega) (by omega) | have b30 := i_bd (l1 + (1 : Int32))
          exact IH (16 - (l1 + (1 : Int32)).toInt).toNat (by omega) _ ((l1 + (1 : Int32))) rfl (zF_u (zF_u (zF_u hF rfl) rfl) rfl) hV26 (by omega) (show zG1 ((m 94 56) + (1 : Int32)) (m 94 57) ((ma_u m 106 (m 112 l1.toNatClampNeg).toNatClampNeg (1 : Int32)) 106) from by first | (exact G1_push r_G1 (by assumption) (by omega) (by decide) (by assumption)) | (exact G1_dark0 r_G1 (by decide)) | (exfalso; omega; done) | (exfalso; contradiction; done)) (show (m0 94 56).toInt ≤ ((m 94 56) + (1 : Int32)).toInt from by omega) r_RB r_QI (show qG2 ((ma_u m 106 (m 112 l1.toNatClampNeg).toNatClampNeg (1 : Int32)) 106) ((ma_u m 115 (m 94 56).toNatClampNeg (m 112 l1.toNatClampNeg)) 115) (m 99) (m 100) (m 94 57) ((m 94 56) + (1 : Int32)) aa (l1 + (1 : Int32)) (aRo aa 0) from by first | (exact G2_push r_G2 r_RB (by omega) (by omega) rfl (by omega) (by assumption)) | (exfalso; omega; done) | (exfalso; contradiction; done))
        · skip
          have g31 := i_ne h20
          first | have e32 : (l1 + (1 : Int32)).toInt = l1.toInt + (1) := i_addk rfl (by omega) (by omega) | have b33 := i_bd (l1 + (1 : Int32))
          exact IH (16 - (l1 + (1 : Int32)).toInt).toNat (by omega) _ ((l1 + (1 : Int32))) rfl hF hV (by omega) r_G1 (show (m0 94 56).toInt ≤ (m 94 56).toInt from by omega) r_RB r_QI (show qG2 (m 106) (m 115) (m 99) (m 100) (m 94 57) (m 94 56) aa (l1 + (1 : Int32)) (aRo aa 0) from by first | (exact G2_skip r_G2 r_RB (by omega) (by omega) rfl (Or.inl (by omega))) | (exact G2_skip r_G2 r_RB (by omega) (by omega) rfl (Or.inr (by assumption))) | (exfalso; omega; done) | (exfalso; contradiction; done))
theorem sp_220r {X : Nat × (Nat → Int32)} {P : Option ma_V → (Nat → Nat → Int32) → Prop} {aa : Nat→Nat→Int32} {m : Nat → Nat → Int32}  (hV : zV m) (r_G1 : zG1 (m 94 56) (m 94 57) (m 106)) (r_MQ : qMQ (m 106) (m 115) (m 94 57) (m 94 56) (m 99) (m 100) aa) (r_RB : qRB (m 99) (m 100) (m 98) (m 101) (m 102) (m 103) (m 107) (m 108) (m 109) (m 111) (m 112) (m 113) (m 114) (m 94 55) (m 94 46) (m 94 11) (m 94 12) (m 94 62) (m 94 17) (m 94 9) aa) (r_QI : qI aa) (KZ : ∀ m₉, zV (zov wr_220 m m₉) → (zG1 (m₉ 94 56) (m 94 57) (m₉ 106)) → ((m 94 56).toInt ≤ (m₉ 94 56).toInt) → (qRB (m 99) (m 100) (m 98) (m 101) (m 102) (m 103) (m 107) (m 108) (m 109) (m 111) (m 112) (m 113) (m 114) (m 94 55) (m 94 46) (m 94 11) (m 94 12) (m 94 62) (m 94 17) (m 94 9) (aRo aa 0)) → (qI (aRo aa 0)) → (qMQ (m₉ 106) (m₉ 115) (m 94 57) (m₉ 94 56) (m 99) (m 100) (aRo aa 0)) → P none (zov wr_220 m m₉)) : zm X 1 21 220 0 [(0, .inr (.inr (some 94)))] m P := by
  have K : ∀ m₉, zF wr_220 m m₉ → zV m₉ → (zG1 (m₉ 94 56) (m₉ 94 57) (m₉ 106)) → ((m 94 56).toInt ≤ (m₉ 94 56).toInt) → (qRB (m₉ 99) (m₉ 100) (m₉ 98) (m₉ 101) (m₉ 102) (m₉ 103) (m₉ 107) (m₉ 108) (m₉ 109) (m₉ 111) (m₉ 112) (m₉ 113) (m₉ 114) (m₉ 94 55) (m₉ 94 46) (m₉ 94 11) (m₉ 94 12) (m₉ 94 62) (m₉ 94 17) (m₉ 94 9) (aRo aa 0)) → (qI (aRo aa 0)) → (qMQ (m₉ 106) (m₉ 115) (m₉ 94 57) (m₉ 94 56) (m₉ 99) (m₉ 100) (aRo aa 0)) → P none m₉ := by
    intro m₉ hf z q0 q1 q2 q3 q4
    have e := zov_eq hf
    rw [e] at z ⊢
    try rw [e] at q0
    try rw [e] at q1
    try rw [e] at q2
    try rw [e] at q3
    try rw [e] at q4
    exact KZ m₉ z q0 q1 q2 q3 q4
  refine g_220_0  ?_
  have li1 : (0 : Int32).toInt = 0 := rfl
  have f2 : 0 ≤ (m 94 56).toInt ∧ (m 94 56).toInt ≤ 3100 := rs_94_56 (m := m) hV
  exact lp_220r_2 hV K _ _ ((0 : Int32)) rfl zF_rfl hV (by omega) r_G1 (show (m 94 56).toInt ≤ (m 94 56).toInt from by omega) r_RB r_QI (show qG2 (m 106) (m 115) (m 99) (m 100) (m 94 57) (m 94 56) aa (0 : Int32) (aRo aa 0) from by first | (exact ⟨aa, r_MQ, Of_rf, rfl⟩) | (exfalso; omega; done) | (exfalso; contradiction; done))

/-! from 95.h08 -/
/-! the reference by numbers (written by wip/tools/gen18r.py) -/
theorem lp_219r_7 {X : Nat × (Nat → Int32)} {P : Option ma_V → (Nat → Nat → Int32) → Prop} {aa : Nat→Nat→Int32} {m0 : Nat → Nat → Int32} (h0 : zV m0) (K : ∀ m₉, zF wr_219 m0 m₉ → zV m₉ → (zG1 (m₉ 94 56) (m₉ 94 57) (m₉ 106)) → ((m₉ 94 58).toInt = 1) → (qRB (m₉ 99) (m₉ 100) (m₉ 98) (m₉ 101) (m₉ 102) (m₉ 103) (m₉ 107) (m₉ 108) (m₉ 109) (m₉ 111) (m₉ 112) (m₉ 113) (m₉ 114) (m₉ 94 55) (m₉ 94 46) (m₉ 94 11) (m₉ 94 12) (m₉ 94 62) (m₉ 94 17) (m₉ 94 9) (aB0 aa)) → (qI (aB0 aa)) → (qMQ (m₉ 106) (m₉ 115) (m₉ 94 57) (m₉ 94 56) (m₉ 99) (m₉ 100) (aB0 aa)) → P none m₉) : ∀ (n : Nat) (m : Nat → Nat → Int32) (l1 : Int32), (3100 - l1.toInt).toNat = n → zF wr_219 m0 m → zV m → (0 ≤ l1.toInt) → ((m 94 58).toInt = 1) → (∀ s : Nat, (s : Int) < l1.toInt → (m 106) s = 0) → (qRB (m 99) (m 100) (m 98) (m 101) (m 102) (m 103) (m 107) (m 108) (m 109) (m 111) (m 112) (m 113) (m 114) (m 94 55) (m 94 46) (m 94 11) (m 94 12) (m 94 62) (m 94 17) (m 94 9) aa) → (qI aa) → zm X 2 44 219 7 [(0, .inr (.inr (some 94))), (1, .inl l1)] m P := by
  intro n
  induction n using Nat.strongRecOn with
  | _ n IH =>
    intro m l1 hmu hF hV hi0 hi1 r_CW r_RB r_QI
    refine g_219_7 l1 ?_
    have f1 : 0 ≤ (m 94 58).toInt ∧ (m 94 58).toInt ≤ 1 := rs_94_58 (m := m) hV
    have li2 : (3100 : Int32).toInt = 3100 := rfl
    have b3 := i_bd l1
    refine zd (fun (h4 : (3100 : Int32) ≤ l1) => ?_) (fun (h4 : ¬ (3100 : Int32) ≤ l1) => ?_)
    · skip
      have g5 := i_le h4
      have li7 : (0 : Int32).toInt = 0 := rfl
      have hV6 : zV (ma_u m 94 56 (0 : Int32)) := us_94_56 hV (by omega) (by omega)
      have hV8 : zV (ma_u (ma_u m 94 56 (0 : Int32)) 94 57 (0 : Int32)) := us_94_57 hV6 (by omega) (by omega)
      refine sp_220r (aa := (aWh (ma_u aa 87 8 1) 0))  hV8 (show zG1 (0 : Int32) (0 : Int32) (m 106) from by first | (exact G1_0 (by omega) (by omega)) | (exfalso; omega; done) | (exfalso; contradiction; done)) (show qMQ (m 106) (m 115) (0 : Int32) (0 : Int32) (m 99) (m 100) (aWh (ma_u aa 87 8 1) 0) from by first | (exact MQ_wh (I_87 r_QI) (RB_87 r_RB).1 (z0_all r_CW (by omega)) rfl rfl) | (exfalso; omega; done) | (exfalso; contradiction; done)) (show qRB (m 99) (m 100) (m 98) (m 101) (m 102) (m 103) (m 107) (m 108) (m 109) (m 111) (m 112) (m 113) (m 114) (m 94 55) (m 94 46) (m 94 11) (m 94 12) (m 94 62) (m 94 17) (m 94 9) (aWh (ma_u aa 87 8 1) 0) from by first | (exact RB_of (RB_87 r_RB) Wh_of) | (exfalso; omega; done) | (exfalso; contradiction; done)) (show qI (aWh (ma_u aa 87 8 1) 0) from by first | (exact qI_of (I_87 r_QI) Wh_of) | (exfalso; omega; done) | (exfalso; contradiction; done)) (fun m1 hV_m1 p0_m1 p1_m1 p2_m1 p3_m1 p4_m1 => zmv_n ?_)
      have p0_m1 : zG1 (m1 94 56) (0 : Int32) (m1 106) := p0_m1
      have p1_m1 : (0 : Int32).toInt ≤ (m1 94 56).toInt := p1_m1
      have p2_m1 : qRB (m 99) (m 100) (m 98) (m 101) (m 102) (m 103) (m 107) (m 108) (m 109) (m 111) (m 112) (m 113) (m 114) (m 94 55) (m 94 46) (m 94 11) (m 94 12) (m 94 62) (m 94 17) (m 94 9) (aRo (aWh (ma_u aa 87 8 1) 0) 0) := p2_m1
      have p3_m1 : qI (aRo (aWh (ma_u aa 87 8 1) 0) 0) := p3_m1
      have p4_m1 : qMQ (m1 106) (m1 115) (0 : Int32) (m1 94 56) (m 99) (m 100) (aRo (aWh (ma_u aa 87 8 1) 0) 0) := p4_m1
      have f9 : 0 ≤ (m1 94 56).toInt ∧ (m1 94 56).toInt ≤ 3100 := rs_94_56 (m := (zov wr_220 (ma_u (ma_u m 94 56 (0 : Int32)) 94 57 (0 : Int32)) m1)) hV_m1
      exact K _ (zF_zov (zF_u (zF_u hF rfl) rfl) ws_220_219) hV_m1 p0_m1 (show (m 94 58).toInt = 1 from by omega) (show qRB (m 99) (m 100) (m 98) (m 101) (m 102) (m 103) (m 107) (m 108) (m 109) (m 111) (m 112) (m 113) (m 114) (m 94 55) (m 94 46) (m 94 11) (m 94 12) (m 94 62) (m 94 17) (m 94 9) (aB0 aa) from by first | (exact p2_m1) | (exfalso; omega; done) | (exfalso; contradiction; done)) (show qI (aB0 aa) from by first | (exact p3_m1) | (exfalso; omega; done) | (exfalso; contradiction; done)) (show qMQ (m1 106) (m1 115) (0 : Int32) (m1 94 56) (m 99) (m 100) (aB0 aa) from by first | (exact p4_m1) | (exfalso; omega; done) | (exfalso; contradiction; done))
    · skip
      have g10 := i_nle h4
      have hg11 : (0 ≤ l1 ∧ l1.toNatClampNeg < 3100) := i_ix (by omega) (by omega)
      refine ⟨hg11, ?_⟩
      have hV12 : zV (ma_u m 106 l1.toNatClampNeg (0 : Int32)) := ua_106 hV
      first | have e13 : (l1 + (1 : Int32)).toInt = l1.toInt + (1) := i_addk rfl (by omega) (by omega) | have b14 := i_bd (l1 + (1 : Int32))
      exact IH (3100 - (l1 + (1 : Int32)).toInt).toNat (by omega) _ ((l1 + (1 : Int32))) rfl (zF_u hF rfl) hV12 (by omega) (show (m 94 58).toInt = 1 from by omega) (show ∀ s : Nat, (s : Int) < (l1 + (1 : Int32)).toInt → ((ma_u m 106 l1.toNatClampNeg (0 : Int32)) 106) s = 0 from by first | (exact z0_step r_CW (by omega) (by omega)) | (intro s hs; omega; done) | (exfalso; omega; done) | (exfalso; contradiction; done)) r_RB r_QI
theorem sp_219r {X : Nat × (Nat → Int32)} {P : Option ma_V → (Nat → Nat → Int32) → Prop} {aa : Nat→Nat→Int32} {m : Nat → Nat → Int32}  (hV : zV m) (r_RB : qRB (m 99) (m 100) (m 98) (m 101) (m 102) (m 103) (m 107) (m 108) (m 109) (m 111) (m 112) (m 113) (m 114) (m 94 55) (m 94 46) (m 94 11) (m 94 12) (m 94 62) (m 94 17) (m 94 9) aa) (r_QI : qI aa) (KZ : ∀ m₉, zV (zov wr_219 m m₉) → (zG1 (m₉ 94 56) (m₉ 94 57) (m₉ 106)) → ((m₉ 94 58).toInt = 1) → (qRB (m 99) (m 100) (m 98) (m 101) (m 102) (m 103) (m 107) (m 108) (m 109) (m 111) (m 112) (m 113) (m 114) (m 94 55) (m 94 46) (m 94 11) (m 94 12) (m 94 62) (m 94 17) (m 94 9) (aB0 aa)) → (qI (aB0 aa)) → (qMQ (m₉ 106) (m₉ 115) (m₉ 94 57) (m₉ 94 56) (m 99) (m 100) (aB0 aa)) → P none (zov wr_219 m m₉)) : zm X 2 44 219 0 [(0, .inr (.inr (some 94)))] m P := by
  have K : ∀ m₉, zF wr_219 m m₉ → zV m₉ → (zG1 (m₉ 94 56) (m₉ 94 57) (m₉ 106)) → ((m₉ 94 58).toInt = 1) → (qRB (m₉ 99) (m₉ 100) (m₉ 98) (m₉ 101) (m₉ 102) (m₉ 103) (m₉ 107) (m₉ 108) (m₉ 109) (m₉ 111) (m₉ 112) (m₉ 113) (m₉ 114) (m₉ 94 55) (m₉ 94 46) (m₉ 94 11) (m₉ 94 12) (m₉ 94 62) (m₉ 94 17) (m₉ 94 9) (aB0 aa)) → (qI (aB0 aa)) → (qMQ (m₉ 106) (m₉ 115) (m₉ 94 57) (m₉ 94 56) (m₉ 99) (m₉ 100) (aB0 aa)) → P none m₉ := by
    intro m₉ hf z q0 q1 q2 q3 q4
    have e := zov_eq hf
    rw [e] at z ⊢
    try rw [e] at q0
    try rw [e] at q1
    try rw [e] at q2
    try rw [e] at q3
    try rw [e] at q4
    exact KZ m₉ z q0 q1 q2 q3 q4
  refine g_219_0  ?_
  have li2 : (1 : Int32).toInt = 1 := rfl
  have hV1 : zV (ma_u m 94 58 (1 : Int32)) := us_94_58 hV (by omega) (by omega)
  have li3 : (0 : Int32).toInt = 0 := rfl
  exact lp_219r_7 hV K _ _ ((0 : Int32)) rfl (zF_u zF_rfl rfl) hV1 (by omega) (show (1 : Int32).toInt = 1 from by omega) (show ∀ s : Nat, (s : Int) < (0 : Int32).toInt → (m 106) s = 0 from by first | (intro s hs; omega; done) | (exfalso; omega; done) | (exfalso; contradiction; done)) r_RB r_QI
theorem lp_222r_48 {X : Nat × (Nat → Int32)} {P : Option ma_V → (Nat → Nat → Int32) → Prop} {aa : Nat→Nat→Int32} {nn : Int32} {m0 : Nat → Nat → Int32} (h0 : zV m0) (K : ∀ v m₉, zF wr_222 m0 m₉ → zV m₉ → (zG1 (m₉ 94 56) (m₉ 94 57) (m₉ 106)) → ((m0 94 56).toInt ≤ (m₉ 94 56).toInt) → ((m0 94 57).toInt ≤ (m₉ 94 57).toInt ∧ ((m₉ 94 56).toInt ≤ (m₉ 94 57).toInt ∨ (m0 94 57).toInt + nn.toInt ≤ (m₉ 94 57).toInt)) → (qRB (m₉ 99) (m₉ 100) (m₉ 98) (m₉ 101) (m₉ 102) (m₉ 103) (m₉ 107) (m₉ 108) (m₉ 109) (m₉ 111) (m₉ 112) (m₉ 113) (m₉ 114) (m₉ 94 55) (m₉ 94 46) (m₉ 94 11) (m₉ 94 12) (m₉ 94 62) (m₉ 94 17) (m₉ 94 9) (aSp nn.toInt.toNat aa)) → (qI (aSp nn.toInt.toNat aa)) → (qMQ (m₉ 106) (m₉ 115) (m₉ 94 57) (m₉ 94 56) (m₉ 99) (m₉ 100) (aSp nn.toInt.toNat aa)) → (qEq v.toInt (aSn nn.toInt.toNat aa : Int)) → P (some (.inl v)) m₉) {n2 : Nat} (OUT2 : ∀ (m₉ : Nat → Nat → Int32) (l1 : Int32) (l2 : Int32), (3101 - (m₉ 94 57).toInt).toNat < n2 → zF wr_222 m0 m₉ → zV m₉ → (0 ≤ l2.toInt) → (l1.toInt = nn.toInt) → (l2.toInt ≤ nn.toInt) → (zW (m₉ 94 7) (m₉ 98) (m₉ 101) (m₉ 102) (m₉ 108)) → (zG1 (m₉ 94 56) (m₉ 94 57) (m₉ 106)) → ((m0 94 56).toInt ≤ (m₉ 94 56).toInt) → ((m₉ 94 57).toInt = (m0 94 57).toInt + l2.toInt) → (qRB (m₉ 99) (m₉ 100) (m₉ 98) (m₉ 101) (m₉ 102) (m₉ 103) (m₉ 107) (m₉ 108) (m₉ 109) (m₉ 111) (m₉ 112) (m₉ 113) (m₉ 114) (m₉ 94 55) (m₉ 94 46) (m₉ 94 11) (m₉ 94 12) (m₉ 94 62) (m₉ 94 17) (m₉ 94 9) aa) → (qI aa) → (qSO (m₉ 106) (m₉ 115) (m₉ 99) (m₉ 100) (m₉ 94 57) (m₉ 94 56) aa (nn.toInt - l2.toInt).toNat l2.toInt nn.toInt.toNat) → zm X 2 44 222 2 [(0, .inr (.inr (some 94))), (1, .inl l1), (2, .inl l2)] m₉ P) : ∀ (n : Nat) (m : Nat → Nat → Int32) (l1 : Int32) (l2 : Int32) (l3 : Int32) (l4 : Int32), (61 - l4.toInt).toNat = n → zF wr_222 m0 m → zV m → (0 ≤ l2.toInt) → (l2.toInt < nn.toInt) → (l1.toInt = nn.toInt) → (0 ≤ l3.toInt) → (l3.toInt ≤ 3099) → (0 ≤ l4.toInt) → (zW (m 94 7) (m 98) (m 101) (m 102) (m 108)) → (zG1 (m 94 56) (m 94 57) (m 106)) → ((m0 94 56).toInt ≤ (m 94 56).toInt) → ((m 94 57).toInt = (m0 94 57).toInt + l2.toInt + 1) → ((3101 - (m 94 57).toInt).toNat < n2) → (qRB (m 99) (m 100) (m 98) (m 101) (m 102) (m 103) (m 107) (m 108) (m 109) (m 111) (m 112) (m 113) (m 114) (m 94 55) (m 94 46) (m 94 11) (m 94 12) (m 94 62) (m 94 17) (m 94 9) aa) → (qI aa) → ((m 99) l3.toNatClampNeg ≠ 0) → (qSI (m 106) (m 115) (m 99) (m 100) (m 94 57) (m 94 56) aa ((m 100) l3.toNatClampNeg).toNatClampNeg l4 (nn.toInt - l2.toInt - 1).toNat (l2.toInt + 1) nn.toInt.toNat) → zm X 2 44 222 48 [(0, .inr (.inr (some 94))), (1, .inl l1), (2, .inl l2), (3, .inl l3), (4, .inl l4)] m P := by
  intro n
  induction n using Nat.strongRecOn with
  | _ n IH =>
    intro m l1 l2 l3 l4 hmu hF hV hi0 hi1 hi2 hi3 hi4 hi5 r_W r_G1 hi8 hi9 hi10 r_RB r_QI r_US3 r_SI
    refine g_222_48 l1 l2 l3 l4 ?_
    have f1 : 0 ≤ (m0 94 56).toInt ∧ (m0 94 56).toInt ≤ 3100 := rs_94_56 (m := m0) h0
    have f2 : 0 ≤ (m 94 56).toInt ∧ (m 94 56).toInt ≤ 3100 := rs_94_56 (m := m) hV
    have f3 : 0 ≤ (m 94 57).toInt ∧ (m 94 57).toInt ≤ 3100 := rs_94_57 (m := m) hV
    have f4 : 0 ≤ (m0 94 57).toInt ∧ (m0 94 57).toInt ≤ 3100 := rs_94_57 (m := m0) h0
    have b5 := i_bd l3
    have hg6 : (0 ≤ l3 ∧ l3.toNatClampNeg < 3100) := i_ix (by omega) (by omega)
    refine ⟨hg6, ?_⟩
    first | have f7 : 0 ≤ (m 102 l3.toNatClampNeg).toInt ∧ (m 102 l3.toNatClampNeg).toInt ≤ 60 := ra_102 (m := m) hV (k := l3.toNatClampNeg) (i_ix (n := 3100) (by omega) (by omega)).2 | have b8 := i_bd (m 102 l3.toNatClampNeg)
    have b9 := i_bd l4
    refine zd (fun (h10 : (m 102 l3.toNatClampNeg) ≤ l4) => ?_) (fun (h10 : ¬ (m 102 l3.toNatClampNeg) ≤ l4) => ?_)
    · skip
      have g11 := i_le h10
      have b12 := i_bd l1
      have b13 := i_bd l2
      first | have e14 : (l2 + (1 : Int32)).toInt = l2.toInt + (1) := i_addk rfl (by omega) (by omega) | have b15 := i_bd (l2 + (1 : Int32))
      exact OUT2 _ (l1) ((l2 + (1 : Int32))) (show (3101 - (m 94 57).toInt).toNat < n2 from by omega) hF hV (by omega) (by omega) (by omega) r_W r_G1 (show (m0 94 56).toInt ≤ (m 94 56).toInt from by omega) (show (m 94 57).toInt = (m0 94 57).toInt + (l2 + (1 : Int32)).toInt from by omega) r_RB r_QI (show qSO (m 106) (m 115) (m 99) (m 100) (m 94 57) (m 94 56) aa (nn.toInt - (l2 + (1 : Int32)).toInt).toNat (l2 + (1 : Int32)).toInt nn.toInt.toNat from by first | (exact SI_end r_SI r_RB (by omega) (by omega) r_US3 (by omega) (by omega) (by omega)) | (exfalso; omega; done) | (exfalso; contradiction; done))
    · skip
      have g16 := i_nle h10
      refine sp_192 (l3) (l4) hV (by omega) (by omega) (by omega) (show l4.toInt < (m 102 l3.toNatClampNeg).toInt from by omega) (fun v2 m1 hV_m1 p0_m1 => zmi_n ?_)
      have p0_m1 : v2 = zrf (m 98) (m 101) (m 108) l3.toNatClampNeg l4.toNatClampNeg := p0_m1
      try have := W_ref r_W (by omega) (by omega) (by omega) (by omega) p0_m1
      have b17 := i_bd v2
      have li18 : (0 : Int32).toInt = 0 := rfl
      refine zd (fun (h19 : v2 < (0 : Int32)) => ?_) (fun (h19 : ¬ v2 < (0 : Int32)) => ?_)
      · skip
        have g20 := i_lt h19
        have b21 := i_bd l1
        have b22 := i_bd l2
        first | have e23 : (l4 + (1 : Int32)).toInt = l4.toInt + (1) := i_addk rfl (by omega) (by omega) | have b24 := i_bd (l4 + (1 : Int32))
        exact IH (61 - (l4 + (1 : Int32)).toInt).toNat (by omega) _ (l1) (l2) (l3) ((l4 + (1 : Int32))) rfl (zF_zov hF ws_192_222) hV_m1 (by omega) (by omega) (by omega) (by omega) (by omega) (by omega) r_W r_G1 (show (m0 94 56).toInt ≤ (m 94 56).toInt from by omega) (show (m 94 57).toInt = (m0 94 57).toInt + l2.toInt + 1 from by omega) (show (3101 - (m 94 57).toInt).toNat < n2 from by omega) r_RB r_QI r_US3 (show qSI (m 106) (m 115) (m 99) (m 100) (m 94 57) (m 94 56) aa ((m 100) l3.toNatClampNeg).toNatClampNeg (l4 + (1 : Int32)) (nn.toInt - l2.toInt - 1).toNat (l2.toInt + 1) nn.toInt.toNat from by first | (exact SI_skip r_SI r_RB (by omega) (by omega) r_US3 (by omega) (by omega) p0_m1 (Or.inl (by omega))) | (exact SI_skip r_SI r_RB (by omega) (by omega) r_US3 (by omega) (by omega) p0_m1 (Or.inr (by assumption))) | (exfalso; omega; done) | (exfalso; contradiction; done))
      · skip
        have g25 := i_nlt h19
        have hg26 : (0 ≤ v2 ∧ v2.toNatClampNeg < 3100) := i_ix (by omega) (by omega)
        refine ⟨hg26, ?_⟩
        have b27 := i_bd (m 106 v2.toNatClampNeg)
        refine zd (fun (h28 : (m 106 v2.toNatClampNeg) = (0 : Int32)) => ?_) (fun (h28 : ¬ (m 106 v2.toNatClampNeg) = (0 : Int32)) => ?_)
        · skip
          have g29 := i_eq h28
          have hg30 : (0 ≤ v2 ∧ v2.toNatClampNeg < 3100) := i_ix (by omega) (by omega)
          refine ⟨hg30, ?_⟩
          try have gk := G1_room r_G1 (by assumption) (by omega)
          have hg31 : (0 ≤ (m 94 56) ∧ (m 94 56).toNatClampNeg < 3100) := i_ix (by omega) (by omega)
          refine ⟨hg31, ?_⟩
          have hV32 : zV (ma_u (zov wr_192 m m1) 106 v2.toNatClampNeg (1 : Int32)) := ua_106 hV_m1
          have hV33 : zV (ma_u (ma_u (zov wr_192 m m1) 106 v2.toNatClampNeg (1 : Int32)) 115 (m 94 56).toNatClampNeg v2) := ua_115 hV32 (by omega) (by omega)
          first | have e35 : ((m 94 56) + (1 : Int32)).toInt = (m 94 56).toInt + (1) := i_addk rfl (by omega) (by omega) | have b36 := i_bd ((m 94 56) + (1 : Int32))
          have hV34 : zV (ma_u (ma_u (ma_u (zov wr_192 m m1) 106 v2.toNatClampNeg (1 : Int32)) 115 (m 94 56).toNatClampNeg v2) 94 56 ((m 94 56) + (1 : Int32))) := us_94_56 hV33 (by omega) (by omega)
          have b37 := i_bd l1
          have b38 := i_bd l2
          first | have e39 : (l4 + (1 : Int32)).toInt = l4.toInt + (1) := i_addk rfl (by omega) (by omega) | have b40 := i_bd (l4 + (1 : Int32))
          exact IH (61 - (l4 + (1 : Int32)).toInt).toNat (by omega) _ (l1) (l2) (l3) ((l4 + (1 : Int32))) rfl (zF_u (zF_u (zF_u (zF_zov hF ws_192_222) rfl) rfl) rfl) hV34 (by omega) (by omega) (by omega) (by omega) (by omega) (by omega) r_W (show zG1 ((m 94 56) + (1 : Int32)) (m 94 57) ((ma_u m 106 v2.toNatClampNeg (1 : Int32)) 106) from by first | (exact G1_push r_G1 (by assumption) (by omega) (by decide) (by assumption)) | (exact G1_push r_G1 (by assumption) (by omega) (by decide) (by assumption)) | (exact G1_dark0 r_G1 (by decide)) | (exfalso; omega; done) | (exfalso; contradiction; done)) (show (m0 94 56).toInt ≤ ((m 94 56) + (1 : Int32)).toInt from by omega) (show (m 94 57).toInt = (m0 94 57).toInt + l2.toInt + 1 from by omega) (show (3101 - (m 94 57).toInt).toNat < n2 from by omega) r_RB r_QI r_US3 (show qSI ((ma_u m 106 v2.toNatClampNeg (1 : Int32)) 106) ((ma_u m 115 (m 94 56).toNatClampNeg v2) 115) (m 99) (m 100) (m 94 57) ((m 94 56) + (1 : Int32)) aa ((m 100) l3.toNatClampNeg).toNatClampNeg (l4 + (1 : Int32)) (nn.toInt - l2.toInt - 1).toNat (l2.toInt + 1) nn.toInt.toNat from by first | (exact SI_push r_SI r_RB (by omega) (by omega) r_US3 (by omega) (by omega) p0_m1 (by omega) (by assumption)) | (exfalso; omega; done) | (exfalso; contradiction; done))
        · skip
          have g41 := i_ne h28
          have b42 := i_bd l1
          have b43 := i_bd l2
          first | have e44 : (l4 + (1 : Int32)).toInt = l4.toInt + (1) := i_addk rfl (by omega) (by omega) | have b45 := i_bd (l4 + (1 : Int32))
          exact IH (61 - (l4 + (1 : Int32)).toInt).toNat (by omega) _ (l1) (l2) (l3) ((l4 + (1 : Int32))) rfl (zF_zov hF ws_192_222) hV_m1 (by omega) (by omega) (by omega) (by omega) (by omega) (by omega) r_W r_G1 (show (m0 94 56).toInt ≤ (m 94 56).toInt from by omega) (show (m 94 57).toInt = (m0 94 57).toInt + l2.toInt + 1 from by omega) (show (3101 - (m 94 57).toInt).toNat < n2 from by omega) r_RB r_QI r_US3 (show qSI (m 106) (m 115) (m 99) (m 100) (m 94 57) (m 94 56) aa ((m 100) l3.toNatClampNeg).toNatClampNeg (l4 + (1 : Int32)) (nn.toInt - l2.toInt - 1).toNat (l2.toInt + 1) nn.toInt.toNat from by first | (exact SI_skip r_SI r_RB (by omega) (by omega) r_US3 (by omega) (by omega) p0_m1 (Or.inl (by omega))) | (exact SI_skip r_SI r_RB (by omega) (by omega) r_US3 (by omega) (by omega) p0_m1 (Or.inr (by assumption))) | (exfalso; omega; done) | (exfalso; contradiction; done))
theorem lp_222r_2 {X : Nat × (Nat → Int32)} {P : Option ma_V → (Nat → Nat → Int32) → Prop} {aa : Nat→Nat→Int32} {nn : Int32} {m0 : Nat → Nat → Int32} (h0 : zV m0) (K : ∀ v m₉, zF wr_222 m0 m₉ → zV m₉ → (zG1 (m₉ 94 56) (m₉ 94 57) (m₉ 106)) → ((m0 94 56).toInt ≤ (m₉ 94 56).toInt) → ((m0 94 57).toInt ≤ (m₉ 94 57).toInt ∧ ((m₉ 94 56).toInt ≤ (m₉ 94 57).toInt ∨ (m0 94 57).toInt + nn.toInt ≤ (m₉ 94 57).toInt)) → (qRB (m₉ 99) (m₉ 100) (m₉ 98) (m₉ 101) (m₉ 102) (m₉ 103) (m₉ 107) (m₉ 108) (m₉ 109) (m₉ 111) (m₉ 112) (m₉ 113) (m₉ 114) (m₉ 94 55) (m₉ 94 46) (m₉ 94 11) (m₉ 94 12) (m₉ 94 62) (m₉ 94 17) (m₉ 94 9) (aSp nn.toInt.toNat aa)) → (qI (aSp nn.toInt.toNat aa)) → (qMQ (m₉ 106) (m₉ 115) (m₉ 94 57) (m₉ 94 56) (m₉ 99) (m₉ 100) (aSp nn.toInt.toNat aa)) → (qEq v.toInt (aSn nn.toInt.toNat aa : Int)) → P (some (.inl v)) m₉) : ∀ (n : Nat) (m : Nat → Nat → Int32) (l1 : Int32) (l2 : Int32), (3101 - (m 94 57).toInt).toNat = n → zF wr_222 m0 m → zV m → (0 ≤ l2.toInt) → (l1.toInt = nn.toInt) → (l2.toInt ≤ nn.toInt) → (zW (m 94 7) (m 98) (m 101) (m 102) (m 108)) → (zG1 (m 94 56) (m 94 57) (m 106)) → ((m0 94 56).toInt ≤ (m 94 56).toInt) → ((m 94 57).toInt = (m0 94 57).toInt + l2.toInt) → (qRB (m 99) (m 100) (m 98) (m 101) (m 102) (m 103) (m 107) (m 108) (m 109) (m 111) (m 112) (m 113) (m 114) (m 94 55) (m 94 46) (m 94 11) (m 94 12) (m 94 62) (m 94 17) (m 94 9) aa) → (qI aa) → (qSO (m 106) (m 115) (m 99) (m 100) (m 94 57) (m 94 56) aa (nn.toInt - l2.toInt).toNat l2.toInt nn.toInt.toNat) → zm X 2 44 222 2 [(0, .inr (.inr (some 94))), (1, .inl l1), (2, .inl l2)] m P := by
  intro n
  induction n using Nat.strongRecOn with
  | _ n IH =>
    intro m l1 l2 hmu hF hV hi0 hi1 hi2 r_W r_G1 hi5 hi6 r_RB r_QI r_SO
    refine g_222_2 l1 l2 ?_
    have f1 : 0 ≤ (m0 94 56).toInt ∧ (m0 94 56).toInt ≤ 3100 := rs_94_56 (m := m0) h0
    have f2 : 0 ≤ (m 94 56).toInt ∧ (m 94 56).toInt ≤ 3100 := rs_94_56 (m := m) hV
    have f3 : 0 ≤ (m 94 57).toInt ∧ (m 94 57).toInt ≤ 3100 := rs_94_57 (m := m) hV
    have f4 : 0 ≤ (m0 94 57).toInt ∧ (m0 94 57).toInt ≤ 3100 := rs_94_57 (m := m0) h0
    have b5 := i_bd l1
    have b6 := i_bd l2
    refine zd (fun (h7 : l1 ≤ l2) => ?_) (fun (h7 : ¬ l1 ≤ l2) => ?_)
    · skip
      have g8 := i_le h7
      exact K (l2) _ hF hV r_G1 (show (m0 94 56).toInt ≤ (m 94 56).toInt from by omega) (show (m0 94 57).toInt ≤ (m 94 57).toInt ∧ ((m 94 56).toInt ≤ (m 94 57).toInt ∨ (m0 94 57).toInt + nn.toInt ≤ (m 94 57).toInt) from by omega) (show qRB (m 99) (m 100) (m 98) (m 101) (m 102) (m 103) (m 107) (m 108) (m 109) (m 111) (m 112) (m 113) (m 114) (m 94 55) (m 94 46) (m 94 11) (m 94 12) (m 94 62) (m 94 17) (m 94 9) (aSp nn.toInt.toNat aa) from by first | (exact RB_of r_RB (SO_end r_SO (Or.inl (by omega))).2.1) | (exact RB_of r_RB (SO_end r_SO (Or.inr (by omega))).2.1) | (exfalso; omega; done) | (exfalso; contradiction; done)) (show qI (aSp nn.toInt.toNat aa) from by first | (exact qI_of r_QI (SO_end r_SO (Or.inl (by omega))).2.1) | (exact qI_of r_QI (SO_end r_SO (Or.inr (by omega))).2.1) | (exfalso; omega; done) | (exfalso; contradiction; done)) (show qMQ (m 106) (m 115) (m 94 57) (m 94 56) (m 99) (m 100) (aSp nn.toInt.toNat aa) from by first | (exact (SO_end r_SO (Or.inl (by omega))).1) | (exact (SO_end r_SO (Or.inr (by omega))).1) | (exfalso; omega; done) | (exfalso; contradiction; done)) (show qEq l2.toInt (aSn nn.toInt.toNat aa : Int) from by first | (exact (SO_end r_SO (Or.inl (by omega))).2.2) | (exact (SO_end r_SO (Or.inr (by omega))).2.2) | (exfalso; omega; done) | (exfalso; contradiction; done))
    · skip
      have g9 := i_nle h7
      refine zd (fun (h10 : (m 94 56) ≤ (m 94 57)) => ?_) (fun (h10 : ¬ (m 94 56) ≤ (m 94 57)) => ?_)
      · skip
        have g11 := i_le h10
        exact K (l2) _ hF hV r_G1 (show (m0 94 56).toInt ≤ (m 94 56).toInt from by omega) (show (m0 94 57).toInt ≤ (m 94 57).toInt ∧ ((m 94 56).toInt ≤ (m 94 57).toInt ∨ (m0 94 57).toInt + nn.toInt ≤ (m 94 57).toInt) from by omega) (show qRB (m 99) (m 100) (m 98) (m 101) (m 102) (m 103) (m 107) (m 108) (m 109) (m 111) (m 112) (m 113) (m 114) (m 94 55) (m 94 46) (m 94 11) (m 94 12) (m 94 62) (m 94 17) (m 94 9) (aSp nn.toInt.toNat aa) from by first | (exact RB_of r_RB (SO_end r_SO (Or.inl (by omega))).2.1) | (exact RB_of r_RB (SO_end r_SO (Or.inr (by omega))).2.1) | (exfalso; omega; done) | (exfalso; contradiction; done)) (show qI (aSp nn.toInt.toNat aa) from by first | (exact qI_of r_QI (SO_end r_SO (Or.inl (by omega))).2.1) | (exact qI_of r_QI (SO_end r_SO (Or.inr (by omega))).2.1) | (exfalso; omega; done) | (exfalso; contradiction; done)) (show qMQ (m 106) (m 115) (m 94 57) (m 94 56) (m 99) (m 100) (aSp nn.toInt.toNat aa) from by first | (exact (SO_end r_SO (Or.inl (by omega))).1) | (exact (SO_end r_SO (Or.inr (by omega))).1) | (exfalso; omega; done) | (exfalso; contradiction; done)) (show qEq l2.toInt (aSn nn.toInt.toNat aa : Int) from by first | (exact (SO_end r_SO (Or.inl (by omega))).2.2) | (exact (SO_end r_SO (Or.inr (by omega))).2.2) | (exfalso; omega; done) | (exfalso; contradiction; done))
      · skip
        have g12 := i_nle h10
        try have gk := G1_room r_G1 (by assumption) (by omega)
        have hg13 : (0 ≤ (m 94 57) ∧ (m 94 57).toNatClampNeg < 3100) := i_ix (by omega) (by omega)
        refine ⟨hg13, ?_⟩
        first | have f14 : 0 ≤ (m 115 (m 94 57).toNatClampNeg).toInt ∧ (m 115 (m 94 57).toNatClampNeg).toInt ≤ 3099 := ra_115 (m := m) hV (k := (m 94 57).toNatClampNeg) (i_ix (n := 3100) (by omega) (by omega)).2 | have b15 := i_bd (m 115 (m 94 57).toNatClampNeg)
        have hg16 : (0 ≤ (m 115 (m 94 57).toNatClampNeg) ∧ (m 115 (m 94 57).toNatClampNeg).toNatClampNeg < 3100) := i_ix (by omega) (by omega)
        refine ⟨hg16, ?_⟩
        first | have e18 : ((m 94 57) + (1 : Int32)).toInt = (m 94 57).toInt + (1) := i_addk rfl (by omega) (by omega) | have b19 := i_bd ((m 94 57) + (1 : Int32))
        have hV17 : zV (ma_u m 94 57 ((m 94 57) + (1 : Int32))) := us_94_57 hV (by omega) (by omega)
        have hV20 : zV (ma_u (ma_u m 94 57 ((m 94 57) + (1 : Int32))) 106 (m 115 (m 94 57).toNatClampNeg).toNatClampNeg (2 : Int32)) := ua_106 hV17
        have li21 : (0 : Int32).toInt = 0 := rfl
        exact lp_222r_48 (nn := nn) h0 K (fun _ _ _ z1 z2 z3 y0 y1 y2 y3 y4 y5 y6 y7 y8 y9 => IH _ z1 _ _ _ rfl z2 z3 y0 y1 y2 y3 y4 y5 y6 y7 y8 y9) _ _ (l1) (l2) ((m 115 (m 94 57).toNatClampNeg)) ((0 : Int32)) rfl (zF_u (zF_u hF rfl) rfl) hV20 (by omega) (by omega) (by omega) (by omega) (by omega) (by omega) r_W (show zG1 (m 94 56) ((m 94 57) + (1 : Int32)) ((ma_u m 106 (m 115 (m 94 57).toNatClampNeg).toNatClampNeg (2 : Int32)) 106) from by first | (exact G1_dark r_G1 (by decide) (by omega)) | (exact G1_push r_G1 (by assumption) (by omega) (by decide) (by assumption)) | (exact G1_dark0 r_G1 (by decide)) | (exfalso; omega; done) | (exfalso; contradiction; done)) (show (m0 94 56).toInt ≤ (m 94 56).toInt from by omega) (show ((m 94 57) + (1 : Int32)).toInt = (m0 94 57).toInt + l2.toInt + 1 from by omega) (show (3101 - ((m 94 57) + (1 : Int32)).toInt).toNat < n from by omega) r_RB r_QI (show (m 99) (m 115 (m 94 57).toNatClampNeg).toNatClampNeg ≠ 0 from by first | (exact SI_us r_SO (by omega) (by omega)) | (exfalso; omega; done) | (exfalso; contradiction; done)) (show qSI ((ma_u m 106 (m 115 (m 94 57).toNatClampNeg).toNatClampNeg (2 : Int32)) 106) (m 115) (m 99) (m 100) ((m 94 57) + (1 : Int32)) (m 94 56) aa ((m 100) (m 115 (m 94 57).toNatClampNeg).toNatClampNeg).toNatClampNeg (0 : Int32) (nn.toInt - l2.toInt - 1).toNat (l2.toInt + 1) nn.toInt.toNat from by first | (exact SO_go r_SO r_RB.1 (by omega) (by omega) (by omega) rfl rfl) | (exfalso; omega; done) | (exfalso; contradiction; done))
theorem sp_222r {X : Nat × (Nat → Int32)} {P : Option ma_V → (Nat → Nat → Int32) → Prop} {aa : Nat→Nat→Int32} {m : Nat → Nat → Int32} (nn : Int32) (hV : zV m) (hpre0 : 0 ≤ nn.toInt) (r_W : zW (m 94 7) (m 98) (m 101) (m 102) (m 108)) (r_G1 : zG1 (m 94 56) (m 94 57) (m 106)) (r_MQ : qMQ (m 106) (m 115) (m 94 57) (m 94 56) (m 99) (m 100) aa) (r_RB : qRB (m 99) (m 100) (m 98) (m 101) (m 102) (m 103) (m 107) (m 108) (m 109) (m 111) (m 112) (m 113) (m 114) (m 94 55) (m 94 46) (m 94 11) (m 94 12) (m 94 62) (m 94 17) (m 94 9) aa) (r_QI : qI aa) (KZ : ∀ v m₉, zV (zov wr_222 m m₉) → (zG1 (m₉ 94 56) (m₉ 94 57) (m₉ 106)) → ((m 94 56).toInt ≤ (m₉ 94 56).toInt) → ((m 94 57).toInt ≤ (m₉ 94 57).toInt ∧ ((m₉ 94 56).toInt ≤ (m₉ 94 57).toInt ∨ (m 94 57).toInt + nn.toInt ≤ (m₉ 94 57).toInt)) → (qRB (m 99) (m 100) (m 98) (m 101) (m 102) (m 103) (m 107) (m 108) (m 109) (m 111) (m 112) (m 113) (m 114) (m 94 55) (m 94 46) (m 94 11) (m 94 12) (m 94 62) (m 94 17) (m 94 9) (aSp nn.toInt.toNat aa)) → (qI (aSp nn.toInt.toNat aa)) → (qMQ (m₉ 106) (m₉ 115) (m₉ 94 57) (m₉ 94 56) (m 99) (m 100) (aSp nn.toInt.toNat aa)) → (qEq v.toInt (aSn nn.toInt.toNat aa : Int)) → P (some (.inl v)) (zov wr_222 m m₉)) : zm X 2 44 222 0 [(0, .inr (.inr (some 94))), (1, .inl nn)] m P := by
  have K : ∀ v m₉, zF wr_222 m m₉ → zV m₉ → (zG1 (m₉ 94 56) (m₉ 94 57) (m₉ 106)) → ((m 94 56).toInt ≤ (m₉ 94 56).toInt) → ((m 94 57).toInt ≤ (m₉ 94 57).toInt ∧ ((m₉ 94 56).toInt ≤ (m₉ 94 57).toInt ∨ (m 94 57).toInt + nn.toInt ≤ (m₉ 94 57).toInt)) → (qRB (m₉ 99) (m₉ 100) (m₉ 98) (m₉ 101) (m₉ 102) (m₉ 103) (m₉ 107) (m₉ 108) (m₉ 109) (m₉ 111) (m₉ 112) (m₉ 113) (m₉ 114) (m₉ 94 55) (m₉ 94 46) (m₉ 94 11) (m₉ 94 12) (m₉ 94 62) (m₉ 94 17) (m₉ 94 9) (aSp nn.toInt.toNat aa)) → (qI (aSp nn.toInt.toNat aa)) → (qMQ (m₉ 106) (m₉ 115) (m₉ 94 57) (m₉ 94 56) (m₉ 99) (m₉ 100) (aSp nn.toInt.toNat aa)) → (qEq v.toInt (aSn nn.toInt.toNat aa : Int)) → P (some (.inl v)) m₉ := by
    intro v m₉ hf z q0 q1 q2 q3 q4 q5 q6
    have e := zov_eq hf
    rw [e] at z ⊢
    try rw [e] at q0
    try rw [e] at q1
    try rw [e] at q2
    try rw [e] at q3
    try rw [e] at q4
    try rw [e] at q5
    try rw [e] at q6
    exact KZ v m₉ z q0 q1 q2 q3 q4 q5 q6
  refine g_222_0 nn ?_
  have b1 := i_bd nn
  have li2 : (0 : Int32).toInt = 0 := rfl
  have f3 : 0 ≤ (m 94 56).toInt ∧ (m 94 56).toInt ≤ 3100 := rs_94_56 (m := m) hV
  have f4 : 0 ≤ (m 94 57).toInt ∧ (m 94 57).toInt ≤ 3100 := rs_94_57 (m := m) hV
  exact lp_222r_2 (nn := nn) hV K _ _ (nn) ((0 : Int32)) rfl zF_rfl hV (by omega) (by omega) (by omega) r_W r_G1 (show (m 94 56).toInt ≤ (m 94 56).toInt from by omega) (show (m 94 57).toInt = (m 94 57).toInt + (0 : Int32).toInt from by omega) r_RB r_QI (show qSO (m 106) (m 115) (m 99) (m 100) (m 94 57) (m 94 56) aa (nn.toInt - (0 : Int32).toInt).toNat (0 : Int32).toInt nn.toInt.toNat from by first | (exact SO_0 r_MQ (by omega) rfl) | (exfalso; omega; done) | (exfalso; contradiction; done))

/-! from 95.h09 -/
/-! the reference by numbers (written by wip/tools/gen18r.py) -/
/-! WHAT IS KEPT, the reference: Q all that may be kept, D those whose words are not looked at -/
def qKA (kp us nr kr kd ws wd st : Nat → Int32) (z : Int32) (Q D : Nat → Prop) (cur i : Nat) : Prop :=
  (∀ s, s < 3100 → kp s ≠ 0 → us s ≠ 0 ∧ Q (nr s).toNatClampNeg) ∧
  (∀ j : Nat, (j : Int) < z.toInt → (0 ≤ (st j).toInt ∧ (st j).toInt < 3100) ∧ kp (st j).toNatClampNeg ≠ 0 ∧ ¬ D (nr (st j).toNatClampNeg).toNatClampNeg) ∧
  (cur < 3100 → kp cur ≠ 0 ∧ ¬ D (nr cur).toNatClampNeg) ∧
  (∀ s, s < 3100 → us s ≠ 0 → D (nr s).toNatClampNeg → kp s ≠ 0) ∧
  ∀ s, s < 3100 → kp s ≠ 0 → D (nr s).toNatClampNeg ∨ (∃ j : Nat, (j : Int) < z.toInt ∧ (st j).toNatClampNeg = s) ∨ (∀ i₉ : Nat, (i₉ : Int) < (ws s).toInt → zcl kp kr kd wd s i₉) ∨ (s = cur ∧ ∀ i₉, i₉ < i → zcl kp kr kd wd s i₉)
def qQC (us nr kr kd ws wd : Nat → Int32) (Q D : Nat → Prop) : Prop := ∀ s, s < 3100 → us s ≠ 0 → Q (nr s).toNatClampNeg → ¬ D (nr s).toNatClampNeg → ∀ i : Nat, (i : Int) < (ws s).toInt → 0 ≤ (zrf kr kd wd s i).toInt → Q (nr (zrf kr kd wd s i).toNatClampNeg).toNatClampNeg
section QK
variable {aa a b : Nat → Nat → Int32} {us nr kr kd ws at₉ ho wd wi ow rt wk wl kp kp₉ st : Nat → Int32} {wm nu ro fo le ra pi z v y x j : Int32} {cur i n s t u : Nat} {m ms : Nat → Nat → Int32} {Q D : Nat → Prop}
theorem KA_push (h : qKA (m 110) us nr kr kd ws wd (ms 118) z Q D cur i) (h0 : 0 ≤ v.toInt) (h3 : v.toInt ≤ 3099) (hu : us v.toNatClampNeg ≠ 0) (hq : Q (nr v.toNatClampNeg).toNatClampNeg) (hk : m 110 v.toNatClampNeg = 0) (hz : 0 ≤ z.toInt) (hy : y.toInt = z.toInt + 1) (hx : x ≠ 0) : qKA (ma_u m 110 v.toNatClampNeg x 110) us nr kr kd ws wd (ma_u ms 118 z.toNatClampNeg v 118) y Q D cur i := by
  obtain ⟨h1, h2, h3₉, h4, h5⟩ := h
  have cv := tn_cast h0
  have cz := tn_cast hz
  have nd : ¬ D (nr v.toNatClampNeg).toNatClampNeg := fun w => h4 _ (by omega) hu w hk
  refine ⟨fun s hs hk2 => ?_, fun j hj => ?_, fun hc => ⟨mu_mono hx (h3₉ hc).1, (h3₉ hc).2⟩, fun s hs hu2 hd => mu_mono hx (h4 s hs hu2 hd), fun s hs hk2 => ?_⟩
  · by_cases e : s = v.toNatClampNeg
    · rw [e]
      exact ⟨hu, hq⟩
    · exact h1 s hs (mu_back e hk2)
  · by_cases e : j = z.toNatClampNeg
    · rw [e, mu_self, mu_self]
      exact ⟨⟨h0, by omega⟩, hx, nd⟩
    · rw [mu_ne e]
      have q := h2 j (by omega)
      exact ⟨q.1, mu_mono hx q.2.1, q.2.2⟩
  · by_cases e : s = v.toNatClampNeg
    · exact Or.inr (Or.inl ⟨z.toNatClampNeg, by omega, by rw [mu_self, e]⟩)
    · rcases h5 s hs (mu_back e hk2) with q | ⟨j, hj, hs2⟩ | q | ⟨q1, q2⟩
      · exact Or.inl q
      · exact Or.inr (Or.inl ⟨j, by omega, by rw [mu_ne (by omega)]; exact hs2⟩)
      · exact Or.inr (Or.inr (Or.inl (fun i₉ hi => zcl_mono hx (q i₉ hi))))
      · exact Or.inr (Or.inr (Or.inr ⟨q1, fun i₉ hi => zcl_mono hx (q2 i₉ hi)⟩))
theorem KA_adv {i2 : Nat} (h : qKA kp us nr kr kd ws wd st z Q D cur i) (hr : zcl kp kr kd wd cur i) (e : i2 = i + 1) : qKA kp us nr kr kd ws wd st z Q D cur i2 := by
  subst e
  refine ⟨h.1, h.2.1, h.2.2.1, h.2.2.2.1, fun s hs hk => ?_⟩
  rcases h.2.2.2.2 s hs hk with q | q | q | ⟨q1, q2⟩
  · exact Or.inl q
  · exact Or.inr (Or.inl q)
  · exact Or.inr (Or.inr (Or.inl q))
  · refine Or.inr (Or.inr (Or.inr ⟨q1, fun i₉ hi => ?_⟩))
    by_cases e : i₉ = i
    · rw [e, q1]
      exact hr
    · exact q2 i₉ (by omega)
theorem KA_done (h : qKA kp us nr kr kd ws wd st z Q D cur i) (hi : (ws cur).toInt ≤ (i : Int)) : qKA kp us nr kr kd ws wd st z Q D 3100 0 := by
  refine ⟨h.1, h.2.1, fun e => absurd e (by decide), h.2.2.2.1, fun s hs hk => ?_⟩
  rcases h.2.2.2.2 s hs hk with q | q | q | ⟨q1, q2⟩
  · exact Or.inl q
  · exact Or.inr (Or.inl q)
  · exact Or.inr (Or.inr (Or.inl q))
  · refine Or.inr (Or.inr (Or.inl (fun i₉ hi₉ => q2 i₉ ?_)))
    rw [q1] at hi₉
    omega
theorem KA_pop (h : qKA kp us nr kr kd ws wd st z Q D 3100 i) (hz : 0 < z.toInt) (hy : y.toInt = z.toInt - 1) (hc : cur = (st y.toNatClampNeg).toNatClampNeg) : qKA kp us nr kr kd ws wd st y Q D cur 0 := by
  have cy := tn_cast (x := y) (by omega)
  have p := h.2.1 y.toNatClampNeg (by omega)
  refine ⟨h.1, fun j hj => h.2.1 j (by omega), fun _ => by rw [hc]; exact p.2, h.2.2.2.1, fun s hs hk => ?_⟩
  rcases h.2.2.2.2 s hs hk with q | ⟨j, hj, hs2⟩ | q | ⟨q1, q2⟩
  · exact Or.inl q
  · by_cases e : j = y.toNatClampNeg
    · refine Or.inr (Or.inr (Or.inr ⟨?_, fun i₉ hi => absurd hi (Nat.not_lt_zero _)⟩))
      rw [hc, ← e, hs2]
    · exact Or.inr (Or.inl ⟨j, by omega, hs2⟩)
  · exact Or.inr (Or.inr (Or.inl q))
  · omega
theorem KA_none (h : ∀ s, s < 3100 → kp s = 0) (hz : z.toInt = 0) (hd : ∀ u, ¬ D u) : qKA kp us nr kr kd ws wd st z Q D 3100 0 :=
  ⟨fun s hs hk => absurd (h s hs) hk, fun j hj => by omega, fun e => absurd e (by decide), fun s _ _ w => absurd w (hd _), fun s hs hk => absurd (h s hs) hk⟩
/-- what the one at work refers to -/
theorem KA_ref (h : qKA kp us nr kr kd ws wd st z Q D cur i) (hQ : qQC us nr kr kd ws wd Q D) (hR : qR2 us nr kr kd ws wd aa) (hc : cur < 3100) (hi : (i : Int) < (ws cur).toInt) (hv : v = zrf kr kd wd cur i) (h0 : 0 ≤ v.toInt) : us v.toNatClampNeg ≠ 0 ∧ Q (nr v.toNatClampNeg).toNatClampNeg := by
  have k := h.2.2.1 hc
  have u := h.1 cur hc k.1
  have r := hR cur hc u.1 i hi
  rw [← hv] at r
  have q := hQ cur hc u.1 u.2 k.2 i hi (by rw [← hv]; exact h0)
  rw [← hv] at q
  exact ⟨(U_y r.1 h0).2, q⟩
/-- who refers to whom, by slots -/
theorem Ed_s (hR : qRB us nr kr kd ws at₉ ho wd wi ow rt wk wl wm nu ro fo le ra pi aa) (ht : t < 3100) (hu : us t ≠ 0) (hi : (i : Int) < (ws t).toInt) (h0 : 0 ≤ (zrf kr kd wd t i).toInt) : zEd aa (nr t).toNatClampNeg (nr (zrf kr kd wd t i).toNatClampNeg).toNatClampNeg := by
  have r := hR.2.1 t ht hu i hi
  have u := U_y r.1 h0
  have hs := tn_lt h0 u.1
  have b := (hR.1.1 t ht hu)
  have ei : (Int32.ofNat i).toInt = (i : Int) := Int32.toInt_ofNat_of_lt (by have := b.2.2.2.2.2.1; omega)
  refine ⟨R1_al hR.1 hs u.2, Int32.ofNat i, by omega, ?_, ?_⟩
  · rw [b.2.2.1, i_p1 (by have := b.2.2.2.2.2.1; omega)]
    omega
  · rw [r.2.1, No_y h0, R1_of_nr hR.1 hs u.2]
theorem Ed_t (hR : qRB us nr kr kd ws at₉ ho wd wi ow rt wk wl wm nu ro fo le ra pi aa) (ht : t < 3100) (hu : us t ≠ 0) (h : zEd aa (nr t).toNatClampNeg n) : ∃ i : Nat, (i : Int) < (ws t).toInt ∧ 0 ≤ (zrf kr kd wd t i).toInt ∧ (zrf kr kd wd t i).toNatClampNeg < 3100 ∧ us (zrf kr kd wd t i).toNatClampNeg ≠ 0 ∧ (nr (zrf kr kd wd t i).toNatClampNeg).toNatClampNeg = n := by
  obtain ⟨al, i, h0, h1, h2⟩ := h
  have b := (hR.1.1 t ht hu)
  rw [b.2.2.1, i_p1 (by have := b.2.2.2.2.2.1; omega)] at h1
  have c := tn_cast h0
  have r := hR.2.1 t ht hu i.toNatClampNeg (by omega)
  rw [ofN_tn h0, h2] at r
  have en := ofN_i al.1
  by_cases z : (zrf kr kd wd t i.toNatClampNeg).toInt < 0
  · rw [No_n z] at r
    have := congrArg Int32.toInt r.2.1
    rw [en] at this
    have e1 : (-1 : Int32).toInt = -1 := rfl
    omega
  · have u := U_y r.1 (by omega)
    refine ⟨i.toNatClampNeg, by omega, by omega, tn_lt (by omega) u.1, u.2, ?_⟩
    rw [No_y (by omega)] at r
    rw [← r.2.1]
    exact tn_of al.1
theorem QC_M {N : Nat → Prop} (hR : qRB us nr kr kd ws at₉ ho wd wi ow rt wk wl wm nu ro fo le ra pi aa) : qQC us nr kr kd ws wd (zM N D (zEd aa)) D := fun s hs hu hq hd i hi h0 => zM_cl hq hd (Ed_s hR hs hu hi h0)
/-- ROOTS, WISHES and held ones are reached -/
theorem Rc_rt (hR : qRB us nr kr kd ws at₉ ho wd wi ow rt wk wl wm nu ro fo le ra pi aa) (hj : 0 ≤ j.toInt) (hj2 : j.toInt < 16) (hx : x = rt j.toNatClampNeg) (h0 : 0 ≤ x.toInt) : us x.toNatClampNeg ≠ 0 ∧ zRch aa (nr x.toNatClampNeg).toNatClampNeg := by
  have c := tn_cast hj
  have r := hR.2.2.1 j.toNatClampNeg (by omega)
  rw [← hx] at r
  have u := U_y r.1 h0
  have hs := tn_lt h0 u.1
  refine ⟨u.2, zM_in ⟨R1_al hR.1 hs u.2, Or.inl ⟨j.toNatClampNeg, by omega, ?_⟩⟩⟩
  rw [r.2, No_y h0, R1_of_nr hR.1 hs u.2]
theorem Rc_wl (hR : qRB us nr kr kd ws at₉ ho wd wi ow rt wk wl wm nu ro fo le ra pi aa) (hj : 0 ≤ j.toInt) (hj2 : j.toInt < wm.toInt) (hx : x = wl j.toNatClampNeg) : us x.toNatClampNeg ≠ 0 ∧ zRch aa (nr x.toNatClampNeg).toNatClampNeg := by
  have c := tn_cast hj
  have r := hR.2.2.2.2.1.2 j.toNatClampNeg (by omega)
  rw [← hx] at r
  have hs := tn_lt r.1.1 r.1.2.1
  refine ⟨r.1.2.2, zM_in ⟨R1_al hR.1 hs r.1.2.2, Or.inr (Or.inl ⟨j.toNatClampNeg, by rw [hR.2.2.2.2.1.1]; omega, ?_⟩)⟩⟩
  rw [r.2, R1_of_nr hR.1 hs r.1.2.2]
theorem Rc_ho (hR : qRB us nr kr kd ws at₉ ho wd wi ow rt wk wl wm nu ro fo le ra pi aa) (hI : qI aa) (hs : s < 3100) (hu : us s ≠ 0) (hh : 0 < (ho s).toInt) : zRch aa (nr s).toNatClampNeg := by
  have al := R1_al hR.1 hs hu
  refine zM_in ⟨al, Or.inr (Or.inr ⟨(hI.1 _ al).1.1, ?_⟩)⟩
  rw [(hR.1.1 s hs hu).2.2.2.2.1]
  exact hh
/-- all of it -/
theorem KR_end (hR : qRB us nr kr kd ws at₉ ho wd wi ow rt wk wl wm nu ro fo le ra pi aa) (h : qKA kp us nr kr kd ws wd st z (zRch aa) (fun _ => False) 3100 0) (hz : z.toInt = 0) (h1 : zcov kp rt 16) (h2 : zcov kp wl wm.toInt) (h3 : ∀ s : Nat, (s : Int) < 3100 → us s ≠ 0 → 0 < (ho s).toInt → kp s ≠ 0) (hs : s < 3100) (hu : us s ≠ 0) : kp s ≠ 0 ↔ zRch aa (nr s).toNatClampNeg := by
  refine ⟨fun w => (h.1 s hs w).2, fun w => ?_⟩
  have q := w (fun x => ∃ t, t < 3100 ∧ us t ≠ 0 ∧ (nr t).toNatClampNeg = x ∧ kp t ≠ 0) (fun g hg => ?_) (fun u y hp _ he => ?_)
  · obtain ⟨t, ht, hv, e, hk⟩ := q
    rw [← R1_in hR.1 ht hs hv hu e]
    exact hk
  · obtain ⟨al, ⟨j, j1, j2⟩ | ⟨j, j1, j2⟩ | hh⟩ := hg
    · have r := hR.2.2.1 j j1
      rw [j2] at r
      have en := ofN_i al.1
      by_cases w2 : (rt j).toInt < 0
      · rw [No_n w2] at r
        have := congrArg Int32.toInt r.2
        rw [en] at this
        have e1 : (-1 : Int32).toInt = -1 := rfl
        omega
      · have u := U_y r.1 (by omega)
        rw [No_y (by omega)] at r
        refine ⟨(rt j).toNatClampNeg, tn_lt (by omega) u.1, u.2, by rw [← r.2]; exact tn_of al.1, ?_⟩
        exact (h1 j (by omega)).elim (fun w3 => absurd w3 w2) id
    · rw [hR.2.2.2.2.1.1] at j1
      have r := hR.2.2.2.2.1.2 j j1
      rw [j2] at r
      refine ⟨(wl j).toNatClampNeg, tn_lt r.1.1 r.1.2.1, r.1.2.2, by rw [← r.2]; exact tn_of al.1, ?_⟩
      exact (h2 j j1).elim (fun w3 => absurd w3 (by have := r.1.1; omega)) id
    · obtain ⟨t, ht, hv, e⟩ := R1_ex hR.1 al
      refine ⟨t, ht, hv, e, h3 t (by omega) hv ?_⟩
      have e2 := (hR.1.1 t ht hv).2.2.2.2.1
      rw [← e2, e]
      exact hh.2
  · obtain ⟨t, ht, hv, e, hk⟩ := hp
    rw [← e] at he
    obtain ⟨i, i1, i2, i3, i4, i5⟩ := Ed_t hR ht hv he
    refine ⟨_, i3, i4, i5, ?_⟩
    rcases h.2.2.2.2 t ht hk with w | ⟨j, j1, _⟩ | w | ⟨w, _⟩
    · exact w.elim
    · omega
    · exact (w i i1).elim (fun w2 => by omega) id
    · omega
theorem Rq_ch (hI : qI aa) : zRq aa x ↔ 0 ≤ x.toInt ∧ x.toInt < 512 ∧ aa 126 x.toNatClampNeg ≠ 0 ∧ zRch aa x.toNatClampNeg := by
  have q : ∀ n, zNn (aRA aa) n ↔ zRch aa n := fun n => RA_set (fun y hy => (hI.1 y hy).1.2) hI.2.2.2.1.1.2 hI.2.2.2.1.2.1.2
  unfold zRq
  constructor
  · rintro ⟨w1, w2, w3, w4⟩
    have c := tn_cast w1
    exact ⟨w1, w2, w3, (q _).mp ⟨by omega, w4⟩⟩
  · rintro ⟨w1, w2, w3, w4⟩
    exact ⟨w1, w2, w3, ((q _).mpr w4).2⟩
def qRe (us nr : Nat → Int32) (a : Nat → Nat → Int32) (x v : Int32) : Prop := (v = -1 ∧ ¬ zRq a x) ∨ (0 ≤ v.toInt ∧ v.toInt ≤ 3099 ∧ us v.toNatClampNeg ≠ 0 ∧ nr v.toNatClampNeg = x ∧ zRq a x)
theorem Re_0 (hR : qRB us nr kr kd ws at₉ ho wd wi ow rt wk wl wm nu ro fo le ra pi aa) (h : qPl us nr x v) (hv : v.toInt < 0) : qRe us nr aa x (-1) := by
  refine Or.inl ⟨rfl, fun w => ?_⟩
  rcases h with q | q
  · have c := tn_cast w.1
    have w1 := w.2.1
    obtain ⟨t, ht, hu, e⟩ := hR.1.2.2 x.toNatClampNeg (by omega) w.2.2.1
    refine q.2 t ht hu ?_
    rw [e]
    exact ofN_tn w.1
  · omega
theorem Re_1 (hR : qRB us nr kr kd ws at₉ ho wd wi ow rt wk wl wm nu ro fo le ra pi aa) (hI : qI aa) (h : qPl us nr x v) (hv : 0 ≤ v.toInt) (hk : ∀ s, s < 3100 → us s ≠ 0 → (kp s ≠ 0 ↔ zRch aa (nr s).toNatClampNeg)) (h0 : kp v.toNatClampNeg = 0) : qRe us nr aa x (-1) := by
  rcases h with q | q
  · rw [q.1] at hv
    exact absurd hv (by decide)
  · refine Or.inl ⟨rfl, fun w => ?_⟩
    have w4 := ((Rq_ch hI).mp w).2.2.2
    have k := hk _ (tn_lt q.1 (by omega)) q.2.2.1
    rw [q.2.2.2] at k
    exact k.mpr w4 h0
theorem Re_2 (hR : qRB us nr kr kd ws at₉ ho wd wi ow rt wk wl wm nu ro fo le ra pi aa) (hI : qI aa) (h : qPl us nr x v) (hv : 0 ≤ v.toInt) (hk : ∀ s, s < 3100 → us s ≠ 0 → (kp s ≠ 0 ↔ zRch aa (nr s).toNatClampNeg)) (h0 : kp v.toNatClampNeg ≠ 0) : qRe us nr aa x v := by
  rcases h with q | q
  · rw [q.1] at hv
    exact absurd hv (by decide)
  · have hs := tn_lt q.1 (by omega)
    have t := hR.1.1 _ hs q.2.2.1
    have k := (hk _ hs q.2.2.1).mp h0
    rw [q.2.2.2] at k t
    exact Or.inr ⟨q.1, q.2.1, q.2.2.1, q.2.2.2, (Rq_ch hI).mpr ⟨t.1.1, t.1.2, t.2.1, k⟩⟩
end QK
theorem lp_191r_29 {X : Nat × (Nat → Int32)} {P : Option ma_V → (Nat → Nat → Int32) → Prop} {aa : Nat→Nat→Int32} {QQ : Nat→Prop} {DD : Nat→Prop} {m0 : Nat → Nat → Int32} (h0 : zV m0) (K : ∀ m₉, zF wr_191 m0 m₉ → zV m₉ → ((m₉ 94 73).toInt = 0) → (zle (m0 110) (m₉ 110)) → (qKA (m₉ 110) (m₉ 99) (m₉ 100) (m₉ 98) (m₉ 101) (m₉ 102) (m₉ 108) (m₉ 118) (m₉ 94 73) QQ DD 3100 0) → P none m₉) {n0 : Nat} (OUT0 : ∀ (m₉ : Nat → Nat → Int32) , ((zMu (m₉ 110) (m₉ 94 73) : Int)).toNat < n0 → zF wr_191 m0 m₉ → zV m₉ → (zKS (m₉ 110) (m₉ 94 73)) → (zW (m₉ 94 7) (m₉ 98) (m₉ 101) (m₉ 102) (m₉ 108)) → (qRB (m₉ 99) (m₉ 100) (m₉ 98) (m₉ 101) (m₉ 102) (m₉ 103) (m₉ 107) (m₉ 108) (m₉ 109) (m₉ 111) (m₉ 112) (m₉ 113) (m₉ 114) (m₉ 94 55) (m₉ 94 46) (m₉ 94 11) (m₉ 94 12) (m₉ 94 62) (m₉ 94 17) (m₉ 94 9) aa) → (qQC (m₉ 99) (m₉ 100) (m₉ 98) (m₉ 101) (m₉ 102) (m₉ 108) QQ DD) → (zle (m0 110) (m₉ 110)) → (qKA (m₉ 110) (m₉ 99) (m₉ 100) (m₉ 98) (m₉ 101) (m₉ 102) (m₉ 108) (m₉ 118) (m₉ 94 73) QQ DD 3100 0) → zm X 2 44 191 0 [(0, .inr (.inr (some 94)))] m₉ P) : ∀ (n : Nat) (m : Nat → Nat → Int32) (l1 : Int32) (l2 : Int32), (61 - l2.toInt).toNat = n → zF wr_191 m0 m → zV m → (0 ≤ l1.toInt) → (l1.toInt ≤ 3099) → (0 ≤ l2.toInt) → (zKS (m 110) (m 94 73)) → (zW (m 94 7) (m 98) (m 101) (m 102) (m 108)) → (qRB (m 99) (m 100) (m 98) (m 101) (m 102) (m 103) (m 107) (m 108) (m 109) (m 111) (m 112) (m 113) (m 114) (m 94 55) (m 94 46) (m 94 11) (m 94 12) (m 94 62) (m 94 17) (m 94 9) aa) → (qQC (m 99) (m 100) (m 98) (m 101) (m 102) (m 108) QQ DD) → (zle (m0 110) (m 110)) → (qKA (m 110) (m 99) (m 100) (m 98) (m 101) (m 102) (m 108) (m 118) (m 94 73) QQ DD l1.toNatClampNeg l2.toNatClampNeg) → (zMu (m 110) (m 94 73) < n0) → zm X 2 44 191 29 [(0, .inr (.inr (some 94))), (1, .inl l1), (2, .inl l2)] m P := by
  intro n
  induction n using Nat.strongRecOn with
  | _ n IH =>
    intro m l1 l2 hmu hF hV hi0 hi1 hi2 r_KS r_W r_RB r_QC r_KM r_KA r_MU
    refine g_191_29 l1 l2 ?_
    have b1 := i_bd l1
    have hg2 : (0 ≤ l1 ∧ l1.toNatClampNeg < 3100) := i_ix (by omega) (by omega)
    refine ⟨hg2, ?_⟩
    first | have f3 : 0 ≤ (m 102 l1.toNatClampNeg).toInt ∧ (m 102 l1.toNatClampNeg).toInt ≤ 60 := ra_102 (m := m) hV (k := l1.toNatClampNeg) (i_ix (n := 3100) (by omega) (by omega)).2 | have b4 := i_bd (m 102 l1.toNatClampNeg)
    have b5 := i_bd l2
    refine zd (fun (h6 : (m 102 l1.toNatClampNeg) ≤ l2) => ?_) (fun (h6 : ¬ (m 102 l1.toNatClampNeg) ≤ l2) => ?_)
    · skip
      have g7 := i_le h6
      exact OUT0 _  (show ((zMu (m 110) (m 94 73) : Int)).toNat < n0 from by omega) hF hV r_KS r_W r_RB r_QC r_KM (show qKA (m 110) (m 99) (m 100) (m 98) (m 101) (m 102) (m 108) (m 118) (m 94 73) QQ DD 3100 0 from by first | (exact KA_done r_KA (by rw [tn_cast (x := l2) (by omega)]; omega)) | (exfalso; omega; done) | (exfalso; contradiction; done))
    · skip
      have g8 := i_nle h6
      refine sp_192 (l1) (l2) hV (by omega) (by omega) (by omega) (show l2.toInt < (m 102 l1.toNatClampNeg).toInt from by omega) (fun v2 m1 hV_m1 p0_m1 => zmi_n ?_)
      have p0_m1 : v2 = zrf (m 98) (m 101) (m 108) l1.toNatClampNeg l2.toNatClampNeg := p0_m1
      try have := W_ref r_W (by omega) (by omega) (by omega) (by omega) p0_m1
      have b9 := i_bd v2
      have li10 : (0 : Int32).toInt = 0 := rfl
      refine zd (fun (h11 : v2 < (0 : Int32)) => ?_) (fun (h11 : ¬ v2 < (0 : Int32)) => ?_)
      · skip
        have g12 := i_lt h11
        first | have e13 : (l2 + (1 : Int32)).toInt = l2.toInt + (1) := i_addk rfl (by omega) (by omega) | have b14 := i_bd (l2 + (1 : Int32))
        exact IH (61 - (l2 + (1 : Int32)).toInt).toNat (by omega) _ (l1) ((l2 + (1 : Int32))) rfl (zF_zov hF ws_192_191) hV_m1 (by omega) (by omega) (by omega) r_KS r_W r_RB r_QC r_KM (show qKA (m 110) (m 99) (m 100) (m 98) (m 101) (m 102) (m 108) (m 118) (m 94 73) QQ DD l1.toNatClampNeg (l2 + (1 : Int32)).toNatClampNeg from by first | (exact KA_adv r_KA (Or.inl (by rw [← p0_m1]; omega)) (tn_succ (by omega) (by omega))) | (exact KA_adv r_KA (Or.inr (by rw [← p0_m1]; assumption)) (tn_succ (by omega) (by omega))) | (exfalso; omega; done) | (exfalso; contradiction; done)) r_MU
      · skip
        have g15 := i_nlt h11
        have hg16 : (0 ≤ v2 ∧ v2.toNatClampNeg < 3100) := i_ix (by omega) (by omega)
        refine ⟨hg16, ?_⟩
        first | have f17 : 0 ≤ (m 110 v2.toNatClampNeg).toInt ∧ (m 110 v2.toNatClampNeg).toInt ≤ 1 := ra_110 (m := m) hV (k := v2.toNatClampNeg) (i_ix (n := 3100) (by omega) (by omega)).2 | have b18 := i_bd (m 110 v2.toNatClampNeg)
        refine zd (fun (h19 : (m 110 v2.toNatClampNeg) = (0 : Int32)) => ?_) (fun (h19 : ¬ (m 110 v2.toNatClampNeg) = (0 : Int32)) => ?_)
        · skip
          have g20 := i_eq h19
          have hg21 : (0 ≤ v2 ∧ v2.toNatClampNeg < 3100) := i_ix (by omega) (by omega)
          refine ⟨hg21, ?_⟩
          have f22 : 0 ≤ (m 94 73).toInt ∧ (m 94 73).toInt ≤ 3100 := rs_94_73 (m := m) hV
          try have gk := KS_room r_KS (by assumption) (by omega)
          have hg23 : (0 ≤ (m 94 73) ∧ (m 94 73).toNatClampNeg < 3100) := i_ix (by omega) (by omega)
          refine ⟨hg23, ?_⟩
          have li25 : (1 : Int32).toInt = 1 := rfl
          have hV24 : zV (ma_u (zov wr_192 m m1) 110 v2.toNatClampNeg (1 : Int32)) := ua_110 hV_m1 (by omega) (by omega)
          have hV26 : zV (ma_u (ma_u (zov wr_192 m m1) 110 v2.toNatClampNeg (1 : Int32)) 118 (m 94 73).toNatClampNeg v2) := ua_118 hV24 (by omega) (by omega)
          first | have e28 : ((m 94 73) + (1 : Int32)).toInt = (m 94 73).toInt + (1) := i_addk rfl (by omega) (by omega) | have b29 := i_bd ((m 94 73) + (1 : Int32))
          have hV27 : zV (ma_u (ma_u (ma_u (zov wr_192 m m1) 110 v2.toNatClampNeg (1 : Int32)) 118 (m 94 73).toNatClampNeg v2) 94 73 ((m 94 73) + (1 : Int32))) := us_94_73 hV26 (by omega) (by omega)
          first | have e30 : (l2 + (1 : Int32)).toInt = l2.toInt + (1) := i_addk rfl (by omega) (by omega) | have b31 := i_bd (l2 + (1 : Int32))
          exact IH (61 - (l2 + (1 : Int32)).toInt).toNat (by omega) _ (l1) ((l2 + (1 : Int32))) rfl (zF_u (zF_u (zF_u (zF_zov hF ws_192_191) rfl) rfl) rfl) hV27 (by omega) (by omega) (by omega) (show zKS ((ma_u m 110 v2.toNatClampNeg (1 : Int32)) 110) ((m 94 73) + (1 : Int32)) from by first | (exact KS_push r_KS (by assumption) (by omega) (by decide) (by assumption)) | (exact KS_push (KS_0 (r := m 110) (y := m 94 73) (by omega)) (by assumption) (by omega) (by decide) (by assumption)) | (exfalso; omega; done) | (exfalso; contradiction; done)) r_W r_RB r_QC (show zle (m0 110) ((ma_u m 110 v2.toNatClampNeg (1 : Int32)) 110) from by first | (exact zle_push r_KM (by decide)) | (exact zle_rfl) | (exfalso; omega; done) | (exfalso; contradiction; done)) (show qKA ((ma_u m 110 v2.toNatClampNeg (1 : Int32)) 110) (m 99) (m 100) (m 98) (m 101) (m 102) (m 108) ((ma_u m 118 (m 94 73).toNatClampNeg v2) 118) ((m 94 73) + (1 : Int32)) QQ DD l1.toNatClampNeg (l2 + (1 : Int32)).toNatClampNeg from by first | (exact KA_adv (KA_push r_KA (by omega) (by omega) (KA_ref r_KA r_QC r_RB.2.1 (by omega) (by rw [tn_cast (x := l2) (by omega)]; omega) p0_m1 (by omega)).1 (KA_ref r_KA r_QC r_RB.2.1 (by omega) (by rw [tn_cast (x := l2) (by omega)]; omega) p0_m1 (by omega)).2 (by assumption) (by omega) (by omega) (by decide)) (Or.inr (by rw [← p0_m1, mu_self]; decide)) (tn_succ (by omega) (by omega))) | (exfalso; omega; done) | (exfalso; contradiction; done)) (show zMu ((ma_u m 110 v2.toNatClampNeg (1 : Int32)) 110) ((m 94 73) + (1 : Int32)) < n0 from by first | (have zq := Mu_push (m := m) (c := 110) (z := m 94 73) (y := (m 94 73) + (1 : Int32)) (x := 1) (by omega) (by assumption) (by omega) (by decide) (by assumption); omega; done) | (exfalso; omega; done) | (exfalso; contradiction; done))
        · skip
          have g32 := i_ne h19
          first | have e33 : (l2 + (1 : Int32)).toInt = l2.toInt + (1) := i_addk rfl (by omega) (by omega) | have b34 := i_bd (l2 + (1 : Int32))
          exact IH (61 - (l2 + (1 : Int32)).toInt).toNat (by omega) _ (l1) ((l2 + (1 : Int32))) rfl (zF_zov hF ws_192_191) hV_m1 (by omega) (by omega) (by omega) r_KS r_W r_RB r_QC r_KM (show qKA (m 110) (m 99) (m 100) (m 98) (m 101) (m 102) (m 108) (m 118) (m 94 73) QQ DD l1.toNatClampNeg (l2 + (1 : Int32)).toNatClampNeg from by first | (exact KA_adv r_KA (Or.inl (by rw [← p0_m1]; omega)) (tn_succ (by omega) (by omega))) | (exact KA_adv r_KA (Or.inr (by rw [← p0_m1]; assumption)) (tn_succ (by omega) (by omega))) | (exfalso; omega; done) | (exfalso; contradiction; done)) r_MU
theorem lp_191r_0 {X : Nat × (Nat → Int32)} {P : Option ma_V → (Nat → Nat → Int32) → Prop} {aa : Nat→Nat→Int32} {QQ : Nat→Prop} {DD : Nat→Prop} {m0 : Nat → Nat → Int32} (h0 : zV m0) (K : ∀ m₉, zF wr_191 m0 m₉ → zV m₉ → ((m₉ 94 73).toInt = 0) → (zle (m0 110) (m₉ 110)) → (qKA (m₉ 110) (m₉ 99) (m₉ 100) (m₉ 98) (m₉ 101) (m₉ 102) (m₉ 108) (m₉ 118) (m₉ 94 73) QQ DD 3100 0) → P none m₉) : ∀ (n : Nat) (m : Nat → Nat → Int32) , ((zMu (m 110) (m 94 73) : Int)).toNat = n → zF wr_191 m0 m → zV m → (zKS (m 110) (m 94 73)) → (zW (m 94 7) (m 98) (m 101) (m 102) (m 108)) → (qRB (m 99) (m 100) (m 98) (m 101) (m 102) (m 103) (m 107) (m 108) (m 109) (m 111) (m 112) (m 113) (m 114) (m 94 55) (m 94 46) (m 94 11) (m 94 12) (m 94 62) (m 94 17) (m 94 9) aa) → (qQC (m 99) (m 100) (m 98) (m 101) (m 102) (m 108) QQ DD) → (zle (m0 110) (m 110)) → (qKA (m 110) (m 99) (m 100) (m 98) (m 101) (m 102) (m 108) (m 118) (m 94 73) QQ DD 3100 0) → zm X 2 44 191 0 [(0, .inr (.inr (some 94)))] m P := by
  intro n
  induction n using Nat.strongRecOn with
  | _ n IH =>
    intro m  hmu hF hV r_KS r_W r_RB r_QC r_KM r_KA
    refine g_191_0  ?_
    have f1 : 0 ≤ (m 94 73).toInt ∧ (m 94 73).toInt ≤ 3100 := rs_94_73 (m := m) hV
    have li2 : (0 : Int32).toInt = 0 := rfl
    refine zd (fun (h3 : (m 94 73) ≤ (0 : Int32)) => ?_) (fun (h3 : ¬ (m 94 73) ≤ (0 : Int32)) => ?_)
    · skip
      have g4 := i_le h3
      exact K _ hF hV (show (m 94 73).toInt = 0 from by omega) r_KM r_KA
    · skip
      have g5 := i_nle h3
      first | have e6 : ((m 94 73) - (1 : Int32)).toInt = (m 94 73).toInt - (1) := i_subk rfl (by omega) (by omega) | have b7 := i_bd ((m 94 73) - (1 : Int32))
      try have gk := KS_room r_KS (by assumption) (by omega)
      have hg8 : (0 ≤ ((m 94 73) - (1 : Int32)) ∧ ((m 94 73) - (1 : Int32)).toNatClampNeg < 3100) := i_ix (by omega) (by omega)
      refine ⟨hg8, ?_⟩
      have hV9 : zV (ma_u m 94 73 ((m 94 73) - (1 : Int32))) := us_94_73 hV (by omega) (by omega)
      first | have f10 : 0 ≤ (m 118 ((m 94 73) - (1 : Int32)).toNatClampNeg).toInt ∧ (m 118 ((m 94 73) - (1 : Int32)).toNatClampNeg).toInt ≤ 3099 := ra_118 (m := m) hV (k := ((m 94 73) - (1 : Int32)).toNatClampNeg) (i_ix (n := 3100) (by omega) (by omega)).2 | have b11 := i_bd (m 118 ((m 94 73) - (1 : Int32)).toNatClampNeg)
      exact lp_191r_29 h0 K (fun _  z1 z2 z3 y0 y1 y2 y3 y4 y5 => IH _ z1 _  rfl z2 z3 y0 y1 y2 y3 y4 y5) _ _ ((m 118 ((m 94 73) - (1 : Int32)).toNatClampNeg)) ((0 : Int32)) rfl (zF_u hF rfl) hV9 (by omega) (by omega) (by omega) (show zKS (m 110) ((m 94 73) - (1 : Int32)) from by first | (exact KS_0 (by omega)) | (exact KS_dec r_KS (by omega)) | (exfalso; omega; done) | (exfalso; contradiction; done)) r_W r_RB r_QC r_KM (show qKA (m 110) (m 99) (m 100) (m 98) (m 101) (m 102) (m 108) (m 118) ((m 94 73) - (1 : Int32)) QQ DD (m 118 ((m 94 73) - (1 : Int32)).toNatClampNeg).toNatClampNeg (0 : Int32).toNatClampNeg from by first | (exact KA_pop r_KA (by omega) (by omega) rfl) | (exfalso; omega; done) | (exfalso; contradiction; done)) (show zMu (m 110) ((m 94 73) - (1 : Int32)) < n from by first | (have zq := Mu_pop (r := m 110) (z := m 94 73) (y := (m 94 73) - (1 : Int32)) (by omega) (by omega); omega; done) | (exfalso; omega; done) | (exfalso; contradiction; done))
theorem sp_191r {X : Nat × (Nat → Int32)} {P : Option ma_V → (Nat → Nat → Int32) → Prop} {aa : Nat→Nat→Int32} {QQ : Nat→Prop} {DD : Nat→Prop} {m : Nat → Nat → Int32}  (hV : zV m) (r_KS : zKS (m 110) (m 94 73)) (r_W : zW (m 94 7) (m 98) (m 101) (m 102) (m 108)) (r_RB : qRB (m 99) (m 100) (m 98) (m 101) (m 102) (m 103) (m 107) (m 108) (m 109) (m 111) (m 112) (m 113) (m 114) (m 94 55) (m 94 46) (m 94 11) (m 94 12) (m 94 62) (m 94 17) (m 94 9) aa) (r_QC : qQC (m 99) (m 100) (m 98) (m 101) (m 102) (m 108) QQ DD) (r_KA : qKA (m 110) (m 99) (m 100) (m 98) (m 101) (m 102) (m 108) (m 118) (m 94 73) QQ DD 3100 0) (KZ : ∀ m₉, zV (zov wr_191 m m₉) → ((m₉ 94 73).toInt = 0) → (zle (m 110) (m₉ 110)) → (qKA (m₉ 110) (m 99) (m 100) (m 98) (m 101) (m 102) (m 108) (m₉ 118) (m₉ 94 73) QQ DD 3100 0) → P none (zov wr_191 m m₉)) : zm X 2 44 191 0 [(0, .inr (.inr (some 94)))] m P := by
  have K : ∀ m₉, zF wr_191 m m₉ → zV m₉ → ((m₉ 94 73).toInt = 0) → (zle (m 110) (m₉ 110)) → (qKA (m₉ 110) (m₉ 99) (m₉ 100) (m₉ 98) (m₉ 101) (m₉ 102) (m₉ 108) (m₉ 118) (m₉ 94 73) QQ DD 3100 0) → P none m₉ := by
    intro m₉ hf z q0 q1 q2
    have e := zov_eq hf
    rw [e] at z ⊢
    try rw [e] at q0
    try rw [e] at q1
    try rw [e] at q2
    exact KZ m₉ z q0 q1 q2
  exact lp_191r_0 hV K _ _  rfl zF_rfl hV r_KS r_W r_RB r_QC (show zle (m 110) (m 110) from by first | (exact zle_rfl) | (exfalso; omega; done) | (exfalso; contradiction; done)) r_KA

/-! from 95.h10 -/
/-! the reference by numbers (written by wip/tools/gen18r.py) -/
theorem cvh_s {us ho kp : Nat → Int32} {i j : Int32} (h : ∀ s : Nat, (s : Int) < i.toInt → us s ≠ 0 → 0 < (ho s).toInt → kp s ≠ 0) (e : j.toInt = i.toInt + 1) (h0 : 0 ≤ i.toInt) (hc : us i.toNatClampNeg = 0 ∨ (ho i.toNatClampNeg).toInt ≤ 0 ∨ kp i.toNatClampNeg ≠ 0) : ∀ s : Nat, (s : Int) < j.toInt → us s ≠ 0 → 0 < (ho s).toInt → kp s ≠ 0 := by
  intro t ht hu hh
  have c := tn_cast h0
  by_cases z : t = i.toNatClampNeg
  · rw [z] at hu hh ⊢
    rcases hc with w | w | w
    · exact absurd w hu
    · omega
    · exact w
  · exact h t (by omega) hu hh
theorem cvh_p {us ho : Nat → Int32} {m : Nat → Nat → Int32} {k : Nat} {l : Int} {x : Int32} (h : ∀ s : Nat, (s : Int) < l → us s ≠ 0 → 0 < (ho s).toInt → m 110 s ≠ 0) (hx : x ≠ 0) : ∀ s : Nat, (s : Int) < l → us s ≠ 0 → 0 < (ho s).toInt → ma_u m 110 k x 110 s ≠ 0 := fun s a b c => mu_mono hx (h s a b c)
theorem cvh_le {us ho kp kp₉ : Nat → Int32} {l : Int} (h : ∀ s : Nat, (s : Int) < l → us s ≠ 0 → 0 < (ho s).toInt → kp s ≠ 0) (hl : zle kp kp₉) (h3 : l ≤ 3100) : ∀ s : Nat, (s : Int) < l → us s ≠ 0 → 0 < (ho s).toInt → kp₉ s ≠ 0 := fun s a b c => hl s (by omega) (h s a b c)
theorem lp_188r_61 {X : Nat × (Nat → Int32)} {P : Option ma_V → (Nat → Nat → Int32) → Prop} {aa : Nat→Nat→Int32} {m0 : Nat → Nat → Int32} (h0 : zV m0) (K : ∀ m₉, zF wr_188 m0 m₉ → zV m₉ → ((m₉ 94 73).toInt = 0) → (∀ s, s < 3100 → (m₉ 99) s ≠ 0 → ((m₉ 110) s ≠ 0 ↔ zRch aa ((m₉ 100) s).toNatClampNeg)) → P none m₉) : ∀ (n : Nat) (m : Nat → Nat → Int32) (l1 : Int32), (3100 - l1.toInt).toNat = n → zF wr_188 m0 m → zV m → (l1.toInt ≤ 3100) → (0 ≤ l1.toInt) → (zKS (m 110) (m 94 73)) → (zW (m 94 7) (m 98) (m 101) (m 102) (m 108)) → (qRB (m 99) (m 100) (m 98) (m 101) (m 102) (m 103) (m 107) (m 108) (m 109) (m 111) (m 112) (m 113) (m 114) (m 94 55) (m 94 46) (m 94 11) (m 94 12) (m 94 62) (m 94 17) (m 94 9) aa) → (qI aa) → (qKA (m 110) (m 99) (m 100) (m 98) (m 101) (m 102) (m 108) (m 118) (m 94 73) (zRch aa) (fun _ => False) 3100 0) → (zcov (m 110) (m 112) 16) → (zcov (m 110) (m 114) (m 94 55).toInt) → (∀ s : Nat, (s : Int) < l1.toInt → (m 99) s ≠ 0 → 0 < ((m 107) s).toInt → (m 110) s ≠ 0) → zm X 3 66 188 61 [(0, .inr (.inr (some 94))), (1, .inl l1)] m P := by
  intro n
  induction n using Nat.strongRecOn with
  | _ n IH =>
    intro m l1 hmu hF hV hi0 hi1 r_KS r_W r_RB r_QI r_KA r_CVR r_CVW r_CVH
    refine g_188_61 l1 ?_
    have li1 : (3100 : Int32).toInt = 3100 := rfl
    have b2 := i_bd l1
    refine zd (fun (h3 : (3100 : Int32) ≤ l1) => ?_) (fun (h3 : ¬ (3100 : Int32) ≤ l1) => ?_)
    · skip
      have g4 := i_le h3
      refine sp_191r (aa := aa) (QQ := (zRch aa)) (DD := (fun _ => False))  hV r_KS r_W r_RB (show qQC (m 99) (m 100) (m 98) (m 101) (m 102) (m 108) (zRch aa) (fun _ => False) from by first | (exact QC_M r_RB) | (exfalso; omega; done) | (exfalso; contradiction; done)) r_KA (fun m1 hV_m1 p0_m1 p1_m1 p2_m1 => zmv_n ?_)
      have p0_m1 : (m1 94 73).toInt = 0 := p0_m1
      have p1_m1 : zle (m 110) (m1 110) := p1_m1
      have p2_m1 : qKA (m1 110) (m 99) (m 100) (m 98) (m 101) (m 102) (m 108) (m1 118) (m1 94 73) (zRch aa) (fun _ => False) 3100 0 := p2_m1
      have f5 : 0 ≤ (m1 94 73).toInt ∧ (m1 94 73).toInt ≤ 3100 := rs_94_73 (m := (zov wr_191 m m1)) hV_m1
      exact K _ (zF_zov hF ws_191_188) hV_m1 (show (m1 94 73).toInt = 0 from by omega) (show ∀ s, s < 3100 → (m 99) s ≠ 0 → ((m1 110) s ≠ 0 ↔ zRch aa ((m 100) s).toNatClampNeg) from by first | (exact fun s hs hu => KR_end r_RB p2_m1 (by omega) (cov_le r_CVR p1_m1 (fun k hk => (ra_112 hV (by omega)).2)) (cov_le r_CVW p1_m1 (fun k hk => (ra_114 hV (by have := rs_94_55 hV; omega)).2)) (fun s hs => cvh_le r_CVH p1_m1 (by omega) s (by omega)) hs hu) | (exfalso; omega; done) | (exfalso; contradiction; done))
    · skip
      have g6 := i_nle h3
      have hg7 : (0 ≤ l1 ∧ l1.toNatClampNeg < 3100) := i_ix (by omega) (by omega)
      refine ⟨hg7, ?_⟩
      first | have f8 : 0 ≤ (m 99 l1.toNatClampNeg).toInt ∧ (m 99 l1.toNatClampNeg).toInt ≤ 1 := ra_99 (m := m) hV (k := l1.toNatClampNeg) (i_ix (n := 3100) (by omega) (by omega)).2 | have b9 := i_bd (m 99 l1.toNatClampNeg)
      have li10 : (0 : Int32).toInt = 0 := rfl
      refine zd (fun (h11 : (m 99 l1.toNatClampNeg) = (0 : Int32)) => ?_) (fun (h11 : ¬ (m 99 l1.toNatClampNeg) = (0 : Int32)) => ?_)
      · skip
        have g12 := i_eq h11
        first | have e13 : (l1 + (1 : Int32)).toInt = l1.toInt + (1) := i_addk rfl (by omega) (by omega) | have b14 := i_bd (l1 + (1 : Int32))
        exact IH (3100 - (l1 + (1 : Int32)).toInt).toNat (by omega) _ ((l1 + (1 : Int32))) rfl hF hV (by omega) (by omega) r_KS r_W r_RB r_QI r_KA r_CVR r_CVW (show ∀ s : Nat, (s : Int) < (l1 + (1 : Int32)).toInt → (m 99) s ≠ 0 → 0 < ((m 107) s).toInt → (m 110) s ≠ 0 from by first | (intro s hs; omega; done) | (exact cvh_s r_CVH (by omega) (by omega) (Or.inl (by assumption))) | (exact cvh_s r_CVH (by omega) (by omega) (Or.inr (Or.inl (by omega)))) | (exact cvh_s r_CVH (by omega) (by omega) (Or.inr (Or.inr (by assumption)))) | (exfalso; omega; done) | (exfalso; contradiction; done))
      · skip
        have g15 := i_ne h11
        have hg16 : (0 ≤ l1 ∧ l1.toNatClampNeg < 3100) := i_ix (by omega) (by omega)
        refine ⟨hg16, ?_⟩
        have b17 := i_bd (m 107 l1.toNatClampNeg)
        refine zd (fun (h18 : (m 107 l1.toNatClampNeg) ≤ (0 : Int32)) => ?_) (fun (h18 : ¬ (m 107 l1.toNatClampNeg) ≤ (0 : Int32)) => ?_)
        · skip
          have g19 := i_le h18
          first | have e20 : (l1 + (1 : Int32)).toInt = l1.toInt + (1) := i_addk rfl (by omega) (by omega) | have b21 := i_bd (l1 + (1 : Int32))
          exact IH (3100 - (l1 + (1 : Int32)).toInt).toNat (by omega) _ ((l1 + (1 : Int32))) rfl hF hV (by omega) (by omega) r_KS r_W r_RB r_QI r_KA r_CVR r_CVW (show ∀ s : Nat, (s : Int) < (l1 + (1 : Int32)).toInt → (m 99) s ≠ 0 → 0 < ((m 107) s).toInt → (m 110) s ≠ 0 from by first | (intro s hs; omega; done) | (exact cvh_s r_CVH (by omega) (by omega) (Or.inl (by assumption))) | (exact cvh_s r_CVH (by omega) (by omega) (Or.inr (Or.inl (by omega)))) | (exact cvh_s r_CVH (by omega) (by omega) (Or.inr (Or.inr (by assumption)))) | (exfalso; omega; done) | (exfalso; contradiction; done))
        · skip
          have g22 := i_nle h18
          refine zd (fun (h23 : l1 < (0 : Int32)) => ?_) (fun (h23 : ¬ l1 < (0 : Int32)) => ?_)
          · skip
            have g24 := i_lt h23
            first | have e25 : (l1 + (1 : Int32)).toInt = l1.toInt + (1) := i_addk rfl (by omega) (by omega) | have b26 := i_bd (l1 + (1 : Int32))
            exact IH (3100 - (l1 + (1 : Int32)).toInt).toNat (by omega) _ ((l1 + (1 : Int32))) rfl hF hV (by omega) (by omega) r_KS r_W r_RB r_QI r_KA r_CVR r_CVW (show ∀ s : Nat, (s : Int) < (l1 + (1 : Int32)).toInt → (m 99) s ≠ 0 → 0 < ((m 107) s).toInt → (m 110) s ≠ 0 from by first | (intro s hs; omega; done) | (exact cvh_s r_CVH (by omega) (by omega) (Or.inl (by assumption))) | (exact cvh_s r_CVH (by omega) (by omega) (Or.inr (Or.inl (by omega)))) | (exact cvh_s r_CVH (by omega) (by omega) (Or.inr (Or.inr (by assumption)))) | (exfalso; omega; done) | (exfalso; contradiction; done))
          · skip
            have g27 := i_nlt h23
            have hg28 : (0 ≤ l1 ∧ l1.toNatClampNeg < 3100) := i_ix (by omega) (by omega)
            refine ⟨hg28, ?_⟩
            first | have f29 : 0 ≤ (m 110 l1.toNatClampNeg).toInt ∧ (m 110 l1.toNatClampNeg).toInt ≤ 1 := ra_110 (m := m) hV (k := l1.toNatClampNeg) (i_ix (n := 3100) (by omega) (by omega)).2 | have b30 := i_bd (m 110 l1.toNatClampNeg)
            refine zd (fun (h31 : (m 110 l1.toNatClampNeg) = (0 : Int32)) => ?_) (fun (h31 : ¬ (m 110 l1.toNatClampNeg) = (0 : Int32)) => ?_)
            · skip
              have g32 := i_eq h31
              have hg33 : (0 ≤ l1 ∧ l1.toNatClampNeg < 3100) := i_ix (by omega) (by omega)
              refine ⟨hg33, ?_⟩
              have f34 : 0 ≤ (m 94 73).toInt ∧ (m 94 73).toInt ≤ 3100 := rs_94_73 (m := m) hV
              try have gk := KS_room r_KS (by assumption) (by omega)
              have hg35 : (0 ≤ (m 94 73) ∧ (m 94 73).toNatClampNeg < 3100) := i_ix (by omega) (by omega)
              refine ⟨hg35, ?_⟩
              have li37 : (1 : Int32).toInt = 1 := rfl
              have hV36 : zV (ma_u m 110 l1.toNatClampNeg (1 : Int32)) := ua_110 hV (by omega) (by omega)
              have hV38 : zV (ma_u (ma_u m 110 l1.toNatClampNeg (1 : Int32)) 118 (m 94 73).toNatClampNeg l1) := ua_118 hV36 (by omega) (by omega)
              first | have e40 : ((m 94 73) + (1 : Int32)).toInt = (m 94 73).toInt + (1) := i_addk rfl (by omega) (by omega) | have b41 := i_bd ((m 94 73) + (1 : Int32))
              have hV39 : zV (ma_u (ma_u (ma_u m 110 l1.toNatClampNeg (1 : Int32)) 118 (m 94 73).toNatClampNeg l1) 94 73 ((m 94 73) + (1 : Int32))) := us_94_73 hV38 (by omega) (by omega)
              first | have e42 : (l1 + (1 : Int32)).toInt = l1.toInt + (1) := i_addk rfl (by omega) (by omega) | have b43 := i_bd (l1 + (1 : Int32))
              exact IH (3100 - (l1 + (1 : Int32)).toInt).toNat (by omega) _ ((l1 + (1 : Int32))) rfl (zF_u (zF_u (zF_u hF rfl) rfl) rfl) hV39 (by omega) (by omega) (show zKS ((ma_u m 110 l1.toNatClampNeg (1 : Int32)) 110) ((m 94 73) + (1 : Int32)) from by first | (exact KS_push r_KS (by assumption) (by omega) (by decide) (by assumption)) | (exact KS_push (KS_0 (r := m 110) (y := m 94 73) (by omega)) (by assumption) (by omega) (by decide) (by assumption)) | (exfalso; omega; done) | (exfalso; contradiction; done)) r_W r_RB r_QI (show qKA ((ma_u m 110 l1.toNatClampNeg (1 : Int32)) 110) (m 99) (m 100) (m 98) (m 101) (m 102) (m 108) ((ma_u m 118 (m 94 73).toNatClampNeg l1) 118) ((m 94 73) + (1 : Int32)) (zRch aa) (fun _ => False) 3100 0 from by first | (exact KA_push r_KA (by omega) (by omega) (by assumption) (Rc_ho r_RB r_QI (by omega) (by assumption) (by omega)) (by assumption) (by omega) (by omega) (by decide)) | (exfalso; omega; done) | (exfalso; contradiction; done)) (show zcov ((ma_u m 110 l1.toNatClampNeg (1 : Int32)) 110) (m 112) 16 from by first | (exact cov_one (cov_push r_CVR (by decide)) rfl (by omega) (by omega) (Or.inr (by rw [mu_self]; decide))) | (exact cov_push r_CVR (by decide)) | (exfalso; omega; done) | (exfalso; contradiction; done)) (show zcov ((ma_u m 110 l1.toNatClampNeg (1 : Int32)) 110) (m 114) (m 94 55).toInt from by first | (exact cov_one (cov_push r_CVW (by decide)) rfl (by omega) (by omega) (Or.inr (by rw [mu_self]; decide))) | (exact cov_push r_CVW (by decide)) | (exfalso; omega; done) | (exfalso; contradiction; done)) (show ∀ s : Nat, (s : Int) < (l1 + (1 : Int32)).toInt → (m 99) s ≠ 0 → 0 < ((m 107) s).toInt → ((ma_u m 110 l1.toNatClampNeg (1 : Int32)) 110) s ≠ 0 from by first | (exact cvh_s (cvh_p r_CVH (by decide)) (by omega) (by omega) (Or.inr (Or.inr (by rw [mu_self]; decide)))) | (exfalso; omega; done) | (exfalso; contradiction; done))
            · skip
              have g44 := i_ne h31
              first | have e45 : (l1 + (1 : Int32)).toInt = l1.toInt + (1) := i_addk rfl (by omega) (by omega) | have b46 := i_bd (l1 + (1 : Int32))
              exact IH (3100 - (l1 + (1 : Int32)).toInt).toNat (by omega) _ ((l1 + (1 : Int32))) rfl hF hV (by omega) (by omega) r_KS r_W r_RB r_QI r_KA r_CVR r_CVW (show ∀ s : Nat, (s : Int) < (l1 + (1 : Int32)).toInt → (m 99) s ≠ 0 → 0 < ((m 107) s).toInt → (m 110) s ≠ 0 from by first | (intro s hs; omega; done) | (exact cvh_s r_CVH (by omega) (by omega) (Or.inl (by assumption))) | (exact cvh_s r_CVH (by omega) (by omega) (Or.inr (Or.inl (by omega)))) | (exact cvh_s r_CVH (by omega) (by omega) (Or.inr (Or.inr (by assumption)))) | (exfalso; omega; done) | (exfalso; contradiction; done))
theorem lp_188r_35 {X : Nat × (Nat → Int32)} {P : Option ma_V → (Nat → Nat → Int32) → Prop} {aa : Nat→Nat→Int32} {m0 : Nat → Nat → Int32} (h0 : zV m0) (K : ∀ m₉, zF wr_188 m0 m₉ → zV m₉ → ((m₉ 94 73).toInt = 0) → (∀ s, s < 3100 → (m₉ 99) s ≠ 0 → ((m₉ 110) s ≠ 0 ↔ zRch aa ((m₉ 100) s).toNatClampNeg)) → P none m₉) : ∀ (n : Nat) (m : Nat → Nat → Int32) (l1 : Int32), (3100 - l1.toInt).toNat = n → zF wr_188 m0 m → zV m → (0 ≤ l1.toInt) → (zKS (m 110) (m 94 73)) → (zW (m 94 7) (m 98) (m 101) (m 102) (m 108)) → (qRB (m 99) (m 100) (m 98) (m 101) (m 102) (m 103) (m 107) (m 108) (m 109) (m 111) (m 112) (m 113) (m 114) (m 94 55) (m 94 46) (m 94 11) (m 94 12) (m 94 62) (m 94 17) (m 94 9) aa) → (qI aa) → (qKA (m 110) (m 99) (m 100) (m 98) (m 101) (m 102) (m 108) (m 118) (m 94 73) (zRch aa) (fun _ => False) 3100 0) → (zcov (m 110) (m 112) 16) → (zcov (m 110) (m 114) l1.toInt) → zm X 3 66 188 35 [(0, .inr (.inr (some 94))), (1, .inl l1)] m P := by
  intro n
  induction n using Nat.strongRecOn with
  | _ n IH =>
    intro m l1 hmu hF hV hi0 r_KS r_W r_RB r_QI r_KA r_CVR r_CVW
    refine g_188_35 l1 ?_
    have f1 : 0 ≤ (m 94 55).toInt ∧ (m 94 55).toInt ≤ 3100 := rs_94_55 (m := m) hV
    have b2 := i_bd l1
    refine zd (fun (h3 : (m 94 55) ≤ l1) => ?_) (fun (h3 : ¬ (m 94 55) ≤ l1) => ?_)
    · skip
      have g4 := i_le h3
      have li5 : (0 : Int32).toInt = 0 := rfl
      exact lp_188r_61 h0 K _ _ ((0 : Int32)) rfl hF hV (by omega) (by omega) r_KS r_W r_RB r_QI r_KA r_CVR (show zcov (m 110) (m 114) (m 94 55).toInt from by first | (exact cov_0 (by decide)) | (exact cov_one r_CVW rfl (by omega) (by omega) (Or.inl (by omega))) | (exact cov_one r_CVW rfl (by omega) (by omega) (Or.inr (by assumption))) | (exact cov_cut r_CVW (by omega)) | (exfalso; omega; done) | (exfalso; contradiction; done)) (show ∀ s : Nat, (s : Int) < (0 : Int32).toInt → (m 99) s ≠ 0 → 0 < ((m 107) s).toInt → (m 110) s ≠ 0 from by first | (intro s hs; omega; done) | (exfalso; omega; done) | (exfalso; contradiction; done))
    · skip
      have g6 := i_nle h3
      have hg7 : (0 ≤ l1 ∧ l1.toNatClampNeg < 3100) := i_ix (by omega) (by omega)
      refine ⟨hg7, ?_⟩
      first | have f8 : 0 ≤ (m 114 l1.toNatClampNeg).toInt ∧ (m 114 l1.toNatClampNeg).toInt ≤ 3099 := ra_114 (m := m) hV (k := l1.toNatClampNeg) (i_ix (n := 3100) (by omega) (by omega)).2 | have b9 := i_bd (m 114 l1.toNatClampNeg)
      have li10 : (0 : Int32).toInt = 0 := rfl
      refine zd (fun (h11 : (m 114 l1.toNatClampNeg) < (0 : Int32)) => ?_) (fun (h11 : ¬ (m 114 l1.toNatClampNeg) < (0 : Int32)) => ?_)
      · skip
        have g12 := i_lt h11
        first | have e13 : (l1 + (1 : Int32)).toInt = l1.toInt + (1) := i_addk rfl (by omega) (by omega) | have b14 := i_bd (l1 + (1 : Int32))
        exact IH (3100 - (l1 + (1 : Int32)).toInt).toNat (by omega) _ ((l1 + (1 : Int32))) rfl hF hV (by omega) r_KS r_W r_RB r_QI r_KA r_CVR (show zcov (m 110) (m 114) (l1 + (1 : Int32)).toInt from by first | (exact cov_0 (by decide)) | (exact cov_one r_CVW rfl (by omega) (by omega) (Or.inl (by omega))) | (exact cov_one r_CVW rfl (by omega) (by omega) (Or.inr (by assumption))) | (exact cov_cut r_CVW (by omega)) | (exfalso; omega; done) | (exfalso; contradiction; done))
      · skip
        have g15 := i_nlt h11
        have hg16 : (0 ≤ (m 114 l1.toNatClampNeg) ∧ (m 114 l1.toNatClampNeg).toNatClampNeg < 3100) := i_ix (by omega) (by omega)
        refine ⟨hg16, ?_⟩
        first | have f17 : 0 ≤ (m 110 (m 114 l1.toNatClampNeg).toNatClampNeg).toInt ∧ (m 110 (m 114 l1.toNatClampNeg).toNatClampNeg).toInt ≤ 1 := ra_110 (m := m) hV (k := (m 114 l1.toNatClampNeg).toNatClampNeg) (i_ix (n := 3100) (by omega) (by omega)).2 | have b18 := i_bd (m 110 (m 114 l1.toNatClampNeg).toNatClampNeg)
        refine zd (fun (h19 : (m 110 (m 114 l1.toNatClampNeg).toNatClampNeg) = (0 : Int32)) => ?_) (fun (h19 : ¬ (m 110 (m 114 l1.toNatClampNeg).toNatClampNeg) = (0 : Int32)) => ?_)
        · skip
          have g20 := i_eq h19
          have hg21 : (0 ≤ (m 114 l1.toNatClampNeg) ∧ (m 114 l1.toNatClampNeg).toNatClampNeg < 3100) := i_ix (by omega) (by omega)
          refine ⟨hg21, ?_⟩
          have f22 : 0 ≤ (m 94 73).toInt ∧ (m 94 73).toInt ≤ 3100 := rs_94_73 (m := m) hV
          try have gk := KS_room r_KS (by assumption) (by omega)
          have hg23 : (0 ≤ (m 94 73) ∧ (m 94 73).toNatClampNeg < 3100) := i_ix (by omega) (by omega)
          refine ⟨hg23, ?_⟩
          have li25 : (1 : Int32).toInt = 1 := rfl
          have hV24 : zV (ma_u m 110 (m 114 l1.toNatClampNeg).toNatClampNeg (1 : Int32)) := ua_110 hV (by omega) (by omega)
          have hV26 : zV (ma_u (ma_u m 110 (m 114 l1.toNatClampNeg).toNatClampNeg (1 : Int32)) 118 (m 94 73).toNatClampNeg (m 114 l1.toNatClampNeg)) := ua_118 hV24 (by omega) (by omega)
          first | have e28 : ((m 94 73) + (1 : Int32)).toInt = (m 94 73).toInt + (1) := i_addk rfl (by omega) (by omega) | have b29 := i_bd ((m 94 73) + (1 : Int32))
          have hV27 : zV (ma_u (ma_u (ma_u m 110 (m 114 l1.toNatClampNeg).toNatClampNeg (1 : Int32)) 118 (m 94 73).toNatClampNeg (m 114 l1.toNatClampNeg)) 94 73 ((m 94 73) + (1 : Int32))) := us_94_73 hV26 (by omega) (by omega)
          first | have e30 : (l1 + (1 : Int32)).toInt = l1.toInt + (1) := i_addk rfl (by omega) (by omega) | have b31 := i_bd (l1 + (1 : Int32))
          exact IH (3100 - (l1 + (1 : Int32)).toInt).toNat (by omega) _ ((l1 + (1 : Int32))) rfl (zF_u (zF_u (zF_u hF rfl) rfl) rfl) hV27 (by omega) (show zKS ((ma_u m 110 (m 114 l1.toNatClampNeg).toNatClampNeg (1 : Int32)) 110) ((m 94 73) + (1 : Int32)) from by first | (exact KS_push r_KS (by assumption) (by omega) (by decide) (by assumption)) | (exact KS_push (KS_0 (r := m 110) (y := m 94 73) (by omega)) (by assumption) (by omega) (by decide) (by assumption)) | (exfalso; omega; done) | (exfalso; contradiction; done)) r_W r_RB r_QI (show qKA ((ma_u m 110 (m 114 l1.toNatClampNeg).toNatClampNeg (1 : Int32)) 110) (m 99) (m 100) (m 98) (m 101) (m 102) (m 108) ((ma_u m 118 (m 94 73).toNatClampNeg (m 114 l1.toNatClampNeg)) 118) ((m 94 73) + (1 : Int32)) (zRch aa) (fun _ => False) 3100 0 from by first | (exact KA_push r_KA (by omega) (by omega) (Rc_wl r_RB (j := l1) (by omega) (by omega) rfl).1 (Rc_wl r_RB (j := l1) (by omega) (by omega) rfl).2 (by assumption) (by omega) (by omega) (by decide)) | (exfalso; omega; done) | (exfalso; contradiction; done)) (show zcov ((ma_u m 110 (m 114 l1.toNatClampNeg).toNatClampNeg (1 : Int32)) 110) (m 112) 16 from by first | (exact cov_one (cov_push r_CVR (by decide)) rfl (by omega) (by omega) (Or.inr (by rw [mu_self]; decide))) | (exact cov_push r_CVR (by decide)) | (exfalso; omega; done) | (exfalso; contradiction; done)) (show zcov ((ma_u m 110 (m 114 l1.toNatClampNeg).toNatClampNeg (1 : Int32)) 110) (m 114) (l1 + (1 : Int32)).toInt from by first | (exact cov_one (cov_push r_CVW (by decide)) rfl (by omega) (by omega) (Or.inr (by rw [mu_self]; decide))) | (exact cov_push r_CVW (by decide)) | (exfalso; omega; done) | (exfalso; contradiction; done))
        · skip
          have g32 := i_ne h19
          first | have e33 : (l1 + (1 : Int32)).toInt = l1.toInt + (1) := i_addk rfl (by omega) (by omega) | have b34 := i_bd (l1 + (1 : Int32))
          exact IH (3100 - (l1 + (1 : Int32)).toInt).toNat (by omega) _ ((l1 + (1 : Int32))) rfl hF hV (by omega) r_KS r_W r_RB r_QI r_KA r_CVR (show zcov (m 110) (m 114) (l1 + (1 : Int32)).toInt from by first | (exact cov_0 (by decide)) | (exact cov_one r_CVW rfl (by omega) (by omega) (Or.inl (by omega))) | (exact cov_one r_CVW rfl (by omega) (by omega) (Or.inr (by assumption))) | (exact cov_cut r_CVW (by omega)) | (exfalso; omega; done) | (exfalso; contradiction; done))
theorem lp_188r_11 {X : Nat × (Nat → Int32)} {P : Option ma_V → (Nat → Nat → Int32) → Prop} {aa : Nat→Nat→Int32} {m0 : Nat → Nat → Int32} (h0 : zV m0) (K : ∀ m₉, zF wr_188 m0 m₉ → zV m₉ → ((m₉ 94 73).toInt = 0) → (∀ s, s < 3100 → (m₉ 99) s ≠ 0 → ((m₉ 110) s ≠ 0 ↔ zRch aa ((m₉ 100) s).toNatClampNeg)) → P none m₉) : ∀ (n : Nat) (m : Nat → Nat → Int32) (l1 : Int32), (16 - l1.toInt).toNat = n → zF wr_188 m0 m → zV m → (0 ≤ l1.toInt) → (zKS (m 110) (m 94 73)) → (zW (m 94 7) (m 98) (m 101) (m 102) (m 108)) → (qRB (m 99) (m 100) (m 98) (m 101) (m 102) (m 103) (m 107) (m 108) (m 109) (m 111) (m 112) (m 113) (m 114) (m 94 55) (m 94 46) (m 94 11) (m 94 12) (m 94 62) (m 94 17) (m 94 9) aa) → (qI aa) → (qKA (m 110) (m 99) (m 100) (m 98) (m 101) (m 102) (m 108) (m 118) (m 94 73) (zRch aa) (fun _ => False) 3100 0) → (zcov (m 110) (m 112) l1.toInt) → zm X 3 66 188 11 [(0, .inr (.inr (some 94))), (1, .inl l1)] m P := by
  intro n
  induction n using Nat.strongRecOn with
  | _ n IH =>
    intro m l1 hmu hF hV hi0 r_KS r_W r_RB r_QI r_KA r_CVR
    refine g_188_11 l1 ?_
    have li1 : (16 : Int32).toInt = 16 := rfl
    have b2 := i_bd l1
    refine zd (fun (h3 : (16 : Int32) ≤ l1) => ?_) (fun (h3 : ¬ (16 : Int32) ≤ l1) => ?_)
    · skip
      have g4 := i_le h3
      have li5 : (0 : Int32).toInt = 0 := rfl
      exact lp_188r_35 h0 K _ _ ((0 : Int32)) rfl hF hV (by omega) r_KS r_W r_RB r_QI r_KA (show zcov (m 110) (m 112) 16 from by first | (exact cov_0 (by decide)) | (exact cov_one r_CVR rfl (by omega) (by omega) (Or.inl (by omega))) | (exact cov_one r_CVR rfl (by omega) (by omega) (Or.inr (by assumption))) | (exact cov_cut r_CVR (by omega)) | (exfalso; omega; done) | (exfalso; contradiction; done)) (show zcov (m 110) (m 114) (0 : Int32).toInt from by first | (exact cov_0 (by decide)) | (exfalso; omega; done) | (exfalso; contradiction; done))
    · skip
      have g6 := i_nle h3
      have hg7 : (0 ≤ l1 ∧ l1.toNatClampNeg < 16) := i_ix (by omega) (by omega)
      refine ⟨hg7, ?_⟩
      first | have f8 : -1 ≤ (m 112 l1.toNatClampNeg).toInt ∧ (m 112 l1.toNatClampNeg).toInt ≤ 3099 := ra_112 (m := m) hV (k := l1.toNatClampNeg) (i_ix (n := 16) (by omega) (by omega)).2 | have b9 := i_bd (m 112 l1.toNatClampNeg)
      have li10 : (0 : Int32).toInt = 0 := rfl
      refine zd (fun (h11 : (m 112 l1.toNatClampNeg) < (0 : Int32)) => ?_) (fun (h11 : ¬ (m 112 l1.toNatClampNeg) < (0 : Int32)) => ?_)
      · skip
        have g12 := i_lt h11
        first | have e13 : (l1 + (1 : Int32)).toInt = l1.toInt + (1) := i_addk rfl (by omega) (by omega) | have b14 := i_bd (l1 + (1 : Int32))
        exact IH (16 - (l1 + (1 : Int32)).toInt).toNat (by omega) _ ((l1 + (1 : Int32))) rfl hF hV (by omega) r_KS r_W r_RB r_QI r_KA (show zcov (m 110) (m 112) (l1 + (1 : Int32)).toInt from by first | (exact cov_0 (by decide)) | (exact cov_one r_CVR rfl (by omega) (by omega) (Or.inl (by omega))) | (exact cov_one r_CVR rfl (by omega) (by omega) (Or.inr (by assumption))) | (exact cov_cut r_CVR (by omega)) | (exfalso; omega; done) | (exfalso; contradiction; done))
      · skip
        have g15 := i_nlt h11
        have hg16 : (0 ≤ (m 112 l1.toNatClampNeg) ∧ (m 112 l1.toNatClampNeg).toNatClampNeg < 3100) := i_ix (by omega) (by omega)
        refine ⟨hg16, ?_⟩
        first | have f17 : 0 ≤ (m 110 (m 112 l1.toNatClampNeg).toNatClampNeg).toInt ∧ (m 110 (m 112 l1.toNatClampNeg).toNatClampNeg).toInt ≤ 1 := ra_110 (m := m) hV (k := (m 112 l1.toNatClampNeg).toNatClampNeg) (i_ix (n := 3100) (by omega) (by omega)).2 | have b18 := i_bd (m 110 (m 112 l1.toNatClampNeg).toNatClampNeg)
        refine zd (fun (h19 : (m 110 (m 112 l1.toNatClampNeg).toNatClampNeg) = (0 : Int32)) => ?_) (fun (h19 : ¬ (m 110 (m 112 l1.toNatClampNeg).toNatClampNeg) = (0 : Int32)) => ?_)
        · skip
          have g20 := i_eq h19
          have hg21 : (0 ≤ (m 112 l1.toNatClampNeg) ∧ (m 112 l1.toNatClampNeg).toNatClampNeg < 3100) := i_ix (by omega) (by omega)
          refine ⟨hg21, ?_⟩
          have f22 : 0 ≤ (m 94 73).toInt ∧ (m 94 73).toInt ≤ 3100 := rs_94_73 (m := m) hV
          try have gk := KS_room r_KS (by assumption) (by omega)
          have hg23 : (0 ≤ (m 94 73) ∧ (m 94 73).toNatClampNeg < 3100) := i_ix (by omega) (by omega)
          refine ⟨hg23, ?_⟩
          have li25 : (1 : Int32).toInt = 1 := rfl
          have hV24 : zV (ma_u m 110 (m 112 l1.toNatClampNeg).toNatClampNeg (1 : Int32)) := ua_110 hV (by omega) (by omega)
          have hV26 : zV (ma_u (ma_u m 110 (m 112 l1.toNatClampNeg).toNatClampNeg (1 : Int32)) 118 (m 94 73).toNatClampNeg (m 112 l1.toNatClampNeg)) := ua_118 hV24 (by omega) (by omega)
          first | have e28 : ((m 94 73) + (1 : Int32)).toInt = (m 94 73).toInt + (1) := i_addk rfl (by omega) (by omega) | have b29 := i_bd ((m 94 73) + (1 : Int32))
          have hV27 : zV (ma_u (ma_u (ma_u m 110 (m 112 l1.toNatClampNeg).toNatClampNeg (1 : Int32)) 118 (m 94 73).toNatClampNeg (m 112 l1.toNatClampNeg)) 94 73 ((m 94 73) + (1 : Int32))) := us_94_73 hV26 (by omega) (by omega)
          first | have e30 : (l1 + (1 : Int32)).toInt = l1.toInt + (1) := i_addk rfl (by omega) (by omega) | have b31 := i_bd (l1 + (1 : Int32))
          exact IH (16 - (l1 + (1 : Int32)).toInt).toNat (by omega) _ ((l1 + (1 : Int32))) rfl (zF_u (zF_u (zF_u hF rfl) rfl) rfl) hV27 (by omega) (show zKS ((ma_u m 110 (m 112 l1.toNatClampNeg).toNatClampNeg (1 : Int32)) 110) ((m 94 73) + (1 : Int32)) from by first | (exact KS_push r_KS (by assumption) (by omega) (by decide) (by assumption)) | (exact KS_push (KS_0 (r := m 110) (y := m 94 73) (by omega)) (by assumption) (by omega) (by decide) (by assumption)) | (exfalso; omega; done) | (exfalso; contradiction; done)) r_W r_RB r_QI (show qKA ((ma_u m 110 (m 112 l1.toNatClampNeg).toNatClampNeg (1 : Int32)) 110) (m 99) (m 100) (m 98) (m 101) (m 102) (m 108) ((ma_u m 118 (m 94 73).toNatClampNeg (m 112 l1.toNatClampNeg)) 118) ((m 94 73) + (1 : Int32)) (zRch aa) (fun _ => False) 3100 0 from by first | (exact KA_push r_KA (by omega) (by omega) (Rc_rt r_RB (j := l1) (by omega) (by omega) rfl (by omega)).1 (Rc_rt r_RB (j := l1) (by omega) (by omega) rfl (by omega)).2 (by assumption) (by omega) (by omega) (by decide)) | (exfalso; omega; done) | (exfalso; contradiction; done)) (show zcov ((ma_u m 110 (m 112 l1.toNatClampNeg).toNatClampNeg (1 : Int32)) 110) (m 112) (l1 + (1 : Int32)).toInt from by first | (exact cov_one (cov_push r_CVR (by decide)) rfl (by omega) (by omega) (Or.inr (by rw [mu_self]; decide))) | (exact cov_push r_CVR (by decide)) | (exfalso; omega; done) | (exfalso; contradiction; done))
        · skip
          have g32 := i_ne h19
          first | have e33 : (l1 + (1 : Int32)).toInt = l1.toInt + (1) := i_addk rfl (by omega) (by omega) | have b34 := i_bd (l1 + (1 : Int32))
          exact IH (16 - (l1 + (1 : Int32)).toInt).toNat (by omega) _ ((l1 + (1 : Int32))) rfl hF hV (by omega) r_KS r_W r_RB r_QI r_KA (show zcov (m 110) (m 112) (l1 + (1 : Int32)).toInt from by first | (exact cov_0 (by decide)) | (exact cov_one r_CVR rfl (by omega) (by omega) (Or.inl (by omega))) | (exact cov_one r_CVR rfl (by omega) (by omega) (Or.inr (by assumption))) | (exact cov_cut r_CVR (by omega)) | (exfalso; omega; done) | (exfalso; contradiction; done))
theorem sp_188r {X : Nat × (Nat → Int32)} {P : Option ma_V → (Nat → Nat → Int32) → Prop} {aa : Nat→Nat→Int32} {m : Nat → Nat → Int32}  (hV : zV m) (r_W : zW (m 94 7) (m 98) (m 101) (m 102) (m 108)) (r_RB : qRB (m 99) (m 100) (m 98) (m 101) (m 102) (m 103) (m 107) (m 108) (m 109) (m 111) (m 112) (m 113) (m 114) (m 94 55) (m 94 46) (m 94 11) (m 94 12) (m 94 62) (m 94 17) (m 94 9) aa) (r_QI : qI aa) (KZ : ∀ m₉, zV (zov wr_188 m m₉) → ((m₉ 94 73).toInt = 0) → (∀ s, s < 3100 → (m 99) s ≠ 0 → ((m₉ 110) s ≠ 0 ↔ zRch aa ((m 100) s).toNatClampNeg)) → P none (zov wr_188 m m₉)) : zm X 3 66 188 0 [(0, .inr (.inr (some 94)))] m P := by
  have K : ∀ m₉, zF wr_188 m m₉ → zV m₉ → ((m₉ 94 73).toInt = 0) → (∀ s, s < 3100 → (m₉ 99) s ≠ 0 → ((m₉ 110) s ≠ 0 ↔ zRch aa ((m₉ 100) s).toNatClampNeg)) → P none m₉ := by
    intro m₉ hf z q0 q1
    have e := zov_eq hf
    rw [e] at z ⊢
    try rw [e] at q0
    try rw [e] at q1
    exact KZ m₉ z q0 q1
  refine g_188_0  ?_
  refine sp_189  hV  (fun m1 hV_m1 p0_m1 => zmv_n ?_)
  have p0_m1 : ∀ s : Nat, s < 3100 → (m1 110) s = 0 := p0_m1
  have li2 : (0 : Int32).toInt = 0 := rfl
  have hV1 : zV (ma_u (zov wr_189 m m1) 94 73 (0 : Int32)) := us_94_73 hV_m1 (by omega) (by omega)
  exact lp_188r_11 hV K _ _ ((0 : Int32)) rfl (zF_u (zF_zov zF_rfl ws_189_188) rfl) hV1 (by omega) (show zKS (m1 110) (0 : Int32) from by first | (exact KS_0 (by omega)) | (exfalso; omega; done) | (exfalso; contradiction; done)) r_W r_RB r_QI (show qKA (m1 110) (m 99) (m 100) (m 98) (m 101) (m 102) (m 108) (m 118) (0 : Int32) (zRch aa) (fun _ => False) 3100 0 from by first | (exact KA_none p0_m1 (by omega) (fun _ z => z)) | (exfalso; omega; done) | (exfalso; contradiction; done)) (show zcov (m1 110) (m 112) (0 : Int32).toInt from by first | (exact cov_0 (by decide)) | (exfalso; omega; done) | (exfalso; contradiction; done))
theorem sp_245r {X : Nat × (Nat → Int32)} {P : Option ma_V → (Nat → Nat → Int32) → Prop} {aa : Nat→Nat→Int32} {m : Nat → Nat → Int32} (ob : Int32) (hV : zV m) (r_W : zW (m 94 7) (m 98) (m 101) (m 102) (m 108)) (r_RB : qRB (m 99) (m 100) (m 98) (m 101) (m 102) (m 103) (m 107) (m 108) (m 109) (m 111) (m 112) (m 113) (m 114) (m 94 55) (m 94 46) (m 94 11) (m 94 12) (m 94 62) (m 94 17) (m 94 9) aa) (r_QI : qI aa) (KZ : ∀ v m₉, zV (zov wr_245 m m₉) → (-1 ≤ v.toInt ∧ v.toInt ≤ 3099) → (v.toInt < 0 ∨ (m 99) v.toNatClampNeg ≠ 0) → (qRe (m 99) (m 100) aa ob v) → P (some (.inl v)) (zov wr_245 m m₉)) : zm X 4 87 245 0 [(0, .inr (.inr (some 94))), (1, .inl ob)] m P := by
  have K : ∀ v m₉, zF wr_245 m m₉ → zV m₉ → (-1 ≤ v.toInt ∧ v.toInt ≤ 3099) → (v.toInt < 0 ∨ (m₉ 99) v.toNatClampNeg ≠ 0) → (qRe (m₉ 99) (m₉ 100) aa ob v) → P (some (.inl v)) m₉ := by
    intro v m₉ hf z q0 q1 q2
    have e := zov_eq hf
    rw [e] at z ⊢
    try rw [e] at q0
    try rw [e] at q1
    try rw [e] at q2
    exact KZ v m₉ z q0 q1 q2
  refine g_245_0 ob ?_
  have b1 := i_bd ob
  refine sp_246r (ob) hV  (fun v2 m1 hV_m1 p0_m1 p1_m1 => zmi_n ?_)
  have p0_m1 : -1 ≤ v2.toInt ∧ v2.toInt ≤ 3099 := p0_m1
  have p1_m1 : qPl (m 99) (m 100) ob v2 := p1_m1
  have li2 : (0 : Int32).toInt = 0 := rfl
  have b3 := i_bd v2
  refine zd (fun (h4 : (0 : Int32) ≤ v2) => ?_) (fun (h4 : ¬ (0 : Int32) ≤ v2) => ?_)
  · skip
    have g5 := i_le h4
    refine sp_188r (aa := aa)  hV_m1 r_W r_RB r_QI (fun m3 hV_m3 p0_m3 p1_m3 => zmv_n ?_)
    have p0_m3 : (m3 94 73).toInt = 0 := p0_m3
    have p1_m3 : ∀ s, s < 3100 → (m 99) s ≠ 0 → ((m3 110) s ≠ 0 ↔ zRch aa ((m 100) s).toNatClampNeg) := p1_m3
    have f6 : 0 ≤ (m3 94 73).toInt ∧ (m3 94 73).toInt ≤ 3100 := rs_94_73 (m := (zov wr_188 (zov wr_246 m m1) m3)) hV_m3
    have hg7 : (0 ≤ v2 ∧ v2.toNatClampNeg < 3100) := i_ix (by omega) (by omega)
    refine ⟨hg7, ?_⟩
    first | have f8 : 0 ≤ (m3 110 v2.toNatClampNeg).toInt ∧ (m3 110 v2.toNatClampNeg).toInt ≤ 1 := ra_110 (m := (zov wr_188 (zov wr_246 m m1) m3)) hV_m3 (k := v2.toNatClampNeg) (i_ix (n := 3100) (by omega) (by omega)).2 | have b9 := i_bd (m3 110 v2.toNatClampNeg)
    refine zd (fun (h10 : (m3 110 v2.toNatClampNeg) = (0 : Int32)) => ?_) (fun (h10 : ¬ (m3 110 v2.toNatClampNeg) = (0 : Int32)) => ?_)
    · skip
      have g11 := i_eq h10
      have li12 : (-1 : Int32).toInt = -1 := rfl
      exact K ((-1 : Int32)) _ (zF_zov (zF_zov zF_rfl ws_246_245) ws_188_245) hV_m3 (show -1 ≤ (-1 : Int32).toInt ∧ (-1 : Int32).toInt ≤ 3099 from by omega) (show (-1 : Int32).toInt < 0 ∨ (m 99) (-1 : Int32).toNatClampNeg ≠ 0 from by first | (exact Or.inl (by decide)) | (exact p1_m1.elim (fun z => absurd z.1 (i_ne2 (by omega))) (fun z => Or.inr z.2.2.1)) | (exact p1_m1.elim (fun z => Or.inl (by rw [z.1]; decide)) (fun z => Or.inr z.2.2.1)) | (exact Or.inl (by decide)) | (exact Or.inr (by assumption)) | (exact Or.inl (by omega)) | (exfalso; omega; done) | (exfalso; contradiction; done)) (show qRe (m 99) (m 100) aa ob (-1 : Int32) from by first | (exact Re_0 r_RB p1_m1 (by omega)) | (exact Re_1 r_RB r_QI p1_m1 (by omega) p1_m3 (by assumption)) | (exact Re_2 r_RB r_QI p1_m1 (by omega) p1_m3 (by assumption)) | (exfalso; omega; done) | (exfalso; contradiction; done))
    · skip
      have g13 := i_ne h10
      exact K (v2) _ (zF_zov (zF_zov zF_rfl ws_246_245) ws_188_245) hV_m3 (show -1 ≤ v2.toInt ∧ v2.toInt ≤ 3099 from by omega) (show v2.toInt < 0 ∨ (m 99) v2.toNatClampNeg ≠ 0 from by first | (exact Or.inl (by decide)) | (exact p1_m1.elim (fun z => absurd z.1 (i_ne2 (by omega))) (fun z => Or.inr z.2.2.1)) | (exact p1_m1.elim (fun z => Or.inl (by rw [z.1]; decide)) (fun z => Or.inr z.2.2.1)) | (exact Or.inl (by decide)) | (exact Or.inr (by assumption)) | (exact Or.inl (by omega)) | (exfalso; omega; done) | (exfalso; contradiction; done)) (show qRe (m 99) (m 100) aa ob v2 from by first | (exact Re_0 r_RB p1_m1 (by omega)) | (exact Re_1 r_RB r_QI p1_m1 (by omega) p1_m3 (by assumption)) | (exact Re_2 r_RB r_QI p1_m1 (by omega) p1_m3 (by assumption)) | (exfalso; omega; done) | (exfalso; contradiction; done))
  · skip
    have g14 := i_nle h4
    have li15 : (-1 : Int32).toInt = -1 := rfl
    exact K ((-1 : Int32)) _ (zF_zov zF_rfl ws_246_245) hV_m1 (show -1 ≤ (-1 : Int32).toInt ∧ (-1 : Int32).toInt ≤ 3099 from by omega) (show (-1 : Int32).toInt < 0 ∨ (m 99) (-1 : Int32).toNatClampNeg ≠ 0 from by first | (exact Or.inl (by decide)) | (exact p1_m1.elim (fun z => absurd z.1 (i_ne2 (by omega))) (fun z => Or.inr z.2.2.1)) | (exact p1_m1.elim (fun z => Or.inl (by rw [z.1]; decide)) (fun z => Or.inr z.2.2.1)) | (exact Or.inl (by decide)) | (exact Or.inr (by assumption)) | (exact Or.inl (by omega)) | (exfalso; omega; done) | (exfalso; contradiction; done)) (show qRe (m 99) (m 100) aa ob (-1 : Int32) from by first | (exact Re_0 r_RB p1_m1 (by omega)) | (exfalso; omega; done) | (exfalso; contradiction; done))

/-! from 95.h11 -/
/-! the reference by numbers (written by wip/tools/gen18r.py) -/
/-! LAST WISHES ARE GRANTED, the reference -/
abbrev qCw (us kp wi nr : Nat → Int32) (l : Int32) : Nat → Prop := fun t => us t ≠ 0 ∧ kp t = 0 ∧ wi t ≠ 0 ∧ l.toInt < (nr t).toInt
def qKB (kp us nr : Nat → Int32) (b : Nat → Nat → Int32) : Prop := (∀ s, s < 3100 → kp s ≠ 0 → us s ≠ 0) ∧ ∀ s, s < 3100 → us s ≠ 0 → (kp s ≠ 0 ↔ zNn b (nr s).toNatClampNeg)
def qE0 (b : Nat → Nat → Int32) : Prop := zWQ b ∧ ¬ (b 75 3).toInt < (b 75 4).toInt
def qUn (wk0 wk : Nat → Int32) (s : Int32) (l : Int) : Prop := ∀ k : Nat, wk k = (if (k : Int) < l ∧ wk0 k = s then -1 else wk0 k)
/-- all that are not WHITE: ROOTS and WISHES, and what they refer to -/
def qCl (b : Nat → Nat → Int32) : Prop := (∀ u, xAl b u → zRl b u ∨ zWl b u → zNn b u) ∧ ∀ u y, zNn b u → xAl b u → zEd b u y → zNn b y
def qGL (us nr kr kd ws at₉ ho wd wi ow rt wk wl : Nat → Int32) (wm nu ro fo le ra pi : Int32) (kp : Nat → Int32) (x : Int32) (T : Nat → Nat → Int32) : Prop := ∃ (b : Nat → Nat → Int32) (l : Int32), qRB us nr kr kd ws at₉ ho wd wi ow rt wk wl wm nu ro fo le ra pi b ∧ qKB kp us nr b ∧ qE0 b ∧ qI b ∧ qCl b ∧ (-1 ≤ l.toInt ∧ l.toInt + 1 ≤ (b 69 6).toInt) ∧ qMin (qCw us kp wi nr l) nr x 3100 ∧ aGw b (l + 1) = T
section QG
variable {aa a b c T : Nat → Nat → Int32} {us nr kr kd ws at₉ ho wd wi ow rt wk wk₉ wl kp kp₉ st wk0 : Nat → Int32} {wm nu ro fo le ra pi z v y x j s l i : Int32} {cur n k t u : Nat} {m ms m2 : Nat → Nat → Int32} {d : Nat → Nat → Int32}
theorem Un_0 {e : Int} (h : e ≤ 0) : qUn wk wk s e := fun k => by rw [if_neg (by omega)]
theorem Un_y {e : Int} (h : qUn wk0 (m 113) s i.toInt) (h0 : 0 ≤ i.toInt) (e1 : e = i.toInt + 1) (hs : m 113 i.toNatClampNeg = s) : qUn wk0 (ma_u m 113 i.toNatClampNeg (-1) 113) s e := by
  intro k
  have c := tn_cast h0
  by_cases w : k = i.toNatClampNeg
  · have q := h k
    rw [w, if_neg (by omega)] at q
    rw [w, mu_self, if_pos ⟨by omega, by rw [← q]; exact hs⟩]
  · rw [mu_ne w, h k]
    by_cases w2 : (k : Int) < i.toInt ∧ wk0 k = s
    · rw [if_pos w2, if_pos ⟨by omega, w2.2⟩]
    · rw [if_neg w2, if_neg (fun q => w2 ⟨by omega, q.2⟩)]
theorem Un_n {e : Int} (h : qUn wk0 wk s i.toInt) (h0 : 0 ≤ i.toInt) (e1 : e = i.toInt + 1) (hs : ¬ wk i.toNatClampNeg = s) : qUn wk0 wk s e := by
  intro k
  have c := tn_cast h0
  rw [h k]
  by_cases w : k = i.toNatClampNeg
  · have q := h k
    rw [w, if_neg (by omega)] at q
    rw [w, if_neg (by omega), if_neg (fun q2 => hs (by rw [q]; exact q2.2))]
  · by_cases w2 : (k : Int) < i.toInt ∧ wk0 k = s
    · rw [if_pos w2, if_pos ⟨by omega, w2.2⟩]
    · rw [if_neg w2, if_neg (fun q => w2 ⟨by omega, q.2⟩)]
theorem gr_5 (h : (a 69 5).toInt < 512) : aGr a y 69 5 = a 69 5 + 1 ∧ aGr a y 74 (a 69 5).toNatClampNeg = y ∧ (∀ k, k ≠ (a 69 5).toNatClampNeg → aGr a y 74 k = a 74 k) ∧ (∀ k, aGr a y 73 k = zUw a y 16 73 k) ∧ aGr a y 134 y.toNatClampNeg = 0 ∧ ∀ k, k ≠ y.toNatClampNeg → aGr a y 134 k = a 134 k := by
  unfold aGr
  rw [if_pos h]
  refine ⟨xu_s, ?_, fun k hk => ?_, fun k => ?_, ?_, fun k hk => ?_⟩
  · rw [xu_o (by omega), xu_s]
  · rw [xu_o (by omega), xu_o (fun w => hk w.2), xu_o (by omega), zUw_o (by decide)]
  · rw [xu_o (by omega), xu_o (by omega), xu_o (by omega)]
  · rw [xu_o (by omega), xu_o (by omega), xu_s]
  · rw [xu_o (by omega), xu_o (by omega), xu_o (fun w => hk w.2), zUw_o (by decide)]
theorem gr_r (h : n ≠ 73) (h1 : n ≠ 134) (h2 : n ≠ 74) (h3 : n ≠ 69) : aGr a y n = a n := funext (fun k => aGr_o ⟨h, h1, h2, fun w => h3 w.1⟩)
theorem gr_ref : aRef (aGr a y) n i = aRef a n i := by
  unfold aRef
  rw [gr_r (n := 1000 + n) (by omega) (by omega) (by omega) (by omega), gr_r (n := 130) (by decide) (by decide) (by decide) (by decide), gr_r (n := 71) (by decide) (by decide) (by decide) (by decide)]
theorem RB_gr (h : qRB us nr kr kd ws at₉ ho wd (m 109) ow rt wk (m2 114) wm nu ro fo le ra pi a) (h0 : 0 ≤ s.toInt) (h3 : s.toInt ≤ 3099) (hu : us s.toNatClampNeg ≠ 0) (hw : qUn wk wk₉ s 16) (hm : wm.toInt < 512) (hm0 : 0 ≤ wm.toInt) : qRB us nr kr kd ws at₉ ho wd (ma_u m 109 s.toNatClampNeg 0 109) ow rt wk₉ (ma_u m2 114 wm.toNatClampNeg s 114) (wm + 1) nu ro fo le ra pi (aGr a (nr s.toNatClampNeg)) := by
  obtain ⟨q1, q2, q3, q4, q5, q6, q7, q8⟩ := h
  have hs := tn_lt h0 (by omega)
  have ts := q1.1 _ hs hu
  have g := gr_5 (a := a) (y := nr s.toNatClampNeg) (by rw [q5.1]; exact hm)
  rw [q5.1] at g
  have cm := tn_cast hm0
  have e1 := i_p1 (i := wm) (by omega)
  refine ⟨?_, ?_, ?_, ?_, ?_, ?_, q7, ?_⟩
  · unfold qR1 at q1 ⊢
    rw [gr_r (n := 126) (by decide) (by decide) (by decide) (by decide), gr_r (n := 128) (by decide) (by decide) (by decide) (by decide), gr_r (n := 130) (by decide) (by decide) (by decide) (by decide), gr_r (n := 133) (by decide) (by decide) (by decide) (by decide)]
    exact q1
  · intro t ht hv i hi
    have q := q2 t ht hv i hi
    rw [gr_ref, gr_r (n := 1000 + (nr t).toNatClampNeg) (by omega) (by omega) (by omega) (by omega)]
    exact q
  · unfold qR3 at q3 ⊢
    rw [gr_r (n := 72) (by decide) (by decide) (by decide) (by decide)]
    exact q3
  · intro k hk
    have q := q4 k hk
    rw [hw k, g.2.2.2.1 k]
    unfold zUw
    by_cases w : wk k = s
    · rw [if_pos ⟨by omega, w⟩]
      rw [w, No_y h0] at q
      rw [if_pos ⟨rfl, by omega, q.2⟩]
      exact ⟨Or.inl (by decide), rfl⟩
    · rw [if_neg (fun z => w z.2)]
      refine ⟨q.1, ?_⟩
      rw [if_neg]
      · exact q.2
      · rintro ⟨_, _, z3⟩
        rw [q.2] at z3
        by_cases z : (wk k).toInt < 0
        · rw [No_n z] at z3
          have := ts.1.1
          rw [← z3] at this
          exact absurd this (by decide)
        · have u := U_y q.1 (by omega)
          rw [No_y (by omega)] at z3
          have e := q1.2.1 _ _ (tn_lt (by omega) u.1) hs u.2 hu z3
          apply w
          have c1 := tn_cast (x := wk k) (by omega)
          have c2 := tn_cast h0
          exact Int32.toInt_inj.mp (by omega)
  · refine ⟨g.1, fun k hk => ?_⟩
    by_cases w : k = wm.toNatClampNeg
    · rw [w, mu_self, g.2.1]
      exact ⟨⟨h0, by omega, hu⟩, rfl⟩
    · rw [mu_ne w, g.2.2.1 k w]
      exact q5.2 k (by omega)
  · intro t ht hv
    by_cases w : t = s.toNatClampNeg
    · rw [w, mu_self]
      exact g.2.2.2.2.1
    · rw [mu_ne w, g.2.2.2.2.2 _ (fun z => w (R1_in q1 ht hs hv hu z))]
      exact q6 t ht hv
  · unfold qR8 at q8 ⊢
    rw [aGr_o ⟨by decide, by decide, by decide, by decide⟩, gr_r (n := 87) (by decide) (by decide) (by decide) (by decide)]
    exact q8
theorem I_gr (h : qI a) (h5 : (a 69 5).toInt < 512) : qI (aGr a y) := by
  have al : xAl (aGr a y) = xAl a := by
    funext n
    unfold xAl
    rw [gr_r (n := 126) (by decide) (by decide) (by decide) (by decide)]
  have e8 := gr_r (a := a) (y := y) (n := 128) (by decide) (by decide) (by decide) (by decide)
  have e6 := gr_r (a := a) (y := y) (n := 126) (by decide) (by decide) (by decide) (by decide)
  have su := Su_cg (a := aGr a y) (b := a) e6 e8 512
  obtain ⟨h1, h2, h3, h4, h6, h7⟩ := h
  have i5 := h4.2.1
  have e8₉ : qI6 (aGr a y) := fun n hn k => by
    rw [gr_r (n := 1000 + n) (by omega) (by omega) (by omega) (by omega)]
    exact h7 n (by rw [← al]; exact hn) k
  unfold qI qI1 qI2 qI3 qI4 qGd at *
  rw [al, su, e8, gr_r (n := 130) (by decide) (by decide) (by decide) (by decide), gr_r (n := 71) (by decide) (by decide) (by decide) (by decide), gr_r (n := 87) (by decide) (by decide) (by decide) (by decide), aGr_o (c := 69) (k := 6) ⟨by decide, by decide, by decide, by decide⟩, aGr_o (c := 69) (k := 8) ⟨by decide, by decide, by decide, by decide⟩, (gr_5 h5).1, i_p1 (by omega)]
  exact ⟨h1, h2, h3, ⟨h4.1, ⟨by omega, by omega⟩, h4.2.2⟩, h6, e8₉⟩
theorem WQ_cg (h : zWQ a) (e1 : a 75 = b 75) (e2 : a 76 = b 76) (e3 : a 77 = b 77) (e4 : a 126 = b 126) (e5 : a 130 = b 130) : zWQ b := by
  unfold zWQ zQ1 zQ2 zQ3 zQ4 zQ5 xFp xAl at h ⊢
  rw [← e1, ← e2, ← e3, ← e4, ← e5]
  exact h
theorem E0_gr (h : qE0 a) : qE0 (aGr a y) := by
  have e := gr_r (a := a) (y := y) (n := 75) (by decide) (by decide) (by decide) (by decide)
  refine ⟨WQ_cg h.1 e.symm (gr_r (by decide) (by decide) (by decide) (by decide)).symm (gr_r (by decide) (by decide) (by decide) (by decide)).symm (gr_r (by decide) (by decide) (by decide) (by decide)).symm (gr_r (by decide) (by decide) (by decide) (by decide)).symm, ?_⟩
  rw [e]
  exact h.2
theorem Nn_gr : zNn (aGr a y) = zNn a := by
  funext n
  unfold zNn
  rw [gr_r (n := 77) (by decide) (by decide) (by decide) (by decide)]
/-- nothing GREY: all that are not WHITE are BLACK -/
theorem E0_bl (h : qE0 c) : zDn c u ↔ zNn c u := by
  refine ⟨Dn_Nn, fun w => ⟨w.1, ?_⟩⟩
  rcases h.1.2.2.2.2.1 u w.1 with z | z | z
  · exact absurd z w.2
  · obtain ⟨j, j1, j2, _⟩ := h.1.2.2.2.1 u w.1 z
    have := h.2
    omega
  · exact z
abbrev qQ (c : Nat → Nat → Int32) (y : Int32) : Nat → Prop := zM (fun u => zNn c u ∨ u = y.toNatClampNeg) (zNn c) (zEd c)
theorem KA_b (h : qKB kp us nr c) (hz : z.toInt = 0) : qKA kp us nr kr kd ws wd st z (qQ c y) (zNn c) 3100 0 :=
  ⟨fun s hs hk => ⟨h.1 s hs hk, zM_in (Or.inl ((h.2 s hs (h.1 s hs hk)).mp hk))⟩, fun j hj => by omega, fun e => absurd e (by decide), fun s hs hu hd => (h.2 s hs hu).mpr hd, fun s hs hk => Or.inl ((h.2 s hs (h.1 s hs hk)).mp hk)⟩
theorem KB_gr (h : qKB kp us nr b) : qKB kp us nr (aGr b y) := by
  unfold qKB at h ⊢
  rw [Nn_gr]
  exact h
/-- one is granted: what is kept behind it -/
theorem KB_nx (hR : qRB us nr kr kd ws at₉ ho wd wi ow rt wk wl wm nu ro fo le ra pi c) (h : qKB (m 110) us nr c) (hE : qE0 c) (h0 : 0 ≤ s.toInt) (h3 : s.toInt ≤ 3099) (hu : us s.toNatClampNeg ≠ 0) (hK : qKA kp₉ us nr kr kd ws wd st z (qQ c (nr s.toNatClampNeg)) (zNn c) 3100 0) (hz : z.toInt = 0) (hl : zle (ma_u m 110 s.toNatClampNeg x 110) kp₉) (hx : x ≠ 0) : qKB kp₉ us nr (aSp 512 (aCm c (nr s.toNatClampNeg))) := by
  have hs := tn_lt h0 (by omega)
  have ts := hR.1.1 _ hs hu
  have cy := tn_cast ts.1.1
  refine ⟨fun t ht hk => (hK.1 t ht hk).1, fun t ht hv => ?_⟩
  have g := gr_cm (y := nr s.toNatClampNeg) hE.1
  have e : zNn (aSp 512 (aCm c (nr s.toNatClampNeg))) (nr t).toNatClampNeg ↔ qQ c (nr s.toNatClampNeg) (nr t).toNatClampNeg := by
    refine (sp_Nn g.1).trans (zM_cg (fun u => ?_) (fun u => (g.2.2.1 u).trans (E0_bl hE)) (fun u y => Of_ed g.2.1))
    rw [g.2.2.2.1 u]
    constructor
    · rintro (w | w)
      · exact Or.inl w
      · refine Or.inr ?_
        rw [w.2]
        exact (tn_of w.1.1).symm
    · rintro (w | w)
      · exact Or.inl w
      · refine Or.inr ⟨?_, ?_⟩
        · rw [w]
          exact R1_al hR.1 hs hu
        · rw [w]
          exact (ofN_tn ts.1.1).symm
  rw [e]
  refine ⟨fun w => (hK.1 t ht w).2, fun w => ?_⟩
  have q := w (fun x => zNn c x ∨ ∃ r, r < 3100 ∧ us r ≠ 0 ∧ (nr r).toNatClampNeg = x ∧ kp₉ r ≠ 0) (fun g hg => ?_) (fun u y hp hd he => ?_)
  · rcases q with q | ⟨r, hr, hv2, e2, hk⟩
    · exact hl t ht (mu_mono hx ((h.2 t ht hv).mpr q))
    · rw [← R1_in hR.1 hr ht hv2 hv e2]
      exact hk
  · rcases hg with hg | hg
    · exact Or.inl hg
    · exact Or.inr ⟨_, hs, hu, hg.symm, hl _ hs (by rw [mu_self]; exact hx)⟩
  · rcases hp with hp | ⟨r, hr, hv2, e2, hk⟩
    · exact absurd hp hd
    · rw [← e2] at he hd
      obtain ⟨i, i1, i2, i3, i4, i5⟩ := Ed_t hR hr hv2 he
      refine Or.inr ⟨_, i3, i4, i5, ?_⟩
      rcases hK.2.2.2.2 r hr hk with w2 | ⟨j, j1, _⟩ | w2 | ⟨w2, _⟩
      · exact absurd w2 hd
      · omega
      · exact (w2 i i1).elim (fun w3 => by omega) id
      · omega
theorem E0_sp (h : zWQ a) : qE0 (aSp 512 a) ∧ zOf a (aSp 512 a) := ⟨⟨(sp_all 512 a h).1, sp_end h⟩, (sp_all 512 a h).2.1⟩
theorem aGw_to : ∀ (k : Nat) (n y : Int32), 0 ≤ n.toInt → y.toInt = n.toInt + (k : Int) → y.toInt ≤ (b 69 6).toInt → (∀ z : Int32, n.toInt ≤ z.toInt → z.toInt < y.toInt → ¬ aGc b z) → aGw b n = aGw b y := by
  intro k
  induction k with
  | zero =>
    intro n y _ e _ _
    rw [show n = y from Int32.toInt_inj.mp (by omega)]
  | succ k ih =>
    intro n y h0 e h6 hz
    have bd := i_bd y
    have e1 := i_p1 (i := n) (by omega)
    rw [aGw_n (by omega) (hz n (by omega) (by omega))]
    exact ih (n + 1) y (by omega) (by omega) h6 (fun z z1 z2 => hz z (by omega) z2)
theorem GL_no (hR : qRB us nr kr kd ws at₉ ho wd wi ow rt wk wl wm nu ro fo le ra pi b) (hK : qKB kp us nr b) {v : Int} (hm : ∀ t : Nat, t < 3100 → qCw us kp wi nr l t → v ≤ (nr t).toInt) (h1 : l.toInt < z.toInt) (h2 : z.toInt < v) : ¬ aGc b z := by
  rintro ⟨w0, w1, w2, w3, w4, w5⟩
  have c := tn_cast w0
  obtain ⟨t, ht, hu, hn⟩ := R1_ex hR.1 (show xAl b z.toNatClampNeg from ⟨by omega, w2⟩)
  have q := hR.1.1 t ht hu
  have ct := tn_cast q.1.1
  have k0 : kp t = 0 := by
    by_cases w : kp t = 0
    · exact w
    · have := ((hK.2 t ht hu).mp w).2
      rw [hn] at this
      exact absurd w5 this
  have wt := hR.2.2.2.2.2.1 t ht hu
  rw [hn] at wt
  have := hm t ht ⟨hu, k0, by rw [← wt]; exact w3, by omega⟩
  omega
theorem GL_end (hR : qRB us nr kr kd ws at₉ ho wd wi ow rt wk wl wm nu ro fo le ra pi b) (hI : qI b) (hK : qKB kp us nr b) (h1 : -1 ≤ l.toInt) (h2 : l.toInt + 1 ≤ (b 69 6).toInt) (hm : qMin (qCw us kp wi nr l) nr x 3100) (hx : x.toInt < 0) (hT : aGw b (l + 1) = T) : b = T := by
  have i4 := hI.2.2.2.1.1
  have e1 := i_p1 (i := l) (by omega)
  rw [← hT, aGw_to (b := b) ((b 69 6).toInt - (l + 1).toInt).toNat (l + 1) (b 69 6) (by omega) (by omega) (by omega) (fun z z1 z2 => GL_no hR hK (v := 600) (fun t ht hc => by
      rcases hm with q | q
      · exact absurd hc (q.2 t (by omega))
      · omega) (by omega) (by omega)), aGw_st (by omega)]
theorem GL_nx (hR : qRB us nr kr kd ws at₉ ho wd wi ow rt wk wl wm nu ro fo le ra pi b) (hI : qI b) (hE : qE0 b) (hK : qKB kp us nr b) (h1 : -1 ≤ l.toInt) (h2 : l.toInt + 1 ≤ (b 69 6).toInt) (hm : qMin (qCw us kp wi nr l) nr x 3100) (hx : 0 ≤ x.toInt) (hT : aGw b (l + 1) = T) : aGw (aSp 512 (aCm (aGr b (nr x.toNatClampNeg)) (nr x.toNatClampNeg))) (nr x.toNatClampNeg + 1) = T ∧ (nr x.toNatClampNeg).toInt + 1 ≤ (b 69 6).toInt ∧ -1 ≤ (nr x.toNatClampNeg).toInt := by
  rcases hm with q | q
  · omega
  · have i4 := hI.2.2.2.1.1
    have e1 := i_p1 (i := l) (by omega)
    have hs := tn_lt hx q.2.1
    have t := hR.1.1 _ hs q.2.2.1.1
    have al := R1_al hR.1 hs q.2.2.1.1
    have l6 := (hI.1 _ al).1
    have ct := tn_cast t.1.1
    have l3 := q.2.2.1.2.2.2
    have wt := hR.2.2.2.2.2.1 _ hs q.2.2.1.1
    refine ⟨?_, by omega, by omega⟩
    rw [← hT, aGw_to (b := b) ((nr x.toNatClampNeg).toInt - (l + 1).toInt).toNat (l + 1) (nr x.toNatClampNeg) (by omega) (by omega) (by omega) (fun z z1 z2 => GL_no hR hK (fun t ht hc => q.2.2.2 t (by omega) hc) (by omega) z2)]
    refine (aGw_y (by omega) ⟨t.1.1, t.1.2, t.2.1, ?_, ?_, ?_⟩).symm
    · rw [wt]
      exact q.2.2.1.2.2.1
    · have f := hE.1.2.2.2.2.2.1
      have l7 := l6.2
      omega
    · by_cases w : b 77 (nr x.toNatClampNeg).toNatClampNeg = 0
      · exact w
      · exact absurd q.2.2.1.2.1 ((hK.2 _ hs q.2.2.1.1).mpr ⟨al.1, w⟩)
theorem gr_ed : zEd (aGr a y) u n ↔ zEd a u n := by
  have al : xAl (aGr a y) = xAl a := by
    funext n
    unfold xAl
    rw [gr_r (n := 126) (by decide) (by decide) (by decide) (by decide)]
  unfold zEd
  rw [al, gr_r (n := 128) (by decide) (by decide) (by decide) (by decide)]
  constructor
  · rintro ⟨w1, i, w2, w3, w4⟩
    exact ⟨w1, i, w2, w3, by rw [← gr_ref (y := y)]; exact w4⟩
  · rintro ⟨w1, i, w2, w3, w4⟩
    exact ⟨w1, i, w2, w3, by rw [gr_ref]; exact w4⟩
theorem Cl_nx (h : qCl b) (hE : qE0 b) (h5 : (b 69 5).toInt < 512) (h50 : 0 ≤ (b 69 5).toInt) (hy : xAl b y.toNatClampNeg) (hy0 : 0 ≤ y.toInt) : qCl (aSp 512 (aCm (aGr b y) y)) := by
  have hc := E0_gr (y := y) hE
  have g := gr_cm (y := y) hc.1
  have al : xAl (aGr b y) = xAl b := by
    funext n
    unfold xAl
    rw [gr_r (n := 126) (by decide) (by decide) (by decide) (by decide)]
  have sp := E0_sp g.1
  have o : zOf (aGr b y) (aSp 512 (aCm (aGr b y) y)) := Of_tr g.2.1 sp.2
  have nn : ∀ x, zNn (aSp 512 (aCm (aGr b y) y)) x ↔ zM (fun u => zNn b u ∨ u = y.toNatClampNeg) (zNn b) (zEd b) x := fun x => by
    refine (sp_Nn g.1).trans (zM_cg (fun u => ?_) (fun u => (g.2.2.1 u).trans ((E0_bl hc).trans (by rw [Nn_gr]))) (fun u y2 => (Of_ed g.2.1).trans gr_ed))
    rw [g.2.2.2.1 u, Nn_gr, al]
    constructor
    · rintro (w | w)
      · exact Or.inl w
      · refine Or.inr ?_
        rw [w.2]
        exact (tn_of w.1.1).symm
    · rintro (w | w)
      · exact Or.inl w
      · refine Or.inr ⟨?_, ?_⟩
        · rw [w]
          exact hy
        · rw [w]
          exact (ofN_tn hy0).symm
  have q5 := gr_5 (a := b) (y := y) h5
  have e1 := i_p1 (i := b 69 5) (by omega)
  have c5 := tn_cast h50
  refine ⟨fun u hu hr => ?_, fun u v hu ha he => ?_⟩
  · rw [← Al_of o, al] at hu
    rw [nn]
    have e2 := Of_r (c := 72) o (by decide) (by decide) (by decide)
    have e4 := Of_r (c := 74) o (by decide) (by decide) (by decide)
    have e9 := Of_r (c := 69) o (by decide) (by decide) (by decide)
    unfold zRl zWl at hr
    rw [← e2, ← e4, ← e9, gr_r (n := 72) (by decide) (by decide) (by decide) (by decide), q5.1, e1] at hr
    rcases hr with hr | ⟨j, j1, j2⟩
    · exact zM_in (Or.inl (h.1 u hu (Or.inl hr)))
    · by_cases z : j = (b 69 5).toNatClampNeg
      · rw [z, q5.2.1] at j2
        refine zM_in (Or.inr ?_)
        rw [j2]
        exact (tn_of hu.1).symm
      · rw [q5.2.2.1 j z] at j2
        exact zM_in (Or.inl (h.1 u hu (Or.inr ⟨j, by omega, j2⟩)))
  · rw [nn] at hu ⊢
    rw [← Al_of o, al] at ha
    have he2 := gr_ed.mp ((Of_ed o).mp he)
    by_cases z : zNn b u
    · exact zM_in (Or.inl (h.2 u v z ha he2))
    · exact zM_cl hu z he2
def qCK (kp us rt wl : Nat → Int32) (wm : Int32) (kr kd ws wd : Nat → Int32) : Prop := zcov kp rt 16 ∧ zcov kp wl wm.toInt ∧ ∀ s, s < 3100 → us s ≠ 0 → kp s ≠ 0 → ∀ i : Nat, (i : Int) < (ws s).toInt → zcl kp kr kd wd s i
theorem CK_of (h : qCl b) (hR : qRB us nr kr kd ws at₉ ho wd wi ow rt wk wl wm nu ro fo le ra pi b) (hK : qKB kp us nr b) : qCK kp us rt wl wm kr kd ws wd := by
  refine ⟨fun k hk => ?_, fun k hk => ?_, fun s hs hu hk i hi => ?_⟩
  · have q := hR.2.2.1 k (by omega)
    by_cases z : (rt k).toInt < 0
    · exact Or.inl z
    · have u := U_y q.1 (by omega)
      have hs := tn_lt (by omega) u.1
      rw [No_y (by omega)] at q
      refine Or.inr ((hK.2 _ hs u.2).mpr (h.1 _ (R1_al hR.1 hs u.2) (Or.inl ⟨k, by omega, ?_⟩)))
      rw [q.2, R1_of_nr hR.1 hs u.2]
  · have q := hR.2.2.2.2.1.2 k hk
    have hs := tn_lt q.1.1 q.1.2.1
    refine Or.inr ((hK.2 _ hs q.1.2.2).mpr (h.1 _ (R1_al hR.1 hs q.1.2.2) (Or.inr ⟨k, by rw [hR.2.2.2.2.1.1]; exact hk, ?_⟩)))
    rw [q.2, R1_of_nr hR.1 hs q.1.2.2]
  · by_cases z : (zrf kr kd wd s i).toInt < 0
    · exact Or.inl z
    · have u := U_y (hR.2.1 s hs hu i hi).1 (by omega)
      have ht := tn_lt (by omega) u.1
      exact Or.inr ((hK.2 _ ht u.2).mpr (h.2 _ _ ((hK.2 s hs hu).mp hk) (R1_al hR.1 hs hu) (Ed_s hR hs hu hi (by omega))))
theorem sp_6 : aSp 512 (aCm (aGr a y) y) 69 6 = a 69 6 := by
  rw [aSp_o ⟨by decide, by decide, by decide⟩, aCm_o ⟨by decide, by decide, by decide⟩, aGr_o ⟨by decide, by decide, by decide, by decide⟩]
end QG

/-! from 95.h12 -/
/-! the reference by numbers (written by wip/tools/gen18r.py) -/
theorem lp_195r_5 {X : Nat × (Nat → Int32)} {P : Option ma_V → (Nat → Nat → Int32) → Prop} {ab : Int32} {yo : Int32} {m0 : Nat → Nat → Int32} (h0 : zV m0) (K : ∀ v m₉, zF wr_195 m0 m₉ → zV m₉ → (zWS (m₉ 100) (m₉ 99) (m₉ 110) (m₉ 109) ab v) → (qMin (qCw (m₉ 99) (m₉ 110) (m₉ 109) (m₉ 100) ab) (m₉ 100) v 3100) → P (some (.inl v)) m₉) : ∀ (n : Nat) (m : Nat → Nat → Int32) (l1 : Int32) (l2 : Int32) (l3 : Int32) (l4 : Int32), (3100 - l4.toInt).toNat = n → zF wr_195 m0 m → zV m → (0 ≤ l4.toInt) → (l4.toInt ≤ 3100) → (l1.toInt = ab.toInt) → (l2.toInt = 0) → (l1 = ab) → (-1 ≤ l3.toInt) → (l3.toInt ≤ 3099) → (zWS (m 100) (m 99) (m 110) (m 109) ab l3) → (qMin (qCw (m 99) (m 110) (m 109) (m 100) l1) (m 100) l3 l4.toInt) → zm X 1 21 195 5 [(0, .inr (.inr (some 94))), (1, .inl l1), (2, .inl l2), (3, .inl l3), (4, .inl l4)] m P := by
  intro n
  induction n using Nat.strongRecOn with
  | _ n IH =>
    intro m l1 l2 l3 l4 hmu hF hV hi0 hi1 hi2 hi3 r_LN hi5 hi6 r_WS r_WM
    refine g_195_5 l1 l2 l3 l4 ?_
    have li1 : (3100 : Int32).toInt = 3100 := rfl
    have b2 := i_bd l4
    refine zd (fun (h3 : (3100 : Int32) ≤ l4) => ?_) (fun (h3 : ¬ (3100 : Int32) ≤ l4) => ?_)
    · skip
      have g4 := i_le h3
      have b5 := i_bd l3
      exact K (l3) _ hF hV r_WS (show qMin (qCw (m 99) (m 110) (m 109) (m 100) ab) (m 100) l3 3100 from by first | (exact Min_0 (by decide) (by decide)) | (rw [← r_LN]; exact (show l4.toInt = 3100 from by omega) ▸ r_WM; done) | (exact Min_new r_WM (by omega) (by omega) (by omega) ⟨by assumption, by assumption, by assumption, by omega⟩ (Or.inl (by omega))) | (exact Min_new r_WM (by omega) (by omega) (by omega) ⟨by assumption, by assumption, by assumption, by omega⟩ (Or.inr (by omega))) | (exact Min_keep r_WM (by omega) (by omega) (by omega) (by omega)) | (exact Min_skip r_WM (by omega) (by omega) (fun z => absurd (by assumption) z.1)) | (exact Min_skip r_WM (by omega) (by omega) (fun z => absurd z.2.1 (by assumption))) | (exact Min_skip r_WM (by omega) (by omega) (fun z => absurd (by assumption) z.2.2.1)) | (exact Min_skip r_WM (by omega) (by omega) (fun z => by have z1 := z.2.2.2; omega)) | (exfalso; omega; done) | (exfalso; contradiction; done))
    · skip
      have g6 := i_nle h3
      have hg7 : (0 ≤ l4 ∧ l4.toNatClampNeg < 3100) := i_ix (by omega) (by omega)
      refine ⟨hg7, ?_⟩
      first | have f8 : 0 ≤ (m 99 l4.toNatClampNeg).toInt ∧ (m 99 l4.toNatClampNeg).toInt ≤ 1 := ra_99 (m := m) hV (k := l4.toNatClampNeg) (i_ix (n := 3100) (by omega) (by omega)).2 | have b9 := i_bd (m 99 l4.toNatClampNeg)
      have li10 : (0 : Int32).toInt = 0 := rfl
      refine zd (fun (h11 : (m 99 l4.toNatClampNeg) = (0 : Int32)) => ?_) (fun (h11 : ¬ (m 99 l4.toNatClampNeg) = (0 : Int32)) => ?_)
      · skip
        have g12 := i_eq h11
        have b13 := i_bd l1
        have b14 := i_bd l2
        have b15 := i_bd l3
        first | have e16 : (l4 + (1 : Int32)).toInt = l4.toInt + (1) := i_addk rfl (by omega) (by omega) | have b17 := i_bd (l4 + (1 : Int32))
        exact IH (3100 - (l4 + (1 : Int32)).toInt).toNat (by omega) _ (l1) (l2) (l3) ((l4 + (1 : Int32))) rfl hF hV (by omega) (by omega) (by omega) (by omega) r_LN (by omega) (by omega) r_WS (show qMin (qCw (m 99) (m 110) (m 109) (m 100) l1) (m 100) l3 (l4 + (1 : Int32)).toInt from by first | (exact Min_0 (by decide) (by decide)) | (rw [← r_LN]; exact (show l4.toInt = 3100 from by omega) ▸ r_WM; done) | (exact Min_new r_WM (by omega) (by omega) (by omega) ⟨by assumption, by assumption, by assumption, by omega⟩ (Or.inl (by omega))) | (exact Min_new r_WM (by omega) (by omega) (by omega) ⟨by assumption, by assumption, by assumption, by omega⟩ (Or.inr (by omega))) | (exact Min_keep r_WM (by omega) (by omega) (by omega) (by omega)) | (exact Min_skip r_WM (by omega) (by omega) (fun z => absurd (by assumption) z.1)) | (exact Min_skip r_WM (by omega) (by omega) (fun z => absurd z.2.1 (by assumption))) | (exact Min_skip r_WM (by omega) (by omega) (fun z => absurd (by assumption) z.2.2.1)) | (exact Min_skip r_WM (by omega) (by omega) (fun z => by have z1 := z.2.2.2; omega)) | (exfalso; omega; done) | (exfalso; contradiction; done))
      · skip
        have g18 := i_ne h11
        have hg19 : (0 ≤ l4 ∧ l4.toNatClampNeg < 3100) := i_ix (by omega) (by omega)
        refine ⟨hg19, ?_⟩
        first | have f20 : 0 ≤ (m 110 l4.toNatClampNeg).toInt ∧ (m 110 l4.toNatClampNeg).toInt ≤ 1 := ra_110 (m := m) hV (k := l4.toNatClampNeg) (i_ix (n := 3100) (by omega) (by omega)).2 | have b21 := i_bd (m 110 l4.toNatClampNeg)
        refine zd (fun (h22 : (m 110 l4.toNatClampNeg) = (0 : Int32)) => ?_) (fun (h22 : ¬ (m 110 l4.toNatClampNeg) = (0 : Int32)) => ?_)
        · skip
          have g23 := i_eq h22
          have hg24 : (0 ≤ l4 ∧ l4.toNatClampNeg < 3100) := i_ix (by omega) (by omega)
          refine ⟨hg24, ?_⟩
          first | have f25 : 0 ≤ (m 109 l4.toNatClampNeg).toInt ∧ (m 109 l4.toNatClampNeg).toInt ≤ 1 := ra_109 (m := m) hV (k := l4.toNatClampNeg) (i_ix (n := 3100) (by omega) (by omega)).2 | have b26 := i_bd (m 109 l4.toNatClampNeg)
          refine zd (fun (h27 : (m 109 l4.toNatClampNeg) = (0 : Int32)) => ?_) (fun (h27 : ¬ (m 109 l4.toNatClampNeg) = (0 : Int32)) => ?_)
          · skip
            have g28 := i_eq h27
            have b29 := i_bd l1
            have b30 := i_bd l2
            have b31 := i_bd l3
            first | have e32 : (l4 + (1 : Int32)).toInt = l4.toInt + (1) := i_addk rfl (by omega) (by omega) | have b33 := i_bd (l4 + (1 : Int32))
            exact IH (3100 - (l4 + (1 : Int32)).toInt).toNat (by omega) _ (l1) (l2) (l3) ((l4 + (1 : Int32))) rfl hF hV (by omega) (by omega) (by omega) (by omega) r_LN (by omega) (by omega) r_WS (show qMin (qCw (m 99) (m 110) (m 109) (m 100) l1) (m 100) l3 (l4 + (1 : Int32)).toInt from by first | (exact Min_0 (by decide) (by decide)) | (rw [← r_LN]; exact (show l4.toInt = 3100 from by omega) ▸ r_WM; done) | (exact Min_new r_WM (by omega) (by omega) (by omega) ⟨by assumption, by assumption, by assumption, by omega⟩ (Or.inl (by omega))) | (exact Min_new r_WM (by omega) (by omega) (by omega) ⟨by assumption, by assumption, by assumption, by omega⟩ (Or.inr (by omega))) | (exact Min_keep r_WM (by omega) (by omega) (by omega) (by omega)) | (exact Min_skip r_WM (by omega) (by omega) (fun z => absurd (by assumption) z.1)) | (exact Min_skip r_WM (by omega) (by omega) (fun z => absurd z.2.1 (by assumption))) | (exact Min_skip r_WM (by omega) (by omega) (fun z => absurd (by assumption) z.2.2.1)) | (exact Min_skip r_WM (by omega) (by omega) (fun z => by have z1 := z.2.2.2; omega)) | (exfalso; omega; done) | (exfalso; contradiction; done))
          · skip
            have g34 := i_ne h27
            have hg35 : (0 ≤ l4 ∧ l4.toNatClampNeg < 3100) := i_ix (by omega) (by omega)
            refine ⟨hg35, ?_⟩
            first | have f36 : 0 ≤ (m 100 l4.toNatClampNeg).toInt ∧ (m 100 l4.toNatClampNeg).toInt ≤ 100000 := ra_100 (m := m) hV (k := l4.toNatClampNeg) (i_ix (n := 3100) (by omega) (by omega)).2 | have b37 := i_bd (m 100 l4.toNatClampNeg)
            have b38 := i_bd l1
            refine zd (fun (h39 : (m 100 l4.toNatClampNeg) ≤ l1) => ?_) (fun (h39 : ¬ (m 100 l4.toNatClampNeg) ≤ l1) => ?_)
            · skip
              have g40 := i_le h39
              have b41 := i_bd l2
              have b42 := i_bd l3
              first | have e43 : (l4 + (1 : Int32)).toInt = l4.toInt + (1) := i_addk rfl (by omega) (by omega) | have b44 := i_bd (l4 + (1 : Int32))
              exact IH (3100 - (l4 + (1 : Int32)).toInt).toNat (by omega) _ (l1) (l2) (l3) ((l4 + (1 : Int32))) rfl hF hV (by omega) (by omega) (by omega) (by omega) r_LN (by omega) (by omega) r_WS (show qMin (qCw (m 99) (m 110) (m 109) (m 100) l1) (m 100) l3 (l4 + (1 : Int32)).toInt from by first | (exact Min_0 (by decide) (by decide)) | (rw [← r_LN]; exact (show l4.toInt = 3100 from by omega) ▸ r_WM; done) | (exact Min_new r_WM (by omega) (by omega) (by omega) ⟨by assumption, by assumption, by assumption, by omega⟩ (Or.inl (by omega))) | (exact Min_new r_WM (by omega) (by omega) (by omega) ⟨by assumption, by assumption, by assumption, by omega⟩ (Or.inr (by omega))) | (exact Min_keep r_WM (by omega) (by omega) (by omega) (by omega)) | (exact Min_skip r_WM (by omega) (by omega) (fun z => absurd (by assumption) z.1)) | (exact Min_skip r_WM (by omega) (by omega) (fun z => absurd z.2.1 (by assumption))) | (exact Min_skip r_WM (by omega) (by omega) (fun z => absurd (by assumption) z.2.2.1)) | (exact Min_skip r_WM (by omega) (by omega) (fun z => by have z1 := z.2.2.2; omega)) | (exfalso; omega; done) | (exfalso; contradiction; done))
            · skip
              have g45 := i_nle h39
              have b46 := i_bd l2
              refine zd (fun (h47 : l2 = (0 : Int32)) => ?_) (fun (h47 : ¬ l2 = (0 : Int32)) => ?_)
              · skip
                have g48 := i_eq h47
                have b49 := i_bd l3
                refine zd (fun (h50 : l3 < (0 : Int32)) => ?_) (fun (h50 : ¬ l3 < (0 : Int32)) => ?_)
                · skip
                  have g51 := i_lt h50
                  first | have e52 : (l4 + (1 : Int32)).toInt = l4.toInt + (1) := i_addk rfl (by omega) (by omega) | have b53 := i_bd (l4 + (1 : Int32))
                  exact IH (3100 - (l4 + (1 : Int32)).toInt).toNat (by omega) _ (l1) (l2) (l4) ((l4 + (1 : Int32))) rfl hF hV (by omega) (by omega) (by omega) (by omega) r_LN (by omega) (by omega) (show zWS (m 100) (m 99) (m 110) (m 109) ab l4 from by first | (exact Or.inl (by decide)) | (exact Or.inr ⟨by omega, by omega, by assumption, by assumption, by assumption, by omega⟩) | (exfalso; omega; done) | (exfalso; contradiction; done)) (show qMin (qCw (m 99) (m 110) (m 109) (m 100) l1) (m 100) l4 (l4 + (1 : Int32)).toInt from by first | (exact Min_0 (by decide) (by decide)) | (rw [← r_LN]; exact (show l4.toInt = 3100 from by omega) ▸ r_WM; done) | (exact Min_new r_WM (by omega) (by omega) (by omega) ⟨by assumption, by assumption, by assumption, by omega⟩ (Or.inl (by omega))) | (exact Min_new r_WM (by omega) (by omega) (by omega) ⟨by assumption, by assumption, by assumption, by omega⟩ (Or.inr (by omega))) | (exact Min_keep r_WM (by omega) (by omega) (by omega) (by omega)) | (exact Min_skip r_WM (by omega) (by omega) (fun z => absurd (by assumption) z.1)) | (exact Min_skip r_WM (by omega) (by omega) (fun z => absurd z.2.1 (by assumption))) | (exact Min_skip r_WM (by omega) (by omega) (fun z => absurd (by assumption) z.2.2.1)) | (exact Min_skip r_WM (by omega) (by omega) (fun z => by have z1 := z.2.2.2; omega)) | (exfalso; omega; done) | (exfalso; contradiction; done))
                · skip
                  have g54 := i_nlt h50
                  have hg55 : (0 ≤ l4 ∧ l4.toNatClampNeg < 3100) := i_ix (by omega) (by omega)
                  refine ⟨hg55, ?_⟩
                  have hg56 : (0 ≤ l3 ∧ l3.toNatClampNeg < 3100) := i_ix (by omega) (by omega)
                  refine ⟨hg56, ?_⟩
                  first | have f57 : 0 ≤ (m 100 l3.toNatClampNeg).toInt ∧ (m 100 l3.toNatClampNeg).toInt ≤ 100000 := ra_100 (m := m) hV (k := l3.toNatClampNeg) (i_ix (n := 3100) (by omega) (by omega)).2 | have b58 := i_bd (m 100 l3.toNatClampNeg)
                  refine zd (fun (h59 : (m 100 l3.toNatClampNeg) ≤ (m 100 l4.toNatClampNeg)) => ?_) (fun (h59 : ¬ (m 100 l3.toNatClampNeg) ≤ (m 100 l4.toNatClampNeg)) => ?_)
                  · skip
                    have g60 := i_le h59
                    first | have e61 : (l4 + (1 : Int32)).toInt = l4.toInt + (1) := i_addk rfl (by omega) (by omega) | have b62 := i_bd (l4 + (1 : Int32))
                    exact IH (3100 - (l4 + (1 : Int32)).toInt).toNat (by omega) _ (l1) (l2) (l3) ((l4 + (1 : Int32))) rfl hF hV (by omega) (by omega) (by omega) (by omega) r_LN (by omega) (by omega) r_WS (show qMin (qCw (m 99) (m 110) (m 109) (m 100) l1) (m 100) l3 (l4 + (1 : Int32)).toInt from by first | (exact Min_0 (by decide) (by decide)) | (rw [← r_LN]; exact (show l4.toInt = 3100 from by omega) ▸ r_WM; done) | (exact Min_new r_WM (by omega) (by omega) (by omega) ⟨by assumption, by assumption, by assumption, by omega⟩ (Or.inl (by omega))) | (exact Min_new r_WM (by omega) (by omega) (by omega) ⟨by assumption, by assumption, by assumption, by omega⟩ (Or.inr (by omega))) | (exact Min_keep r_WM (by omega) (by omega) (by omega) (by omega)) | (exact Min_skip r_WM (by omega) (by omega) (fun z => absurd (by assumption) z.1)) | (exact Min_skip r_WM (by omega) (by omega) (fun z => absurd z.2.1 (by assumption))) | (exact Min_skip r_WM (by omega) (by omega) (fun z => absurd (by assumption) z.2.2.1)) | (exact Min_skip r_WM (by omega) (by omega) (fun z => by have z1 := z.2.2.2; omega)) | (exfalso; omega; done) | (exfalso; contradiction; done))
                  · skip
                    have g63 := i_nle h59
                    first | have e64 : (l4 + (1 : Int32)).toInt = l4.toInt + (1) := i_addk rfl (by omega) (by omega) | have b65 := i_bd (l4 + (1 : Int32))
                    exact IH (3100 - (l4 + (1 : Int32)).toInt).toNat (by omega) _ (l1) (l2) (l4) ((l4 + (1 : Int32))) rfl hF hV (by omega) (by omega) (by omega) (by omega) r_LN (by omega) (by omega) (show zWS (m 100) (m 99) (m 110) (m 109) ab l4 from by first | (exact Or.inl (by decide)) | (exact Or.inr ⟨by omega, by omega, by assumption, by assumption, by assumption, by omega⟩) | (exfalso; omega; done) | (exfalso; contradiction; done)) (show qMin (qCw (m 99) (m 110) (m 109) (m 100) l1) (m 100) l4 (l4 + (1 : Int32)).toInt from by first | (exact Min_0 (by decide) (by decide)) | (rw [← r_LN]; exact (show l4.toInt = 3100 from by omega) ▸ r_WM; done) | (exact Min_new r_WM (by omega) (by omega) (by omega) ⟨by assumption, by assumption, by assumption, by omega⟩ (Or.inl (by omega))) | (exact Min_new r_WM (by omega) (by omega) (by omega) ⟨by assumption, by assumption, by assumption, by omega⟩ (Or.inr (by omega))) | (exact Min_keep r_WM (by omega) (by omega) (by omega) (by omega)) | (exact Min_skip r_WM (by omega) (by omega) (fun z => absurd (by assumption) z.1)) | (exact Min_skip r_WM (by omega) (by omega) (fun z => absurd z.2.1 (by assumption))) | (exact Min_skip r_WM (by omega) (by omega) (fun z => absurd (by assumption) z.2.2.1)) | (exact Min_skip r_WM (by omega) (by omega) (fun z => by have z1 := z.2.2.2; omega)) | (exfalso; omega; done) | (exfalso; contradiction; done))
              · skip
                have g66 := i_ne h47
                have hg67 : (0 ≤ l4 ∧ l4.toNatClampNeg < 3100) := i_ix (by omega) (by omega)
                refine ⟨hg67, ?_⟩
                have f68 : 0 ≤ (m 94 14).toInt ∧ (m 94 14).toInt ≤ 1500 := rs_94_14 (m := m) hV
                first | have f69 : 0 ≤ (m 103 l4.toNatClampNeg).toInt ∧ (m 103 l4.toNatClampNeg).toInt ≤ 4599 := ra_103 (m := m) hV (k := l4.toNatClampNeg) (i_ix (n := 3100) (by omega) (by omega)).2 | have b70 := i_bd (m 103 l4.toNatClampNeg)
                refine zd (fun (h71 : (m 94 14) ≤ (m 103 l4.toNatClampNeg)) => ?_) (fun (h71 : ¬ (m 94 14) ≤ (m 103 l4.toNatClampNeg)) => ?_)
                · skip
                  have g72 := i_le h71
                  have b73 := i_bd l3
                  refine zd (fun (h74 : l3 < (0 : Int32)) => ?_) (fun (h74 : ¬ l3 < (0 : Int32)) => ?_)
                  · skip
                    have g75 := i_lt h74
                    first | have e76 : (l4 + (1 : Int32)).toInt = l4.toInt + (1) := i_addk rfl (by omega) (by omega) | have b77 := i_bd (l4 + (1 : Int32))
                    exact IH (3100 - (l4 + (1 : Int32)).toInt).toNat (by omega) _ (l1) (l2) (l4) ((l4 + (1 : Int32))) rfl hF hV (by omega) (by omega) (by omega) (by omega) r_LN (by omega) (by omega) (show zWS (m 100) (m 99) (m 110) (m 109) ab l4 from by first | (exact Or.inl (by decide)) | (exact Or.inr ⟨by omega, by omega, by assumption, by assumption, by assumption, by omega⟩) | (exfalso; omega; done) | (exfalso; contradiction; done)) (show qMin (qCw (m 99) (m 110) (m 109) (m 100) l1) (m 100) l4 (l4 + (1 : Int32)).toInt from by first | (exact Min_0 (by decide) (by decide)) | (rw [← r_LN]; exact (show l4.toInt = 3100 from by omega) ▸ r_WM; done) | (exact Min_new r_WM (by omega) (by omega) (by omega) ⟨by assumption, by assumption, by assumption, by omega⟩ (Or.inl (by omega))) | (exact Min_new r_WM (by omega) (by omega) (by omega) ⟨by assumption, by assumption, by assumption, by omega⟩ (Or.inr (by omega))) | (exact Min_keep r_WM (by omega) (by omega) (by omega) (by omega)) | (exact Min_skip r_WM (by omega) (by omega) (fun z => absurd (by assumption) z.1)) | (exact Min_skip r_WM (by omega) (by omega) (fun z => absurd z.2.1 (by assumption))) | (exact Min_skip r_WM (by omega) (by omega) (fun z => absurd (by assumption) z.2.2.1)) | (exact Min_skip r_WM (by omega) (by omega) (fun z => by have z1 := z.2.2.2; omega)) | (exfalso; omega; done) | (exfalso; contradiction; done))
                  · skip
                    have g78 := i_nlt h74
                    have hg79 : (0 ≤ l4 ∧ l4.toNatClampNeg < 3100) := i_ix (by omega) (by omega)
                    refine ⟨hg79, ?_⟩
                    have hg80 : (0 ≤ l3 ∧ l3.toNatClampNeg < 3100) := i_ix (by omega) (by omega)
                    refine ⟨hg80, ?_⟩
                    first | have f81 : 0 ≤ (m 100 l3.toNatClampNeg).toInt ∧ (m 100 l3.toNatClampNeg).toInt ≤ 100000 := ra_100 (m := m) hV (k := l3.toNatClampNeg) (i_ix (n := 3100) (by omega) (by omega)).2 | have b82 := i_bd (m 100 l3.toNatClampNeg)
                    refine zd (fun (h83 : (m 100 l3.toNatClampNeg) ≤ (m 100 l4.toNatClampNeg)) => ?_) (fun (h83 : ¬ (m 100 l3.toNatClampNeg) ≤ (m 100 l4.toNatClampNeg)) => ?_)
                    · skip
                      have g84 := i_le h83
                      first | have e85 : (l4 + (1 : Int32)).toInt = l4.toInt + (1) := i_addk rfl (by omega) (by omega) | have b86 := i_bd (l4 + (1 : Int32))
                      exact IH (3100 - (l4 + (1 : Int32)).toInt).toNat (by omega) _ (l1) (l2) (l3) ((l4 + (1 : Int32))) rfl hF hV (by omega) (by omega) (by omega) (by omega) r_LN (by omega) (by omega) r_WS (show qMin (qCw (m 99) (m 110) (m 109) (m 100) l1) (m 100) l3 (l4 + (1 : Int32)).toInt from by first | (exact Min_0 (by decide) (by decide)) | (rw [← r_LN]; exact (show l4.toInt = 3100 from by omega) ▸ r_WM; done) | (exact Min_new r_WM (by omega) (by omega) (by omega) ⟨by assumption, by assumption, by assumption, by omega⟩ (Or.inl (by omega))) | (exact Min_new r_WM (by omega) (by omega) (by omega) ⟨by assumption, by assumption, by assumption, by omega⟩ (Or.inr (by omega))) | (exact Min_keep r_WM (by omega) (by omega) (by omega) (by omega)) | (exact Min_skip r_WM (by omega) (by omega) (fun z => absurd (by assumption) z.1)) | (exact Min_skip r_WM (by omega) (by omega) (fun z => absurd z.2.1 (by assumption))) | (exact Min_skip r_WM (by omega) (by omega) (fun z => absurd (by assumption) z.2.2.1)) | (exact Min_skip r_WM (by omega) (by omega) (fun z => by have z1 := z.2.2.2; omega)) | (exfalso; omega; done) | (exfalso; contradiction; done))
                    · skip
                      have g87 := i_nle h83
                      first | have e88 : (l4 + (1 : Int32)).toInt = l4.toInt + (1) := i_addk rfl (by omega) (by omega) | have b89 := i_bd (l4 + (1 : Int32))
                      exact IH (3100 - (l4 + (1 : Int32)).toInt).toNat (by omega) _ (l1) (l2) (l4) ((l4 + (1 : Int32))) rfl hF hV (by omega) (by omega) (by omega) (by omega) r_LN (by omega) (by omega) (show zWS (m 100) (m 99) (m 110) (m 109) ab l4 from by first | (exact Or.inl (by decide)) | (exact Or.inr ⟨by omega, by omega, by assumption, by assumption, by assumption, by omega⟩) | (exfalso; omega; done) | (exfalso; contradiction; done)) (show qMin (qCw (m 99) (m 110) (m 109) (m 100) l1) (m 100) l4 (l4 + (1 : Int32)).toInt from by first | (exact Min_0 (by decide) (by decide)) | (rw [← r_LN]; exact (show l4.toInt = 3100 from by omega) ▸ r_WM; done) | (exact Min_new r_WM (by omega) (by omega) (by omega) ⟨by assumption, by assumption, by assumption, by omega⟩ (Or.inl (by omega))) | (exact Min_new r_WM (by omega) (by omega) (by omega) ⟨by assumption, by assumption, by assumption, by omega⟩ (Or.inr (by omega))) | (exact Min_keep r_WM (by omega) (by omega) (by omega) (by omega)) | (exact Min_skip r_WM (by omega) (by omega) (fun z => absurd (by assumption) z.1)) | (exact Min_skip r_WM (by omega) (by omega) (fun z => absurd z.2.1 (by assumption))) | (exact Min_skip r_WM (by omega) (by omega) (fun z => absurd (by assumption) z.2.2.1)) | (exact Min_skip r_WM (by omega) (by omega) (fun z => by have z1 := z.2.2.2; omega)) | (exfalso; omega; done) | (exfalso; contradiction; done))
                · skip
                  have g90 := i_nle h71
                  have b91 := i_bd l3
                  first | have e92 : (l4 + (1 : Int32)).toInt = l4.toInt + (1) := i_addk rfl (by omega) (by omega) | have b93 := i_bd (l4 + (1 : Int32))
                  exact IH (3100 - (l4 + (1 : Int32)).toInt).toNat (by omega) _ (l1) (l2) (l3) ((l4 + (1 : Int32))) rfl hF hV (by omega) (by omega) (by omega) (by omega) r_LN (by omega) (by omega) r_WS (show qMin (qCw (m 99) (m 110) (m 109) (m 100) l1) (m 100) l3 (l4 + (1 : Int32)).toInt from by first | (exact Min_0 (by decide) (by decide)) | (rw [← r_LN]; exact (show l4.toInt = 3100 from by omega) ▸ r_WM; done) | (exact Min_new r_WM (by omega) (by omega) (by omega) ⟨by assumption, by assumption, by assumption, by omega⟩ (Or.inl (by omega))) | (exact Min_new r_WM (by omega) (by omega) (by omega) ⟨by assumption, by assumption, by assumption, by omega⟩ (Or.inr (by omega))) | (exact Min_keep r_WM (by omega) (by omega) (by omega) (by omega)) | (exact Min_skip r_WM (by omega) (by omega) (fun z => absurd (by assumption) z.1)) | (exact Min_skip r_WM (by omega) (by omega) (fun z => absurd z.2.1 (by assumption))) | (exact Min_skip r_WM (by omega) (by omega) (fun z => absurd (by assumption) z.2.2.1)) | (exact Min_skip r_WM (by omega) (by omega) (fun z => by have z1 := z.2.2.2; omega)) | (exfalso; omega; done) | (exfalso; contradiction; done))
        · skip
          have g94 := i_ne h22
          have b95 := i_bd l1
          have b96 := i_bd l2
          have b97 := i_bd l3
          first | have e98 : (l4 + (1 : Int32)).toInt = l4.toInt + (1) := i_addk rfl (by omega) (by omega) | have b99 := i_bd (l4 + (1 : Int32))
          exact IH (3100 - (l4 + (1 : Int32)).toInt).toNat (by omega) _ (l1) (l2) (l3) ((l4 + (1 : Int32))) rfl hF hV (by omega) (by omega) (by omega) (by omega) r_LN (by omega) (by omega) r_WS (show qMin (qCw (m 99) (m 110) (m 109) (m 100) l1) (m 100) l3 (l4 + (1 : Int32)).toInt from by first | (exact Min_0 (by decide) (by decide)) | (rw [← r_LN]; exact (show l4.toInt = 3100 from by omega) ▸ r_WM; done) | (exact Min_new r_WM (by omega) (by omega) (by omega) ⟨by assumption, by assumption, by assumption, by omega⟩ (Or.inl (by omega))) | (exact Min_new r_WM (by omega) (by omega) (by omega) ⟨by assumption, by assumption, by assumption, by omega⟩ (Or.inr (by omega))) | (exact Min_keep r_WM (by omega) (by omega) (by omega) (by omega)) | (exact Min_skip r_WM (by omega) (by omega) (fun z => absurd (by assumption) z.1)) | (exact Min_skip r_WM (by omega) (by omega) (fun z => absurd z.2.1 (by assumption))) | (exact Min_skip r_WM (by omega) (by omega) (fun z => absurd (by assumption) z.2.2.1)) | (exact Min_skip r_WM (by omega) (by omega) (fun z => by have z1 := z.2.2.2; omega)) | (exfalso; omega; done) | (exfalso; contradiction; done))
theorem sp_195r {X : Nat × (Nat → Int32)} {P : Option ma_V → (Nat → Nat → Int32) → Prop} {m : Nat → Nat → Int32} (ab : Int32) (yo : Int32) (hV : zV m) (hpre0 : yo.toInt = 0) (KZ : ∀ v m₉, zV (zov wr_195 m m₉) → (zWS (m 100) (m 99) (m 110) (m 109) ab v) → (qMin (qCw (m 99) (m 110) (m 109) (m 100) ab) (m 100) v 3100) → P (some (.inl v)) (zov wr_195 m m₉)) : zm X 1 21 195 0 [(0, .inr (.inr (some 94))), (1, .inl ab), (2, .inl yo)] m P := by
  have K : ∀ v m₉, zF wr_195 m m₉ → zV m₉ → (zWS (m₉ 100) (m₉ 99) (m₉ 110) (m₉ 109) ab v) → (qMin (qCw (m₉ 99) (m₉ 110) (m₉ 109) (m₉ 100) ab) (m₉ 100) v 3100) → P (some (.inl v)) m₉ := by
    intro v m₉ hf z q0 q1
    have e := zov_eq hf
    rw [e] at z ⊢
    try rw [e] at q0
    try rw [e] at q1
    exact KZ v m₉ z q0 q1
  refine g_195_0 ab yo ?_
  have b1 := i_bd ab
  have b2 := i_bd yo
  have li3 : (-1 : Int32).toInt = -1 := rfl
  have li4 : (0 : Int32).toInt = 0 := rfl
  exact lp_195r_5 (ab := ab) (yo := yo) hV K _ _ (ab) (yo) ((-1 : Int32)) ((0 : Int32)) rfl zF_rfl hV (by omega) (by omega) (by omega) (by omega) (show ab = ab from by first | (exact rfl) | (exfalso; omega; done) | (exfalso; contradiction; done)) (by omega) (by omega) (show zWS (m 100) (m 99) (m 110) (m 109) ab (-1 : Int32) from by first | (exact Or.inl (by decide)) | (exact Or.inr ⟨by omega, by omega, by assumption, by assumption, by assumption, by omega⟩) | (exfalso; omega; done) | (exfalso; contradiction; done)) (show qMin (qCw (m 99) (m 110) (m 109) (m 100) ab) (m 100) (-1 : Int32) (0 : Int32).toInt from by first | (exact Min_0 (by decide) (by decide)) | (exfalso; omega; done) | (exfalso; contradiction; done))
theorem lp_198r_2 {X : Nat × (Nat → Int32)} {P : Option ma_V → (Nat → Nat → Int32) → Prop} {s : Int32} {m0 : Nat → Nat → Int32} (h0 : zV m0) (K : ∀ m₉, zF wr_198 m0 m₉ → zV m₉ → (zuw (m0 113) (m₉ 113)) → (qUn (m0 113) (m₉ 113) s 16) → P none m₉) : ∀ (n : Nat) (m : Nat → Nat → Int32) (l1 : Int32) (l2 : Int32), (16 - l2.toInt).toNat = n → zF wr_198 m0 m → zV m → (0 ≤ l2.toInt) → (l2.toInt ≤ 16) → (l1 = s) → (zuw (m0 113) (m 113)) → (qUn (m0 113) (m 113) s l2.toInt) → zm X 0 0 198 2 [(0, .inr (.inr (some 94))), (1, .inl l1), (2, .inl l2)] m P := by
  intro n
  induction n using Nat.strongRecOn with
  | _ n IH =>
    intro m l1 l2 hmu hF hV hi0 hi1 r_LN r_UW r_UN
    refine g_198_2 l1 l2 ?_
    have li1 : (16 : Int32).toInt = 16 := rfl
    have b2 := i_bd l2
    refine zd (fun (h3 : (16 : Int32) ≤ l2) => ?_) (fun (h3 : ¬ (16 : Int32) ≤ l2) => ?_)
    · skip
      have g4 := i_le h3
      exact K _ hF hV r_UW (show qUn (m0 113) (m 113) s 16 from by first | (exact Un_0 (by decide)) | (exact Un_n r_UN (by omega) (by omega) (by rw [← r_LN]; assumption)) | (exact (show l2.toInt = 16 from by omega) ▸ r_UN) | (exfalso; omega; done) | (exfalso; contradiction; done))
    · skip
      have g5 := i_nle h3
      have hg6 : (0 ≤ l2 ∧ l2.toNatClampNeg < 16) := i_ix (by omega) (by omega)
      refine ⟨hg6, ?_⟩
      first | have f7 : -1 ≤ (m 113 l2.toNatClampNeg).toInt ∧ (m 113 l2.toNatClampNeg).toInt ≤ 3099 := ra_113 (m := m) hV (k := l2.toNatClampNeg) (i_ix (n := 16) (by omega) (by omega)).2 | have b8 := i_bd (m 113 l2.toNatClampNeg)
      have b9 := i_bd l1
      refine zd (fun (h10 : (m 113 l2.toNatClampNeg) = l1) => ?_) (fun (h10 : ¬ (m 113 l2.toNatClampNeg) = l1) => ?_)
      · skip
        have g11 := i_eq h10
        have hg12 : (0 ≤ l2 ∧ l2.toNatClampNeg < 16) := i_ix (by omega) (by omega)
        refine ⟨hg12, ?_⟩
        have li14 : (-1 : Int32).toInt = -1 := rfl
        have hV13 : zV (ma_u m 113 l2.toNatClampNeg (-1 : Int32)) := ua_113 hV (by omega) (by omega)
        first | have e15 : (l2 + (1 : Int32)).toInt = l2.toInt + (1) := i_addk rfl (by omega) (by omega) | have b16 := i_bd (l2 + (1 : Int32))
        exact IH (16 - (l2 + (1 : Int32)).toInt).toNat (by omega) _ (l1) ((l2 + (1 : Int32))) rfl (zF_u hF rfl) hV13 (by omega) (by omega) r_LN (show zuw (m0 113) ((ma_u m 113 l2.toNatClampNeg (-1 : Int32)) 113) from by first | (exact zuw_put r_UW (by decide)) | (exfalso; omega; done) | (exfalso; contradiction; done)) (show qUn (m0 113) ((ma_u m 113 l2.toNatClampNeg (-1 : Int32)) 113) s (l2 + (1 : Int32)).toInt from by first | (exact Un_y r_UN (by omega) (by omega) (by rw [← r_LN]; assumption)) | (exfalso; omega; done) | (exfalso; contradiction; done))
      · skip
        have g17 := i_ne h10
        first | have e18 : (l2 + (1 : Int32)).toInt = l2.toInt + (1) := i_addk rfl (by omega) (by omega) | have b19 := i_bd (l2 + (1 : Int32))
        exact IH (16 - (l2 + (1 : Int32)).toInt).toNat (by omega) _ (l1) ((l2 + (1 : Int32))) rfl hF hV (by omega) (by omega) r_LN r_UW (show qUn (m0 113) (m 113) s (l2 + (1 : Int32)).toInt from by first | (exact Un_0 (by decide)) | (exact Un_n r_UN (by omega) (by omega) (by rw [← r_LN]; assumption)) | (exact (show l2.toInt = 16 from by omega) ▸ r_UN) | (exfalso; omega; done) | (exfalso; contradiction; done))
theorem sp_198r {X : Nat × (Nat → Int32)} {P : Option ma_V → (Nat → Nat → Int32) → Prop} {m : Nat → Nat → Int32} (s : Int32) (hV : zV m)  (KZ : ∀ m₉, zV (zov wr_198 m m₉) → (zuw (m 113) (m₉ 113)) → (qUn (m 113) (m₉ 113) s 16) → P none (zov wr_198 m m₉)) : zm X 0 0 198 0 [(0, .inr (.inr (some 94))), (1, .inl s)] m P := by
  have K : ∀ m₉, zF wr_198 m m₉ → zV m₉ → (zuw (m 113) (m₉ 113)) → (qUn (m 113) (m₉ 113) s 16) → P none m₉ := by
    intro m₉ hf z q0 q1
    have e := zov_eq hf
    rw [e] at z ⊢
    try rw [e] at q0
    try rw [e] at q1
    exact KZ m₉ z q0 q1
  refine g_198_0 s ?_
  have b1 := i_bd s
  have li2 : (0 : Int32).toInt = 0 := rfl
  exact lp_198r_2 (s := s) hV K _ _ (s) ((0 : Int32)) rfl zF_rfl hV (by omega) (by omega) (show s = s from by first | (exact rfl) | (exfalso; omega; done) | (exfalso; contradiction; done)) (show zuw (m 113) (m 113) from by first | (exact zuw_rfl) | (exfalso; omega; done) | (exfalso; contradiction; done)) (show qUn (m 113) (m 113) s (0 : Int32).toInt from by first | (exact Un_0 (by decide)) | (exfalso; omega; done) | (exfalso; contradiction; done))

/-! from 95.h13 -/
/-! the reference by numbers (written by wip/tools/gen18r.py) -/
theorem GW_512 {T : Nat} {z : Int32} {wi : Nat → Int32} {s : Int32} (h : zGW T z wi) (hw : wi s.toNatClampNeg ≠ 0) (h0 : 0 ≤ s.toInt) (h3 : s.toInt ≤ 3099) (hT : T ≤ 512) : z.toInt < 512 := by
  have c := cnt_pos (r := wi) (n := 3100) (k := s.toNatClampNeg) (by have := tn_cast h0; omega) hw
  have := h.1
  omega
theorem sp_197r {X : Nat × (Nat → Int32)} {P : Option ma_V → (Nat → Nat → Int32) → Prop} {T : Nat} {aa : Nat→Nat→Int32} {m : Nat → Nat → Int32} (s : Int32) (hV : zV m) (hpre0 : 0 ≤ s.toInt) (hpre1 : s.toInt ≤ 3099) (hpre2 : T ≤ 512) (hpre3 : (m 94 10).toInt = 5) (r_WI : (m 109) s.toNatClampNeg ≠ 0) (r_USs : (m 99) s.toNatClampNeg ≠ 0) (r_GW : zGW T (m 94 55) (m 109)) (r_RB : qRB (m 99) (m 100) (m 98) (m 101) (m 102) (m 103) (m 107) (m 108) (m 109) (m 111) (m 112) (m 113) (m 114) (m 94 55) (m 94 46) (m 94 11) (m 94 12) (m 94 62) (m 94 17) (m 94 9) aa) (r_QI : qI aa) (KZ : ∀ m₉, zV (zov wr_197 m m₉) → (zGW T (m₉ 94 55) (m₉ 109)) → (zuw (m 113) (m₉ 113)) → (zwx (m 114) (m₉ 114) (m 94 55) s) → ((m₉ 94 55).toInt = (m 94 55).toInt + 1) → (qRB (m 99) (m 100) (m 98) (m 101) (m 102) (m 103) (m 107) (m 108) (m₉ 109) (m 111) (m 112) (m₉ 113) (m₉ 114) (m₉ 94 55) (m 94 46) (m 94 11) (m 94 12) (m 94 62) (m 94 17) (m 94 9) (aGr aa ((m 100) s.toNatClampNeg))) → (qI (aGr aa ((m 100) s.toNatClampNeg))) → P none (zov wr_197 m m₉)) : zm X 1 22 197 0 [(0, .inr (.inr (some 94))), (1, .inl s)] m P := by
  have K : ∀ m₉, zF wr_197 m m₉ → zV m₉ → (zGW T (m₉ 94 55) (m₉ 109)) → (zuw (m 113) (m₉ 113)) → (zwx (m 114) (m₉ 114) (m 94 55) s) → ((m₉ 94 55).toInt = (m 94 55).toInt + 1) → (qRB (m₉ 99) (m₉ 100) (m₉ 98) (m₉ 101) (m₉ 102) (m₉ 103) (m₉ 107) (m₉ 108) (m₉ 109) (m₉ 111) (m₉ 112) (m₉ 113) (m₉ 114) (m₉ 94 55) (m₉ 94 46) (m₉ 94 11) (m₉ 94 12) (m₉ 94 62) (m₉ 94 17) (m₉ 94 9) (aGr aa ((m₉ 100) s.toNatClampNeg))) → (qI (aGr aa ((m₉ 100) s.toNatClampNeg))) → P none m₉ := by
    intro m₉ hf z q0 q1 q2 q3 q4 q5
    have e := zov_eq hf
    rw [e] at z ⊢
    try rw [e] at q0
    try rw [e] at q1
    try rw [e] at q2
    try rw [e] at q3
    try rw [e] at q4
    try rw [e] at q5
    exact KZ m₉ z q0 q1 q2 q3 q4 q5
  refine g_197_0 s ?_
  have f1 : 0 ≤ (m 94 10).toInt ∧ (m 94 10).toInt ≤ 6 := rs_94_10 (m := m) hV
  have b2 := i_bd s
  try have gwr := GW_512 r_GW r_WI (by omega) (by omega) (by omega)
  refine sp_198r (s) hV  (fun m1 hV_m1 p0_m1 p1_m1 => zmv_n ?_)
  have p0_m1 : zuw (m 113) (m1 113) := p0_m1
  have p1_m1 : qUn (m 113) (m1 113) s 16 := p1_m1
  try have gw := GW_room r_GW
  try have gwr := GW_512 r_GW r_WI (by omega) (by omega) (by omega)
  have hg3 : (0 ≤ s ∧ s.toNatClampNeg < 3100) := i_ix (by omega) (by omega)
  refine ⟨hg3, ?_⟩
  have f4 : 0 ≤ (m 94 55).toInt ∧ (m 94 55).toInt ≤ 3100 := rs_94_55 (m := m) hV
  try have gw := GW_room r_GW
  try have gwr := GW_512 r_GW r_WI (by omega) (by omega) (by omega)
  have hg5 : (0 ≤ (m 94 55) ∧ (m 94 55).toNatClampNeg < 3100) := i_ix (by omega) (by omega)
  refine ⟨hg5, ?_⟩
  have li6 : (4 : Int32).toInt = 4 := rfl
  refine zd (fun (h7 : (m 94 10) = (4 : Int32)) => ?_) (fun (h7 : ¬ (m 94 10) = (4 : Int32)) => ?_)
  · skip
    have g8 := i_eq h7
    have hg9 : (0 ≤ s ∧ s.toNatClampNeg < 3100) := i_ix (by omega) (by omega)
    refine ⟨hg9, ?_⟩
    have hg10 : (0 ≤ s ∧ s.toNatClampNeg < 3100) := i_ix (by omega) (by omega)
    refine ⟨hg10, ?_⟩
    try have gwr := GW_512 r_GW r_WI (by omega) (by omega) (by omega)
    have li12 : (0 : Int32).toInt = 0 := rfl
    have hV11 : zV (ma_u (zov wr_198 m m1) 109 s.toNatClampNeg (0 : Int32)) := ua_109 hV_m1 (by omega) (by omega)
    have hV13 : zV (ma_u (ma_u (zov wr_198 m m1) 109 s.toNatClampNeg (0 : Int32)) 114 (m 94 55).toNatClampNeg s) := ua_114 hV11 (by omega) (by omega)
    first | have e15 : ((m 94 55) + (1 : Int32)).toInt = (m 94 55).toInt + (1) := i_addk rfl (by omega) (by omega) | have b16 := i_bd ((m 94 55) + (1 : Int32))
    have hV14 : zV (ma_u (ma_u (ma_u (zov wr_198 m m1) 109 s.toNatClampNeg (0 : Int32)) 114 (m 94 55).toNatClampNeg s) 94 55 ((m 94 55) + (1 : Int32))) := us_94_55 hV13 (by omega) (by omega)
    have hV17 : zV (ma_u (ma_u (ma_u (ma_u (zov wr_198 m m1) 109 s.toNatClampNeg (0 : Int32)) 114 (m 94 55).toNatClampNeg s) 94 55 ((m 94 55) + (1 : Int32))) 105 s.toNatClampNeg ((m 105 s.toNatClampNeg) + (1 : Int32))) := ua_105 hV14
    exact K _ (zF_u (zF_u (zF_u (zF_u (zF_zov zF_rfl ws_198_197) rfl) rfl) rfl) rfl) hV17 (show zGW T ((m 94 55) + (1 : Int32)) ((ma_u m 109 s.toNatClampNeg (0 : Int32)) 109) from by first | (exact GW_take r_GW r_WI (by omega) (by omega)) | (exfalso; omega; done) | (exfalso; contradiction; done)) p0_m1 (show zwx (m 114) ((ma_u m 114 (m 94 55).toNatClampNeg s) 114) (m 94 55) s from by first | (exact ⟨fun k hk => mu_ne (by rw [tn_eq]; omega), mu_self⟩) | (exfalso; omega; done) | (exfalso; contradiction; done)) (show ((m 94 55) + (1 : Int32)).toInt = (m 94 55).toInt + 1 from by omega) (show qRB (m 99) (m 100) (m 98) (m 101) (m 102) (m 103) (m 107) (m 108) ((ma_u m 109 s.toNatClampNeg (0 : Int32)) 109) (m 111) (m 112) (m1 113) ((ma_u m 114 (m 94 55).toNatClampNeg s) 114) ((m 94 55) + (1 : Int32)) (m 94 46) (m 94 11) (m 94 12) (m 94 62) (m 94 17) (m 94 9) (aGr aa ((m 100) s.toNatClampNeg)) from by first | (exact RB_gr r_RB (by omega) (by omega) r_USs p1_m1 (by omega) (by omega)) | (exfalso; omega; done) | (exfalso; contradiction; done)) (show qI (aGr aa ((m 100) s.toNatClampNeg)) from by first | (exact I_gr r_QI (by rw [r_RB.2.2.2.2.1.1]; omega)) | (exfalso; omega; done) | (exfalso; contradiction; done))
  · skip
    have g18 := i_ne h7
    try have gwr := GW_512 r_GW r_WI (by omega) (by omega) (by omega)
    have li20 : (0 : Int32).toInt = 0 := rfl
    have hV19 : zV (ma_u (zov wr_198 m m1) 109 s.toNatClampNeg (0 : Int32)) := ua_109 hV_m1 (by omega) (by omega)
    have hV21 : zV (ma_u (ma_u (zov wr_198 m m1) 109 s.toNatClampNeg (0 : Int32)) 114 (m 94 55).toNatClampNeg s) := ua_114 hV19 (by omega) (by omega)
    first | have e23 : ((m 94 55) + (1 : Int32)).toInt = (m 94 55).toInt + (1) := i_addk rfl (by omega) (by omega) | have b24 := i_bd ((m 94 55) + (1 : Int32))
    have hV22 : zV (ma_u (ma_u (ma_u (zov wr_198 m m1) 109 s.toNatClampNeg (0 : Int32)) 114 (m 94 55).toNatClampNeg s) 94 55 ((m 94 55) + (1 : Int32))) := us_94_55 hV21 (by omega) (by omega)
    exact K _ (zF_u (zF_u (zF_u (zF_zov zF_rfl ws_198_197) rfl) rfl) rfl) hV22 (show zGW T ((m 94 55) + (1 : Int32)) ((ma_u m 109 s.toNatClampNeg (0 : Int32)) 109) from by first | (exact GW_take r_GW r_WI (by omega) (by omega)) | (exfalso; omega; done) | (exfalso; contradiction; done)) p0_m1 (show zwx (m 114) ((ma_u m 114 (m 94 55).toNatClampNeg s) 114) (m 94 55) s from by first | (exact ⟨fun k hk => mu_ne (by rw [tn_eq]; omega), mu_self⟩) | (exfalso; omega; done) | (exfalso; contradiction; done)) (show ((m 94 55) + (1 : Int32)).toInt = (m 94 55).toInt + 1 from by omega) (show qRB (m 99) (m 100) (m 98) (m 101) (m 102) (m 103) (m 107) (m 108) ((ma_u m 109 s.toNatClampNeg (0 : Int32)) 109) (m 111) (m 112) (m1 113) ((ma_u m 114 (m 94 55).toNatClampNeg s) 114) ((m 94 55) + (1 : Int32)) (m 94 46) (m 94 11) (m 94 12) (m 94 62) (m 94 17) (m 94 9) (aGr aa ((m 100) s.toNatClampNeg)) from by first | (exact RB_gr r_RB (by omega) (by omega) r_USs p1_m1 (by omega) (by omega)) | (exfalso; omega; done) | (exfalso; contradiction; done)) (show qI (aGr aa ((m 100) s.toNatClampNeg)) from by first | (exact I_gr r_QI (by rw [r_RB.2.2.2.2.1.1]; omega)) | (exfalso; omega; done) | (exfalso; contradiction; done))
set_option maxHeartbeats 8000000 in
theorem lp_194r_9 {X : Nat × (Nat → Int32)} {P : Option ma_V → (Nat → Nat → Int32) → Prop} {T : Nat} {aa : Nat→Nat→Int32} {m0 : Nat → Nat → Int32} (h0 : zV m0) (K : ∀ m₉, zF wr_194 m0 m₉ → zV m₉ → ((m₉ 94 73).toInt = 0) → (zGW T (m₉ 94 55) (m₉ 109)) → (zuw (m0 113) (m₉ 113)) → (qRB (m₉ 99) (m₉ 100) (m₉ 98) (m₉ 101) (m₉ 102) (m₉ 103) (m₉ 107) (m₉ 108) (m₉ 109) (m₉ 111) (m₉ 112) (m₉ 113) (m₉ 114) (m₉ 94 55) (m₉ 94 46) (m₉ 94 11) (m₉ 94 12) (m₉ 94 62) (m₉ 94 17) (m₉ 94 9) (aGw aa 0)) → (qI (aGw aa 0)) → (qKB (m₉ 110) (m₉ 99) (m₉ 100) (aGw aa 0)) → (qE0 (aGw aa 0)) → (qCl (aGw aa 0)) → P none m₉) : ∀ (n : Nat) (m : Nat → Nat → Int32) (l2 : Int32), ((zmg (m 100) l2 : Int)).toNat = n → zF wr_194 m0 m → zV m → (T ≤ 512) → ((m 94 10).toInt = 5) → ((m 94 73).toInt = 0) → (zWS (m 100) (m 99) (m 110) (m 109) (-1 : Int32) l2) → (zW (m 94 7) (m 98) (m 101) (m 102) (m 108)) → (zGW T (m 94 55) (m 109)) → (zuw (m0 113) (m 113)) → (qGL (m 99) (m 100) (m 98) (m 101) (m 102) (m 103) (m 107) (m 108) (m 109) (m 111) (m 112) (m 113) (m 114) (m 94 55) (m 94 46) (m 94 11) (m 94 12) (m 94 62) (m 94 17) (m 94 9) (m 110) l2 (aGw aa 0)) → zm X 3 66 194 9 [(0, .inr (.inr (some 94))), (2, .inl l2)] m P := by
  intro n
  induction n using Nat.strongRecOn with
  | _ n IH =>
    intro m l2 hmu hF hV hi0 hi1 hi2 r_WS r_W r_GW r_UW r_GL
    refine g_194_9 l2 ?_
    have f1 : 0 ≤ (m 94 10).toInt ∧ (m 94 10).toInt ≤ 6 := rs_94_10 (m := m) hV
    have f2 : 0 ≤ (m 94 73).toInt ∧ (m 94 73).toInt ≤ 3100 := rs_94_73 (m := m) hV
    obtain ⟨b, lst, gRB, gKB, gE0, gQI, gCL, gl, gMn, gT⟩ := r_GL
    have gb6 := gQI.2.2.2.1.1
    have b3 := i_bd l2
    have li4 : (0 : Int32).toInt = 0 := rfl
    refine zd (fun (h5 : l2 < (0 : Int32)) => ?_) (fun (h5 : ¬ l2 < (0 : Int32)) => ?_)
    · skip
      have g6 := i_lt h5
      try have gw := GW_room r_GW
      try have ws0 := WS_ge r_WS (by omega)
      exact K _ hF hV (show (m 94 73).toInt = 0 from by omega) r_GW r_UW (show qRB (m 99) (m 100) (m 98) (m 101) (m 102) (m 103) (m 107) (m 108) (m 109) (m 111) (m 112) (m 113) (m 114) (m 94 55) (m 94 46) (m 94 11) (m 94 12) (m 94 62) (m 94 17) (m 94 9) (aGw aa 0) from by first | (have e0 := GL_end gRB gQI gKB gl.1 gl.2 gMn (by omega) gT; rw [← e0]; exact gRB; done) | (exfalso; omega; done) | (exfalso; contradiction; done)) (show qI (aGw aa 0) from by first | (have e0 := GL_end gRB gQI gKB gl.1 gl.2 gMn (by omega) gT; rw [← e0]; exact gQI; done) | (exfalso; omega; done) | (exfalso; contradiction; done)) (show qKB (m 110) (m 99) (m 100) (aGw aa 0) from by first | (have e0 := GL_end gRB gQI gKB gl.1 gl.2 gMn (by omega) gT; rw [← e0]; exact gKB; done) | (exfalso; omega; done) | (exfalso; contradiction; done)) (show qE0 (aGw aa 0) from by first | (have e0 := GL_end gRB gQI gKB gl.1 gl.2 gMn (by omega) gT; rw [← e0]; exact gE0; done) | (exfalso; omega; done) | (exfalso; contradiction; done)) (show qCl (aGw aa 0) from by first | (have e0 := GL_end gRB gQI gKB gl.1 gl.2 gMn (by omega) gT; rw [← e0]; exact gCL; done) | (exfalso; omega; done) | (exfalso; contradiction; done))
    · skip
      have g7 := i_nlt h5
      try obtain ⟨ws1, ws2, ws3, ws4, ws5, ws6⟩ := WS_ge r_WS (by omega)
      have hg8 : (0 ≤ l2 ∧ l2.toNatClampNeg < 3100) := i_ix (by omega) (by omega)
      refine ⟨hg8, ?_⟩
      try have ws0 := WS_ge r_WS (by omega)
      refine sp_197r (aa := b) (l2) hV (by omega) (by omega) (by omega) (show (m 94 10).toInt = 5 from by omega) (show (m 109) l2.toNatClampNeg ≠ 0 from by first | (exact ws5) | (exact ws0.2.2.2.2.1) | (assumption; done) | (exfalso; omega; done) | (exfalso; contradiction; done)) (show (m 99) l2.toNatClampNeg ≠ 0 from by first | (exact ws3) | (exact ws0.2.2.1) | (assumption; done) | (exact ws3) | (exfalso; omega; done) | (exfalso; contradiction; done)) r_GW gRB gQI (fun m1 hV_m1 p0_m1 p1_m1 p2_m1 p3_m1 p4_m1 p5_m1 => zmv_n ?_)
      have p0_m1 : zGW T (m1 94 55) (m1 109) := p0_m1
      have p1_m1 : zuw (m 113) (m1 113) := p1_m1
      have p2_m1 : zwx (m 114) (m1 114) (m 94 55) l2 := p2_m1
      have p3_m1 : (m1 94 55).toInt = (m 94 55).toInt + 1 := p3_m1
      have p4_m1 : qRB (m 99) (m 100) (m 98) (m 101) (m 102) (m 103) (m 107) (m 108) (m1 109) (m 111) (m 112) (m1 113) (m1 114) (m1 94 55) (m 94 46) (m 94 11) (m 94 12) (m 94 62) (m 94 17) (m 94 9) (aGr b ((m 100) l2.toNatClampNeg)) := p4_m1
      have p5_m1 : qI (aGr b ((m 100) l2.toNatClampNeg)) := p5_m1
      have f9 : 0 ≤ (m1 94 55).toInt ∧ (m1 94 55).toInt ≤ 3100 := rs_94_55 (m := (zov wr_197 m m1)) hV_m1
      have f10 : 0 ≤ (m 94 55).toInt ∧ (m 94 55).toInt ≤ 3100 := rs_94_55 (m := m) hV
      refine zd (fun (h11 : l2 < (0 : Int32)) => ?_) (fun (h11 : ¬ l2 < (0 : Int32)) => ?_)
      · skip
        have g12 := i_lt h11
        try have ws0 := WS_ge r_WS (by omega)
        refine sp_191r (aa := (aGr b (m 100 l2.toNatClampNeg))) (QQ := (qQ (aGr b (m 100 l2.toNatClampNeg)) (m 100 l2.toNatClampNeg))) (DD := (zNn (aGr b (m 100 l2.toNatClampNeg))))  hV_m1 (show zKS (m 110) (m 94 73) from by first | (exact KS_0 (by omega)) | (exfalso; omega; done) | (exfalso; contradiction; done)) r_W (show qRB (m 99) (m 100) (m 98) (m 101) (m 102) (m 103) (m 107) (m 108) (m1 109) (m 111) (m 112) (m1 113) (m1 114) (m1 94 55) (m 94 46) (m 94 11) (m 94 12) (m 94 62) (m 94 17) (m 94 9) (aGr b (m 100 l2.toNatClampNeg)) from by first | (exact p4_m1) | (exfalso; omega; done) | (exfalso; contradiction; done)) (show qQC (m 99) (m 100) (m 98) (m 101) (m 102) (m 108) (qQ (aGr b (m 100 l2.toNatClampNeg)) (m 100 l2.toNatClampNeg)) (zNn (aGr b (m 100 l2.toNatClampNeg))) from by first | (exact QC_M p4_m1) | (exfalso; omega; done) | (exfalso; contradiction; done)) (show qKA (m 110) (m 99) (m 100) (m 98) (m 101) (m 102) (m 108) (m 118) (m 94 73) (qQ (aGr b (m 100 l2.toNatClampNeg)) (m 100 l2.toNatClampNeg)) (zNn (aGr b (m 100 l2.toNatClampNeg))) 3100 0 from by first | (exact absurd ws0.2.2.2.1 (by assumption)) | (exact KA_push (KA_b (KB_gr gKB) (by omega)) (by omega) (by omega) ws0.2.2.1 (zM_in (Or.inr rfl)) (by assumption) (by omega) (by omega) (by decide)) | (exfalso; omega; done) | (exfalso; contradiction; done)) (fun m3 hV_m3 p0_m3 p1_m3 p2_m3 => zmv_n ?_)
        have p0_m3 : (m3 94 73).toInt = 0 := p0_m3
        have p1_m3 : zle (m 110) (m3 110) := p1_m3
        have p2_m3 : qKA (m3 110) (m 99) (m 100) (m 98) (m 101) (m 102) (m 108) (m3 118) (m3 94 73) (qQ (aGr b (m 100 l2.toNatClampNeg)) (m 100 l2.toNatClampNeg)) (zNn (aGr b (m 100 l2.toNatClampNeg))) 3100 0 := p2_m3
        have f13 : 0 ≤ (m3 94 73).toInt ∧ (m3 94 73).toInt ≤ 3100 := rs_94_73 (m := (zov wr_191 (zov wr_197 m m1) m3)) hV_m3
        first | have f14 : 0 ≤ (m 100 l2.toNatClampNeg).toInt ∧ (m 100 l2.toNatClampNeg).toInt ≤ 100000 := ra_100 (m := m) hV (k := l2.toNatClampNeg) (i_ix (n := 3100) (by omega) (by omega)).2 | have b15 := i_bd (m 100 l2.toNatClampNeg)
        try have ws0 := WS_ge r_WS (by omega)
        refine sp_195r ((m 100 l2.toNatClampNeg)) ((0 : Int32)) hV_m3 (by omega) (fun v6 m5 hV_m5 p0_m5 p1_m5 => zmi_n ?_)
        have p0_m5 : zWS (m 100) (m 99) (m3 110) (m1 109) (m 100 l2.toNatClampNeg) v6 := p0_m5
        have p1_m5 : qMin (qCw (m 99) (m3 110) (m1 109) (m 100) (m 100 l2.toNatClampNeg)) (m 100) v6 3100 := p1_m5
        try have gw := GW_room p0_m1
        try have ws0 := WS_ge r_WS (by omega)
        have b16 := i_bd v6
        exact IH ((zmg (m 100) v6 : Int)).toNat (by have zq := zmg_lt (s := l2) (by omega) p0_m5 rfl (by omega) (by omega); omega) _ (v6) rfl (zF_zov (zF_zov (zF_zov hF ws_197_194) ws_191_194) ws_195_194) hV_m5 (by omega) (show (m 94 10).toInt = 5 from by omega) (show (m3 94 73).toInt = 0 from by omega) (show zWS (m 100) (m 99) (m3 110) (m1 109) (-1 : Int32) v6 from by first | (exact WS_weak p0_m5 (by omega)) | (exact p0_m5) | (exact Or.inl (by decide)) | (exact Or.inr ⟨by omega, by omega, by assumption, by assumption, by assumption, by omega⟩) | (exfalso; omega; done) | (exfalso; contradiction; done)) r_W p0_m1 (show zuw (m0 113) (m1 113) from by first | (exact zuw_tr r_UW p1_m1) | (exact zuw_rfl) | (exfalso; omega; done) | (exfalso; contradiction; done)) (show qGL (m 99) (m 100) (m 98) (m 101) (m 102) (m 103) (m 107) (m 108) (m1 109) (m 111) (m 112) (m1 113) (m1 114) (m1 94 55) (m 94 46) (m 94 11) (m 94 12) (m 94 62) (m 94 17) (m 94 9) (m3 110) v6 (aGw aa 0) from by first | (exact absurd ws0.2.2.2.1 (by assumption)) | (have nx := GL_nx gRB gQI gE0 gKB gl.1 gl.2 gMn (by omega) gT; have b5 : (b 69 5).toInt < 512 := (by rw [gRB.2.2.2.2.1.1]; exact GW_512 r_GW ws0.2.2.2.2.1 (by omega) (by omega) (by omega)); exact ⟨(aSp 512 (aCm (aGr b (m 100 l2.toNatClampNeg)) (m 100 l2.toNatClampNeg))), (m 100 l2.toNatClampNeg), RB_of p4_m1 (Of_tr (gr_cm (y := (m 100 l2.toNatClampNeg)) (E0_gr (y := (m 100 l2.toNatClampNeg)) gE0).1).2.1 (E0_sp (gr_cm (y := (m 100 l2.toNatClampNeg)) (E0_gr (y := (m 100 l2.toNatClampNeg)) gE0).1).1).2), KB_nx p4_m1 (KB_gr gKB) (E0_gr gE0) (by omega) (by omega) ws0.2.2.1 p2_m3 (by omega) p1_m3 (by decide), (E0_sp (gr_cm (y := (m 100 l2.toNatClampNeg)) (E0_gr (y := (m 100 l2.toNatClampNeg)) gE0).1).1).1, qI_of p5_m1 (Of_tr (gr_cm (y := (m 100 l2.toNatClampNeg)) (E0_gr (y := (m 100 l2.toNatClampNeg)) gE0).1).2.1 (E0_sp (gr_cm (y := (m 100 l2.toNatClampNeg)) (E0_gr (y := (m 100 l2.toNatClampNeg)) gE0).1).1).2), Cl_nx gCL gE0 b5 gQI.2.2.2.1.2.1.1 (R1_al gRB.1 (by omega) ws0.2.2.1) (by omega), ⟨nx.2.2, by rw [sp_6]; exact nx.2.1⟩, p1_m5, nx.1⟩; done) | (exfalso; omega; done) | (exfalso; contradiction; done))
      · skip
        have g17 := i_nlt h11
        have hg18 : (0 ≤ l2 ∧ l2.toNatClampNeg < 3100) := i_ix (by omega) (by omega)
        refine ⟨hg18, ?_⟩
        first | have f19 : 0 ≤ (m 110 l2.toNatClampNeg).toInt ∧ (m 110 l2.toNatClampNeg).toInt ≤ 1 := ra_110 (m := m) hV (k := l2.toNatClampNeg) (i_ix (n := 3100) (by omega) (by omega)).2 | have b20 := i_bd (m 110 l2.toNatClampNeg)
        refine zd (fun (h21 : (m 110 l2.toNatClampNeg) = (0 : Int32)) => ?_) (fun (h21 : ¬ (m 110 l2.toNatClampNeg) = (0 : Int32)) => ?_)
        · skip
          have g22 := i_eq h21
          have hg23 : (0 ≤ l2 ∧ l2.toNatClampNeg < 3100) := i_ix (by omega) (by omega)
          refine ⟨hg23, ?_⟩
          have hg24 : (0 ≤ (m 94 73) ∧ (m 94 73).toNatClampNeg < 3100) := i_ix (by omega) (by omega)
          refine ⟨hg24, ?_⟩
          have li26 : (1 : Int32).toInt = 1 := rfl
          have hV25 : zV (ma_u (zov wr_197 m m1) 110 l2.toNatClampNeg (1 : Int32)) := ua_110 hV_m1 (by omega) (by omega)
          have hV27 : zV (ma_u (ma_u (zov wr_197 m m1) 110 l2.toNatClampNeg (1 : Int32)) 118 (m 94 73).toNatClampNeg l2) := ua_118 hV25 (by omega) (by omega)
          first | have e29 : ((m 94 73) + (1 : Int32)).toInt = (m 94 73).toInt + (1) := i_addk rfl (by omega) (by omega) | have b30 := i_bd ((m 94 73) + (1 : Int32))
          have hV28 : zV (ma_u (ma_u (ma_u (zov wr_197 m m1) 110 l2.toNatClampNeg (1 : Int32)) 118 (m 94 73).toNatClampNeg l2) 94 73 ((m 94 73) + (1 : Int32))) := us_94_73 hV27 (by omega) (by omega)
          try have ws0 := WS_ge r_WS (by omega)
          refine sp_191r (aa := (aGr b (m 100 l2.toNatClampNeg))) (QQ := (qQ (aGr b (m 100 l2.toNatClampNeg)) (m 100 l2.toNatClampNeg))) (DD := (zNn (aGr b (m 100 l2.toNatClampNeg))))  hV28 (show zKS ((ma_u m 110 l2.toNatClampNeg (1 : Int32)) 110) ((m 94 73) + (1 : Int32)) from by first | (exact KS_push (KS_0 (r := m 110) (y := m 94 73) (by omega)) (by assumption) (by omega) (by decide) (by assumption)) | (exfalso; omega; done) | (exfalso; contradiction; done)) r_W (show qRB (m 99) (m 100) (m 98) (m 101) (m 102) (m 103) (m 107) (m 108) (m1 109) (m 111) (m 112) (m1 113) (m1 114) (m1 94 55) (m 94 46) (m 94 11) (m 94 12) (m 94 62) (m 94 17) (m 94 9) (aGr b (m 100 l2.toNatClampNeg)) from by first | (exact p4_m1) | (exfalso; omega; done) | (exfalso; contradiction; done)) (show qQC (m 99) (m 100) (m 98) (m 101) (m 102) (m 108) (qQ (aGr b (m 100 l2.toNatClampNeg)) (m 100 l2.toNatClampNeg)) (zNn (aGr b (m 100 l2.toNatClampNeg))) from by first | (exact QC_M p4_m1) | (exfalso; omega; done) | (exfalso; contradiction; done)) (show qKA ((ma_u m 110 l2.toNatClampNeg (1 : Int32)) 110) (m 99) (m 100) (m 98) (m 101) (m 102) (m 108) ((ma_u m 118 (m 94 73).toNatClampNeg l2) 118) ((m 94 73) + (1 : Int32)) (qQ (aGr b (m 100 l2.toNatClampNeg)) (m 100 l2.toNatClampNeg)) (zNn (aGr b (m 100 l2.toNatClampNeg))) 3100 0 from by first | (exact absurd ws0.2.2.2.1 (by assumption)) | (exact KA_push (KA_b (KB_gr gKB) (by omega)) (by omega) (by omega) ws0.2.2.1 (zM_in (Or.inr rfl)) (by assumption) (by omega) (by omega) (by decide)) | (exfalso; omega; done) | (exfalso; contradiction; done)) (fun m7 hV_m7 p0_m7 p1_m7 p2_m7 => zmv_n ?_)
          have p0_m7 : (m7 94 73).toInt = 0 := p0_m7
          have p1_m7 : zle ((ma_u m 110 l2.toNatClampNeg (1 : Int32)) 110) (m7 110) := p1_m7
          have p2_m7 : qKA (m7 110) (m 99) (m 100) (m 98) (m 101) (m 102) (m 108) (m7 118) (m7 94 73) (qQ (aGr b (m 100 l2.toNatClampNeg)) (m 100 l2.toNatClampNeg)) (zNn (aGr b (m 100 l2.toNatClampNeg))) 3100 0 := p2_m7
          have f31 : 0 ≤ (m7 94 73).toInt ∧ (m7 94 73).toInt ≤ 3100 := rs_94_73 (m := (zov wr_191 (ma_u (ma_u (ma_u (zov wr_197 m m1) 110 l2.toNatClampNeg (1 : Int32)) 118 (m 94 73).toNatClampNeg l2) 94 73 ((m 94 73) + (1 : Int32))) m7)) hV_m7
          first | have f32 : 0 ≤ (m 100 l2.toNatClampNeg).toInt ∧ (m 100 l2.toNatClampNeg).toInt ≤ 100000 := ra_100 (m := m) hV (k := l2.toNatClampNeg) (i_ix (n := 3100) (by omega) (by omega)).2 | have b33 := i_bd (m 100 l2.toNatClampNeg)
          try have ws0 := WS_ge r_WS (by omega)
          refine sp_195r ((m 100 l2.toNatClampNeg)) ((0 : Int32)) hV_m7 (by omega) (fun v10 m9 hV_m9 p0_m9 p1_m9 => zmi_n ?_)
          have p0_m9 : zWS (m 100) (m 99) (m7 110) (m1 109) (m 100 l2.toNatClampNeg) v10 := p0_m9
          have p1_m9 : qMin (qCw (m 99) (m7 110) (m1 109) (m 100) (m 100 l2.toNatClampNeg)) (m 100) v10 3100 := p1_m9
          try have gw := GW_room p0_m1
          try have ws0 := WS_ge r_WS (by omega)
          have b34 := i_bd v10
          exact IH ((zmg (m 100) v10 : Int)).toNat (by have zq := zmg_lt (s := l2) (by omega) p0_m9 rfl (by omega) (by omega); omega) _ (v10) rfl (zF_zov (zF_zov (zF_u (zF_u (zF_u (zF_zov hF ws_197_194) rfl) rfl) rfl) ws_191_194) ws_195_194) hV_m9 (by omega) (show (m 94 10).toInt = 5 from by omega) (show (m7 94 73).toInt = 0 from by omega) (show zWS (m 100) (m 99) (m7 110) (m1 109) (-1 : Int32) v10 from by first | (exact WS_weak p0_m9 (by omega)) | (exact p0_m9) | (exact Or.inl (by decide)) | (exact Or.inr ⟨by omega, by omega, by assumption, by assumption, by assumption, by omega⟩) | (exfalso; omega; done) | (exfalso; contradiction; done)) r_W p0_m1 (show zuw (m0 113) (m1 113) from by first | (exact zuw_tr r_UW p1_m1) | (exact zuw_rfl) | (exfalso; omega; done) | (exfalso; contradiction; done)) (show qGL (m 99) (m 100) (m 98) (m 101) (m 102) (m 103) (m 107) (m 108) (m1 109) (m 111) (m 112) (m1 113) (m1 114) (m1 94 55) (m 94 46) (m 94 11) (m 94 12) (m 94 62) (m 94 17) (m 94 9) (m7 110) v10 (aGw aa 0) from by first | (exact absurd ws0.2.2.2.1 (by assumption)) | (have nx := GL_nx gRB gQI gE0 gKB gl.1 gl.2 gMn (by omega) gT; have b5 : (b 69 5).toInt < 512 := (by rw [gRB.2.2.2.2.1.1]; exact GW_512 r_GW ws0.2.2.2.2.1 (by omega) (by omega) (by omega)); exact ⟨(aSp 512 (aCm (aGr b (m 100 l2.toNatClampNeg)) (m 100 l2.toNatClampNeg))), (m 100 l2.toNatClampNeg), RB_of p4_m1 (Of_tr (gr_cm (y := (m 100 l2.toNatClampNeg)) (E0_gr (y := (m 100 l2.toNatClampNeg)) gE0).1).2.1 (E0_sp (gr_cm (y := (m 100 l2.toNatClampNeg)) (E0_gr (y := (m 100 l2.toNatClampNeg)) gE0).1).1).2), KB_nx p4_m1 (KB_gr gKB) (E0_gr gE0) (by omega) (by omega) ws0.2.2.1 p2_m7 (by omega) p1_m7 (by decide), (E0_sp (gr_cm (y := (m 100 l2.toNatClampNeg)) (E0_gr (y := (m 100 l2.toNatClampNeg)) gE0).1).1).1, qI_of p5_m1 (Of_tr (gr_cm (y := (m 100 l2.toNatClampNeg)) (E0_gr (y := (m 100 l2.toNatClampNeg)) gE0).1).2.1 (E0_sp (gr_cm (y := (m 100 l2.toNatClampNeg)) (E0_gr (y := (m 100 l2.toNatClampNeg)) gE0).1).1).2), Cl_nx gCL gE0 b5 gQI.2.2.2.1.2.1.1 (R1_al gRB.1 (by omega) ws0.2.2.1) (by omega), ⟨nx.2.2, by rw [sp_6]; exact nx.2.1⟩, p1_m9, nx.1⟩; done) | (exfalso; omega; done) | (exfalso; contradiction; done))
        · skip
          have g35 := i_ne h21
          try have ws0 := WS_ge r_WS (by omega)
          refine sp_191r (aa := (aGr b (m 100 l2.toNatClampNeg))) (QQ := (qQ (aGr b (m 100 l2.toNatClampNeg)) (m 100 l2.toNatClampNeg))) (DD := (zNn (aGr b (m 100 l2.toNatClampNeg))))  hV_m1 (show zKS (m 110) (m 94 73) from by first | (exact KS_0 (by omega)) | (exfalso; omega; done) | (exfalso; contradiction; done)) r_W (show qRB (m 99) (m 100) (m 98) (m 101) (m 102) (m 103) (m 107) (m 108) (m1 109) (m 111) (m 112) (m1 113) (m1 114) (m1 94 55) (m 94 46) (m 94 11) (m 94 12) (m 94 62) (m 94 17) (m 94 9) (aGr b (m 100 l2.toNatClampNeg)) from by first | (exact p4_m1) | (exfalso; omega; done) | (exfalso; contradiction; done)) (show qQC (m 99) (m 100) (m 98) (m 101) (m 102) (m 108) (qQ (aGr b (m 100 l2.toNatClampNeg)) (m 100 l2.toNatClampNeg)) (zNn (aGr b (m 100 l2.toNatClampNeg))) from by first | (exact QC_M p4_m1) | (exfalso; omega; done) | (exfalso; contradiction; done)) (show qKA (m 110) (m 99) (m 100) (m 98) (m 101) (m 102) (m 108) (m 118) (m 94 73) (qQ (aGr b (m 100 l2.toNatClampNeg)) (m 100 l2.toNatClampNeg)) (zNn (aGr b (m 100 l2.toNatClampNeg))) 3100 0 from by first | (exact absurd ws0.2.2.2.1 (by assumption)) | (exact KA_push (KA_b (KB_gr gKB) (by omega)) (by omega) (by omega) ws0.2.2.1 (zM_in (Or.inr rfl)) (by assumption) (by omega) (by omega) (by decide)) | (exfalso; omega; done) | (exfalso; contradiction; done)) (fun m11 hV_m11 p0_m11 p1_m11 p2_m11 => zmv_n ?_)
          have p0_m11 : (m11 94 73).toInt = 0 := p0_m11
          have p1_m11 : zle (m 110) (m11 110) := p1_m11
          have p2_m11 : qKA (m11 110) (m 99) (m 100) (m 98) (m 101) (m 102) (m 108) (m11 118) (m11 94 73) (qQ (aGr b (m 100 l2.toNatClampNeg)) (m 100 l2.toNatClampNeg)) (zNn (aGr b (m 100 l2.toNatClampNeg))) 3100 0 := p2_m11
          have f36 : 0 ≤ (m11 94 73).toInt ∧ (m11 94 73).toInt ≤ 3100 := rs_94_73 (m := (zov wr_191 (zov wr_197 m m1) m11)) hV_m11
          first | have f37 : 0 ≤ (m 100 l2.toNatClampNeg).toInt ∧ (m 100 l2.toNatClampNeg).toInt ≤ 100000 := ra_100 (m := m) hV (k := l2.toNatClampNeg) (i_ix (n := 3100) (by omega) (by omega)).2 | have b38 := i_bd (m 100 l2.toNatClampNeg)
          try have ws0 := WS_ge r_WS (by omega)
          refine sp_195r ((m 100 l2.toNatClampNeg)) ((0 : Int32)) hV_m11 (by omega) (fun v14 m13 hV_m13 p0_m13 p1_m13 => zmi_n ?_)
          have p0_m13 : zWS (m 100) (m 99) (m11 110) (m1 109) (m 100 l2.toNatClampNeg) v14 := p0_m13
          have p1_m13 : qMin (qCw (m 99) (m11 110) (m1 109) (m 100) (m 100 l2.toNatClampNeg)) (m 100) v14 3100 := p1_m13
          try have gw := GW_room p0_m1
          try have ws0 := WS_ge r_WS (by omega)
          have b39 := i_bd v14
          exact IH ((zmg (m 100) v14 : Int)).toNat (by have zq := zmg_lt (s := l2) (by omega) p0_m13 rfl (by omega) (by omega); omega) _ (v14) rfl (zF_zov (zF_zov (zF_zov hF ws_197_194) ws_191_194) ws_195_194) hV_m13 (by omega) (show (m 94 10).toInt = 5 from by omega) (show (m11 94 73).toInt = 0 from by omega) (show zWS (m 100) (m 99) (m11 110) (m1 109) (-1 : Int32) v14 from by first | (exact WS_weak p0_m13 (by omega)) | (exact p0_m13) | (exact Or.inl (by decide)) | (exact Or.inr ⟨by omega, by omega, by assumption, by assumption, by assumption, by omega⟩) | (exfalso; omega; done) | (exfalso; contradiction; done)) r_W p0_m1 (show zuw (m0 113) (m1 113) from by first | (exact zuw_tr r_UW p1_m1) | (exact zuw_rfl) | (exfalso; omega; done) | (exfalso; contradiction; done)) (show qGL (m 99) (m 100) (m 98) (m 101) (m 102) (m 103) (m 107) (m 108) (m1 109) (m 111) (m 112) (m1 113) (m1 114) (m1 94 55) (m 94 46) (m 94 11) (m 94 12) (m 94 62) (m 94 17) (m 94 9) (m11 110) v14 (aGw aa 0) from by first | (exact absurd ws0.2.2.2.1 (by assumption)) | (have nx := GL_nx gRB gQI gE0 gKB gl.1 gl.2 gMn (by omega) gT; have b5 : (b 69 5).toInt < 512 := (by rw [gRB.2.2.2.2.1.1]; exact GW_512 r_GW ws0.2.2.2.2.1 (by omega) (by omega) (by omega)); exact ⟨(aSp 512 (aCm (aGr b (m 100 l2.toNatClampNeg)) (m 100 l2.toNatClampNeg))), (m 100 l2.toNatClampNeg), RB_of p4_m1 (Of_tr (gr_cm (y := (m 100 l2.toNatClampNeg)) (E0_gr (y := (m 100 l2.toNatClampNeg)) gE0).1).2.1 (E0_sp (gr_cm (y := (m 100 l2.toNatClampNeg)) (E0_gr (y := (m 100 l2.toNatClampNeg)) gE0).1).1).2), KB_nx p4_m1 (KB_gr gKB) (E0_gr gE0) (by omega) (by omega) ws0.2.2.1 p2_m11 (by omega) p1_m11 (by decide), (E0_sp (gr_cm (y := (m 100 l2.toNatClampNeg)) (E0_gr (y := (m 100 l2.toNatClampNeg)) gE0).1).1).1, qI_of p5_m1 (Of_tr (gr_cm (y := (m 100 l2.toNatClampNeg)) (E0_gr (y := (m 100 l2.toNatClampNeg)) gE0).1).2.1 (E0_sp (gr_cm (y := (m 100 l2.toNatClampNeg)) (E0_gr (y := (m 100 l2.toNatClampNeg)) gE0).1).1).2), Cl_nx gCL gE0 b5 gQI.2.2.2.1.2.1.1 (R1_al gRB.1 (by omega) ws0.2.2.1) (by omega), ⟨nx.2.2, by rw [sp_6]; exact nx.2.1⟩, p1_m13, nx.1⟩; done) | (exfalso; omega; done) | (exfalso; contradiction; done))
set_option maxHeartbeats 8000000 in
theorem sp_194r {X : Nat × (Nat → Int32)} {P : Option ma_V → (Nat → Nat → Int32) → Prop} {T : Nat} {aa : Nat→Nat→Int32} {m : Nat → Nat → Int32}  (hV : zV m) (hpre0 : T ≤ 512) (hpre1 : (m 94 10).toInt = 5) (hpre2 : (m 94 73).toInt = 0) (r_W : zW (m 94 7) (m 98) (m 101) (m 102) (m 108)) (r_GW : zGW T (m 94 55) (m 109)) (r_RB : qRB (m 99) (m 100) (m 98) (m 101) (m 102) (m 103) (m 107) (m 108) (m 109) (m 111) (m 112) (m 113) (m 114) (m 94 55) (m 94 46) (m 94 11) (m 94 12) (m 94 62) (m 94 17) (m 94 9) aa) (r_QI : qI aa) (r_KB : qKB (m 110) (m 99) (m 100) aa) (r_E0 : qE0 aa) (r_CLr : qCl aa) (KZ : ∀ m₉, zV (zov wr_194 m m₉) → ((m₉ 94 73).toInt = 0) → (zGW T (m₉ 94 55) (m₉ 109)) → (zuw (m 113) (m₉ 113)) → (qRB (m 99) (m 100) (m 98) (m 101) (m 102) (m 103) (m 107) (m 108) (m₉ 109) (m 111) (m 112) (m₉ 113) (m₉ 114) (m₉ 94 55) (m 94 46) (m 94 11) (m 94 12) (m 94 62) (m 94 17) (m 94 9) (aGw aa 0)) → (qI (aGw aa 0)) → (qKB (m₉ 110) (m 99) (m 100) (aGw aa 0)) → (qE0 (aGw aa 0)) → (qCl (aGw aa 0)) → P none (zov wr_194 m m₉)) : zm X 3 66 194 0 [(0, .inr (.inr (some 94)))] m P := by
  have K : ∀ m₉, zF wr_194 m m₉ → zV m₉ → ((m₉ 94 73).toInt = 0) → (zGW T (m₉ 94 55) (m₉ 109)) → (zuw (m 113) (m₉ 113)) → (qRB (m₉ 99) (m₉ 100) (m₉ 98) (m₉ 101) (m₉ 102) (m₉ 103) (m₉ 107) (m₉ 108) (m₉ 109) (m₉ 111) (m₉ 112) (m₉ 113) (m₉ 114) (m₉ 94 55) (m₉ 94 46) (m₉ 94 11) (m₉ 94 12) (m₉ 94 62) (m₉ 94 17) (m₉ 94 9) (aGw aa 0)) → (qI (aGw aa 0)) → (qKB (m₉ 110) (m₉ 99) (m₉ 100) (aGw aa 0)) → (qE0 (aGw aa 0)) → (qCl (aGw aa 0)) → P none m₉ := by
    intro m₉ hf z q0 q1 q2 q3 q4 q5 q6 q7
    have e := zov_eq hf
    rw [e] at z ⊢
    try rw [e] at q0
    try rw [e] at q1
    try rw [e] at q2
    try rw [e] at q3
    try rw [e] at q4
    try rw [e] at q5
    try rw [e] at q6
    try rw [e] at q7
    exact KZ m₉ z q0 q1 q2 q3 q4 q5 q6 q7
  refine g_194_0  ?_
  have f1 : 0 ≤ (m 94 10).toInt ∧ (m 94 10).toInt ≤ 6 := rs_94_10 (m := m) hV
  have f2 : 0 ≤ (m 94 73).toInt ∧ (m 94 73).toInt ≤ 3100 := rs_94_73 (m := m) hV
  have li3 : (-1 : Int32).toInt = -1 := rfl
  have li4 : (0 : Int32).toInt = 0 := rfl
  try have ws0 := WS_ge r_WS (by omega)
  refine sp_195r ((-1 : Int32)) ((0 : Int32)) hV (by omega) (fun v2 m1 hV_m1 p0_m1 p1_m1 => zmi_n ?_)
  have p0_m1 : zWS (m 100) (m 99) (m 110) (m 109) (-1 : Int32) v2 := p0_m1
  have p1_m1 : qMin (qCw (m 99) (m 110) (m 109) (m 100) (-1 : Int32)) (m 100) v2 3100 := p1_m1
  try have gw := GW_room r_GW
  try have ws0 := WS_ge r_WS (by omega)
  have b5 := i_bd v2
  exact lp_194r_9 hV K _ _ (v2) rfl (zF_zov zF_rfl ws_195_194) hV_m1 (by omega) (show (m 94 10).toInt = 5 from by omega) (show (m 94 73).toInt = 0 from by omega) p0_m1 r_W r_GW (show zuw (m 113) (m 113) from by first | (exact zuw_rfl) | (exact zuw_rfl) | (exfalso; omega; done) | (exfalso; contradiction; done)) (show qGL (m 99) (m 100) (m 98) (m 101) (m 102) (m 103) (m 107) (m 108) (m 109) (m 111) (m 112) (m 113) (m 114) (m 94 55) (m 94 46) (m 94 11) (m 94 12) (m 94 62) (m 94 17) (m 94 9) (m 110) v2 (aGw aa 0) from by first | (exact ⟨aa, -1, r_RB, r_KB, r_E0, r_QI, r_CLr, ⟨by decide, by have := r_QI.2.2.2.1.1.1; have e1 : (-1 : Int32).toInt = -1 := rfl; omega⟩, p1_m1, rfl⟩) | (exfalso; omega; done) | (exfalso; contradiction; done))

/-! from 95.h14 -/
/-! the reference by numbers (written by wip/tools/gen18r.py) -/
/-! THE REST IS GONE -/
def qWh (b : Nat → Nat → Int32) (x : Nat) : Prop := xAl b x ∧ b 77 x = 0
/-- b without the WHITE ones below n -/
def qMd (b c : Nat → Nat → Int32) (n : Int) : Prop :=
  (∀ x : Nat, x < 512 → (((x : Int) < n ∧ qWh b x) → c 126 x = 0) ∧ (¬ ((x : Int) < n ∧ qWh b x) → (∀ f, 126 ≤ f → f < 1000 → c f x = b f x) ∧ c (1000 + x) = b (1000 + x))) ∧
  ((∀ f, f < 126 → f ≠ 71 → f ≠ 73 → f ≠ 69 → c f = b f) ∧ c 69 5 = b 69 5 ∧ c 69 6 = b 69 6) ∧
  (∀ k, k < 16 → ((∃ x : Nat, (x : Int) < n ∧ qWh b x ∧ b 73 k = Int32.ofNat x) → c 73 k = -1) ∧ (¬ (∃ x : Nat, (x : Int) < n ∧ qWh b x ∧ b 73 k = Int32.ofNat x) → c 73 k = b 73 k)) ∧
  (∀ p : Nat, ((∃ x : Nat, (x : Int) < n ∧ qWh b x ∧ (b 130 x).toInt ≤ (p : Int) ∧ (p : Int) < (b 130 x).toInt + (b 128 x).toInt) → c 71 p = -1) ∧ (¬ (∃ x : Nat, (x : Int) < n ∧ qWh b x ∧ (b 130 x).toInt ≤ (p : Int) ∧ (p : Int) < (b 130 x).toInt + (b 128 x).toInt) → c 71 p = b 71 p)) ∧
  c 69 8 = Int32.ofInt (qSu c 512) ∧
  ∀ x, ¬ xAl c x → (∀ x₉, ¬ xAl b x₉ → ∀ k, b (1000 + x₉) k = 0) → ∀ k, c (1000 + x) k = 0
section QZ
variable {aa a b c e : Nat → Nat → Int32} {us us₉ nr kr kd ws at₉ ho wd wi ow ow₉ rt wk wk0 wk₉ wl kp : Nat → Int32} {wm nu ro fo le ra pi y x i : Int32} {n k t s : Nat} {m : Nat → Nat → Int32}
theorem Su_z : ∀ n, (∀ x, x < n → a 126 x = b 126 x ∧ a 128 x = b 128 x) → qSu a n = qSu b n := by
  intro n
  induction n with
  | zero => intro _; rfl
  | succ n ih =>
    intro h
    unfold qSu
    rw [ih (fun x hx => h x (by omega)), (h n (by omega)).1, (h n (by omega)).2]
theorem Su_dn (hk : k < n) (h0 : a 126 k ≠ 0) (h1 : b 126 k = 0) (h : ∀ x, x < n → x ≠ k → a 126 x = b 126 x ∧ a 128 x = b 128 x) : qSu b n = qSu a n - (a 128 k).toInt := by
  induction n with
  | zero => omega
  | succ n ih =>
    unfold qSu
    by_cases e : k = n
    · rw [← e, Su_z (a := b) (b := a) k (fun x hx => ⟨(h x (by omega) (by omega)).1.symm, (h x (by omega) (by omega)).2.symm⟩), if_pos h0, if_neg (fun w => w h1)]
      omega
    · rw [ih (by omega) (fun x hx w => h x (by omega) w), (h n (by omega) (by omega)).1, (h n (by omega) (by omega)).2]
      omega
theorem Md_0 (h : b 69 8 = Int32.ofInt (qSu b 512)) : qMd b b 0 := by
  refine ⟨fun x _ => ⟨fun w => by omega, fun _ => ⟨fun _ _ _ => rfl, rfl⟩⟩, ⟨fun _ _ _ _ _ => rfl, rfl, rfl⟩, fun k _ => ⟨fun ⟨x, w, _⟩ => by omega, fun _ => rfl⟩, fun p => ⟨fun ⟨x, w, _⟩ => by omega, fun _ => rfl⟩, h, fun x hx hb => hb x hx⟩
theorem Md_mc (hI : qI b) (hw : (b 75 5).toInt ≤ 0) (h : qMd b c y.toInt) (h0 : 0 ≤ y.toInt) (h5 : y.toInt < 512) : aMc c y ↔ qWh b y.toNatClampNeg := by
  have cy := tn_cast h0
  have r := (h.1 y.toNatClampNeg (by omega)).2 (by omega)
  have e5 := congrFun (h.2.1.1 75 (by decide) (by decide) (by decide) (by decide)) 5
  have e7 := congrFun (h.2.1.1 77 (by decide) (by decide) (by decide) (by decide)) y.toNatClampNeg
  unfold aMc qWh xAl
  rw [r.1 126 (by decide) (by decide), r.1 130 (by decide) (by decide), e5, e7]
  constructor
  · rintro ⟨w1, w2, w3, w4, w5⟩
    exact ⟨⟨by omega, w3⟩, w5⟩
  · rintro ⟨⟨w1, w2⟩, w3⟩
    have := (hI.1 _ ⟨w1, w2⟩).1.2
    exact ⟨h0, h5, w2, by omega, w3⟩
theorem rm_126 (h : n < 126) (h1 : n ≠ 71) (h2 : n ≠ 73) (h3 : n ≠ 69) : aRm a y n = a n := funext (fun k => aRm_o h ⟨h2, h1, fun w => h3 w.1, fun w => h3 w.1⟩)
theorem rm_hi (h : 126 ≤ n) : aRm a y n k = zNo a y.toNatClampNeg n k := by
  show (if n = 69 ∧ k = 11 then _ else if n = 69 ∧ k = 8 then _ else zNo (zFr (zUw a y 16) _ _) y.toNatClampNeg n k) = _
  rw [if_neg (by omega), if_neg (by omega)]
  unfold zNo
  rw [zFr_o (by omega), zUw_o (by omega)]
theorem rm_73 : aRm a y 73 k = zUw a y 16 73 k := by
  unfold aRm
  rw [xu_o (by omega), xu_o (by omega), zNo_o (by decide), zFr_o (by decide)]
theorem rm_71 : aRm a y 71 k = zFr a (a 130 y.toNatClampNeg).toInt (zMin (a 130 y.toNatClampNeg + a 128 y.toNatClampNeg).toInt) 71 k := by
  unfold aRm
  rw [xu_o (by omega), xu_o (by omega), zNo_o (by decide)]
  unfold zFr
  rw [zUw_o (by decide)]
theorem rm_8 : aRm a y 69 8 = a 69 8 - a 128 y.toNatClampNeg := by
  unfold aRm
  rw [xu_o (by decide), xu_s]
theorem Md_y (hI : qI b) (h : qMd b c y.toInt) (h0 : 0 ≤ y.toInt) (h5 : y.toInt < 512) (hw : qWh b y.toNatClampNeg) : qMd b (aRm c y) (y.toInt + 1) := by
  have cy := tn_cast h0
  obtain ⟨h1, ⟨h2, h2a, h2b⟩, h3, h4, h6, h7⟩ := h
  have ry := ((h1 y.toNatClampNeg (by omega)).2 (by omega)).1
  have ib := hI.1 _ hw.1
  have b4 := hI.2.2.2.1.2.2.1
  have es : (b 130 y.toNatClampNeg + b 128 y.toNatClampNeg).toInt = (b 130 y.toNatClampNeg).toInt + (b 128 y.toNatClampNeg).toInt := i_add (by omega) (by omega)
  have em : zMin (b 130 y.toNatClampNeg + b 128 y.toNatClampNeg).toInt = (b 130 y.toNatClampNeg).toInt + (b 128 y.toNatClampNeg).toInt := by
    unfold zMin
    rw [es]
    split <;> omega
  refine ⟨fun x hx => ⟨fun w => ?_, fun w => ⟨fun f f1 f2 => ?_, ?_⟩⟩, ⟨fun f f1 f2 f3 f4 => ?_, ?_, ?_⟩, fun k hk => ⟨fun w => ?_, fun w => ?_⟩, fun p => ⟨fun w => ?_, fun w => ?_⟩, ?_, fun x hx hb k => ?_⟩
  · rw [rm_hi (by decide)]
    unfold zNo
    by_cases z : x = y.toNatClampNeg
    · rw [if_pos (Or.inl ⟨by decide, by decide, z⟩)]
    · rw [if_neg (by omega)]
      exact (h1 x hx).1 ⟨by omega, w.2⟩
  · have z : x ≠ y.toNatClampNeg := fun z => w ⟨by omega, by rw [z]; exact hw⟩
    rw [rm_hi f1]
    unfold zNo
    rw [if_neg (by omega)]
    exact ((h1 x hx).2 (fun w2 => w ⟨by omega, w2.2⟩)).1 f f1 f2
  · have z : x ≠ y.toNatClampNeg := fun z => w ⟨by omega, by rw [z]; exact hw⟩
    funext k
    rw [rm_hi (by omega)]
    unfold zNo
    rw [if_neg (by omega)]
    exact congrFun ((h1 x hx).2 (fun w2 => w ⟨by omega, w2.2⟩)).2 k
  · rw [rm_126 f1 f2 f3 f4]
    exact h2 f f1 f2 f3 f4
  · rw [aRm_o (by decide) ⟨by decide, by decide, by decide, by decide⟩]
    exact h2a
  · rw [aRm_o (by decide) ⟨by decide, by decide, by decide, by decide⟩]
    exact h2b
  · rw [rm_73]
    unfold zUw
    by_cases z : ∃ x : Nat, (x : Int) < y.toInt ∧ qWh b x ∧ b 73 k = Int32.ofNat x
    · have q := (h3 k hk).1 z
      split
      · rfl
      · exact q
    · obtain ⟨x, x1, x2, x3⟩ := w
      have ex : x = y.toNatClampNeg := by
        by_cases w : x = y.toNatClampNeg
        · exact w
        · exact absurd ⟨x, by omega, x2, x3⟩ z
      have q := (h3 k hk).2 z
      rw [if_pos ⟨rfl, by omega, by rw [q, x3, ex]; exact ofN_tn h0⟩]
  · have z : ¬ ∃ x : Nat, (x : Int) < y.toInt ∧ qWh b x ∧ b 73 k = Int32.ofNat x := fun ⟨x, x1, x2, x3⟩ => w ⟨x, by omega, x2, x3⟩
    have q := (h3 k hk).2 z
    rw [rm_73]
    unfold zUw
    rw [if_neg]
    · exact q
    · rintro ⟨_, _, z3⟩
      refine w ⟨y.toNatClampNeg, by omega, hw, ?_⟩
      rw [← q, z3, ofN_tn h0]
  · rw [rm_71, ry 130 (by decide) (by decide), ry 128 (by decide) (by decide), em]
    unfold zFr
    by_cases z : ∃ x : Nat, (x : Int) < y.toInt ∧ qWh b x ∧ (b 130 x).toInt ≤ (p : Int) ∧ (p : Int) < (b 130 x).toInt + (b 128 x).toInt
    · have q := (h4 p).1 z
      split
      · rfl
      · exact q
    · obtain ⟨x, x1, x2, x3⟩ := w
      have ex : x = y.toNatClampNeg := by
        by_cases w : x = y.toNatClampNeg
        · exact w
        · exact absurd ⟨x, by omega, x2, x3⟩ z
      rw [ex] at x3
      rw [if_pos ⟨rfl, x3.1, x3.2⟩]
  · have z : ¬ ∃ x : Nat, (x : Int) < y.toInt ∧ qWh b x ∧ (b 130 x).toInt ≤ (p : Int) ∧ (p : Int) < (b 130 x).toInt + (b 128 x).toInt := fun ⟨x, x1, x2, x3⟩ => w ⟨x, by omega, x2, x3⟩
    have q := (h4 p).2 z
    rw [rm_71, ry 130 (by decide) (by decide), ry 128 (by decide) (by decide), em]
    unfold zFr
    rw [if_neg (fun w2 => w ⟨y.toNatClampNeg, by omega, hw, w2.2.1, w2.2.2⟩)]
    exact q
  · have d := Su_dn (a := c) (b := aRm c y) (k := y.toNatClampNeg) (n := 512) (by omega) (by rw [ry 126 (by decide) (by decide)]; exact hw.1.2) (by rw [rm_hi (by decide)]; unfold zNo; rw [if_pos (Or.inl ⟨by decide, by decide, rfl⟩)]) (fun x hx w => by
      rw [rm_hi (by decide), rm_hi (by decide)]
      unfold zNo
      rw [if_neg (by omega), if_neg (by omega)]
      exact ⟨rfl, rfl⟩)
    rw [d, rm_8, h6, Int32.ofInt_sub, Int32.ofInt_toInt]
  · rw [rm_hi (by omega)]
    unfold zNo
    by_cases z : x = y.toNatClampNeg
    · rw [if_pos (Or.inr (by omega))]
    · rw [if_neg (by omega)]
      refine h7 x (fun w => hx ⟨w.1, ?_⟩) hb k
      rw [rm_hi (by decide)]
      unfold zNo
      rw [if_neg (by omega)]
      exact w.2
theorem Md_n (h : qMd b c y.toInt) (h0 : 0 ≤ y.toInt) (hw : ¬ qWh b y.toNatClampNeg) : qMd b c (y.toInt + 1) := by
  have cy := tn_cast h0
  have ne : ∀ x : Nat, (x : Int) < y.toInt + 1 → qWh b x → (x : Int) < y.toInt := fun x hx hq => by
    by_cases z : x = y.toNatClampNeg
    · rw [z] at hq
      exact absurd hq hw
    · omega
  obtain ⟨h1, h2, h3, h4, h6, h7⟩ := h
  refine ⟨fun x hx => ⟨fun w => (h1 x hx).1 ⟨ne x w.1 w.2, w.2⟩, fun w => (h1 x hx).2 (fun w2 => w ⟨by omega, w2.2⟩)⟩, h2, fun k hk => ⟨fun ⟨x, x1, x2, x3⟩ => (h3 k hk).1 ⟨x, ne x x1 x2, x2, x3⟩, fun w => (h3 k hk).2 (fun ⟨x, x1, x2, x3⟩ => w ⟨x, by omega, x2, x3⟩)⟩, fun p => ⟨fun ⟨x, x1, x2, x3⟩ => (h4 p).1 ⟨x, ne x x1 x2, x2, x3⟩, fun w => (h4 p).2 (fun ⟨x, x1, x2, x3⟩ => w ⟨x, by omega, x2, x3⟩)⟩, h6, h7⟩
theorem Md_all (hI : qI b) (hw : (b 75 5).toInt ≤ 0) : ∀ (f : Nat) (y : Int32) (c : Nat → Nat → Int32), 0 ≤ y.toInt → y.toInt + (f : Int) = (b 69 6).toInt → qMd b c y.toInt → qMd b (aMf f y c) (b 69 6).toInt := by
  intro f
  induction f with
  | zero =>
    intro y c h0 e h
    rw [← e]
    simp only [Int.natCast_zero, Int.add_zero]
    exact h
  | succ f ih =>
    intro y c h0 e h
    have i6 := hI.2.2.2.1.1.2
    have e1 := i_p1 (i := y) (by omega)
    show qMd b (aMf f (y + 1) (if 0 ≤ y.toInt ∧ y.toInt < 512 ∧ c 126 y.toNatClampNeg ≠ 0 ∧ (c 75 5).toInt ≤ (c 130 y.toNatClampNeg).toInt ∧ c 77 y.toNatClampNeg = 0 then aRm c y else c)) _
    have mc := Md_mc hI hw h h0 (by omega)
    unfold aMc at mc
    refine ih _ _ (by omega) (by omega) ?_
    rw [e1]
    by_cases z : qWh b y.toNatClampNeg
    · rw [if_pos (mc.mpr z)]
      exact Md_y hI h h0 (by omega) z
    · rw [if_neg (fun w => z (mc.mp w))]
      exact Md_n h h0 z
theorem Md_mv (hI : qI b) (hw : (b 75 5).toInt ≤ 0) : qMd b (aMv b 0) (b 69 6).toInt := by
  have i6 := hI.2.2.2.1.1.1
  have z0 : (0 : Int32).toInt = 0 := rfl
  exact Md_all hI hw _ 0 b (by decide) (by omega) (Md_0 hI.2.2.2.2.1)
/-- who is left -/
theorem Md_al (hI : qI b) (h : qMd b e (b 69 6).toInt) : xAl e n ↔ xAl b n ∧ b 77 n ≠ 0 := by
  unfold xAl
  constructor
  · rintro ⟨w1, w2⟩
    by_cases z : (n : Int) < (b 69 6).toInt ∧ qWh b n
    · exact absurd ((h.1 n w1).1 z) w2
    · have q := ((h.1 n w1).2 z).1 126 (by decide) (by decide)
      rw [q] at w2
      refine ⟨⟨w1, w2⟩, fun w3 => z ⟨(hI.1 n ⟨w1, w2⟩).1.1, ⟨w1, w2⟩, w3⟩⟩
  · rintro ⟨⟨w1, w2⟩, w3⟩
    have q := ((h.1 n w1).2 (fun z => w3 z.2.2)).1 126 (by decide) (by decide)
    rw [q]
    exact ⟨w1, w2⟩
theorem Md_f (h : qMd b e (b 69 6).toInt) (hn : n < 512) (hk : b 77 n ≠ 0) : (∀ f, 126 ≤ f → f < 1000 → e f n = b f n) ∧ e (1000 + n) = b (1000 + n) := (h.1 n hn).2 (fun z => hk z.2.2)
theorem Md_w (hI : qI b) (h : qMd b e (b 69 6).toInt) (hn : xAl b n) (hk : b 77 n ≠ 0) {p : Nat} (h1 : (b 130 n).toInt ≤ (p : Int)) (h2 : (p : Int) < (b 130 n).toInt + (b 128 n).toInt) : e 71 p = b 71 p := by
  refine (h.2.2.2.1 p).2 ?_
  rintro ⟨x, x1, x2, x3, x4⟩
  by_cases z : x = n
  · rw [z] at x2
    exact hk x2.2
  · have d := hI.2.1 x n x2.1 hn z
    omega
theorem I_mv (hI : qI b) (hw : (b 75 5).toInt ≤ 0) : qI (aMv b 0) := by
  have h := Md_mv hI hw
  generalize aMv b 0 = e at *
  have r87 := h.2.1.1 87 (by decide) (by decide) (by decide) (by decide)
  have fl : ∀ n, xAl e n → xAl b n ∧ b 77 n ≠ 0 ∧ e 130 n = b 130 n ∧ e 128 n = b 128 n := fun n hn => by
    have q := (Md_al hI h).mp hn
    have f := (Md_f h q.1.1 q.2).1
    exact ⟨q.1, q.2, f 130 (by decide) (by decide), f 128 (by decide) (by decide)⟩
  refine ⟨fun n hn => ?_, fun n n₉ hn hn₉ hne => ?_, fun p hp hc => ?_, ⟨?_, ?_, ?_, ?_, ?_, ?_⟩, h.2.2.2.2.1, fun n hn k => ?_⟩
  · have f := fl n hn
    have i := hI.1 n f.1
    have c := tn_cast i.1.2
    rw [f.2.2.1, f.2.2.2, h.2.1.2.2, r87, Md_w hI h f.1 f.2.1 (p := (b 130 n).toNatClampNeg) (by omega) (by have := i.2.1.1; omega)]
    exact i
  · have f := fl n hn
    have f₉ := fl n₉ hn₉
    rw [f.2.2.1, f.2.2.2, f₉.2.2.1, f₉.2.2.2]
    exact hI.2.1 n n₉ f.1 f₉.1 hne
  · by_cases z : ∃ x : Nat, (x : Int) < (b 69 6).toInt ∧ qWh b x ∧ (b 130 x).toInt ≤ (p : Int) ∧ (p : Int) < (b 130 x).toInt + (b 128 x).toInt
    · exact (h.2.2.2.1 p).1 z
    · rw [(h.2.2.2.1 p).2 z]
      refine hI.2.2.1 p hp (fun n hn w => ?_)
      by_cases k0 : b 77 n = 0
      · exact z ⟨n, (hI.1 n hn).1.1, ⟨hn, k0⟩, w⟩
      · have al := (Md_al hI h).mpr ⟨hn, k0⟩
        have f := fl n al
        have q := hc n al
        rw [f.2.2.1, f.2.2.2] at q
        exact q w
  · rw [h.2.1.2.2]
    exact hI.2.2.2.1.1
  · rw [h.2.1.2.1]
    exact hI.2.2.2.1.2.1
  · rw [r87]
    exact hI.2.2.2.1.2.2.1
  · rw [r87]
    exact hI.2.2.2.1.2.2.2.1
  · intro n hn
    have f := fl n hn
    rw [f.2.2.1, f.2.2.2, r87]
    exact hI.2.2.2.1.2.2.2.2.1 n f.1
  · rw [r87]
    exact hI.2.2.2.1.2.2.2.2.2
  · exact h.2.2.2.2.2 n hn (fun n₉ w => hI.2.2.2.2.2 n₉ w) k
/-- WEAK lose what is not kept -/
def qUr (wk0 wk kp : Nat → Int32) (l : Int) : Prop := ∀ k : Nat, (((k : Int) < l ∧ 0 ≤ (wk0 k).toInt ∧ kp (wk0 k).toNatClampNeg = 0) → wk k = -1) ∧ (¬ ((k : Int) < l ∧ 0 ≤ (wk0 k).toInt ∧ kp (wk0 k).toNatClampNeg = 0) → wk k = wk0 k)
theorem Ur_0 {l : Int} (h : l ≤ 0) : qUr wk wk kp l := fun k => ⟨fun w => by omega, fun _ => rfl⟩
theorem Ur_y {l : Int} (h : qUr wk (m 113) kp i.toInt) (h0 : 0 ≤ i.toInt) (e1 : l = i.toInt + 1) (hs : 0 ≤ (m 113 i.toNatClampNeg).toInt) (hk : kp (m 113 i.toNatClampNeg).toNatClampNeg = 0) : qUr wk (ma_u m 113 i.toNatClampNeg (-1) 113) kp l := by
  intro k
  have c := tn_cast h0
  by_cases w : k = i.toNatClampNeg
  · have q := (h k).2 (by omega)
    rw [w] at q ⊢
    rw [mu_self]
    refine ⟨fun _ => rfl, fun z => absurd ⟨by omega, ?_, ?_⟩ z⟩
    · rw [← q]
      exact hs
    · rw [← q]
      exact hk
  · rw [mu_ne w]
    exact ⟨fun z => (h k).1 ⟨by omega, z.2⟩, fun z => (h k).2 (fun z2 => z ⟨by omega, z2.2⟩)⟩
theorem Ur_n {l : Int} (h : qUr wk0 wk kp i.toInt) (h0 : 0 ≤ i.toInt) (e1 : l = i.toInt + 1) (hs : (wk i.toNatClampNeg).toInt < 0 ∨ kp (wk i.toNatClampNeg).toNatClampNeg ≠ 0) : qUr wk0 wk kp l := by
  intro k
  have c := tn_cast h0
  by_cases w : k = i.toNatClampNeg
  · have q := (h k).2 (by omega)
    refine ⟨fun z => ?_, fun _ => q⟩
    rw [w] at q z
    rw [← q] at z
    exact absurd z.2 (fun z2 => hs.elim (fun z3 => by omega) (fun z3 => z3 z2.2))
  · exact ⟨fun z => (h k).1 ⟨by omega, z.2⟩, fun z => (h k).2 (fun z2 => z ⟨by omega, z2.2⟩)⟩
/-- the cleaning's end -/
theorem RB_mv (hR : qRB us nr kr kd ws at₉ ho wd wi ow rt wk wl wm nu ro fo le ra pi b) (hI : qI b) (hK : qKB kp us nr b) (hC : qCK kp us rt wl wm kr kd ws wd) (hw : (b 75 5).toInt ≤ 0) (hu : qUr wk wk₉ kp 16) (hm : zrm us us₉ kp 3100) (ho₉ : zowr ow ow₉ us kp at₉) : qRB us₉ nr kr kd ws at₉ ho wd wi ow₉ rt wk₉ wl wm nu ro fo le ra pi (aMv b 0) := by
  have h := Md_mv hI hw
  generalize aMv b 0 = e at *
  obtain ⟨q1, q2, q3, q4, q5, q6, q7, q8⟩ := hR
  have us1 : ∀ s, s < 3100 → us₉ s ≠ 0 → us s ≠ 0 ∧ kp s ≠ 0 ∧ xAl b (nr s).toNatClampNeg ∧ b 77 (nr s).toNatClampNeg ≠ 0 := fun s hs hv => by
    have z := ((hm s hs).1 hs).mp hv
    exact ⟨z.1, z.2, R1_al q1 hs z.1, ((hK.2 s hs z.1).mp z.2).2⟩
  have us2 : ∀ s, s < 3100 → us s ≠ 0 → kp s ≠ 0 → us₉ s ≠ 0 := fun s hs hv hk => ((hm s hs).1 hs).mpr ⟨hv, hk⟩
  have fl : ∀ s, s < 3100 → us₉ s ≠ 0 → ∀ f, 126 ≤ f → f < 1000 → e f (nr s).toNatClampNeg = b f (nr s).toNatClampNeg := fun s hs hv => (Md_f h (us1 s hs hv).2.2.1.1 (us1 s hs hv).2.2.2).1
  have lo := h.2.1.1
  have kU : ∀ x : Int32, qU us x → (x.toInt < 0 ∨ kp x.toNatClampNeg ≠ 0) → qU us₉ x := fun x hx hk => by
    by_cases z : x.toInt < 0
    · exact Or.inl z
    · have u := U_y hx (by omega)
      exact Or.inr ⟨u.1, us2 _ (tn_lt (by omega) u.1) u.2 (hk.elim (fun w => absurd w z) id)⟩
  refine ⟨⟨fun s hs hv => ?_, fun s t hs ht hv hv2 en => q1.2.1 s t hs ht (us1 s hs hv).1 (us1 t ht hv2).1 en, fun n hn ha => ?_⟩, fun s hs hv i hi => ?_, fun k hk => ?_, fun k hk => ?_, ⟨?_, fun k hk => ?_⟩, fun s hs hv => ?_, fun s hs hv => ?_, ?_⟩
  · have u := us1 s hs hv
    have f := fl s hs hv
    rw [f 126 (by decide) (by decide), f 128 (by decide) (by decide), f 130 (by decide) (by decide), f 133 (by decide) (by decide)]
    exact q1.1 s hs u.1
  · have al := (Md_al hI h).mp (show xAl e n from ⟨hn, ha⟩)
    obtain ⟨s, hs, hv, en⟩ := q1.2.2 n hn al.1.2
    refine ⟨s, hs, us2 s hs hv ((hK.2 s hs hv).mpr ?_), en⟩
    rw [en, tn_of hn]
    exact ⟨hn, al.2⟩
  · have u := us1 s hs hv
    have q := q2 s hs u.1 i hi
    have t := q1.1 s hs u.1
    have ib := hI.1 _ u.2.2.1
    have rf : aRef e (nr s).toNatClampNeg (Int32.ofNat i) = aRef b (nr s).toNatClampNeg (Int32.ofNat i) := by
      have ei : (Int32.ofNat i).toInt = (i : Int) := Int32.toInt_ofNat_of_lt (by have := t.2.2.2.2.2.1; omega)
      have b4 := hI.2.2.2.1.2.2.1
      have ep : (b 130 (nr s).toNatClampNeg + 1).toInt = (b 130 (nr s).toNatClampNeg).toInt + 1 := i_p1 (by omega)
      have sz : (b 128 (nr s).toNatClampNeg).toInt = (ws s).toInt + 1 := by
        rw [t.2.2.1]
        exact i_p1 (by have := t.2.2.2.2.2.1; omega)
      have ex : (b 130 (nr s).toNatClampNeg + 1 + Int32.ofNat i).toInt = (b 130 (nr s).toNatClampNeg).toInt + 1 + (i : Int) := by
        rw [i_add (by omega) (by omega)]
        omega
      have cx := tn_cast (x := b 130 (nr s).toNatClampNeg + 1 + Int32.ofNat i) (by omega)
      unfold aRef
      rw [(Md_f h u.2.2.1.1 u.2.2.2).2, fl s hs hv 130 (by decide) (by decide), Md_w hI h u.2.2.1 u.2.2.2 (p := (b 130 (nr s).toNatClampNeg + 1 + Int32.ofNat i).toNatClampNeg) (by omega) (by omega)]
    rw [rf, (Md_f h u.2.2.1.1 u.2.2.2).2]
    exact ⟨kU _ q.1 (hC.2.2 s hs u.1 u.2.1 i hi), q.2⟩
  · have q := q3 k hk
    rw [lo 72 (by decide) (by decide) (by decide) (by decide)]
    exact ⟨kU _ q.1 (hC.1 k (by omega)), q.2⟩
  · have q := q4 k hk
    have g := hu k
    have w := h.2.2.1 k hk
    by_cases z : (wk k).toInt < 0
    · rw [g.2 (by omega)]
      rw [No_n z] at q ⊢
      refine ⟨Or.inl z, ?_⟩
      by_cases z2 : ∃ x : Nat, (x : Int) < (b 69 6).toInt ∧ qWh b x ∧ b 73 k = Int32.ofNat x
      · exact w.1 z2
      · rw [w.2 z2]
        exact q.2
    · have u := U_y q.1 (by omega)
      have hs := tn_lt (by omega) u.1
      rw [No_y (by omega)] at q
      by_cases kz : kp (wk k).toNatClampNeg = 0
      · rw [g.1 ⟨by omega, by omega, kz⟩]
        refine ⟨Or.inl (by decide), ?_⟩
        have al := R1_al q1 hs u.2
        refine w.1 ⟨(nr (wk k).toNatClampNeg).toNatClampNeg, (hI.1 _ al).1.1, ⟨al, ?_⟩, ?_⟩
        · by_cases z3 : b 77 (nr (wk k).toNatClampNeg).toNatClampNeg = 0
          · exact z3
          · exact absurd kz ((hK.2 _ hs u.2).mpr ⟨al.1, z3⟩)
        · rw [q.2, R1_of_nr q1 hs u.2]
      · rw [g.2 (fun z2 => kz z2.2.2), No_y (by omega)]
        refine ⟨Or.inr ⟨u.1, us2 _ hs u.2 kz⟩, ?_⟩
        rw [w.2]
        · exact q.2
        · rintro ⟨x, x1, x2, x3⟩
          rw [q.2] at x3
          have k7 := ((hK.2 _ hs u.2).mp kz).2
          rw [x3, tn_of x2.1.1] at k7
          exact k7 x2.2
  · rw [h.2.1.2.1]
    exact q5.1
  · have q := q5.2 k hk
    rw [lo 74 (by decide) (by decide) (by decide) (by decide)]
    exact ⟨⟨q.1.1, q.1.2.1, us2 _ (tn_lt q.1.1 q.1.2.1) q.1.2.2 ((hC.2.1 k hk).elim (fun z => absurd z (by have := q.1.1; omega)) id)⟩, q.2⟩
  · rw [fl s hs hv 134 (by decide) (by decide)]
    exact q6 s hs (us1 s hs hv).1
  · have u := us1 s hs hv
    have t := q1.1 s hs u.1
    have ib := hI.1 _ u.2.2.1
    have b4 := hI.2.2.2.1.2.2.1
    have ca := tn_cast t.2.2.2.2.2.2
    have pl : (at₉ s).toNatClampNeg < 4600 := by
      have e4 := congrArg Int32.toInt t.2.2.2.1
      omega
    have o := q7 s hs u.1
    rcases ho₉ (at₉ s).toNatClampNeg pl with z | ⟨z1, r, r1, r2, r3, r4⟩
    · rw [z]
      exact o
    · have o2 := q7 r r1 r2
      have e : (at₉ r).toNatClampNeg = (at₉ s).toNatClampNeg := by
        have c2 := tn_cast (q1.1 r r1 r2).2.2.2.2.2.2
        omega
      rw [e, o] at o2
      have e3 := congrArg Int32.toInt o2
      rw [ofN_s hs, ofN_s r1] at e3
      have : s = r := by omega
      rw [this] at u
      exact absurd r3 u.2.1
  · have g := q8
    unfold qR8 at g ⊢
    rw [h.2.1.2.2, lo 87 (by decide) (by decide) (by decide) (by decide)]
    exact g
end QZ
theorem lp_199r_2 {X : Nat × (Nat → Int32)} {P : Option ma_V → (Nat → Nat → Int32) → Prop} {m0 : Nat → Nat → Int32} (h0 : zV m0) (K : ∀ m₉, zF wr_199 m0 m₉ → zV m₉ → (zuw (m0 113) (m₉ 113)) → (qUr (m0 113) (m₉ 113) (m₉ 110) 16) → P none m₉) : ∀ (n : Nat) (m : Nat → Nat → Int32) (l1 : Int32), (16 - l1.toInt).toNat = n → zF wr_199 m0 m → zV m → (0 ≤ l1.toInt) → (l1.toInt ≤ 16) → (zuw (m0 113) (m 113)) → (qUr (m0 113) (m 113) (m 110) l1.toInt) → zm X 0 0 199 2 [(0, .inr (.inr (some 94))), (1, .inl l1)] m P := by
  intro n
  induction n using Nat.strongRecOn with
  | _ n IH =>
    intro m l1 hmu hF hV hi0 hi1 r_UW r_UR
    refine g_199_2 l1 ?_
    have li1 : (16 : Int32).toInt = 16 := rfl
    have b2 := i_bd l1
    refine zd (fun (h3 : (16 : Int32) ≤ l1) => ?_) (fun (h3 : ¬ (16 : Int32) ≤ l1) => ?_)
    · skip
      have g4 := i_le h3
      exact K _ hF hV r_UW (show qUr (m0 113) (m 113) (m 110) 16 from by first | (exact Ur_0 (by decide)) | (exact Ur_n r_UR (by omega) (by omega) (Or.inl (by omega))) | (exact Ur_n r_UR (by omega) (by omega) (Or.inr (by assumption))) | (exact (show l1.toInt = 16 from by omega) ▸ r_UR) | (exfalso; omega; done) | (exfalso; contradiction; done))
    · skip
      have g5 := i_nle h3
      have hg6 : (0 ≤ l1 ∧ l1.toNatClampNeg < 16) := i_ix (by omega) (by omega)
      refine ⟨hg6, ?_⟩
      first | have f7 : -1 ≤ (m 113 l1.toNatClampNeg).toInt ∧ (m 113 l1.toNatClampNeg).toInt ≤ 3099 := ra_113 (m := m) hV (k := l1.toNatClampNeg) (i_ix (n := 16) (by omega) (by omega)).2 | have b8 := i_bd (m 113 l1.toNatClampNeg)
      have li9 : (0 : Int32).toInt = 0 := rfl
      refine zd (fun (h10 : (m 113 l1.toNatClampNeg) < (0 : Int32)) => ?_) (fun (h10 : ¬ (m 113 l1.toNatClampNeg) < (0 : Int32)) => ?_)
      · skip
        have g11 := i_lt h10
        first | have e12 : (l1 + (1 : Int32)).toInt = l1.toInt + (1) := i_addk rfl (by omega) (by omega) | have b13 := i_bd (l1 + (1 : Int32))
        exact IH (16 - (l1 + (1 : Int32)).toInt).toNat (by omega) _ ((l1 + (1 : Int32))) rfl hF hV (by omega) (by omega) r_UW (show qUr (m0 113) (m 113) (m 110) (l1 + (1 : Int32)).toInt from by first | (exact Ur_0 (by decide)) | (exact Ur_n r_UR (by omega) (by omega) (Or.inl (by omega))) | (exact Ur_n r_UR (by omega) (by omega) (Or.inr (by assumption))) | (exact (show l1.toInt = 16 from by omega) ▸ r_UR) | (exfalso; omega; done) | (exfalso; contradiction; done))
      · skip
        have g14 := i_nlt h10
        have hg15 : (0 ≤ l1 ∧ l1.toNatClampNeg < 16) := i_ix (by omega) (by omega)
        refine ⟨hg15, ?_⟩
        have hg16 : (0 ≤ (m 113 l1.toNatClampNeg) ∧ (m 113 l1.toNatClampNeg).toNatClampNeg < 3100) := i_ix (by omega) (by omega)
        refine ⟨hg16, ?_⟩
        first | have f17 : 0 ≤ (m 110 (m 113 l1.toNatClampNeg).toNatClampNeg).toInt ∧ (m 110 (m 113 l1.toNatClampNeg).toNatClampNeg).toInt ≤ 1 := ra_110 (m := m) hV (k := (m 113 l1.toNatClampNeg).toNatClampNeg) (i_ix (n := 3100) (by omega) (by omega)).2 | have b18 := i_bd (m 110 (m 113 l1.toNatClampNeg).toNatClampNeg)
        refine zd (fun (h19 : (m 110 (m 113 l1.toNatClampNeg).toNatClampNeg) = (0 : Int32)) => ?_) (fun (h19 : ¬ (m 110 (m 113 l1.toNatClampNeg).toNatClampNeg) = (0 : Int32)) => ?_)
        · skip
          have g20 := i_eq h19
          have hg21 : (0 ≤ l1 ∧ l1.toNatClampNeg < 16) := i_ix (by omega) (by omega)
          refine ⟨hg21, ?_⟩
          have li23 : (-1 : Int32).toInt = -1 := rfl
          have hV22 : zV (ma_u m 113 l1.toNatClampNeg (-1 : Int32)) := ua_113 hV (by omega) (by omega)
          first | have e24 : (l1 + (1 : Int32)).toInt = l1.toInt + (1) := i_addk rfl (by omega) (by omega) | have b25 := i_bd (l1 + (1 : Int32))
          exact IH (16 - (l1 + (1 : Int32)).toInt).toNat (by omega) _ ((l1 + (1 : Int32))) rfl (zF_u hF rfl) hV22 (by omega) (by omega) (show zuw (m0 113) ((ma_u m 113 l1.toNatClampNeg (-1 : Int32)) 113) from by first | (exact zuw_put r_UW (by decide)) | (exfalso; omega; done) | (exfalso; contradiction; done)) (show qUr (m0 113) ((ma_u m 113 l1.toNatClampNeg (-1 : Int32)) 113) (m 110) (l1 + (1 : Int32)).toInt from by first | (exact Ur_y r_UR (by omega) (by omega) (by omega) (by assumption)) | (exfalso; omega; done) | (exfalso; contradiction; done))
        · skip
          have g26 := i_ne h19
          first | have e27 : (l1 + (1 : Int32)).toInt = l1.toInt + (1) := i_addk rfl (by omega) (by omega) | have b28 := i_bd (l1 + (1 : Int32))
          exact IH (16 - (l1 + (1 : Int32)).toInt).toNat (by omega) _ ((l1 + (1 : Int32))) rfl hF hV (by omega) (by omega) r_UW (show qUr (m0 113) (m 113) (m 110) (l1 + (1 : Int32)).toInt from by first | (exact Ur_0 (by decide)) | (exact Ur_n r_UR (by omega) (by omega) (Or.inl (by omega))) | (exact Ur_n r_UR (by omega) (by omega) (Or.inr (by assumption))) | (exact (show l1.toInt = 16 from by omega) ▸ r_UR) | (exfalso; omega; done) | (exfalso; contradiction; done))
theorem sp_199r {X : Nat × (Nat → Int32)} {P : Option ma_V → (Nat → Nat → Int32) → Prop} {m : Nat → Nat → Int32}  (hV : zV m)  (KZ : ∀ m₉, zV (zov wr_199 m m₉) → (zuw (m 113) (m₉ 113)) → (qUr (m 113) (m₉ 113) (m 110) 16) → P none (zov wr_199 m m₉)) : zm X 0 0 199 0 [(0, .inr (.inr (some 94)))] m P := by
  have K : ∀ m₉, zF wr_199 m m₉ → zV m₉ → (zuw (m 113) (m₉ 113)) → (qUr (m 113) (m₉ 113) (m₉ 110) 16) → P none m₉ := by
    intro m₉ hf z q0 q1
    have e := zov_eq hf
    rw [e] at z ⊢
    try rw [e] at q0
    try rw [e] at q1
    exact KZ m₉ z q0 q1
  refine g_199_0  ?_
  have li1 : (0 : Int32).toInt = 0 := rfl
  exact lp_199r_2 hV K _ _ ((0 : Int32)) rfl zF_rfl hV (by omega) (by omega) (show zuw (m 113) (m 113) from by first | (exact zuw_rfl) | (exfalso; omega; done) | (exfalso; contradiction; done)) (show qUr (m 113) (m 113) (m 110) (0 : Int32).toInt from by first | (exact Ur_0 (by decide)) | (exfalso; omega; done) | (exfalso; contradiction; done))

/-! from 95.h15 -/
/-! the reference by numbers (written by wip/tools/gen18r.py) -/
/-! MARKING: what holds while it goes on -/
/-- news: what a BLACK one refers to is not WHITE; picture: ROOTS, WISHES, held ones are among those to come, and what those refer to -/
def qMI (a : Nat → Nat → Int32) : Prop := (a 87 7 = 1 → ∀ u y, zDn a u → xAl a u → zEd a u y → zNn a y) ∧ (a 87 7 ≠ 1 → (∀ u, zRt a u → zMk a u) ∧ ∀ u y, zMk a u → zEd a u y → zMk a y)
/-- while it goes on -/
def qMG (mk : Int32) (co gr : Nat → Int32) (ga gm : Int32) (us nr : Nat → Int32) (a : Nat → Nat → Int32) : Prop := mk.toInt ≠ 0 → qMQ co gr ga gm us nr a ∧ qMI a
def qGQ (mk : Int32) (co gr : Nat → Int32) (ga gm : Int32) (us nr : Nat → Int32) (a : Nat → Nat → Int32) : Prop := mk.toInt ≠ 0 → qMQ co gr ga gm us nr a
def qMS (mk : Int32) (a : Nat → Nat → Int32) (y : Int32) : Prop := mk.toInt ≠ 0 → a 87 7 ≠ 1 → y.toInt < 0 ∨ zMk a y.toNatClampNeg
section QJ
variable {aa a b c : Nat → Nat → Int32} {us nr kr kd ws at₉ ho wd wi ow rt wk wl kp co gr : Nat → Int32} {wm nu ro fo le ra pi y x i ga gm wt : Int32} {n k u : Nat} {T : Nat → Prop}
theorem Rt_of (o : zOf a b) : zRt b u ↔ zRt a u := by
  unfold zRt zRl zWl zHl
  rw [← Al_of o, ← Of_r (c := 72) o (by decide) (by decide) (by decide), ← Of_r (c := 74) o (by decide) (by decide) (by decide), ← Of_r (c := 69) o (by decide) (by decide) (by decide), ← Of_r (c := 133) o (by decide) (by decide) (by decide)]
/-- some come -/
theorem MI_gr (h : qMI a) (g : zGr a b T) : qMI b := by
  have e7 := g.2.1 87 7 (by decide) (by decide) (by decide)
  refine ⟨fun w u y hd ha he => ?_, fun w => ?_⟩
  · rw [g.2.2.2.1]
    rw [← Al_of g.2.1] at ha
    exact Or.inl (h.1 (by rw [e7]; exact w) u y ((g.2.2.1 u).mp hd) ha ((Of_ed g.2.1).mp he))
  · have q := h.2 (by rw [e7]; exact w)
    have mk : ∀ x, zMk b x ↔ zM (fun u => zMk a u ∨ (xAl a u ∧ T u)) (zMk a) (zEd a) x := fun x =>
      (zM_cg g.2.2.2.1 g.2.2.1 (fun u y => Of_ed g.2.1)).trans (zM_gy (fun u w => Dn_Nn w))
    refine ⟨fun u hu => (mk u).mpr (zM_in (Or.inl (q.1 u ((Rt_of g.2.1).mp hu)))), fun u y hu he => ?_⟩
    rw [mk] at hu ⊢
    have he2 := (Of_ed g.2.1).mp he
    by_cases z : zMk a u
    · exact zM_in (Or.inl (q.2 u y z he2))
    · exact zM_cl hu z he2
theorem MI_cm (h : qMI a) (hw : zWQ a) : qMI (aCm a y) := MI_gr h (gr_cm hw)
theorem MI_ro (h : qMI a) (hw : zWQ a) (h6 : (a 69 6).toInt ≤ 512) (h5 : (a 69 5).toInt ≤ 512) : qMI (aRo a 0) := MI_gr h (gr_ro hw h6 h5)
theorem pop_nn (h : zWQ a) (hl : (a 75 3).toInt < (a 75 4).toInt) (hn : zNn a u) : zNn (aPop a) u := by
  obtain ⟨q1, q2, q3, q4, q5, q6, q7⟩ := h
  have cb : cnt (a 77) 512 ≤ 512 := cnt_le
  have q12 := q1.2.2
  have ch := tn_cast q1.1
  have p := q2 (a 75 3).toNatClampNeg (by omega) (by omega)
  have w := WQ_mid (y := a 76 (a 75 3).toNatClampNeg) ⟨q1, q2, q3, q4, q5, q6, q7⟩ hl rfl
  rw [aPop_y (a := a) (y := a 76 (a 75 3).toNatClampNeg) rfl p.1 p.2.1 p.2.2.1]
  have i0 : (0 : Int32).toInt = 0 := rfl
  have sb := i_bd ((ma_u (ma_u a 75 3 (a 75 3 + 1)) 77 (a 76 (a 75 3).toNatClampNeg).toNatClampNeg 2) 128 (a 76 (a 75 3).toNatClampNeg).toNatClampNeg)
  have g := gr_cwf (m := (a 76 (a 75 3).toNatClampNeg).toNatClampNeg) (((ma_u (ma_u a 75 3 (a 75 3 + 1)) 77 (a 76 (a 75 3).toNatClampNeg).toNatClampNeg 2) 128 (a 76 (a 75 3).toNatClampNeg).toNatClampNeg).toInt - 1 - (0 : Int32).toInt).toNat 0 _ (by omega) w
  refine (g.2.2.2.1 u).mpr (Or.inl ⟨hn.1, ?_⟩)
  by_cases z : u = (a 76 (a 75 3).toNatClampNeg).toNatClampNeg
  · rw [z, xu_s]
    decide
  · rw [xu_o (fun w => z w.2), xu_o (by omega)]
    exact hn.2
theorem pop_bl (h : zWQ a) (hl : (a 75 3).toInt < (a 75 4).toInt) {z v : Nat} (hz : ¬ zDn a z) (hd : zDn (aPop a) z) (he : zEd a z v) : zNn (aPop a) v := by
  have H := h
  obtain ⟨q1, q2, q3, q4, q5, q6, q7⟩ := h
  have cb : cnt (a 77) 512 ≤ 512 := cnt_le
  have q12 := q1.2.2
  have ch := tn_cast q1.1
  have p := q2 (a 75 3).toNatClampNeg (by omega) (by omega)
  have w := WQ_mid (y := a 76 (a 75 3).toNatClampNeg) H hl rfl
  have e := aPop_y (a := a) (y := a 76 (a 75 3).toNatClampNeg) rfl p.1 p.2.1 p.2.2.1
  rw [e] at hd ⊢
  generalize hq : a 76 (a 75 3).toNatClampNeg = q at *
  have i0 : (0 : Int32).toInt = 0 := rfl
  have sb := i_bd ((ma_u (ma_u a 75 3 (a 75 3 + 1)) 77 q.toNatClampNeg 2) 128 q.toNatClampNeg)
  have g := gr_cwf (m := q.toNatClampNeg) (((ma_u (ma_u a 75 3 (a 75 3 + 1)) 77 q.toNatClampNeg 2) 128 q.toNatClampNeg).toInt - 1 - (0 : Int32).toInt).toNat 0 _ (by omega) w
  have o : zOf a (ma_u (ma_u a 75 3 (a 75 3 + 1)) 77 q.toNatClampNeg 2) := fun c k w1 w2 w3 => by rw [xu_o (fun y => w3 y.1), xu_o (fun y => w1 y.1)]
  have zq : z = q.toNatClampNeg := by
    by_cases w2 : z = q.toNatClampNeg
    · exact w2
    · have d := (g.2.2.1 z).mp hd
      unfold zDn at d
      rw [xu_o (fun w3 => w2 w3.2), xu_o (by omega)] at d
      exact absurd d hz
  rw [zq] at he
  obtain ⟨al, i, h0, h1, h2⟩ := he
  refine (g.2.2.2.1 v).mpr (Or.inr ⟨by rw [← Al_of o]; exact al, i, by omega, ?_, ?_⟩)
  · rw [o 128 q.toNatClampNeg (by decide) (by decide) (by decide)] at h1
    omega
  · rw [← Of_ref o]
    exact h2
theorem MI_pop (h : qMI a) (hw : zWQ a) (hl : (a 75 3).toInt < (a 75 4).toInt) : qMI (aPop a) := by
  have p := pop_all hw hl
  have o := p.2.1
  have e7 := o 87 7 (by decide) (by decide) (by decide)
  refine ⟨fun w u y hd ha he => ?_, fun w => ?_⟩
  · rw [← Al_of o] at ha
    have he2 := (Of_ed o).mp he
    by_cases z : zDn a u
    · exact pop_nn hw hl (h.1 (by rw [e7]; exact w) u y z ha he2)
    · exact pop_bl hw hl z hd he2
  · have q := h.2 (by rw [e7]; exact w)
    refine ⟨fun u hu => (p.2.2.1 u).mpr (q.1 u ((Rt_of o).mp hu)), fun u y hu he => (p.2.2.1 y).mpr (q.2 u y ((p.2.2.1 u).mp hu) ((Of_ed o).mp he))⟩
theorem MI_sp : ∀ (k : Nat) (a : Nat → Nat → Int32), qMI a → zWQ a → qMI (aSp k a) := by
  intro k
  induction k with
  | zero => intro a h _; exact h
  | succ k ih =>
    intro a h hw
    by_cases hl : (a 75 3).toInt < (a 75 4).toInt
    · rw [aSp_go hl]
      exact ih _ (MI_pop h hw hl) (pop_all hw hl).1
    · rw [aSp_st (Or.inr hl)]
      exact h
/-- it begins -/
theorem MI_b0 (hI : qI a) : qMI (aB0 a) := by
  have hI2 := I_87 (x := 1) hI
  have w := WQ_wh (a := ma_u a 87 8 1) (fun x hx => (hI2.1 x hx).1.2)
  have o := w.2.1
  have g := gr_ro w.1 (by rw [← o 69 6 (by decide) (by decide) (by decide)]; exact hI2.2.2.2.1.1.2) (by rw [← o 69 5 (by decide) (by decide) (by decide)]; exact hI2.2.2.2.1.2.1.2)
  have nd : ∀ u, ¬ zDn (aRo (aWh (ma_u a 87 8 1) 0) 0) u := fun u hd => w.2.2 u (Dn_Nn ((g.2.2.1 u).mp hd))
  refine ⟨fun _ u y hd => absurd hd (nd u), fun _ => ⟨fun u hu => ?_, fun u y hu he => zM_cl hu (nd u) he⟩⟩
  have hr := (Rt_of g.2.1).mp hu
  exact zM_in ((g.2.2.2.1 u).mpr (Or.inr hr))
theorem Nw_y (h : qRB us nr kr kd ws at₉ ho wd wi ow rt wk wl wm nu ro fo le ra pi a) (hp : ¬ pi = 0) : aNw a = a := by
  refine aNw_n ?_
  rw [h.2.2.2.2.2.2.2.2.2.2.2.2, if_neg hp]
  decide
theorem Nw_n (h : qRB us nr kr kd ws at₉ ho wd wi ow rt wk wl wm nu ro fo le ra pi a) (hp : pi = 0) : aNw a = aRo a 0 := by
  refine aNw_y ?_
  rw [h.2.2.2.2.2.2.2.2.2.2.2.2, if_pos hp]
/-- the row is empty, no news: a closed set -/
theorem Cl_0 (hI : qI a) (hm : qMI a) (hw : zWQ a) (hE : qE0 (aNw a)) : qCl (aNw a) := by
  by_cases h7 : a 87 7 = 1
  · rw [aNw_y h7] at hE ⊢
    have g := gr_ro hw hI.2.2.2.1.1.2 hI.2.2.2.1.2.1.2
    have m2 := MI_gr hm g
    have e7 := g.2.1 87 7 (by decide) (by decide) (by decide)
    refine ⟨fun u hu hr => ?_, fun u y hu ha he => m2.1 (by rw [← e7]; exact h7) u y ((E0_bl hE).mpr hu) ha he⟩
    have hr2 : zRt (aRo a 0) u := ⟨hu, hr.elim Or.inl (fun z => Or.inr (Or.inl z))⟩
    exact (g.2.2.2.1 u).mpr (Or.inr ((Rt_of g.2.1).mp hr2))
  · rw [aNw_n h7] at hE ⊢
    have q := hm.2 h7
    refine ⟨fun u hu hr => (Nn_end hE.1 hE.2).mp (q.1 u ⟨hu, hr.elim Or.inl (fun z => Or.inr (Or.inl z))⟩), fun u y hu _ he => (Nn_end hE.1 hE.2).mp (q.2 u y (zM_in hu) he)⟩
theorem MQ_of (h : qMQ co gr ga gm us nr a) : (a 75 3).toInt = ga.toInt ∧ (a 75 4).toInt = gm.toInt ∧ zWQ a := ⟨by rw [h.1], by rw [h.2.1], h.2.2.2.2⟩
theorem E0_of (h : qMQ co gr ga gm us nr a) (hl : gm.toInt ≤ ga.toInt) : qE0 a := ⟨h.2.2.2.2, by rw [h.1, h.2.1]; omega⟩
theorem u87 {c : Nat} (hc : c ≠ 87) : ma_u a 87 8 x c = a c := ma_u_ne _ _ _ hc
theorem E0_87 (h : qE0 a) : qE0 (ma_u a 87 8 x) := ⟨WQ_cg h.1 (u87 (by decide)).symm (u87 (by decide)).symm (u87 (by decide)).symm (u87 (by decide)).symm (u87 (by decide)).symm, by rw [u87 (by decide)]; exact h.2⟩
theorem Ed_87 {v : Nat} : zEd (ma_u a 87 8 x) u v ↔ zEd a u v := by
  have er : ∀ n i, aRef (ma_u a 87 8 x) n i = aRef a n i := fun n i => by
    unfold aRef
    rw [u87 (c := 1000 + n) (by omega), u87 (c := 130) (by decide), u87 (c := 71) (by decide)]
  unfold zEd xAl
  rw [u87 (c := 126) (by decide), u87 (c := 128) (by decide)]
  constructor
  · rintro ⟨w1, i, w2, w3, w4⟩
    exact ⟨w1, i, w2, w3, by rw [← er]; exact w4⟩
  · rintro ⟨w1, i, w2, w3, w4⟩
    exact ⟨w1, i, w2, w3, by rw [er]; exact w4⟩
theorem Cl_87 (h : qCl a) : qCl (ma_u a 87 8 x) := by
  have al : xAl (ma_u a 87 8 x) = xAl a := by
    funext n
    unfold xAl
    rw [u87 (by decide)]
  have nn : zNn (ma_u a 87 8 x) = zNn a := by
    funext n
    unfold zNn
    rw [u87 (by decide)]
  refine ⟨fun u hu hr => ?_, fun u y hu ha he => ?_⟩
  · rw [al] at hu
    rw [nn]
    unfold zRl zWl at hr
    rw [u87 (c := 72) (by decide), u87 (c := 74) (by decide), u87 (c := 69) (by decide)] at hr
    exact h.1 u hu hr
  · rw [nn] at hu ⊢
    rw [al] at ha
    exact h.2 u y hu ha (Ed_87.mp he)
theorem KB_87 (h : qMQ co gr ga gm us nr a) (h1 : qR1 us nr ws at₉ ho a) (hk : ∀ s : Nat, (s : Int) < 3100 → (kp s ≠ 0 ↔ us s ≠ 0 ∧ co s ≠ 0)) : qKB kp us nr (ma_u a 87 8 x) := by
  refine ⟨fun s hs hk2 => ((hk s (by omega)).mp hk2).1, fun s hs hu => ?_⟩
  rw [hk s (by omega)]
  have q := h.2.2.1 s hs hu
  have al := R1_al h1 hs hu
  unfold zNn
  rw [u87 (by decide), q]
  exact ⟨fun w => ⟨al.1, w.2⟩, fun w => ⟨hu, w.2⟩⟩
theorem kp_s {us co : Nat → Int32} {m : Nat → Nat → Int32} {i j : Int32} {x : Int32} (h : ∀ s : Nat, (s : Int) < i.toInt → (m 110 s ≠ 0 ↔ us s ≠ 0 ∧ co s ≠ 0)) (h0 : 0 ≤ i.toInt) (e : j.toInt = i.toInt + 1) (hx : x ≠ 0 ↔ us i.toNatClampNeg ≠ 0 ∧ co i.toNatClampNeg ≠ 0) : ∀ s : Nat, (s : Int) < j.toInt → (ma_u m 110 i.toNatClampNeg x 110 s ≠ 0 ↔ us s ≠ 0 ∧ co s ≠ 0) := by
  intro s hs
  have c := tn_cast h0
  by_cases z : s = i.toNatClampNeg
  · rw [z, mu_self]
    exact hx
  · rw [mu_ne z]
    exact h s (by omega)
/-- what an empty row ends -/
theorem Lk_1 (h : (a 75 3).toInt < (a 75 4).toInt) : aLk a = a := by
  unfold aLk
  rw [if_pos h]
theorem Lk_2 (h : ¬ (a 75 3).toInt < (a 75 4).toInt) (h2 : (aNw a 75 3).toInt < (aNw a 75 4).toInt) : aLk a = aNw a := by
  unfold aLk
  rw [if_neg h, if_pos h2]
theorem Nw_em (hw : zWQ a) (h6 : (a 69 6).toInt ≤ 512) (h5 : (a 69 5).toInt ≤ 512) (h : ¬ (aNw a 75 3).toInt < (aNw a 75 4).toInt) : ¬ (a 75 3).toInt < (a 75 4).toInt := by
  intro w
  unfold aNw at h
  split at h
  · have g := gr_ro hw h6 h5
    have ch := tn_cast hw.1.1
    have p := hw.2.1 (a 75 3).toNatClampNeg (by omega) (by omega)
    have cp := tn_cast p.1
    generalize a 76 (a 75 3).toNatClampNeg = q at *
    have hz : q.toNatClampNeg < 512 := by omega
    have nn := (g.2.2.2.1 q.toNatClampNeg).mpr (Or.inl ⟨hz, by rw [p.2.2.2]; decide⟩)
    have nd : ¬ zDn (aRo a 0) q.toNatClampNeg := fun w2 => by
      have w3 := ((g.2.2.1 _).mp w2).2
      rw [p.2.2.2] at w3
      exact absurd w3 (by decide)
    exact nd ((E0_bl ⟨g.1, h⟩).mpr nn)
  · exact h w
theorem Lk_3 (hw : zWQ a) (h6 : (a 69 6).toInt ≤ 512) (h5 : (a 69 5).toInt ≤ 512) (h2 : ¬ (aNw a 75 3).toInt < (aNw a 75 4).toInt) : aLk a = aFi (aNw a) := by
  unfold aLk
  rw [if_neg (Nw_em hw h6 h5 h2), if_neg h2]
end QJ

