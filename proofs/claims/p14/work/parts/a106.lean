/-! from 95.h06 -/
/-! the reference by numbers (written by wip/tools/gen18r.py) -/
/-! MARKING, the reference -/
section QM
variable {a b aa T : Nat → Nat → Int32} {us nr kr kd ws at₉ ho wd wi ow rt wk wl co gr : Nat → Int32} {wm nu ro fo le ra pi ga gm x y i s : Int32} {n k k₉ N t : Nat} {m m2 : Nat → Nat → Int32} {d : Int}
/-- a step's beginning -/
theorem WQ_mid (h : zWQ a) (hl : (a 75 3).toInt < (a 75 4).toInt) (hq : a 76 (a 75 3).toNatClampNeg = y) : zWQ (ma_u (ma_u a 75 3 (a 75 3 + 1)) 77 y.toNatClampNeg 2) := by
  obtain ⟨q1, q2, q3, q4, q5, q6, q7⟩ := h
  have cb : cnt (a 77) 512 ≤ 512 := cnt_le
  have q12 := q1.2.2
  have e1 : (a 75 3 + 1).toInt = (a 75 3).toInt + 1 := i_p1 (by omega)
  have ch := tn_cast q1.1
  have p := q2 (a 75 3).toNatClampNeg (by omega) (by omega)
  rw [hq] at p
  have cq := tn_cast p.1
  generalize hz : y.toNatClampNeg = z at *
  have hz5 : z < 512 := by omega
  generalize hv : a 75 3 + 1 = v at *
  have r3 : (ma_u (ma_u a 75 3 v) 77 z 2) 75 3 = v := by rw [xu_o (by omega), xu_s]
  have r4 : (ma_u (ma_u a 75 3 v) 77 z 2) 75 4 = a 75 4 := by rw [xu_o (by omega), xu_o (by omega)]
  have r5 : (ma_u (ma_u a 75 3 v) 77 z 2) 75 5 = a 75 5 := by rw [xu_o (by omega), xu_o (by omega)]
  have r6 : ∀ j, (ma_u (ma_u a 75 3 v) 77 z 2) 76 j = a 76 j := fun j => by rw [xu_o (by omega), xu_o (by omega)]
  have r7 : ∀ j, j ≠ z → (ma_u (ma_u a 75 3 v) 77 z 2) 77 j = a 77 j := fun j w => by rw [xu_o (fun y => w y.2), xu_o (by omega)]
  have r7t : (ma_u (ma_u a 75 3 v) 77 z 2) 77 z = 2 := xu_s
  have rc : (a 75 4).toInt ≤ (cnt ((ma_u (ma_u a 75 3 v) 77 z 2) 77) 512 : Int) := by
    have e : ma_u a 75 3 v 77 = a 77 := ma_u_ne _ _ _ (by decide)
    have w := cnt_u1 (m := ma_u a 75 3 v) (c := 77) (k := z) (x := (2 : Int32)) (n := 512) (by decide)
    rw [e] at w
    omega
  have ro : ∀ c k, c ≠ 75 → c ≠ 76 → c ≠ 77 → (ma_u (ma_u a 75 3 v) 77 z 2) c k = a c k := fun c k w1 w2 w3 => by rw [xu_o (fun y => w3 y.1), xu_o (fun y => w1 y.1)]
  generalize hb : ma_u (ma_u a 75 3 v) 77 z 2 = b at *
  have ob : zOf a b := fun c k w1 w2 w3 => (ro c k w1 w2 w3).symm
  refine ⟨⟨?_, ?_, ?_⟩, ?_, ?_, ?_, ?_, ?_, ?_⟩
  · rw [r3, e1]
    omega
  · rw [r3, r4, e1]
    omega
  · rw [r4]
    exact rc
  · intro j j1 j2
    rw [r3, e1] at j1
    rw [r4] at j2
    rw [r6, ro _ _ (by decide) (by decide) (by decide)]
    have pj := q2 j (by omega) j2
    refine ⟨pj.1, pj.2.1, pj.2.2.1, ?_⟩
    rw [r7 _ ?_]
    · exact pj.2.2.2
    · intro w
      have n3 := q3 (a 75 3).toNatClampNeg j (by omega) (by omega) j2
      rw [hq] at n3
      apply n3
      have cj := tn_cast pj.1
      apply Int32.toInt_inj.mp
      omega
  · intro j j₉ j1 j2 j3
    rw [r3, e1] at j1
    rw [r4] at j3
    rw [r6, r6]
    exact q3 j j₉ (by omega) j2 j3
  · intro x hx hx1
    by_cases w : x = z
    · rw [w, r7t] at hx1
      exact absurd hx1 (by decide)
    · rw [r7 x w] at hx1
      obtain ⟨j, j1, j2, j3⟩ := q4 x hx hx1
      refine ⟨j, ?_, by rw [r4]; exact j2, by rw [r6]; exact j3⟩
      rw [r3, e1]
      by_cases w2 : j = (a 75 3).toNatClampNeg
      · rw [w2, hq] at j3
        exfalso
        apply w
        have := ofN_i hx
        rw [← j3] at this
        omega
      · omega
  · intro x hx
    by_cases w : x = z
    · rw [w, r7t]
      exact Or.inr (Or.inr rfl)
    · rw [r7 x w]
      exact q5 x hx
  · rw [r5]
    exact q6
  · intro x hx
    rw [Of_al ob] at hx
    rw [ro _ _ (by decide) (by decide) (by decide)]
    exact q7 x hx
/-- in the midst of steps: so many more, so many done -/
def qSO (co gr us nr : Nat → Int32) (ga gm : Int32) (aa : Nat → Nat → Int32) (k : Nat) (d : Int) (N : Nat) : Prop := ∃ b, qMQ co gr ga gm us nr b ∧ zOf aa b ∧ zSr k b d N aa
def qSI (co gr us nr : Nat → Int32) (ga gm : Int32) (aa : Nat → Nat → Int32) (n : Nat) (i : Int32) (k : Nat) (d : Int) (N : Nat) : Prop := ∃ b, qMQ co gr ga gm us nr b ∧ zOf aa b ∧ zSr k (aCw b n i) d N aa
theorem SO_0 (h : qMQ co gr ga gm us nr aa) (e : k = N) (hd : d = 0) : qSO co gr us nr ga gm aa k d N := by
  subst e
  exact ⟨aa, h, Of_rf, rfl, by omega⟩
theorem SO_go (h : qSO (m 106) gr us nr ga gm aa k d N) (h1 : qR1 us nr ws at₉ ho aa) (hl : ga.toInt < gm.toInt) (h0 : 0 ≤ ga.toInt) (e : k = k₉ + 1) {d₉ : Int} (hd : d₉ = d + 1) (hg : y = ga + 1) : qSI (ma_u m 106 (gr ga.toNatClampNeg).toNatClampNeg 2 106) gr us nr y gm aa (nr (gr ga.toNatClampNeg).toNatClampNeg).toNatClampNeg 0 k₉ d₉ N := by
  obtain ⟨b, hb, ho2, hz⟩ := h
  obtain ⟨q1, q2, q3, q4, q5⟩ := hb
  have cg := tn_cast h0
  have p := q4 ga.toNatClampNeg (by omega) (by omega)
  have hs := tn_lt p.1.1 p.1.2.1
  have hl2 : (b 75 3).toInt < (b 75 4).toInt := by rw [q1, q2]; exact hl
  have eq : b 76 (b 75 3).toNatClampNeg = nr (gr ga.toNatClampNeg).toNatClampNeg := by rw [q1]; exact p.2
  have h1b := R1_of h1 ho2
  have t := h1b.1 _ hs p.1.2.2
  have z := zSr_go hz e hl2
  rw [aPop_y eq t.1.1 t.1.2 t.2.1] at z
  refine ⟨_, ⟨?_, ?_, fun s hs2 hu2 => ?_, fun j j1 j2 => ?_, WQ_mid q5 hl2 eq⟩, ?_, ?_⟩
  · rw [xu_o (by omega), xu_s, q1, hg]
  · rw [xu_o (by omega), xu_o (by omega), q2]
  · by_cases w : s = (gr ga.toNatClampNeg).toNatClampNeg
    · rw [w, mu_self, xu_s]
    · rw [mu_ne w, xu_o (c := 77) (c₉ := 77) (fun y => w (R1_in h1 hs2 hs hu2 p.1.2.2 y.2)), xu_o (c := 77) (c₉ := 75) (by omega)]
      exact q3 s hs2 hu2
  · rw [hg, i_p1 (by have := i_bd gm; omega)] at j1
    rw [xu_o (c := 76) (c₉ := 77) (by omega), xu_o (c := 76) (c₉ := 75) (by omega)]
    exact q4 j (by omega) j2
  · exact Of_tr ho2 (fun c k w1 w2 w3 => by rw [xu_o (fun y => w3 y.1), xu_o (fun y => w1 y.1)])
  · rw [hd]
    exact z
theorem CW_rf (h : qRB us nr kr kd ws at₉ ho wd wi ow rt wk wl wm nu ro fo le ra pi aa) (o : zOf aa b) (h0 : 0 ≤ s.toInt) (h3 : s.toInt ≤ 3099) (hu : us s.toNatClampNeg ≠ 0) (hi : 0 ≤ i.toInt) (hi2 : i.toInt < (ws s.toNatClampNeg).toInt) (hx : x = zrf kr kd wd s.toNatClampNeg i.toNatClampNeg) : aCw b (nr s.toNatClampNeg).toNatClampNeg i = aCw (aCm b (qNo nr x)) (nr s.toNatClampNeg).toNatClampNeg (i + 1) ∧ qU us x := by
  have hs := tn_lt h0 (by omega)
  have hb := RB_of h o
  have t := hb.1.1 _ hs hu
  have c := tn_cast hi
  have r := hb.2.1 _ hs hu i.toNatClampNeg (by omega)
  rw [ofN_tn hi, ← hx] at r
  refine ⟨?_, r.1⟩
  rw [← r.2.1]
  refine aCw_go ?_
  rw [t.2.2.1, i_p1 (by have := t.2.2.2.2.2.1; omega)]
  omega
theorem SI_push (h : qSI (m 106) (m2 115) us nr ga gm aa (nr s.toNatClampNeg).toNatClampNeg i k d N) (hR : qRB us nr kr kd ws at₉ ho wd wi ow rt wk wl wm nu ro fo le ra pi aa) (h0 : 0 ≤ s.toInt) (h3 : s.toInt ≤ 3099) (hu : us s.toNatClampNeg ≠ 0) (hi : 0 ≤ i.toInt) (hi2 : i.toInt < (ws s.toNatClampNeg).toInt) (hx : x = zrf kr kd wd s.toNatClampNeg i.toNatClampNeg) (hx0 : 0 ≤ x.toInt) (hw : m 106 x.toNatClampNeg = 0) : qSI (ma_u m 106 x.toNatClampNeg 1 106) (ma_u m2 115 gm.toNatClampNeg x 115) us nr ga (gm + 1) aa (nr s.toNatClampNeg).toNatClampNeg (i + 1) k d N := by
  obtain ⟨b, hb, o, hz⟩ := h
  have c := CW_rf hR o h0 h3 hu hi hi2 hx
  have u := U_y c.2 hx0
  rw [c.1] at hz
  exact ⟨_, MQ_push hb (R1_of hR.1 o) hx0 u.1 u.2 hw rfl, Of_tr o cm_of, hz⟩
theorem SI_skip (h : qSI co gr us nr ga gm aa (nr s.toNatClampNeg).toNatClampNeg i k d N) (hR : qRB us nr kr kd ws at₉ ho wd wi ow rt wk wl wm nu ro fo le ra pi aa) (h0 : 0 ≤ s.toInt) (h3 : s.toInt ≤ 3099) (hu : us s.toNatClampNeg ≠ 0) (hi : 0 ≤ i.toInt) (hi2 : i.toInt < (ws s.toNatClampNeg).toInt) (hx : x = zrf kr kd wd s.toNatClampNeg i.toNatClampNeg) (hw : x.toInt < 0 ∨ co x.toNatClampNeg ≠ 0) : qSI co gr us nr ga gm aa (nr s.toNatClampNeg).toNatClampNeg (i + 1) k d N := by
  obtain ⟨b, hb, o, hz⟩ := h
  have c := CW_rf hR o h0 h3 hu hi hi2 hx
  rw [c.1, MQ_skip hb (by
    by_cases z : x.toInt < 0
    · exact Or.inl z
    · have u := U_y c.2 (by omega)
      exact Or.inr ⟨u.1, u.2, hw.elim (fun q => absurd q z) id⟩)] at hz
  exact ⟨b, hb, o, hz⟩
theorem SI_end (h : qSI co gr us nr ga gm aa (nr s.toNatClampNeg).toNatClampNeg i k d N) (hR : qRB us nr kr kd ws at₉ ho wd wi ow rt wk wl wm nu ro fo le ra pi aa) (h0 : 0 ≤ s.toInt) (h3 : s.toInt ≤ 3099) (hu : us s.toNatClampNeg ≠ 0) (hi2 : (ws s.toNatClampNeg).toInt ≤ i.toInt) (e : k = k₉) {d₉ : Int} (hd : d = d₉) : qSO co gr us nr ga gm aa k₉ d₉ N := by
  subst e
  subst hd
  obtain ⟨b, hb, o, hz⟩ := h
  have hs := tn_lt h0 (by omega)
  have t := (R1_of hR.1 o).1 _ hs hu
  rw [aCw_st (by rw [t.2.2.1, i_p1 (by have := t.2.2.2.2.2.1; omega)]; omega)] at hz
  exact ⟨b, hb, o, hz⟩
theorem SO_end (h : qSO co gr us nr ga gm aa k d N) (hl : k = 0 ∨ gm.toInt ≤ ga.toInt) : qMQ co gr ga gm us nr (aSp N aa) ∧ zOf aa (aSp N aa) ∧ d = (aSn N aa : Int) := by
  obtain ⟨b, hb, o, hz⟩ := h
  have z := zSr_st hz (hl.imp id (fun w => by rw [hb.1, hb.2.1]; omega))
  rw [← z.1]
  exact ⟨hb, o, z.2⟩
theorem SI_us (h : qSO co gr us nr ga gm aa k d N) (hl : ga.toInt < gm.toInt) (h0 : 0 ≤ ga.toInt) : us (gr ga.toNatClampNeg).toNatClampNeg ≠ 0 := by
  obtain ⟨b, hb, o, hz⟩ := h
  have cg := tn_cast h0
  exact (hb.2.2.2.1 ga.toNatClampNeg (by omega) (by omega)).1.2.2
/-! ROOTS, WISHES, held ones come -/
def qG2 (co gr us nr : Nat → Int32) (ga gm : Int32) (aa : Nat → Nat → Int32) (i : Int32) (T : Nat → Nat → Int32) : Prop := ∃ b, qMQ co gr ga gm us nr b ∧ zOf aa b ∧ aRo b i = T
def qG3 (co gr us nr : Nat → Int32) (ga gm : Int32) (aa : Nat → Nat → Int32) (i : Int32) (T : Nat → Nat → Int32) : Prop := ∃ b, qMQ co gr ga gm us nr b ∧ zOf aa b ∧ aWi b i = T
def qG5 (co gr us nr : Nat → Int32) (ga gm : Int32) (aa : Nat → Nat → Int32) (i : Int32) (T : Nat → Nat → Int32) : Prop := ∃ b, qMQ co gr ga gm us nr b ∧ zOf aa b ∧ ((i.toInt = -2 ∧ b = T) ∨ (-1 ≤ i.toInt ∧ i.toInt + 1 ≤ (aa 69 6).toInt ∧ aHo b (i + 1) = T))
theorem G2_push (h : qG2 (m 106) (m2 115) us nr ga gm aa i T) (hR : qRB us nr kr kd ws at₉ ho wd wi ow rt wk wl wm nu ro fo le ra pi aa) (hi : 0 ≤ i.toInt) (hi2 : i.toInt < 16) (hx : x = rt i.toNatClampNeg) (hx0 : 0 ≤ x.toInt) (hw : m 106 x.toNatClampNeg = 0) : qG2 (ma_u m 106 x.toNatClampNeg 1 106) (ma_u m2 115 gm.toNatClampNeg x 115) us nr ga (gm + 1) aa (i + 1) T := by
  obtain ⟨b, hb, o, hz⟩ := h
  have c := tn_cast hi
  have r := (RB_of hR o).2.2.1 i.toNatClampNeg (by omega)
  rw [← hx] at r
  have u := U_y r.1 hx0
  rw [aRo_go hi2, r.2] at hz
  exact ⟨_, MQ_push hb (R1_of hR.1 o) hx0 u.1 u.2 hw rfl, Of_tr o cm_of, hz⟩
theorem MQ_sk (hb : qMQ co gr ga gm us nr b) (u : qU us x) (hw : x.toInt < 0 ∨ co x.toNatClampNeg ≠ 0) : aCm b (qNo nr x) = b := MQ_skip hb (by
    by_cases z : x.toInt < 0
    · exact Or.inl z
    · have u := U_y u (by omega)
      exact Or.inr ⟨u.1, u.2, hw.elim (fun q => absurd q z) id⟩)
theorem G2_skip (h : qG2 co gr us nr ga gm aa i T) (hR : qRB us nr kr kd ws at₉ ho wd wi ow rt wk wl wm nu ro fo le ra pi aa) (hi : 0 ≤ i.toInt) (hi2 : i.toInt < 16) (hx : x = rt i.toNatClampNeg) (hw : x.toInt < 0 ∨ co x.toNatClampNeg ≠ 0) : qG2 co gr us nr ga gm aa (i + 1) T := by
  obtain ⟨b, hb, o, hz⟩ := h
  have c := tn_cast hi
  have r := (RB_of hR o).2.2.1 i.toNatClampNeg (by omega)
  rw [← hx] at r
  rw [aRo_go hi2, r.2, MQ_sk hb r.1 hw] at hz
  exact ⟨b, hb, o, hz⟩
theorem G2_end (h : qG2 co gr us nr ga gm aa i T) (hi : 16 ≤ i.toInt) : qG3 co gr us nr ga gm aa 0 T := by
  obtain ⟨b, hb, o, hz⟩ := h
  rw [aRo_st (by omega)] at hz
  exact ⟨b, hb, o, hz⟩
theorem G3_x (hR : qRB us nr kr kd ws at₉ ho wd wi ow rt wk wl wm nu ro fo le ra pi aa) (o : zOf aa b) (hi : 0 ≤ i.toInt) (hi2 : i.toInt < wm.toInt) (hx : x = wl i.toNatClampNeg) : (0 ≤ x.toInt ∧ x.toInt < 3100 ∧ us x.toNatClampNeg ≠ 0) ∧ aWi b i = aWi (aCm b (qNo nr x)) (i + 1) := by
  have c := tn_cast hi
  have r := (RB_of hR o).2.2.2.2.1
  have r2 := r.2 i.toNatClampNeg (by omega)
  rw [← hx] at r2
  refine ⟨r2.1, ?_⟩
  rw [aWi_go (by rw [r.1]; exact hi2), r2.2, No_y r2.1.1]
theorem G3_push (h : qG3 (m 106) (m2 115) us nr ga gm aa i T) (hR : qRB us nr kr kd ws at₉ ho wd wi ow rt wk wl wm nu ro fo le ra pi aa) (hi : 0 ≤ i.toInt) (hi2 : i.toInt < wm.toInt) (hx : x = wl i.toNatClampNeg) (hw : m 106 x.toNatClampNeg = 0) : qG3 (ma_u m 106 x.toNatClampNeg 1 106) (ma_u m2 115 gm.toNatClampNeg x 115) us nr ga (gm + 1) aa (i + 1) T := by
  obtain ⟨b, hb, o, hz⟩ := h
  have r := G3_x hR o hi hi2 hx
  rw [r.2] at hz
  exact ⟨_, MQ_push hb (R1_of hR.1 o) r.1.1 r.1.2.1 r.1.2.2 hw rfl, Of_tr o cm_of, hz⟩
theorem G3_skip (h : qG3 co gr us nr ga gm aa i T) (hR : qRB us nr kr kd ws at₉ ho wd wi ow rt wk wl wm nu ro fo le ra pi aa) (hi : 0 ≤ i.toInt) (hi2 : i.toInt < wm.toInt) (hx : x = wl i.toNatClampNeg) (hw : x.toInt < 0 ∨ co x.toNatClampNeg ≠ 0) : qG3 co gr us nr ga gm aa (i + 1) T := by
  obtain ⟨b, hb, o, hz⟩ := h
  have r := G3_x hR o hi hi2 hx
  rw [r.2, MQ_sk hb (Or.inr r.1.2) hw] at hz
  exact ⟨b, hb, o, hz⟩
theorem G3_end (h : qG3 co gr us nr ga gm aa i T) (hR : qRB us nr kr kd ws at₉ ho wd wi ow rt wk wl wm nu ro fo le ra pi aa) (hI : qI aa) (hi : wm.toInt ≤ i.toInt) : qG5 co gr us nr ga gm aa (-1) T := by
  obtain ⟨b, hb, o, hz⟩ := h
  rw [aWi_st (by rw [(RB_of hR o).2.2.2.2.1.1]; omega)] at hz
  refine ⟨b, hb, o, Or.inr ⟨by decide, ?_, hz⟩⟩
  have := hI.2.2.2.1.1.1
  have e : (-1 : Int32).toInt = -1 := rfl
  omega
/-- the least of those with P -/
def qMin (P : Nat → Prop) (nr : Nat → Int32) (best : Int32) (l : Int) : Prop := (best.toInt < 0 ∧ ∀ t : Nat, (t : Int) < l → ¬ P t) ∨ (0 ≤ best.toInt ∧ best.toInt < 3100 ∧ P best.toNatClampNeg ∧ ∀ t : Nat, (t : Int) < l → P t → (nr best.toNatClampNeg).toInt ≤ (nr t).toInt)
theorem Min_0 {P : Nat → Prop} {l : Int} (h : x.toInt < 0) (hl : l ≤ 0) : qMin P nr x l := Or.inl ⟨h, fun t ht => by omega⟩
theorem Min_skip {P : Nat → Prop} {l : Int} (h : qMin P nr x i.toInt) (h0 : 0 ≤ i.toInt) (e : l = i.toInt + 1) (hn : ¬ P i.toNatClampNeg) : qMin P nr x l := by
  have c := tn_cast h0
  refine h.imp (fun w => ⟨w.1, fun t ht => ?_⟩) (fun w => ⟨w.1, w.2.1, w.2.2.1, fun t ht hp => ?_⟩)
  · by_cases z : t = i.toNatClampNeg
    · rw [z]
      exact hn
    · exact w.2 t (by omega)
  · by_cases z : t = i.toNatClampNeg
    · rw [z] at hp
      exact absurd hp hn
    · exact w.2.2.2 t (by omega) hp
theorem Min_keep {P : Nat → Prop} {l : Int} (h : qMin P nr x i.toInt) (h0 : 0 ≤ i.toInt) (hx : 0 ≤ x.toInt) (e : l = i.toInt + 1) (hn : (nr x.toNatClampNeg).toInt ≤ (nr i.toNatClampNeg).toInt) : qMin P nr x l := by
  have c := tn_cast h0
  rcases h with w | w
  · omega
  · refine Or.inr ⟨w.1, w.2.1, w.2.2.1, fun t ht hp => ?_⟩
    by_cases z : t = i.toNatClampNeg
    · rw [z]
      exact hn
    · exact w.2.2.2 t (by omega) hp
theorem Min_new {P : Nat → Prop} {l : Int} (h : qMin P nr x i.toInt) (h0 : 0 ≤ i.toInt) (h3 : i.toInt < 3100) (e : l = i.toInt + 1) (hp : P i.toNatClampNeg) (hn : x.toInt < 0 ∨ (nr i.toNatClampNeg).toInt < (nr x.toNatClampNeg).toInt) : qMin P nr i l := by
  have c := tn_cast h0
  refine Or.inr ⟨h0, h3, hp, fun t ht hpt => ?_⟩
  by_cases z : t = i.toNatClampNeg
  · rw [z]
    exact Int.le_refl _
  · rcases h with w | w
    · exact absurd hpt (w.2 t (by omega))
    · have q := w.2.2.2 t (by omega) hpt
      rcases hn with q2 | q2
      · omega
      · omega
abbrev qCd (us ho nr : Nat → Int32) (l : Int32) : Nat → Prop := fun t => us t ≠ 0 ∧ 0 < (ho t).toInt ∧ l.toInt < (nr t).toInt
theorem aHo_to : ∀ (k : Nat) (n y : Int32), 0 ≤ n.toInt → y.toInt = n.toInt + (k : Int) → y.toInt ≤ (b 69 6).toInt → (∀ z : Int32, n.toInt ≤ z.toInt → z.toInt < y.toInt → ¬ (0 ≤ z.toInt ∧ z.toInt < 512 ∧ b 126 z.toNatClampNeg ≠ 0 ∧ 0 < (b 133 z.toNatClampNeg).toInt)) → aHo b n = aHo b y := by
  intro k
  induction k with
  | zero =>
    intro n y _ e _ _
    rw [show n = y from Int32.toInt_inj.mp (by omega)]
  | succ k ih =>
    intro n y h0 e h6 hz
    have bd := i_bd y
    have e1 := i_p1 (i := n) (by omega)
    rw [aHo_n (by omega) (hz n (by omega) (by omega))]
    exact ih (n + 1) y (by omega) (by omega) h6 (fun z z1 z2 => hz z (by omega) z2)
theorem G5_no (hR : qRB us nr kr kd ws at₉ ho wd wi ow rt wk wl wm nu ro fo le ra pi aa) (o : zOf aa b) {l : Int32} {v : Int} (hm : ∀ t : Nat, t < 3100 → qCd us ho nr l t → v ≤ (nr t).toInt) {z : Int32} (h1 : l.toInt < z.toInt) (h2 : z.toInt < v) : ¬ (0 ≤ z.toInt ∧ z.toInt < 512 ∧ b 126 z.toNatClampNeg ≠ 0 ∧ 0 < (b 133 z.toNatClampNeg).toInt) := by
  rintro ⟨w0, w1, w2, w3⟩
  have hb := (RB_of hR o).1
  have c := tn_cast w0
  obtain ⟨t, ht, hu, hn⟩ := R1_ex hb (show xAl b z.toNatClampNeg from ⟨by omega, w2⟩)
  have q := hb.1 t ht hu
  rw [hn] at q
  have ct := tn_cast q.1.1
  have := hm t ht ⟨hu, by rw [← q.2.2.2.2.1]; exact w3, by omega⟩
  omega
theorem G5_none (h : qG5 co gr us nr ga gm aa i T) (hR : qRB us nr kr kd ws at₉ ho wd wi ow rt wk wl wm nu ro fo le ra pi aa) (hI : qI aa) (h0 : -1 ≤ i.toInt) (hm : qMin (qCd us ho nr i) nr x 3100) (hx : x.toInt < 0) : qG5 co gr us nr ga gm aa (-2) T := by
  obtain ⟨b, hb, o, hz⟩ := h
  have i4 := hI.2.2.2.1.1
  have e6 : (b 69 6).toInt = (aa 69 6).toInt := by rw [o 69 6 (by decide) (by decide) (by decide)]
  rcases hz with w | w
  · omega
  · have e1 := i_p1 (i := i) (by omega)
    refine ⟨b, hb, o, Or.inl ⟨by decide, ?_⟩⟩
    rw [← w.2.2]
    have st := aHo_to (b := b) ((b 69 6).toInt - (i + 1).toInt).toNat (i + 1) (b 69 6) (by omega) (by omega) (by omega) (fun z z1 z2 => G5_no hR o (v := 600) (fun t ht hc => by
      rcases hm with q | q
      · exact absurd hc (q.2 t (by omega))
      · omega) (by omega) (by omega))
    rw [st, aHo_st (by omega)]
theorem G5_y (hR : qRB us nr kr kd ws at₉ ho wd wi ow rt wk wl wm nu ro fo le ra pi aa) (hI : qI aa) (o : zOf aa b) (h0 : -1 ≤ i.toInt) (hi : i.toInt + 1 ≤ (aa 69 6).toInt) (hm : qMin (qCd us ho nr i) nr x 3100) (hx : 0 ≤ x.toInt) : (x.toInt < 3100 ∧ us x.toNatClampNeg ≠ 0) ∧ (nr x.toNatClampNeg).toInt + 1 ≤ (aa 69 6).toInt ∧ 0 ≤ (nr x.toNatClampNeg).toInt ∧ aHo b (i + 1) = aHo (aCm b (qNo nr x)) (nr x.toNatClampNeg + 1) := by
  have i4 := hI.2.2.2.1.1
  have e6 : (b 69 6).toInt = (aa 69 6).toInt := by rw [o 69 6 (by decide) (by decide) (by decide)]
  rcases hm with q | q
  · omega
  · have e1 := i_p1 (i := i) (by omega)
    have hs := tn_lt hx q.2.1
    have hb := (RB_of hR o).1
    have t := hb.1 _ hs q.2.2.1.1
    have al := R1_al hR.1 hs q.2.2.1.1
    have l6 := (hI.1 _ al).1.1
    have ct := tn_cast t.1.1
    have l3 := q.2.2.1.2.2
    refine ⟨⟨q.2.1, q.2.2.1.1⟩, by omega, t.1.1, ?_⟩
    rw [aHo_to (b := b) ((nr x.toNatClampNeg).toInt - (i + 1).toInt).toNat (i + 1) (nr x.toNatClampNeg) (by omega) (by omega) (by omega) (fun z z1 z2 => G5_no hR o (fun t ht hc => q.2.2.2 t (by omega) hc) (by omega) z2), No_y hx]
    exact aHo_y (by omega) ⟨t.1.1, t.1.2, t.2.1, by rw [t.2.2.2.2.1]; exact q.2.2.1.2.1⟩
theorem G5_push (h : qG5 (m 106) (m2 115) us nr ga gm aa i T) (hR : qRB us nr kr kd ws at₉ ho wd wi ow rt wk wl wm nu ro fo le ra pi aa) (hI : qI aa) (h0 : -1 ≤ i.toInt) (hm : qMin (qCd us ho nr i) nr x 3100) (hx : 0 ≤ x.toInt) (hw : m 106 x.toNatClampNeg = 0) : qG5 (ma_u m 106 x.toNatClampNeg 1 106) (ma_u m2 115 gm.toNatClampNeg x 115) us nr ga (gm + 1) aa (nr x.toNatClampNeg) T := by
  obtain ⟨b, hb, o, hz⟩ := h
  rcases hz with w | w
  · omega
  · have y := G5_y hR hI o h0 w.2.1 hm hx
    refine ⟨_, MQ_push hb (R1_of hR.1 o) hx y.1.1 y.1.2 hw rfl, Of_tr o cm_of, Or.inr ⟨by omega, y.2.1, ?_⟩⟩
    rw [← y.2.2.2]
    exact w.2.2
theorem G5_skip (h : qG5 co gr us nr ga gm aa i T) (hR : qRB us nr kr kd ws at₉ ho wd wi ow rt wk wl wm nu ro fo le ra pi aa) (hI : qI aa) (h0 : -1 ≤ i.toInt) (hm : qMin (qCd us ho nr i) nr x 3100) (hx : 0 ≤ x.toInt) (hw : co x.toNatClampNeg ≠ 0) : qG5 co gr us nr ga gm aa (nr x.toNatClampNeg) T := by
  obtain ⟨b, hb, o, hz⟩ := h
  rcases hz with w | w
  · omega
  · have y := G5_y hR hI o h0 w.2.1 hm hx
    refine ⟨b, hb, o, Or.inr ⟨by omega, y.2.1, ?_⟩⟩
    rw [← w.2.2, y.2.2.2, MQ_sk hb (Or.inr y.1) (Or.inr hw)]
theorem G5_end (h : qG5 co gr us nr ga gm aa i T) (h0 : i.toInt = -2) : qMQ co gr ga gm us nr T ∧ zOf aa T := by
  obtain ⟨b, hb, o, hz⟩ := h
  rcases hz with w | w
  · rw [← w.2]
    exact ⟨hb, o⟩
  · omega
/-! MARKING begins -/
theorem RB_87 (h : qRB us nr kr kd ws at₉ ho wd wi ow rt wk wl wm nu ro fo le ra pi a) : qRB us nr kr kd ws at₉ ho wd wi ow rt wk wl wm nu ro fo le ra pi (ma_u a 87 8 x) := by
  have e : ∀ c, c ≠ 87 → ma_u a 87 8 x c = a c := fun c hc => ma_u_ne _ _ _ hc
  have e2 : ∀ k, k ≠ 8 → ma_u a 87 8 x 87 k = a 87 k := fun k hk => xu_o (fun z => hk z.2)
  have er : ∀ n i, aRef (ma_u a 87 8 x) n i = aRef a n i := fun n i => by
    unfold aRef
    rw [e (1000 + n) (by omega), e 130 (by decide), e 71 (by decide)]
  refine ⟨?_, ?_, ?_, ?_, ?_, ?_, h.2.2.2.2.2.2.1, ?_⟩
  · have q := h.1
    unfold qR1 at q ⊢
    rw [e 126 (by decide), e 128 (by decide), e 130 (by decide), e 133 (by decide)]
    exact q
  · intro s hs hu i hi
    rw [er, e (1000 + (nr s).toNatClampNeg) (by omega)]
    exact h.2.1 s hs hu i hi
  · have q := h.2.2.1
    unfold qR3 at q ⊢
    rw [e 72 (by decide)]
    exact q
  · have q := h.2.2.2.1
    unfold qR3 at q ⊢
    rw [e 73 (by decide)]
    exact q
  · have q := h.2.2.2.2.1
    unfold qR5 at q ⊢
    rw [e 69 (by decide), e 74 (by decide)]
    exact q
  · have q := h.2.2.2.2.2.1
    unfold qR6 at q ⊢
    rw [e 134 (by decide)]
    exact q
  · have q := h.2.2.2.2.2.2.2
    unfold qR8 at q ⊢
    rw [e 69 (by decide), e2 0 (by decide), e2 1 (by decide), e2 2 (by decide), e2 6 (by decide), e2 7 (by decide)]
    exact q
theorem Su_cg (h1 : a 126 = b 126) (h2 : a 128 = b 128) : ∀ n, qSu a n = qSu b n := by
  intro n
  induction n with
  | zero => rfl
  | succ n ih =>
    unfold qSu
    rw [ih, h1, h2]
theorem I_87 (h : qI a) : qI (ma_u a 87 8 x) := by
  have e : ∀ c, c ≠ 87 → ma_u a 87 8 x c = a c := fun c hc => ma_u_ne _ _ _ hc
  have e2 : ∀ k, k ≠ 8 → ma_u a 87 8 x 87 k = a 87 k := fun k hk => xu_o (fun z => hk z.2)
  have al : xAl (ma_u a 87 8 x) = xAl a := by
    funext n
    unfold xAl
    rw [e 126 (by decide)]
  have su := Su_cg (a := ma_u a 87 8 x) (b := a) (e 126 (by decide)) (e 128 (by decide)) 512
  have e8 : qI6 (ma_u a 87 8 x) := fun n hn k => by
    rw [e (1000 + n) (by omega)]
    exact h.2.2.2.2.2 n (by rw [← al]; exact hn) k
  unfold qI qI1 qI2 qI3 qI4 qGd at h ⊢
  rw [al, su, e 69 (by decide), e 128 (by decide), e 130 (by decide), e 71 (by decide), e2 0 (by decide), e2 2 (by decide), e2 6 (by decide)]
  exact ⟨h.1, h.2.1, h.2.2.1, h.2.2.2.1, h.2.2.2.2.1, e8⟩
theorem B0_of : zOf (ma_u a 87 8 1) (aB0 a) := fun c k h1 h2 h3 => by
  unfold aB0
  rw [aRo_o ⟨h1, h2, h3⟩]
  show _ = (if c = 75 ∧ k = 5 then _ else if c = 75 ∧ k = 4 then _ else if c = 75 ∧ k = 3 then _ else if c = 77 ∧ _ then _ else ma_u a 87 8 1 c k)
  rw [if_neg (fun w => h1 w.1), if_neg (fun w => h1 w.1), if_neg (fun w => h1 w.1), if_neg (fun w => h3 w.1)]
theorem Wh_of : zOf a (aWh a 0) := fun c k h1 h2 h3 => by
  show _ = (if c = 75 ∧ k = 5 then _ else if c = 75 ∧ k = 4 then _ else if c = 75 ∧ k = 3 then _ else if c = 77 ∧ _ then _ else a c k)
  rw [if_neg (fun w => h1 w.1), if_neg (fun w => h1 w.1), if_neg (fun w => h1 w.1), if_neg (fun w => h3 w.1)]
theorem MQ_wh (hI : qI a) (h1 : qR1 us nr ws at₉ ho a) (hc : ∀ s, s < 3100 → co s = 0) (hg : ga = 0) (hm : gm = 0) : qMQ co gr ga gm us nr (aWh a 0) := by
  have w := WQ_wh (a := a) (fun x hx => (hI.1 x hx).1.2)
  refine ⟨?_, ?_, fun s hs hu => ?_, fun j j1 j2 => ?_, w.1⟩
  · rw [hg]
    unfold aWh
    rw [xu_o (by omega), xu_o (by omega), xu_s]
  · rw [hm]
    unfold aWh
    rw [xu_o (by omega), xu_s]
  · have al := R1_al h1 hs hu
    rw [hc s hs]
    by_cases z : aWh a 0 77 (nr s).toNatClampNeg = 0
    · exact z.symm
    · exact absurd ⟨al.1, z⟩ (w.2.2 _)
  · rw [hm] at j2
    rw [hg] at j1
    have : (0 : Int32).toInt = 0 := rfl
    omega
end QM

