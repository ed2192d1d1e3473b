/-! from 95.v02 -/
/-! AGES, the reference (written by wip/tools/gen15v.py) -/
/-! AGES, the reference: the end of a minor cleaning -/
section F33
variable {a b c d aa T : Nat → Nat → Int32} {us us₉ nr kr kd ws AT AG at2 at3 ag2 ag3 ho wd wi wi₉ OW ow2 ow3 rt wk wk₉ wl wl₉ kp kp₉ ca ca₉ dt : Nat → Int32} {wm wm₉ nu ro fo le ra pi cat cm cm₉ to to₉ o2 o2₉ tg s x x2 y i l cd : Int32} {st o0 p p2 ot : Int} {j k n f : Nat} {P N : Nat → Int}
theorem gMf_pl : ∀ (f j : Nat) (a : Nat → Nat → Int32), qJg a st ot o0 P N j → (j : Int) + f = (a 75 4).toInt → (∀ k : Nat, j ≤ k → k < j + f → (qYg a (a 76 k).toNatClampNeg → gMf f j a 130 (a 76 k).toNatClampNeg = Int32.ofInt (o0 + zsg P k)) ∧ (¬ qYg a (a 76 k).toNatClampNeg → gMf f j a 130 (a 76 k).toNatClampNeg = Int32.ofInt (st + zsg N k)) ∧ gMf f j a 131 (a 76 k).toNatClampNeg = a 131 (a 76 k).toNatClampNeg + 1) ∧ (∀ n, (∀ k, j ≤ k → k < j + f → (a 76 k).toNatClampNeg ≠ n) → gMf f j a 130 n = a 130 n ∧ gMf f j a 131 n = a 131 n) ∧ (∀ (m : Nat) (i : Int32), xAl a m → 0 ≤ i.toInt → i.toInt < (a 128 m).toInt - 1 → aRef (gMf f j a) m i = aRef a m i) ∧ (∀ c, c ≠ 71 → c ≠ 130 → c ≠ 131 → c ≠ 87 → gMf f j a c = a c) := by
  intro f
  induction f with
  | zero =>
    intro j a h e
    exact ⟨fun k h1 h2 => by omega, fun n _ => ⟨rfl, rfl⟩, fun _ _ _ _ _ => rfl, fun _ _ _ _ _ => rfl⟩
  | succ f ih =>
    intro j a h e
    have nx := Jg_nx h (by omega)
    have hF := h.2.1
    have r76 : gM1 a (a 76 j).toNatClampNeg 76 = a 76 := gM1_r (by decide) (by decide) (by decide) (by decide)
    have r75 : gM1 a (a 76 j).toNatClampNeg 75 = a 75 := gM1_r (by decide) (by decide) (by decide) (by decide)
    have r26 : gM1 a (a 76 j).toNatClampNeg 126 = a 126 := gM1_r (by decide) (by decide) (by decide) (by decide)
    have r28 : gM1 a (a 76 j).toNatClampNeg 128 = a 128 := gM1_r (by decide) (by decide) (by decide) (by decide)
    have r11 : gM1 a (a 76 j).toNatClampNeg 87 11 = a 87 11 := gM1_7 (by decide) (by decide)
    have pp := gM1_p (a := a) (n := (a 76 j).toNatClampNeg)
    have rf : ∀ (m : Nat) (i : Int32), xAl a m → 0 ≤ i.toInt → i.toInt < (a 128 m).toInt - 1 → aRef (gM1 a (a 76 j).toNatClampNeg) m i = aRef a m i := fun m i hm i0 i1 => gM1_rf h.1 nx.2.2.2.2.1 nx.2.2.2.1.1 nx.2.2.2.1.2 nx.2.2.1 hm i0 i1
    have go := Jg_go h (by omega)
    have gr : ∀ c, c ≠ 71 → c ≠ 130 → c ≠ 131 → c ≠ 87 → gM1 a (a 76 j).toNatClampNeg c = a c := fun c h1 h2 h3 h4 => gM1_r h1 h2 h3 h4
    have dis : ∀ k, j < k → (k : Int) < (a 75 4).toInt → (a 76 k).toNatClampNeg ≠ (a 76 j).toNatClampNeg := fun k h1 h2 z => by
      have d := hF.2.1 j k h1 h2
      have g1 := tn_cast (hF.1 j (by omega)).1
      have g2 := tn_cast (hF.1 k h2).1
      exact d (Int32.toInt_inj.mp (by omega))
    rw [gMf_y nx.1]
    obtain ⟨i1, i2, i3, i4⟩ := ih (j + 1) (gM1 a (a 76 j).toNatClampNeg) go (by rw [r75]; omega)
    generalize gM1 a (a 76 j).toNatClampNeg = a1 at *
    rw [r76] at i1 i2
    refine ⟨fun k h1 h2 => ?_, fun n hn => ?_, fun m i hm i0 i9 => ?_, fun c h1 h2 h3 h4 => (i4 c h1 h2 h3 h4).trans (gr c h1 h2 h3 h4)⟩
    · by_cases z : k = j
      · rw [z]
        have q := i2 (a 76 j).toNatClampNeg (fun k h1 h2 => dis k (by omega) (by omega))
        rw [q.1, q.2, pp.1, pp.2.2.1]
        have eO : (a 87 10).toInt = o0 + zsg P j := h.2.2.2.2.2.1.1
        have eT : (a 87 4).toInt = st + zsg N j := h.2.2.2.2.2.2.1.1
        rcases nx.2.2.2.2.2.2.2.2 with w | w
        · refine ⟨fun _ => ?_, fun g => absurd w.1 g, rfl⟩
          rw [w.2.2.2.2, ← eO, Int32.ofInt_toInt]
        · refine ⟨fun g => absurd g w.1, fun _ => ?_, rfl⟩
          rw [w.2.2.2.2.2, ← eT, Int32.ofInt_toInt]
      · have q := i1 k (by omega) (by omega)
        have d := dis k (by omega) (by omega)
        have yg : qYg a1 (a 76 k).toNatClampNeg ↔ qYg a (a 76 k).toNatClampNeg := by
          unfold qYg
          rw [r11, pp.2.2.2 _ d]
        rw [yg, pp.2.2.2 _ d] at q
        exact q
    · have d : n ≠ (a 76 j).toNatClampNeg := fun z => hn j (by omega) (by omega) z.symm
      have q := i2 n (fun k h1 h2 => hn k (by omega) (by omega))
      rw [q.1, q.2, pp.2.1 n d, pp.2.2.2 n d]
      exact ⟨rfl, rfl⟩
    · rw [i3 m i (by unfold xAl; rw [r26]; exact hm) i0 (by rw [r28]; exact i9)]
      exact rf m i hm i0 i9
theorem YB_fin (hB : qYB us nr kr kd ws AT ho wd wi OW rt wk wl wm nu ro fo le ra pi kp ca cat cm at2 ow2 ag2 AG to o2 (2 * (aa 87 9).toInt + (aa 87 5).toInt - (aa 87 3).toInt) (aa 87 10).toInt (gKp aa)) (hC : qCl (aPc (gKp aa))) (hv : qAv aa) (hf : ¬ gFu aa) (hu : qUr wk wk₉ kp 16) (hm : zrm us us₉ kp 3100) (ho₉ : zowr ow2 ow3 us kp at2) : qRB us₉ nr kr kd ws at2 ho wd wi ow3 rt wk₉ wl wm nu ro fo le ra pi (gMf (gMk1 aa 75 4).toInt.toNat 0 (gMk1 aa)) ∧ to = gMf (gMk1 aa 75 4).toInt.toNat 0 (gMk1 aa) 87 4 ∧ o2 = gMf (gMk1 aa 75 4).toInt.toNat 0 (gMk1 aa) 87 10 ∧ ∀ s, s < 3100 → us₉ s ≠ 0 → ag2 s = gMf (gMk1 aa 75 4).toInt.toNat 0 (gMk1 aa) 131 (nr s).toNatClampNeg := by
  have hK := KB_yq hB.2.1 hB.1.1
  have RBp : qRB us nr kr kd ws AT ho wd wi OW rt wk wl wm nu ro fo le ra pi (aPc (gKp aa)) := RB_of hB.1 (fun c₉ k q1 _ q3 => (Pc_o q1 q3).symm)
  have R0 := RB_mv RBp (Kp_I hv).1 hK (CK_of hC RBp hK) (by rw [Pc_5]; decide) hu hm (fun p _ => Or.inl rfl : zowr OW OW us kp AT)
  rw [← Mi_b hv] at R0
  have R1 := RB_of R0 oPc
  have R : qRB us₉ nr kr kd ws AT ho wd wi OW rt wk₉ wl wm nu ro fo le ra pi (gMk1 aa) := RB_87k (RB_87k R1 (by decide) (by decide) (by decide) (by decide) (by decide)) (by decide) (by decide) (by decide) (by decide) (by decide)
  have J := Jg_0 hv hf
  have r87 : ∀ k, k ≠ 3 → k ≠ 4 → gMk1 aa 87 k = aa 87 k := fun k h3 h4 => by
    show ma_u (ma_u (gMk0 aa) 87 3 _) 87 4 _ 87 k = _
    rw [xu_o (fun z => h4 z.2), xu_o (fun z => h3 z.2), Mi_8 ⟨by decide, by decide⟩]
  have rr : ∀ c, c ≠ 87 → gMk1 aa c = gMk0 aa c := fun c hc => by
    show ma_u (ma_u (gMk0 aa) 87 3 _) 87 4 _ c = _
    rw [ma_u_ne _ _ _ hc, ma_u_ne _ _ _ hc]
  have w75 : gMk1 aa 75 = gKp aa 75 := (rr 75 (by decide)).trans (Mi_w (Or.inl rfl))
  have w76 : gMk1 aa 76 = gKp aa 76 := (rr 76 (by decide)).trans (Mi_w (Or.inr (Or.inl rfl)))
  have w77 : gMk0 aa 77 = gKp aa 77 := Mi_w (Or.inr (Or.inr rfl))
  have k87 : gKp aa 87 = aa 87 := Kp_r (by decide) (by decide) (by decide) (by decide) (by decide) (by decide) (by decide)
  have k28 : gKp aa 128 = aa 128 := Kp_r (by decide) (by decide) (by decide) (by decide) (by decide) (by decide) (by decide)
  have k30 : gKp aa 130 = aa 130 := Kp_r (by decide) (by decide) (by decide) (by decide) (by decide) (by decide) (by decide)
  have k31 : gKp aa 131 = aa 131 := Kp_r (by decide) (by decide) (by decide) (by decide) (by decide) (by decide) (by decide)
  have fy := Mi_FY hv
  have hcm : gMk1 aa 75 4 = cm := by rw [w75, hB.2.1.1.2]
  have c0 := YB_b hB
  have fld : ∀ n, xAl (gMk0 aa) n → gMk1 aa 128 n = gKp aa 128 n ∧ gMk1 aa 130 n = gKp aa 130 n ∧ gMk1 aa 131 n = gKp aa 131 n := fun n hn => by
    have q := (Mi_f hv hn).1
    rw [rr 128 (by decide), rr 130 (by decide), rr 131 (by decide), k28, k30, k31]
    exact ⟨q 128 (by decide) (by decide) (by decide), q 130 (by decide) (by decide) (by decide), q 131 (by decide) (by decide) (by decide)⟩
  have qal : ∀ j : Nat, (j : Int) < cm.toInt → xAl (gMk0 aa) (gKp aa 76 j).toNatClampNeg := fun j hj => by
    have g := hB.2.1.2.1.1.1 j (by rw [hB.2.1.1.2]; exact hj)
    have t := tn_cast g.1
    exact (fy.2.1 _ (by omega) (by rw [w77]; exact g.2.2.1)).1
  have gP : ∀ j : Nat, (j : Int) < cm.toInt → gPf (gMk1 aa) j = gPf (gKp aa) j ∧ gNf (gMk1 aa) j = gNf (gKp aa) j ∧ (qYg (gMk1 aa) (gKp aa 76 j).toNatClampNeg ↔ qYg (gKp aa) (gKp aa 76 j).toNatClampNeg) := fun j hj => by
    have q := fld _ (qal j hj)
    unfold gPf gNf qYg
    rw [w76, q.1, q.2.2, r87 11 (by decide) (by decide), k87]
    exact ⟨rfl, rfl, Iff.rfl⟩
  have sP : ∀ j : Nat, (j : Int) ≤ cm.toInt → zsg (gPf (gMk1 aa)) j = zsg (gPf (gKp aa)) j ∧ zsg (gNf (gMk1 aa)) j = zsg (gNf (gKp aa)) j := fun j hj => ⟨sg_cgN j (fun k hk => (gP k (by omega)).1), sg_cgN j (fun k hk => (gP k (by omega)).2.1)⟩
  rw [hcm]
  have F := gMf_pl cm.toInt.toNat 0 (gMk1 aa) J (by rw [hcm]; omega)
  have JJ := gMf_J cm.toInt.toNat 0 (gMk1 aa) J (by rw [hcm]; omega)
  have f7 : ∀ k, k ≠ 4 → k ≠ 10 → gMf cm.toInt.toNat 0 (gMk1 aa) 87 k = gMk1 aa 87 k := fun k h1 h2 => gMf_7 h1 h2 _ _ _
  generalize gMf cm.toInt.toNat 0 (gMk1 aa) = G at *
  obtain ⟨F1, F2, F3, F4⟩ := F
  have nes := fun k ht hut => YP_ne hB.2.2 hB.2.1 hB.1.1 (k := k) ht hut
  have hQ := hB.2.1
  obtain ⟨p1, ⟨p2, p2₉⟩, p3, p4, p5, hA, hF, f5, es, eo⟩ := hB.2.2
  have pos : ∀ s, s < 3100 → us₉ s ≠ 0 → (us s ≠ 0 ∧ kp s ≠ 0) ∧ G 130 (nr s).toNatClampNeg = at2 s ∧ G 131 (nr s).toNatClampNeg = ag2 s := fun s hs hu₉ => by
    have z := ((hm s hs).1 hs).mp hu₉
    refine ⟨z, ?_⟩
    by_cases w : gKp aa 77 (nr s).toNatClampNeg = 0
    · have al := R1_al R1.1 hs hu₉
      have q := F2 (nr s).toNatClampNeg (fun k _ h2 e => by
        have g := hQ.2.1.1.1 k (by rw [hQ.1.2]; omega)
        rw [← w76, e, w] at g
        exact g.2.2.1 rfl)
      have fl := fld _ al
      have e3 := p3 s hs z.1 w
      rw [q.1, q.2, fl.2.1, fl.2.2, e3.1, e3.2, p5 s hs z.1, (hB.1.1.1 s hs z.1).2.2.2.1]
      exact ⟨rfl, rfl⟩
    · obtain ⟨j, hj, et, ej⟩ := YQ_j hQ hB.1.1 hs z.1 w
      have pj := p1 j hj
      have fj := F1 j (by omega) (by omega)
      have gj := gP j hj
      have sj := sP j (by omega)
      have fl := fld _ (qal j hj)
      rw [et] at pj
      rw [w76, gj.2.2, sj.1, sj.2, fl.2.2, ej] at fj
      rw [ej] at pj
      rw [fj.2.2, pj.2.2, p5 s hs z.1]
      refine ⟨?_, rfl⟩
      by_cases g : qYg (gKp aa) (nr s).toNatClampNeg
      · rw [fj.1 g, ← pj.1 g, Int32.ofInt_toInt]
      · rw [fj.2.1 g, ← pj.2.1 g, Int32.ofInt_toInt]
  refine ⟨⟨⟨fun s hs hu₉ => ?_, R.1.2.1, fun n hn h1 => ?_⟩, fun s hs hu₉ i hi => ?_, ?_, ?_, ?_, ?_, fun s hs hu₉ => ?_, ?_⟩, ?_, ?_, fun s hs hu₉ => (pos s hs hu₉).2.2.symm⟩
  · have q := R.1.1 s hs hu₉
    have w := pos s hs hu₉
    rw [F4 126 (by decide) (by decide) (by decide) (by decide), F4 128 (by decide) (by decide) (by decide) (by decide), F4 133 (by decide) (by decide) (by decide) (by decide)]
    exact ⟨q.1, q.2.1, q.2.2.1, w.2.1, q.2.2.2.2.1, q.2.2.2.2.2.1, (nes s hs w.1.1).1⟩
  · rw [F4 126 (by decide) (by decide) (by decide) (by decide)] at h1
    exact R.1.2.2 n hn h1
  · have q := R.2.1 s hs hu₉ i hi
    have g := R.1.1 s hs hu₉
    have sz2 : (gMk1 aa 128 (nr s).toNatClampNeg).toInt = (ws s).toInt + 1 := by
      rw [g.2.2.1]
      exact i_addk rfl (by have := g.2.2.2.2.2.1; omega) (by have := g.2.2.2.2.2.1; omega)
    have ei : (Int32.ofNat i).toInt = (i : Int) := ofN_s (by have := g.2.2.2.2.2.1; omega)
    rw [F3 _ _ (R1_al R.1 hs hu₉) (by omega) (by omega), F4 (1000 + (nr s).toNatClampNeg) (by omega) (by omega) (by omega) (by omega)]
    exact q
  · unfold qR3
    rw [F4 72 (by decide) (by decide) (by decide) (by decide)]
    exact R.2.2.1
  · unfold qR3
    rw [F4 73 (by decide) (by decide) (by decide) (by decide)]
    exact R.2.2.2.1
  · unfold qR5
    rw [F4 69 (by decide) (by decide) (by decide) (by decide), F4 74 (by decide) (by decide) (by decide) (by decide)]
    exact R.2.2.2.2.1
  · unfold qR6
    rw [F4 134 (by decide) (by decide) (by decide) (by decide)]
    exact R.2.2.2.2.2.1
  · have w := pos s hs hu₉
    have o2 := p4 s hs w.1.1
    have nb := nes s hs w.1.1
    have t := tn_cast (x := at2 s) nb.1
    rcases ho₉ (at2 s).toNatClampNeg (by omega) with g | ⟨_, t, ht, hut, hkt, hat⟩
    · rw [g]
      exact o2
    · have o3 := p4 t ht hut
      have e3 : (at2 t).toNatClampNeg = (at2 s).toNatClampNeg := by
        have t2 := tn_cast (x := at2 t) (by omega)
        omega
      rw [e3, o2] at o3
      have e4 := congrArg Int32.toInt o3
      rw [ofN_s hs, ofN_s ht] at e4
      exact absurd hkt (by rw [show t = s from by omega]; exact w.1.2)
  · unfold qR8
    rw [F4 69 (by decide) (by decide) (by decide) (by decide), f7 0 (by decide) (by decide), f7 1 (by decide) (by decide), f7 2 (by decide) (by decide), f7 6 (by decide) (by decide), f7 7 (by decide) (by decide)]
    exact R.2.2.2.2.2.2.2
  · have e := JJ.2.2.2.2.2.2.1.1
    rw [Nat.zero_add, (sP _ (by omega)).2] at e
    exact Int32.toInt_inj.mp (by rw [e, p2])
  · have e := JJ.2.2.2.2.2.1.1
    rw [Nat.zero_add, (sP _ (by omega)).1] at e
    exact Int32.toInt_inj.mp (by rw [e, p2₉])
end F33

/-! from 95.v03 -/
/-! AGES, the reference (written by wip/tools/gen15v.py) -/
/-! AGES, the reference: its fields, ages, what grows OLD, dirty cards found, the major cleaning -/
def qAL (a : Nat → Nat → Int32) (yo ol ag cd tp ot hf : Int32) : Prop := (a 87 5 = yo ∧ a 87 9 = ol ∧ a 87 11 = ag ∧ a 87 12 = cd) ∧ a 87 4 = tp ∧ a 87 10 = ot ∧ (hf.toInt = 0 ∨ hf.toInt = 1) ∧ (hf.toInt = 0 → (a 87 3).toInt = ol.toInt) ∧ (hf.toInt = 1 → (a 87 3).toInt = ol.toInt + yo.toInt)
def qAg (us nr gs : Nat → Int32) (a : Nat → Nat → Int32) : Prop := ∀ s, s < 3100 → us s ≠ 0 → gs s = a 131 (nr s).toNatClampNeg
/-- the word i of s, an OLD one's, refers to a YOUNG one and lies on card k -/
def qDs (us ws at₉ kr kd wd : Nat → Int32) (ol cd : Int32) (s i k : Nat) : Prop := us s ≠ 0 ∧ (at₉ s).toInt < ol.toInt ∧ (i : Int) < (ws s).toInt ∧ 0 ≤ (zrf kr kd wd s i).toInt ∧ ol.toInt ≤ (at₉ (zrf kr kd wd s i).toNatClampNeg).toInt ∧ ((at₉ s).toInt + 1 + (i : Int)) / cd.toInt = (k : Int)
def qDo (us ws at₉ kr kd wd : Nat → Int32) (ol cd : Int32) (dt : Nat → Int32) (l : Nat) : Prop := ∀ k, k < 512 → (dt k ≠ 0 ↔ ∃ s i, s < l ∧ qDs us ws at₉ kr kd wd ol cd s i k)
def qDj (us ws at₉ kr kd wd : Nat → Int32) (ol cd : Int32) (dt : Nat → Int32) (l j : Nat) : Prop := ∀ k, k < 512 → (dt k ≠ 0 ↔ (∃ s i, s < l ∧ qDs us ws at₉ kr kd wd ol cd s i k) ∨ ∃ i, i < j ∧ qDs us ws at₉ kr kd wd ol cd l i k)
section F34
variable {a b c d aa : Nat → Nat → Int32} {us us₉ nr kr kd ws at₉ at2 gs ho wd wi ow ow2 rt wk wl dt dt2 : Nat → Int32} {wm nu ro fo le ra pi yo ol ag cd tp ot ot2 hf x x2 v : Int32} {F G : Nat → Int} {j j2 k n l l2 : Nat}
theorem Sl_sum (h : qR1 us nr ws at₉ ho a) (F : Nat → Int) : ∀ N : Nat, N ≤ 512 → zsg (fun s => if us s ≠ 0 ∧ (nr s).toInt < (N : Int) then F (nr s).toNatClampNeg else 0) 3100 = zsg (fun n => if a 126 n ≠ 0 then F n else 0) N := by
  intro N
  induction N with
  | zero =>
    intro _
    refine sg_0 _ (fun k hk => if_neg (fun z => ?_))
    have q := (h.1 k hk z.1).1
    omega
  | succ N ih =>
    intro hN
    have e : zsg (fun s => if us s ≠ 0 ∧ (nr s).toInt < ((N + 1 : Nat) : Int) then F (nr s).toNatClampNeg else 0) 3100 = zsg (fun s => (if us s ≠ 0 ∧ (nr s).toInt < (N : Int) then F (nr s).toNatClampNeg else 0) + (if us s ≠ 0 ∧ (nr s).toInt = (N : Int) then F (nr s).toNatClampNeg else 0)) 3100 := by
      refine sg_cg _ (fun k hk => ?_)
      by_cases c1 : us k ≠ 0 ∧ (nr k).toInt < (N : Int)
      · rw [if_pos ⟨c1.1, by omega⟩, if_pos c1, if_neg (fun z => by omega), Int.add_zero]
      · rw [if_neg c1, Int.zero_add]
        by_cases c2 : us k ≠ 0 ∧ (nr k).toInt = (N : Int)
        · rw [if_pos ⟨c2.1, by omega⟩, if_pos c2]
        · rw [if_neg (fun z => ?_), if_neg c2]
          by_cases c3 : (nr k).toInt = (N : Int)
          · exact c2 ⟨z.1, c3⟩
          · exact c1 ⟨z.1, by omega⟩
    have key : zsg (fun s => if us s ≠ 0 ∧ (nr s).toInt = (N : Int) then F (nr s).toNatClampNeg else 0) 3100 = if a 126 N ≠ 0 then F N else 0 := by
      by_cases w : a 126 N ≠ 0
      · obtain ⟨s, h1, h2, h3⟩ := h.2.2 N (by omega) w
        have nn : (nr s).toInt = (N : Int) := by
          rw [h3]
          exact Int32.toInt_ofNat_of_lt (by omega)
        have tn : (nr s).toNatClampNeg = N := by
          have := tn_cast (x := nr s) (by omega)
          omega
        rw [if_pos w, sg_1 3100 s h1 (fun j hj hne => if_neg (fun z => ?_)), if_pos ⟨h2, nn⟩, tn]
        exact hne (h.2.1 j s hj h1 z.1 h2 (Int32.toInt_inj.mp (by rw [z.2, nn])))
      · rw [if_neg w]
        refine sg_0 _ (fun s hk => if_neg (fun z => w ?_))
        have q := h.1 s hk z.1
        have tn : (nr s).toNatClampNeg = N := by
          have := tn_cast (x := nr s) (by omega)
          omega
        rw [tn] at q
        exact q.2.1
    have e9 : zsg (fun n => if a 126 n ≠ 0 then F n else 0) (N + 1) = zsg (fun n => if a 126 n ≠ 0 then F n else 0) N + (if a 126 N ≠ 0 then F N else 0) := rfl
    rw [e, sg_ad, key, ih (by omega), e9]
theorem sm_sg {bb : Nat → Bool} : ∀ n, sm bb ws n = zsg (fun s => if bb s = true then (ws s).toInt + 1 else 0) n := by
  intro n
  induction n with
  | zero => rfl
  | succ n ih =>
    show sm bb ws n + _ = zsg _ n + _
    rw [ih]
theorem OF_e (hR : qR1 us nr ws at₉ ho a) (hv : qAv a) (hL : qAL a yo ol ag cd tp ot hf) (hg : qAg us nr gs a) : sm (zbG us at₉ ol gs ag) ws 3100 = gGr a 512 := by
  have s := Sl_sum hR (fun n => if (a 87 9).toInt ≤ (a 130 n).toInt ∧ (a 87 11).toInt ≤ (a 131 n).toInt + 1 then (a 128 n).toInt else 0) 512 (Nat.le_refl _)
  have e1 : gGr a 512 = zsg (fun n => if a 126 n ≠ 0 then (if (a 87 9).toInt ≤ (a 130 n).toInt ∧ (a 87 11).toInt ≤ (a 131 n).toInt + 1 then (a 128 n).toInt else 0) else 0) 512 := by
    rw [Gr_sg]
    refine sg_cg _ (fun n hn => ?_)
    by_cases w : a 126 n ≠ 0
    · rw [if_pos w]
      by_cases v : (a 87 9).toInt ≤ (a 130 n).toInt ∧ (a 87 11).toInt ≤ (a 131 n).toInt + 1
      · rw [if_pos v, if_pos ⟨w, v⟩]
      · rw [if_neg v, if_neg (fun z => v z.2)]
    · rw [if_neg w, if_neg (fun z => w z.1)]
  rw [e1, ← s, sm_sg]
  refine sg_cg _ (fun k hk => ?_)
  by_cases u : us k ≠ 0
  · have q := hR.1 k hk u
    have al := R1_al hR hk u
    have a1 := (Av_0 hv).2.2.2.2.2.2 _ al
    have a3 := (Av_0 hv).2.2.1
    have g := hg k hk u
    have n5 := q.1.2
    rw [if_pos (show us k ≠ 0 ∧ (nr k).toInt < ((512 : Nat) : Int) from ⟨u, by omega⟩)]
    have sz : (a 128 (nr k).toNatClampNeg).toInt = (ws k).toInt + 1 := by
      rw [q.2.2.1]
      exact i_addk rfl (by have := q.2.2.2.2.2.1; omega) (by have := q.2.2.2.2.2.1; omega)
    have e2 : (a 131 (nr k).toNatClampNeg + (1 : Int32)).toInt = (a 131 (nr k).toNatClampNeg).toInt + 1 := i_p1 (by have := a1.1; omega)
    have iff : zbG us at₉ ol gs ag k = true ↔ (a 87 9).toInt ≤ (a 130 (nr k).toNatClampNeg).toInt ∧ (a 87 11).toInt ≤ (a 131 (nr k).toNatClampNeg).toInt + 1 := by
      unfold zbG
      rw [decide_eq_true_iff, ← hL.1.2.1, ← hL.1.2.2.1, g, ← q.2.2.2.1]
      refine ⟨fun z => ⟨z.2.1, ?_⟩, fun z => ⟨u, z.1, ?_⟩⟩
      · have := congrArg Int32.toInt z.2.2
        omega
      · have := (a1.2.2 z.1).2.1
        exact Int32.toInt_inj.mp (by omega)
    by_cases w : zbG us at₉ ol gs ag k = true
    · rw [if_pos w, if_pos (iff.mp w), sz]
    · rw [if_neg w, if_neg (fun z => w (iff.mpr z))]
  · rw [if_neg (show ¬ zbG us at₉ ol gs ag k = true from fun z => by
      unfold zbG at z
      rw [decide_eq_true_iff] at z
      exact u z.1), if_neg (fun z => u z.1)]
theorem OF_y (hR : qR1 us nr ws at₉ ho a) (hv : qAv a) (hL : qAL a yo ol ag cd tp ot hf) (hg : qAg us nr gs a) {y : Int} (h : y = sm (zbG us at₉ ol gs ag) ws 3100) : gFu a ↔ ol.toInt - ot.toInt < y := by
  unfold gFu
  rw [h, OF_e hR hv hL hg, hL.1.2.1, hL.2.2.1]
  omega
/-! dirty cards -/
theorem gWk_i : ∀ m : Nat, gWk a k n m ≠ 0 ↔ ∃ i : Nat, i < m ∧ gRw a n (Int32.ofNat i) ∧ 0 < (a 87 12).toInt ∧ gCx a n (i : Int) = (k : Int) := by
  intro m
  induction m with
  | zero => exact ⟨fun z => absurd rfl z, fun z => by obtain ⟨i, hi, _⟩ := z; omega⟩
  | succ m ih =>
    show (if _ then (1 : Int32) else gWk a k n m) ≠ 0 ↔ _
    by_cases w : (0 ≤ (aRef a n (Int32.ofNat m)).toInt ∧ (aRef a n (Int32.ofNat m)).toInt < 512 ∧ a 126 (aRef a n (Int32.ofNat m)).toNatClampNeg ≠ 0 ∧ (a 87 9).toInt ≤ (a 130 (aRef a n (Int32.ofNat m)).toNatClampNeg).toInt) ∧ 0 < (a 87 12).toInt ∧ gCx a n (m : Int) = (k : Int)
    · rw [if_pos w]
      exact ⟨fun _ => ⟨m, by omega, w.1, w.2⟩, fun _ => by decide⟩
    · rw [if_neg w, ih]
      refine ⟨fun ⟨i, h1, h2⟩ => ⟨i, by omega, h2⟩, fun ⟨i, h1, h2⟩ => ⟨i, ?_, h2⟩⟩
      by_cases z : i = m
      · rw [z] at h2
        exact absurd h2 w
      · omega
theorem gNk_i : ∀ N : Nat, gNk a k N ≠ 0 ↔ ∃ n : Nat, n < N ∧ (a 126 n ≠ 0 ∧ (a 130 n).toInt < (a 87 9).toInt) ∧ ∃ i : Nat, i < ((a 128 n).toInt - 1).toNat ∧ gRw a n (Int32.ofNat i) ∧ 0 < (a 87 12).toInt ∧ gCx a n (i : Int) = (k : Int) := by
  intro N
  induction N with
  | zero => exact ⟨fun z => absurd rfl z, fun z => by obtain ⟨i, hi, _⟩ := z; omega⟩
  | succ N ih =>
    show (if (a 126 N ≠ 0 ∧ (a 130 N).toInt < (a 87 9).toInt) ∧ gWk a k N ((a 128 N).toInt - 1).toNat ≠ 0 then (1 : Int32) else gNk a k N) ≠ 0 ↔ _
    by_cases w : (a 126 N ≠ 0 ∧ (a 130 N).toInt < (a 87 9).toInt) ∧ gWk a k N ((a 128 N).toInt - 1).toNat ≠ 0
    · rw [if_pos w]
      exact ⟨fun _ => ⟨N, by omega, w.1, (gWk_i _).mp w.2⟩, fun _ => by decide⟩
    · rw [if_neg w, ih]
      refine ⟨fun ⟨i, h1, h2⟩ => ⟨i, by omega, h2⟩, fun ⟨i, h1, h2⟩ => ⟨i, ?_, h2⟩⟩
      by_cases z : i = N
      · rw [z] at h2
        exact absurd ⟨h2.1, (gWk_i _).mpr h2.2⟩ w
      · omega
theorem Do_0 (h : ∀ k, k < 512 → dt k = 0) : qDo us ws at₉ kr kd wd ol cd dt 0 := fun k hk => ⟨fun z => absurd (h k hk) z, fun ⟨_, _, z, _⟩ => by omega⟩
theorem Do_sk (h : qDo us ws at₉ kr kd wd ol cd dt l) (hn : us l = 0 ∨ ol.toInt ≤ (at₉ l).toInt) (e : l2 = l + 1) : qDo us ws at₉ kr kd wd ol cd dt l2 := fun k hk => by
  rw [h k hk, e]
  refine ⟨fun ⟨s, i, h1, h2⟩ => ⟨s, i, by omega, h2⟩, fun ⟨s, i, h1, h2⟩ => ⟨s, i, ?_, h2⟩⟩
  by_cases z : s = l
  · rw [z] at h2
    rcases hn with w | w
    · exact absurd w h2.1
    · have := h2.2.1
      omega
  · omega
theorem Dj_0 (h : qDo us ws at₉ kr kd wd ol cd dt l) : qDj us ws at₉ kr kd wd ol cd dt l 0 := fun k hk => (h k hk).trans ⟨Or.inl, fun z => z.elim id (fun ⟨_, w, _⟩ => by omega)⟩
theorem Dj_no (h : qDj us ws at₉ kr kd wd ol cd dt l j) (hn : (zrf kr kd wd l j).toInt < 0 ∨ (at₉ (zrf kr kd wd l j).toNatClampNeg).toInt < ol.toInt) (e : j2 = j + 1) : qDj us ws at₉ kr kd wd ol cd dt l j2 := fun k hk => by
  rw [h k hk, e]
  refine or_congr Iff.rfl ⟨fun ⟨i, h1, h2⟩ => ⟨i, by omega, h2⟩, fun ⟨i, h1, h2⟩ => ⟨i, ?_, h2⟩⟩
  by_cases z : i = j
  · rw [z] at h2
    have h3 := h2.2.2.2.1
    have h4 := h2.2.2.2.2.1
    omega
  · omega
theorem Dj_ye (h : qDj us ws at₉ kr kd wd ol cd dt l j) (h1 : us l ≠ 0) (h2 : (at₉ l).toInt < ol.toInt) (h3 : (j : Int) < (ws l).toInt) (h4 : 0 ≤ (zrf kr kd wd l j).toInt) (h5 : ol.toInt ≤ (at₉ (zrf kr kd wd l j).toNatClampNeg).toInt) (h6 : ((at₉ l).toInt + 1 + (j : Int)) / cd.toInt = (n : Int)) (hd : ∀ k, dt2 k = if k = n then 1 else dt k) (e : j2 = j + 1) : qDj us ws at₉ kr kd wd ol cd dt2 l j2 := fun k hk => by
  have ds : qDs us ws at₉ kr kd wd ol cd l j n := ⟨h1, h2, h3, h4, h5, h6⟩
  rw [hd k, e]
  by_cases w : k = n
  · rw [if_pos w, w]
    exact ⟨fun _ => Or.inr ⟨j, by omega, ds⟩, fun _ => by decide⟩
  · rw [if_neg w, h k hk]
    refine or_congr Iff.rfl ⟨fun ⟨i, h1, h2⟩ => ⟨i, by omega, h2⟩, fun ⟨i, h7, h8⟩ => ⟨i, ?_, h8⟩⟩
    by_cases z : i = j
    · rw [z] at h8
      have h9 := h8.2.2.2.2.2
      omega
    · omega
theorem Dj_e (h : qDj us ws at₉ kr kd wd ol cd dt l j) (hj : ¬ (j : Int) < (ws l).toInt) (e : l2 = l + 1) : qDo us ws at₉ kr kd wd ol cd dt l2 := fun k hk => by
  rw [h k hk, e]
  refine ⟨fun z => ?_, fun ⟨s, i, h1, h2⟩ => ?_⟩
  · rcases z with ⟨s, i, h1, h2⟩ | ⟨i, h1, h2⟩
    · exact ⟨s, i, by omega, h2⟩
    · exact ⟨l, i, by omega, h2⟩
  · by_cases z : s = l
    · rw [z] at h2
      exact Or.inr ⟨i, by have := h2.2.2.1; omega, h2⟩
    · exact Or.inl ⟨s, i, by omega, h2⟩
theorem Do_end (h : qDo us ws at₉ kr kd wd ol cd dt 3100) (hR : qRB us nr kr kd ws at₉ ho wd wi ow rt wk wl wm nu ro fo le ra pi a) (h9 : a 87 9 = ol) (h12 : a 87 12 = cd) (hc : 4 ≤ cd.toInt) : qDt dt (gFd a) := fun k hk => by
  have e : gFd a 83 k = gNk a k 512 := if_pos ⟨rfl, hk⟩
  rw [e, h k (by omega), gNk_i]
  constructor
  · rintro ⟨s, i, hs, u, o, iw, r0, ry, cx⟩
    have q := hR.1.1 s hs u
    have al := R1_al hR.1 hs u
    have rr := hR.2.1 s hs u i iw
    have sz : (a 128 (nr s).toNatClampNeg).toInt = (ws s).toInt + 1 := by
      rw [q.2.2.1]
      exact i_addk rfl (by have := q.2.2.2.2.2.1; omega) (by have := q.2.2.2.2.2.1; omega)
    have ut := U_y rr.1 r0
    have tl := tn_lt r0 ut.1
    have t := hR.1.1 _ tl ut.2
    have e2 := rr.2.1
    rw [No_y r0] at e2
    refine ⟨(nr s).toNatClampNeg, al.1, ⟨al.2, by rw [q.2.2.2.1, h9]; exact o⟩, i, by omega, ?_, by rw [h12]; omega, ?_⟩
    · unfold gRw
      rw [e2]
      exact ⟨t.1.1, t.1.2, t.2.1, by rw [t.2.2.2.1, h9]; exact ry⟩
    · unfold gCx
      rw [q.2.2.2.1, h12]
      exact cx
  · rintro ⟨n, hn, ⟨a1, a2⟩, i, iw, rw1, c0, cx⟩
    obtain ⟨s, hs, u, e1⟩ := R1_ex hR.1 ⟨hn, a1⟩
    have q := hR.1.1 s hs u
    rw [e1] at q
    have sz : (a 128 n).toInt = (ws s).toInt + 1 := by
      rw [q.2.2.1]
      exact i_addk rfl (by have := q.2.2.2.2.2.1; omega) (by have := q.2.2.2.2.2.1; omega)
    have rr := hR.2.1 s hs u i (by omega)
    rw [e1] at rr
    have r0 : 0 ≤ (zrf kr kd wd s i).toInt := by
      by_cases z : (zrf kr kd wd s i).toInt < 0
      · have e2 := rr.2.1
        rw [No_n z] at e2
        have w := rw1.1
        rw [e2] at w
        exact absurd w (by decide)
      · omega
    have ut := U_y rr.1 r0
    have tl := tn_lt r0 ut.1
    have t := hR.1.1 _ tl ut.2
    have e2 := rr.2.1
    rw [No_y r0] at e2
    refine ⟨s, i, hs, u, by rw [← q.2.2.2.1, ← h9]; exact a2, by omega, r0, ?_, ?_⟩
    · have w := rw1.2.2.2
      rw [e2, t.2.2.2.1, h9] at w
      exact w
    · unfold gCx at cx
      rw [q.2.2.2.1, h12] at cx
      exact cx
/-! rows -/
theorem RB_83 (h : qRB us nr kr kd ws at₉ ho wd wi ow rt wk wl wm nu ro fo le ra pi a) (e : ∀ c, c ≠ 83 → b c = a c) : qRB us nr kr kd ws at₉ ho wd wi ow rt wk wl wm nu ro fo le ra pi b := by
  have rf : ∀ n i, aRef b n i = aRef a n i := fun n i => rf_cg (e _ (by omega)) (e _ (by decide)) (e _ (by decide))
  obtain ⟨h1, h2, h3, h4, h5, h6, h7, h8⟩ := h
  refine ⟨?_, fun s hs hu i hi => ?_, ?_, ?_, ?_, ?_, h7, ?_⟩
  · unfold qR1 at h1 ⊢
    rw [e 126 (by decide), e 128 (by decide), e 130 (by decide), e 133 (by decide)]
    exact h1
  · rw [rf, e (1000 + (nr s).toNatClampNeg) (by omega)]
    exact h2 s hs hu i hi
  · unfold qR3 at h3 ⊢
    rw [e 72 (by decide)]
    exact h3
  · unfold qR3 at h4 ⊢
    rw [e 73 (by decide)]
    exact h4
  · unfold qR5 at h5 ⊢
    rw [e 69 (by decide), e 74 (by decide)]
    exact h5
  · unfold qR6 at h6 ⊢
    rw [e 134 (by decide)]
    exact h6
  · unfold qR8 at h8 ⊢
    rw [e 69 (by decide), e 87 (by decide)]
    exact h8
theorem RB_fd (h : qRB us nr kr kd ws at₉ ho wd wi ow rt wk wl wm nu ro fo le ra pi a) : qRB us nr kr kd ws at₉ ho wd wi ow rt wk wl wm nu ro fo le ra pi (gFd a) := RB_83 h (fun c hc => Fd_r hc)
theorem Ma_rw (h1 : n ≠ 83) (h2 : n ≠ 71) (h3 : n ≠ 130) (h4 : n ≠ 87) : gMa a n = aSw a n := funext (fun k => by
  show gFd _ n k = _
  rw [Fd_r h1, ma_u_ne _ _ _ h4]
  exact Sf_r h2 h3 _ _ _ _)
theorem Ma_87 (h : k ≠ 10) : gMa a 87 k = a 87 k := by
  show gFd _ 87 k = _
  rw [Fd_r (by decide), xu_o (fun z => h z.2)]
  exact (Sf_r (by decide) (by decide) _ _ _ _).trans sw_87
theorem Ag_ma (hg : qAg us nr gs a) (hv : qAv a) (hR : qR1 us₉ nr ws at₉ ho (gMa a)) (hu : ∀ s, s < 3100 → us₉ s ≠ 0 → us s ≠ 0) : qAg us₉ nr gs (gMa a) := fun s hs u => by
  have al := R1_al hR hs u
  have al2 : xAl (aSw a) (nr s).toNatClampNeg := by
    unfold xAl at al ⊢
    rw [Ma_rw (by decide) (by decide) (by decide) (by decide)] at al
    exact al
  rw [Ma_rw (by decide) (by decide) (by decide) (by decide), sw_f hv.1 al2 (by decide) (by decide) (by decide)]
  exact hg s hs (hu s hs u)
theorem AL_ma (h : qAL a yo ol ag cd tp ot hf) (hv : qAv a) (ho : v.toInt = (gSd a).2) : qAL (gMa a) yo ol ag cd tp v hf := by
  obtain ⟨⟨h1, h2, h3, h4⟩, h5, h6, h7⟩ := h
  have e10 : gMa a 87 10 = v := by
    show gFd _ 87 10 = _
    rw [Fd_r (by decide), xu_s, ← ho, Int32.ofInt_toInt]
  exact ⟨⟨(Ma_87 (by decide)).trans h1, (Ma_87 (by decide)).trans h2, (Ma_87 (by decide)).trans h3, (Ma_87 (by decide)).trans h4⟩, (Ma_87 (by decide)).trans h5, e10, by rw [Ma_87 (by decide)]; exact h7⟩
theorem AL_b (h : qAL a yo ol ag cd tp ot hf) (hv : qAv a) : (0 ≤ yo.toInt ∧ yo.toInt ≤ 1500) ∧ (0 ≤ ol.toInt ∧ ol.toInt ≤ 1500) ∧ (1 ≤ ag.toInt ∧ ag.toInt ≤ 1000) ∧ 4 ≤ cd.toInt ∧ (0 ≤ ot.toInt ∧ ot.toInt ≤ ol.toInt) ∧ (0 ≤ tp.toInt ∧ tp.toInt ≤ 4500) := by
  obtain ⟨⟨h1, h2, h3, h4⟩, h5, h6, h7⟩ := h
  obtain ⟨hI, g2, nm, hs, ht, hO, ha⟩ := Av_0 hv
  rw [← h1, ← h2, ← h3, ← h4, ← h5, ← h6]
  omega
theorem Ma_h (hl : x.toInt = (a 87 9).toInt) (hv : qEq v.toInt (zSd (aSw a) x.toInt 0 0).2) : ma_u (zSd (aSw a) x.toInt 0 0).1 87 10 v = ma_u (gSd a).1 87 10 (Int32.ofInt (gSd a).2) ∧ v.toInt = (gSd a).2 := by
  have e : zSd (aSw a) x.toInt 0 0 = gSd a := by
    unfold gSd
    rw [hl]
  have ve := qE hv
  rw [e] at ve ⊢
  rw [← ve, Int32.ofInt_toInt]
  exact ⟨rfl, rfl⟩
end F34

/-! from 95.v04 -/
/-! AGES, the reference (written by wip/tools/gen15v.py) -/
/-! AGES, the reference: the fields through a walk -/
def qAX (a : Nat → Nat → Int32) (yo ol ag cd : Int32) : Prop := a 87 5 = yo ∧ a 87 9 = ol ∧ a 87 11 = ag ∧ a 87 12 = cd
section F35
variable {a b c d aa T : Nat → Nat → Int32} {yo ol ag cd x y i l : Int32} {n m k f : Nat} {e p : Int}
theorem AX_cg (h : qAX a yo ol ag cd) (e : b 87 = a 87) : qAX b yo ol ag cd := by
  unfold qAX at h ⊢
  rw [e]
  exact h
theorem cwf_o (h : n ≠ 75 ∧ n ≠ 76 ∧ n ≠ 77) : ∀ (f : Nat) (i : Int32) (a : Nat → Nat → Int32), aCwf m f i a n k = a n k := by
  intro f
  induction f with
  | zero => intro i a; rfl
  | succ f ih =>
    intro i a
    show aCwf m f (i + 1) (aCm a _) n k = a n k
    rw [ih, aCm_o h]
theorem AX_sw (h : qAX aa yo ol ag cd) (hT : aSp f (aCw c m i) = aSp 512 aa) : qAX c yo ol ag cd := by
  have e1 : aSp f (aCw c m i) 87 = c 87 := funext (fun k => (aSp_o ⟨by decide, by decide, by decide⟩ _ _).trans (cwf_o ⟨by decide, by decide, by decide⟩ _ _ _))
  have e2 : aSp 512 aa 87 = aa 87 := funext (fun k => aSp_o ⟨by decide, by decide, by decide⟩ _ _)
  exact AX_cg h (by rw [← e1, hT, e2])
theorem AX_ro (h : qAX aa yo ol ag cd) (hT : aRo c i = aRo (aWh aa x) 0) : qAX c yo ol ag cd := by
  have e1 : aRo c i 87 = c 87 := funext (fun k => aRo_o ⟨by decide, by decide, by decide⟩)
  have e2 : aRo (aWh aa x) 0 87 = aa 87 := funext (fun k => (aRo_o ⟨by decide, by decide, by decide⟩).trans (wh_of 87 k (by decide) (by decide) (by decide)).symm)
  exact AX_cg h (by rw [← e1, hT, e2])
theorem AX_cm (h : qAX c yo ol ag cd) : qAX (aCm c y) yo ol ag cd := AX_cg h (funext (fun k => aCm_o ⟨by decide, by decide, by decide⟩))
theorem AX_gr (h : qAX c yo ol ag cd) : qAX (aGr c y) yo ol ag cd := AX_cg h (gr_r (by decide) (by decide) (by decide) (by decide))
theorem hf_o (h : n ≠ 75 ∧ n ≠ 76 ∧ n ≠ 77) : ∀ (f : Nat) (i : Int32) (a : Nat → Nat → Int32), aHf f i a n k = a n k := by
  intro f
  induction f with
  | zero => intro i a; rfl
  | succ f ih =>
    intro i a
    show aHf f (i + 1) (if _ then aCm a i else a) n k = a n k
    rw [ih]
    split
    · exact aCm_o h
    · rfl
theorem wf_o (h : n ≠ 75 ∧ n ≠ 76 ∧ n ≠ 77) : ∀ (f : Nat) (i : Int32) (a : Nat → Nat → Int32), aWf f i a n k = a n k := by
  intro f
  induction f with
  | zero => intro i a; exact hf_o h _ _ _
  | succ f ih =>
    intro i a
    show aWf f (i + 1) (aCm a _) n k = a n k
    rw [ih, aCm_o h]
theorem AX_wi (h : qAX aa yo ol ag cd) (hT : aWi c i = aRo (aWh aa x) 0) : qAX c yo ol ag cd := by
  have e1 : aWi c i 87 = c 87 := funext (fun k => wf_o ⟨by decide, by decide, by decide⟩ _ _ _)
  have e2 : aRo (aWh aa x) 0 87 = aa 87 := funext (fun k => (aRo_o ⟨by decide, by decide, by decide⟩).trans (wh_of 87 k (by decide) (by decide) (by decide)).symm)
  exact AX_cg h (by rw [← e1, hT, e2])
theorem gdf_o (h : n ≠ 75 ∧ n ≠ 76 ∧ n ≠ 77) : ∀ (f : Nat) (a : Nat → Nat → Int32) (p : Int), gDf e f a p n k = a n k := by
  intro f
  induction f with
  | zero => intro a p; rfl
  | succ f ih =>
    intro a p
    by_cases w : p < e
    · by_cases z : (zOb a p).toInt < 0
      · rw [gDf_fr w z, ih]
      · rw [gDf_go w (by omega), ih, gDw_o h]
    · rw [gDf_e w]
theorem AX_dp (h : qAX aa yo ol ag cd) (hT : gDp (gDw c m i) e p = gDp aa e 0) : qAX c yo ol ag cd := by
  have e1 : gDp (gDw c m i) e p 87 = c 87 := funext (fun k => (gdf_o ⟨by decide, by decide, by decide⟩ _ _ _).trans (gDw_o ⟨by decide, by decide, by decide⟩))
  have e2 : gDp aa e 0 87 = aa 87 := funext (fun k => gdf_o ⟨by decide, by decide, by decide⟩ _ _ _)
  exact AX_cg h (by rw [← e1, hT, e2])
theorem gf_87 : ∀ (f : Nat) (i : Int32) (a : Nat → Nat → Int32), aGf f i a 87 k = a 87 k := fun f i a => gf_9 ⟨by decide, by decide⟩ f i a
theorem AX_gw (h : qAX aa yo ol ag cd) (hT : aGw b l = aGw aa 0) : qAX b yo ol ag cd := by
  have e1 : aGw b l 87 = b 87 := funext (fun k => gf_87 _ _ _)
  have e2 : aGw aa 0 87 = aa 87 := funext (fun k => gf_87 _ _ _)
  exact AX_cg h (by rw [← e1, hT, e2])
theorem AX_sp (h : qAX c yo ol ag cd) : qAX (aSp f c) yo ol ag cd := AX_cg h (funext (fun k => aSp_o ⟨by decide, by decide, by decide⟩ _ _))
end F35
theorem sp_207ry {X : Nat × (Nat → Int32)} {P : Option ma_V → (Nat → Nat → Int32) → Prop} {aa : Nat→Nat→Int32} {AT : Nat→Int32} {OW : Nat→Int32} {AG : Nat→Int32} {ro : Int32} {st : Int} {oo : Int} {m : Nat → Nat → Int32} (s : Int32) (hV : zV m) (hpre0 : -1 ≤ s.toInt) (hpre1 : s.toInt ≤ 3099) (hpre2 : (m 94 10).toInt = 3) (r_UQ : qU (m 99) s) (r_OW : zOw (m 99) (m 103) (m 111)) (r_AX3 : qAX aa (m 94 13) (m 94 14) (m 94 15) (m 94 16)) (r_YB : qYB (m 99) (m 100) (m 98) (m 101) (m 102) AT (m 107) (m 108) (m 109) OW (m 112) (m 113) (m 114) (m 94 55) (m 94 46) ro 0 0 0 1 (m 110) (m 119) (m 94 76) (m 94 75) (m 103) (m 111) (m 104) AG (m 94 77) (m 94 60) st oo aa) (KZ : ∀ m₉, zV (zov wr_207 m m₉) → (zOw (m 99) (m₉ 103) (m₉ 111)) → (qYB (m 99) (m 100) (m 98) (m 101) (m 102) AT (m 107) (m 108) (m 109) OW (m 112) (m 113) (m 114) (m 94 55) (m 94 46) ro 0 0 0 1 (m₉ 110) (m₉ 119) (m 94 76) (m₉ 94 75) (m₉ 103) (m₉ 111) (m₉ 104) AG (m₉ 94 77) (m₉ 94 60) st oo (aCm aa (qNo (m 100) s))) → P none (zov wr_207 m m₉)) : zm X 2 43 207 0 [(0, .inr (.inr (some 94))), (1, .inl s)] m P := by
  have K : ∀ m₉, zF wr_207 m m₉ → zV m₉ → (zOw (m₉ 99) (m₉ 103) (m₉ 111)) → (qYB (m₉ 99) (m₉ 100) (m₉ 98) (m₉ 101) (m₉ 102) AT (m₉ 107) (m₉ 108) (m₉ 109) OW (m₉ 112) (m₉ 113) (m₉ 114) (m₉ 94 55) (m₉ 94 46) ro 0 0 0 1 (m₉ 110) (m₉ 119) (m₉ 94 76) (m₉ 94 75) (m₉ 103) (m₉ 111) (m₉ 104) AG (m₉ 94 77) (m₉ 94 60) st oo (aCm aa (qNo (m₉ 100) s))) → P none m₉ := by
    intro m₉ hf z q0 q1
    have e := zov_eq hf
    rw [e] at z ⊢
    try rw [e] at q0
    try rw [e] at q1
    exact KZ m₉ z q0 q1
  refine g_207_0 s ?_
  have f1 : 0 ≤ (m 94 10).toInt ∧ (m 94 10).toInt ≤ 6 := rs_94_10 (m := m) hV
  have b2 := i_bd s
  have li3 : (0 : Int32).toInt = 0 := rfl
  refine zd (fun (h4 : s < (0 : Int32)) => ?_) (fun (h4 : ¬ s < (0 : Int32)) => ?_)
  · skip
    have g5 := i_lt h4
    try have hus := (U_y r_UQ (by omega)).2
    try have hto := YB_to r_YB (by omega) (by omega) hus (by assumption) r_AX3.2.2.1.symm
    try have ag1 : ((m 104 s.toNatClampNeg) + (1 : Int32)).toInt = (m 104 s.toNatClampNeg).toInt + 1 := i_p1 (by omega)
    try have hgi := congrArg Int32.toInt ((mu_self (m := m) (c := 104) (k := s.toNatClampNeg) (x := (m 104 s.toNatClampNeg) + (1 : Int32))).symm.trans (by assumption))
    try have hgg := hto.2.2.1.mpr (by omega)
    try have hg4 := hto.2.2.2.1 hgg
    try have hgn : ¬ qYg aa (m 100 s.toNatClampNeg).toNatClampNeg := (fun z => (fun z => absurd ((mu_self (m := m) (c := 104) (k := s.toNatClampNeg) (x := (m 104 s.toNatClampNeg) + (1 : Int32))).trans z) (by assumption)) (Int32.toInt_inj.mp (by have := hto.2.2.1.mp z; omega)))
    try have hg5 := hto.2.2.2.2 hgn
    exact K _ zF_rfl hV r_OW (show qYB (m 99) (m 100) (m 98) (m 101) (m 102) AT (m 107) (m 108) (m 109) OW (m 112) (m 113) (m 114) (m 94 55) (m 94 46) ro 0 0 0 1 (m 110) (m 119) (m 94 76) (m 94 75) (m 103) (m 111) (m 104) AG (m 94 77) (m 94 60) st oo (aCm aa (qNo (m 100) s)) from by first | (exact YB_skip r_YB (Or.inl (by omega))) | (exact YB_skip r_YB (Or.inr ⟨by omega, by omega, (U_y r_UQ (by omega)).2, by assumption⟩)) | (exact r_YB) | (exfalso; omega; done) | (exfalso; contradiction; done))
  · skip
    have g6 := i_nlt h4
    try have hus := (U_y r_UQ (by omega)).2
    have hg7 : (0 ≤ s ∧ s.toNatClampNeg < 3100) := i_ix (by omega) (by omega)
    refine ⟨hg7, ?_⟩
    first | have f8 : 0 ≤ (m 110 s.toNatClampNeg).toInt ∧ (m 110 s.toNatClampNeg).toInt ≤ 1 := ra_110 (m := m) hV (k := s.toNatClampNeg) (i_ix (n := 3100) (by omega) (by omega)).2 | have b9 := i_bd (m 110 s.toNatClampNeg)
    refine zd (fun (h10 : (m 110 s.toNatClampNeg) = (0 : Int32)) => ?_) (fun (h10 : ¬ (m 110 s.toNatClampNeg) = (0 : Int32)) => ?_)
    · skip
      have g11 := i_eq h10
      try have hus := (U_y r_UQ (by omega)).2
      have hg12 : (0 ≤ s ∧ s.toNatClampNeg < 3100) := i_ix (by omega) (by omega)
      refine ⟨hg12, ?_⟩
      have f13 : 0 ≤ (m 94 75).toInt ∧ (m 94 75).toInt ≤ 3100 := rs_94_75 (m := m) hV
      try have hb := YB_b r_YB
      have hg14 : (0 ≤ (m 94 75) ∧ (m 94 75).toNatClampNeg < 3100) := i_ix (by omega) (by omega)
      refine ⟨hg14, ?_⟩
      have li15 : (3 : Int32).toInt = 3 := rfl
      refine zd (fun (h16 : (m 94 10) = (3 : Int32)) => ?_) (fun (h16 : ¬ (m 94 10) = (3 : Int32)) => ?_)
      · skip
        have g17 := i_eq h16
        try have hus := (U_y r_UQ (by omega)).2
        have hg18 : (0 ≤ s ∧ s.toNatClampNeg < 3100) := i_ix (by omega) (by omega)
        refine ⟨hg18, ?_⟩
        try have hus := (U_y r_UQ (by omega)).2
        have hg19 : (0 ≤ s ∧ s.toNatClampNeg < 3100) := i_ix (by omega) (by omega)
        refine ⟨hg19, ?_⟩
        try have hus := (U_y r_UQ (by omega)).2
        have hg20 : (0 ≤ s ∧ s.toNatClampNeg < 3100) := i_ix (by omega) (by omega)
        refine ⟨hg20, ?_⟩
        have b21 := i_bd (m 104 s.toNatClampNeg)
        first | have e22 : ((m 104 s.toNatClampNeg) + (1 : Int32)).toInt = (m 104 s.toNatClampNeg).toInt + (1) := i_addk rfl (by omega) (by omega) | have b23 := i_bd ((m 104 s.toNatClampNeg) + (1 : Int32))
        have q24 : ((ma_u m 104 s.toNatClampNeg ((m 104 s.toNatClampNeg) + (1 : Int32))) 104 s.toNatClampNeg).toInt = ((m 104 s.toNatClampNeg) + (1 : Int32)).toInt := congrArg Int32.toInt mu_self
        have b25 := i_bd ((ma_u m 104 s.toNatClampNeg ((m 104 s.toNatClampNeg) + (1 : Int32))) 104 s.toNatClampNeg)
        have b26 := i_bd (m 94 15)
        refine zd (fun (h27 : ((ma_u m 104 s.toNatClampNeg ((m 104 s.toNatClampNeg) + (1 : Int32))) 104 s.toNatClampNeg) = (m 94 15)) => ?_) (fun (h27 : ¬ ((ma_u m 104 s.toNatClampNeg ((m 104 s.toNatClampNeg) + (1 : Int32))) 104 s.toNatClampNeg) = (m 94 15)) => ?_)
        · skip
          have g28 := i_eq h27
          have f29 : 0 ≤ (m 94 60).toInt ∧ (m 94 60).toInt ≤ 1600 := rs_94_60 (m := m) hV
          have li31 : (1 : Int32).toInt = 1 := rfl
          have hV30 : zV (ma_u m 110 s.toNatClampNeg (1 : Int32)) := ua_110 hV (by omega) (by omega)
          have hV32 : zV (ma_u (ma_u m 110 s.toNatClampNeg (1 : Int32)) 119 (m 94 75).toNatClampNeg s) := ua_119 hV30 (by omega) (by omega)
          first | have e34 : ((m 94 75) + (1 : Int32)).toInt = (m 94 75).toInt + (1) := i_addk rfl (by omega) (by omega) | have b35 := i_bd ((m 94 75) + (1 : Int32))
          have hV33 : zV (ma_u (ma_u (ma_u m 110 s.toNatClampNeg (1 : Int32)) 119 (m 94 75).toNatClampNeg s) 94 75 ((m 94 75) + (1 : Int32))) := us_94_75 hV32 (by omega) (by omega)
          have hV36 : zV (ma_u (ma_u (ma_u (ma_u m 110 s.toNatClampNeg (1 : Int32)) 119 (m 94 75).toNatClampNeg s) 94 75 ((m 94 75) + (1 : Int32))) 104 s.toNatClampNeg ((m 104 s.toNatClampNeg) + (1 : Int32))) := ua_104 hV33
          try have hus := (U_y r_UQ (by omega)).2
          try have hto := YB_to r_YB (by omega) (by omega) hus (by assumption) r_AX3.2.2.1.symm
          try have ag1 : ((m 104 s.toNatClampNeg) + (1 : Int32)).toInt = (m 104 s.toNatClampNeg).toInt + 1 := i_p1 (by omega)
          try have hgi := congrArg Int32.toInt ((mu_self (m := m) (c := 104) (k := s.toNatClampNeg) (x := (m 104 s.toNatClampNeg) + (1 : Int32))).symm.trans (by assumption))
          try have hgg := hto.2.2.1.mpr (by omega)
          try have hg4 := hto.2.2.2.1 hgg
          try have hgn : ¬ qYg aa (m 100 s.toNatClampNeg).toNatClampNeg := (fun z => (fun z => absurd ((mu_self (m := m) (c := 104) (k := s.toNatClampNeg) (x := (m 104 s.toNatClampNeg) + (1 : Int32))).trans z) (by assumption)) (Int32.toInt_inj.mp (by have := hto.2.2.1.mp z; omega)))
          try have hg5 := hto.2.2.2.2 hgn
          refine sp_205 (s) ((m 94 60)) hV36 (by omega) (by omega) (by omega) (by omega) (show (m 99) s.toNatClampNeg ≠ 0 from by first | (exact hus) | (assumption; done) | (exact ow5.1) | (exact ow3.1) | (exfalso; omega; done) | (exfalso; contradiction; done)) r_OW (fun m5 hV_m5 p0_m5 p1_m5 => zmv_n ?_)
          have p0_m5 : zOw (m 99) (m5 103) (m5 111) := p0_m5
          have p1_m5 : zmov s (m 94 60) (m 103) (m 111) (m5 103) (m5 111) := p1_m5
          try have mvs := mv_s p1_m5
          have hg37 : (0 ≤ s ∧ s.toNatClampNeg < 3100) := i_ix (by omega) (by omega)
          refine ⟨hg37, ?_⟩
          try have hus := (U_y r_UQ (by omega)).2
          try have hto := YB_to r_YB (by omega) (by omega) hus (by assumption) r_AX3.2.2.1.symm
          try have ag1 : ((m 104 s.toNatClampNeg) + (1 : Int32)).toInt = (m 104 s.toNatClampNeg).toInt + 1 := i_p1 (by omega)
          try have hgi := congrArg Int32.toInt ((mu_self (m := m) (c := 104) (k := s.toNatClampNeg) (x := (m 104 s.toNatClampNeg) + (1 : Int32))).symm.trans (by assumption))
          try have hgg := hto.2.2.1.mpr (by omega)
          try have hg4 := hto.2.2.2.1 hgg
          try have hgn : ¬ qYg aa (m 100 s.toNatClampNeg).toNatClampNeg := (fun z => (fun z => absurd ((mu_self (m := m) (c := 104) (k := s.toNatClampNeg) (x := (m 104 s.toNatClampNeg) + (1 : Int32))).trans z) (by assumption)) (Int32.toInt_inj.mp (by have := hto.2.2.1.mp z; omega)))
          try have hg5 := hto.2.2.2.2 hgn
          first | have f39 : 0 ≤ (m 102 s.toNatClampNeg).toInt ∧ (m 102 s.toNatClampNeg).toInt ≤ 60 := ra_102 (m := m) hV (k := s.toNatClampNeg) (i_ix (n := 3100) (by omega) (by omega)).2 | have b40 := i_bd (m 102 s.toNatClampNeg)
          first | have e41 : ((m 102 s.toNatClampNeg) + (1 : Int32)).toInt = (m 102 s.toNatClampNeg).toInt + (1) := i_addk rfl (by omega) (by omega) | have b42 := i_bd ((m 102 s.toNatClampNeg) + (1 : Int32))
          first | have e43 : ((m 94 60) + ((m 102 s.toNatClampNeg) + (1 : Int32))).toInt = (m 94 60).toInt + ((m 102 s.toNatClampNeg) + (1 : Int32)).toInt := i_add (by omega) (by omega) | have b44 := i_bd ((m 94 60) + ((m 102 s.toNatClampNeg) + (1 : Int32)))
          have hV38 : zV (ma_u (zov wr_205 (ma_u (ma_u (ma_u (ma_u m 110 s.toNatClampNeg (1 : Int32)) 119 (m 94 75).toNatClampNeg s) 94 75 ((m 94 75) + (1 : Int32))) 104 s.toNatClampNeg ((m 104 s.toNatClampNeg) + (1 : Int32))) m5) 94 60 ((m 94 60) + ((m 102 s.toNatClampNeg) + (1 : Int32)))) := us_94_60 hV_m5 (by omega) (by omega)
          exact K _ (zF_u (zF_zov (zF_u (zF_u (zF_u (zF_u zF_rfl rfl) rfl) rfl) rfl) ws_205_207) rfl) hV38 p0_m5 (show qYB (m 99) (m 100) (m 98) (m 101) (m 102) AT (m 107) (m 108) (m 109) OW (m 112) (m 113) (m 114) (m 94 55) (m 94 46) ro 0 0 0 1 ((ma_u m 110 s.toNatClampNeg (1 : Int32)) 110) ((ma_u m 119 (m 94 75).toNatClampNeg s) 119) (m 94 76) ((m 94 75) + (1 : Int32)) (m5 103) (m5 111) ((ma_u m 104 s.toNatClampNeg ((m 104 s.toNatClampNeg) + (1 : Int32))) 104) AG (m 94 77) ((m 94 60) + ((m 102 s.toNatClampNeg) + (1 : Int32))) st oo (aCm aa (qNo (m 100) s)) from by first | (have hto := YB_to r_YB (by omega) (by omega) hus (by assumption) r_AX3.2.2.1.symm; have ag1 : ((m 104 s.toNatClampNeg) + (1 : Int32)).toInt = (m 104 s.toNatClampNeg).toInt + 1 := i_p1 (by omega); have hgi := congrArg Int32.toInt ((mu_self (m := m) (c := 104) (k := s.toNatClampNeg) (x := (m 104 s.toNatClampNeg) + (1 : Int32))).symm.trans (by assumption)); have hgg := hto.2.2.1.mpr (by omega); exact YB_push r_YB (by omega) (by omega) hus (by assumption) (fun t => mu_at t) (fun t => mu_at t) (fun t => mu_at t) rfl p1_m5 (fun _ => ⟨rfl, rfl, by omega⟩) (fun z => absurd hgg z); done) | (have hto := YB_to r_YB (by omega) (by omega) hus (by assumption) r_AX3.2.2.1.symm; have ag1 : ((m 104 s.toNatClampNeg) + (1 : Int32)).toInt = (m 104 s.toNatClampNeg).toInt + 1 := i_p1 (by omega); have hgn : ¬ qYg aa (m 100 s.toNatClampNeg).toNatClampNeg := (fun z => (fun z => absurd ((mu_self (m := m) (c := 104) (k := s.toNatClampNeg) (x := (m 104 s.toNatClampNeg) + (1 : Int32))).trans z) (by assumption)) (Int32.toInt_inj.mp (by have := hto.2.2.1.mp z; omega))); exact YB_push r_YB (by omega) (by omega) hus (by assumption) (fun t => mu_at t) (fun t => mu_at t) (fun t => mu_at t) rfl p1_m5 (fun z => absurd z hgn) (fun _ => ⟨rfl, rfl, by omega⟩); done) | (exact r_YB) | (exfalso; omega; done) | (exfalso; contradiction; done))
        · skip
          have g45 := i_ne h27
          have f46 : 0 ≤ (m 94 77).toInt ∧ (m 94 77).toInt ≤ 4600 := rs_94_77 (m := m) hV
          have li48 : (1 : Int32).toInt = 1 := rfl
          have hV47 : zV (ma_u m 110 s.toNatClampNeg (1 : Int32)) := ua_110 hV (by omega) (by omega)
          have hV49 : zV (ma_u (ma_u m 110 s.toNatClampNeg (1 : Int32)) 119 (m 94 75).toNatClampNeg s) := ua_119 hV47 (by omega) (by omega)
          first | have e51 : ((m 94 75) + (1 : Int32)).toInt = (m 94 75).toInt + (1) := i_addk rfl (by omega) (by omega) | have b52 := i_bd ((m 94 75) + (1 : Int32))
          have hV50 : zV (ma_u (ma_u (ma_u m 110 s.toNatClampNeg (1 : Int32)) 119 (m 94 75).toNatClampNeg s) 94 75 ((m 94 75) + (1 : Int32))) := us_94_75 hV49 (by omega) (by omega)
          have hV53 : zV (ma_u (ma_u (ma_u (ma_u m 110 s.toNatClampNeg (1 : Int32)) 119 (m 94 75).toNatClampNeg s) 94 75 ((m 94 75) + (1 : Int32))) 104 s.toNatClampNeg ((m 104 s.toNatClampNeg) + (1 : Int32))) := ua_104 hV50
          try have hus := (U_y r_UQ (by omega)).2
          try have hto := YB_to r_YB (by omega) (by omega) hus (by assumption) r_AX3.2.2.1.symm
          try have ag1 : ((m 104 s.toNatClampNeg) + (1 : Int32)).toInt = (m 104 s.toNatClampNeg).toInt + 1 := i_p1 (by omega)
          try have hgi := congrArg Int32.toInt ((mu_self (m := m) (c := 104) (k := s.toNatClampNeg) (x := (m 104 s.toNatClampNeg) + (1 : Int32))).symm.trans (by assumption))
          try have hgg := hto.2.2.1.mpr (by omega)
          try have hg4 := hto.2.2.2.1 hgg
          try have hgn : ¬ qYg aa (m 100 s.toNatClampNeg).toNatClampNeg := (fun z => (fun z => absurd ((mu_self (m := m) (c := 104) (k := s.toNatClampNeg) (x := (m 104 s.toNatClampNeg) + (1 : Int32))).trans z) (by assumption)) (Int32.toInt_inj.mp (by have := hto.2.2.1.mp z; omega)))
          try have hg5 := hto.2.2.2.2 hgn
          refine sp_205 (s) ((m 94 77)) hV53 (by omega) (by omega) (by omega) (by omega) (show (m 99) s.toNatClampNeg ≠ 0 from by first | (exact hus) | (assumption; done) | (exact ow5.1) | (exact ow3.1) | (exfalso; omega; done) | (exfalso; contradiction; done)) r_OW (fun m3 hV_m3 p0_m3 p1_m3 => zmv_n ?_)
          have p0_m3 : zOw (m 99) (m3 103) (m3 111) := p0_m3
          have p1_m3 : zmov s (m 94 77) (m 103) (m 111) (m3 103) (m3 111) := p1_m3
          try have mvs := mv_s p1_m3
          have hg54 : (0 ≤ s ∧ s.toNatClampNeg < 3100) := i_ix (by omega) (by omega)
          refine ⟨hg54, ?_⟩
          try have hus := (U_y r_UQ (by omega)).2
          try have hto := YB_to r_YB (by omega) (by omega) hus (by assumption) r_AX3.2.2.1.symm
          try have ag1 : ((m 104 s.toNatClampNeg) + (1 : Int32)).toInt = (m 104 s.toNatClampNeg).toInt + 1 := i_p1 (by omega)
          try have hgi := congrArg Int32.toInt ((mu_self (m := m) (c := 104) (k := s.toNatClampNeg) (x := (m 104 s.toNatClampNeg) + (1 : Int32))).symm.trans (by assumption))
          try have hgg := hto.2.2.1.mpr (by omega)
          try have hg4 := hto.2.2.2.1 hgg
          try have hgn : ¬ qYg aa (m 100 s.toNatClampNeg).toNatClampNeg := (fun z => (fun z => absurd ((mu_self (m := m) (c := 104) (k := s.toNatClampNeg) (x := (m 104 s.toNatClampNeg) + (1 : Int32))).trans z) (by assumption)) (Int32.toInt_inj.mp (by have := hto.2.2.1.mp z; omega)))
          try have hg5 := hto.2.2.2.2 hgn
          first | have f56 : 0 ≤ (m 102 s.toNatClampNeg).toInt ∧ (m 102 s.toNatClampNeg).toInt ≤ 60 := ra_102 (m := m) hV (k := s.toNatClampNeg) (i_ix (n := 3100) (by omega) (by omega)).2 | have b57 := i_bd (m 102 s.toNatClampNeg)
          first | have e58 : ((m 102 s.toNatClampNeg) + (1 : Int32)).toInt = (m 102 s.toNatClampNeg).toInt + (1) := i_addk rfl (by omega) (by omega) | have b59 := i_bd ((m 102 s.toNatClampNeg) + (1 : Int32))
          first | have e60 : ((m 94 77) + ((m 102 s.toNatClampNeg) + (1 : Int32))).toInt = (m 94 77).toInt + ((m 102 s.toNatClampNeg) + (1 : Int32)).toInt := i_add (by omega) (by omega) | have b61 := i_bd ((m 94 77) + ((m 102 s.toNatClampNeg) + (1 : Int32)))
          have hV55 : zV (ma_u (zov wr_205 (ma_u (ma_u (ma_u (ma_u m 110 s.toNatClampNeg (1 : Int32)) 119 (m 94 75).toNatClampNeg s) 94 75 ((m 94 75) + (1 : Int32))) 104 s.toNatClampNeg ((m 104 s.toNatClampNeg) + (1 : Int32))) m3) 94 77 ((m 94 77) + ((m 102 s.toNatClampNeg) + (1 : Int32)))) := us_94_77 hV_m3 (by omega) (by omega)
          exact K _ (zF_u (zF_zov (zF_u (zF_u (zF_u (zF_u zF_rfl rfl) rfl) rfl) rfl) ws_205_207) rfl) hV55 p0_m3 (show qYB (m 99) (m 100) (m 98) (m 101) (m 102) AT (m 107) (m 108) (m 109) OW (m 112) (m 113) (m 114) (m 94 55) (m 94 46) ro 0 0 0 1 ((ma_u m 110 s.toNatClampNeg (1 : Int32)) 110) ((ma_u m 119 (m 94 75).toNatClampNeg s) 119) (m 94 76) ((m 94 75) + (1 : Int32)) (m3 103) (m3 111) ((ma_u m 104 s.toNatClampNeg ((m 104 s.toNatClampNeg) + (1 : Int32))) 104) AG ((m 94 77) + ((m 102 s.toNatClampNeg) + (1 : Int32))) (m 94 60) st oo (aCm aa (qNo (m 100) s)) from by first | (have hto := YB_to r_YB (by omega) (by omega) hus (by assumption) r_AX3.2.2.1.symm; have ag1 : ((m 104 s.toNatClampNeg) + (1 : Int32)).toInt = (m 104 s.toNatClampNeg).toInt + 1 := i_p1 (by omega); have hgi := congrArg Int32.toInt ((mu_self (m := m) (c := 104) (k := s.toNatClampNeg) (x := (m 104 s.toNatClampNeg) + (1 : Int32))).symm.trans (by assumption)); have hgg := hto.2.2.1.mpr (by omega); exact YB_push r_YB (by omega) (by omega) hus (by assumption) (fun t => mu_at t) (fun t => mu_at t) (fun t => mu_at t) rfl p1_m3 (fun _ => ⟨rfl, rfl, by omega⟩) (fun z => absurd hgg z); done) | (have hto := YB_to r_YB (by omega) (by omega) hus (by assumption) r_AX3.2.2.1.symm; have ag1 : ((m 104 s.toNatClampNeg) + (1 : Int32)).toInt = (m 104 s.toNatClampNeg).toInt + 1 := i_p1 (by omega); have hgn : ¬ qYg aa (m 100 s.toNatClampNeg).toNatClampNeg := (fun z => (fun z => absurd ((mu_self (m := m) (c := 104) (k := s.toNatClampNeg) (x := (m 104 s.toNatClampNeg) + (1 : Int32))).trans z) (by assumption)) (Int32.toInt_inj.mp (by have := hto.2.2.1.mp z; omega))); exact YB_push r_YB (by omega) (by omega) hus (by assumption) (fun t => mu_at t) (fun t => mu_at t) (fun t => mu_at t) rfl p1_m3 (fun z => absurd z hgn) (fun _ => ⟨rfl, rfl, by omega⟩); done) | (exact r_YB) | (exfalso; omega; done) | (exfalso; contradiction; done))
      · skip
        have g62 := i_ne h16
        exfalso; omega
    · skip
      have g63 := i_ne h10
      try have hus := (U_y r_UQ (by omega)).2
      try have hto := YB_to r_YB (by omega) (by omega) hus (by assumption) r_AX3.2.2.1.symm
      try have ag1 : ((m 104 s.toNatClampNeg) + (1 : Int32)).toInt = (m 104 s.toNatClampNeg).toInt + 1 := i_p1 (by omega)
      try have hgi := congrArg Int32.toInt ((mu_self (m := m) (c := 104) (k := s.toNatClampNeg) (x := (m 104 s.toNatClampNeg) + (1 : Int32))).symm.trans (by assumption))
      try have hgg := hto.2.2.1.mpr (by omega)
      try have hg4 := hto.2.2.2.1 hgg
      try have hgn : ¬ qYg aa (m 100 s.toNatClampNeg).toNatClampNeg := (fun z => (fun z => absurd ((mu_self (m := m) (c := 104) (k := s.toNatClampNeg) (x := (m 104 s.toNatClampNeg) + (1 : Int32))).trans z) (by assumption)) (Int32.toInt_inj.mp (by have := hto.2.2.1.mp z; omega)))
      try have hg5 := hto.2.2.2.2 hgn
      exact K _ zF_rfl hV r_OW (show qYB (m 99) (m 100) (m 98) (m 101) (m 102) AT (m 107) (m 108) (m 109) OW (m 112) (m 113) (m 114) (m 94 55) (m 94 46) ro 0 0 0 1 (m 110) (m 119) (m 94 76) (m 94 75) (m 103) (m 111) (m 104) AG (m 94 77) (m 94 60) st oo (aCm aa (qNo (m 100) s)) from by first | (exact YB_skip r_YB (Or.inl (by omega))) | (exact YB_skip r_YB (Or.inr ⟨by omega, by omega, (U_y r_UQ (by omega)).2, by assumption⟩)) | (exact r_YB) | (exfalso; omega; done) | (exfalso; contradiction; done))
theorem lp_208ry_33 {X : Nat × (Nat → Int32)} {P : Option ma_V → (Nat → Nat → Int32) → Prop} {aa : Nat→Nat→Int32} {AT : Nat→Int32} {OW : Nat→Int32} {AG : Nat→Int32} {ro : Int32} {st : Int} {oo : Int} {m0 : Nat → Nat → Int32} (h0 : zV m0) (K : ∀ m₉, zF wr_208 m0 m₉ → zV m₉ → (zOw (m₉ 99) (m₉ 103) (m₉ 111)) → (qYB (m₉ 99) (m₉ 100) (m₉ 98) (m₉ 101) (m₉ 102) AT (m₉ 107) (m₉ 108) (m₉ 109) OW (m₉ 112) (m₉ 113) (m₉ 114) (m₉ 94 55) (m₉ 94 46) ro 0 0 0 1 (m₉ 110) (m₉ 119) (m₉ 94 76) (m₉ 94 75) (m₉ 103) (m₉ 111) (m₉ 104) AG (m₉ 94 77) (m₉ 94 60) st oo (aSp 512 aa)) → ((m₉ 94 75).toInt ≤ (m₉ 94 76).toInt) → P none m₉) {n0 : Nat} (OUT0 : ∀ (m₉ : Nat → Nat → Int32) , (3101 - (m₉ 94 76).toInt).toNat < n0 → zF wr_208 m0 m₉ → zV m₉ → ((m₉ 94 10).toInt = 3) → (zW (m₉ 94 7) (m₉ 98) (m₉ 101) (m₉ 102) (m₉ 108)) → (zOw (m₉ 99) (m₉ 103) (m₉ 111)) → (qAX aa (m₉ 94 13) (m₉ 94 14) (m₉ 94 15) (m₉ 94 16)) → (qYS (m₉ 99) (m₉ 100) (m₉ 98) (m₉ 101) (m₉ 102) AT (m₉ 107) (m₉ 108) (m₉ 109) OW (m₉ 112) (m₉ 113) (m₉ 114) (m₉ 94 55) (m₉ 94 46) ro 0 0 0 1 (m₉ 110) (m₉ 119) (m₉ 94 76) (m₉ 94 75) (m₉ 103) (m₉ 111) (m₉ 104) AG (m₉ 94 77) (m₉ 94 60) st oo (aSp 512 aa)) → zm X 3 64 208 0 [(0, .inr (.inr (some 94)))] m₉ P) : ∀ (n : Nat) (m : Nat → Nat → Int32) (l1 : Int32) (l2 : Int32), (61 - l2.toInt).toNat = n → zF wr_208 m0 m → zV m → (0 ≤ l1.toInt) → (l1.toInt ≤ 3099) → (0 ≤ l2.toInt) → ((3101 - (m 94 76).toInt).toNat < n0) → ((m 94 10).toInt = 3) → (zW (m 94 7) (m 98) (m 101) (m 102) (m 108)) → (zOw (m 99) (m 103) (m 111)) → (qAX aa (m 94 13) (m 94 14) (m 94 15) (m 94 16)) → (qYW (m 99) (m 100) (m 98) (m 101) (m 102) AT (m 107) (m 108) (m 109) OW (m 112) (m 113) (m 114) (m 94 55) (m 94 46) ro 0 0 0 1 (m 110) (m 119) (m 94 76) (m 94 75) (m 103) (m 111) (m 104) AG (m 94 77) (m 94 60) st oo l1 l2 (aSp 512 aa)) → zm X 3 64 208 33 [(0, .inr (.inr (some 94))), (1, .inl l1), (2, .inl l2)] m P := by
  intro n
  induction n using Nat.strongRecOn with
  | _ n IH =>
    intro m l1 l2 hmu hF hV hi0 hi1 hi2 hi3 hi4 r_W r_OW r_AX3 r_YW
    refine g_208_33 l1 l2 ?_
    have f1 : 0 ≤ (m 94 76).toInt ∧ (m 94 76).toInt ≤ 3100 := rs_94_76 (m := m) hV
    have f2 : 0 ≤ (m 94 10).toInt ∧ (m 94 10).toInt ≤ 6 := rs_94_10 (m := m) hV
    obtain ⟨c, f, ⟨hB, hT, hf⟩, w0, w3, wu⟩ := r_YW
    have b3 := i_bd l1
    have hg4 : (0 ≤ l1 ∧ l1.toNatClampNeg < 3100) := i_ix (by omega) (by omega)
    refine ⟨hg4, ?_⟩
    first | have f5 : 0 ≤ (m 102 l1.toNatClampNeg).toInt ∧ (m 102 l1.toNatClampNeg).toInt ≤ 60 := ra_102 (m := m) hV (k := l1.toNatClampNeg) (i_ix (n := 3100) (by omega) (by omega)).2 | have b6 := i_bd (m 102 l1.toNatClampNeg)
    have b7 := i_bd l2
    refine zd (fun (h8 : (m 102 l1.toNatClampNeg) ≤ l2) => ?_) (fun (h8 : ¬ (m 102 l1.toNatClampNeg) ≤ l2) => ?_)
    · skip
      have g9 := i_le h8
      exact OUT0 _  (show (3101 - (m 94 76).toInt).toNat < n0 from by omega) hF hV (show (m 94 10).toInt = 3 from by omega) r_W r_OW r_AX3 (show qYS (m 99) (m 100) (m 98) (m 101) (m 102) AT (m 107) (m 108) (m 109) OW (m 112) (m 113) (m 114) (m 94 55) (m 94 46) ro 0 0 0 1 (m 110) (m 119) (m 94 76) (m 94 75) (m 103) (m 111) (m 104) AG (m 94 77) (m 94 60) st oo (aSp 512 aa) from by first | (exact YW_end ⟨c, f, ⟨hB, hT, hf⟩, w0, w3, wu⟩ (by omega) (by omega)) | (exfalso; omega; done) | (exfalso; contradiction; done))
    · skip
      have g10 := i_nle h8
      refine sp_192 (l1) (l2) hV (by omega) (by omega) (by omega) (show l2.toInt < (m 102 l1.toNatClampNeg).toInt from by omega) (fun v2 m1 hV_m1 p0_m1 => zmi_n ?_)
      have p0_m1 : v2 = zrf (m 98) (m 101) (m 108) l1.toNatClampNeg l2.toNatClampNeg := p0_m1
      try have := W_ref r_W (by omega) (by omega) (by omega) (by omega) p0_m1
      have b11 := i_bd v2
      refine sp_207ry (aa := c) (v2) hV_m1 (by omega) (by omega) (show (m 94 10).toInt = 3 from by omega) (show qU (m 99) v2 from by first | (exact (YW_rf hB w0 w3 wu (by omega) (by omega) p0_m1.symm).1) | (exfalso; omega; done) | (exfalso; contradiction; done)) r_OW (show qAX c (m 94 13) (m 94 14) (m 94 15) (m 94 16) from by first | (exact AX_sw r_AX3 hT) | (exact r_AX3) | (exfalso; omega; done) | (exfalso; contradiction; done)) hB (fun m3 hV_m3 p0_m3 p1_m3 => zmv_n ?_)
      have p0_m3 : zOw (m 99) (m3 103) (m3 111) := p0_m3
      have p1_m3 : qYB (m 99) (m 100) (m 98) (m 101) (m 102) AT (m 107) (m 108) (m 109) OW (m 112) (m 113) (m 114) (m 94 55) (m 94 46) ro 0 0 0 1 (m3 110) (m3 119) (m 94 76) (m3 94 75) (m3 103) (m3 111) (m3 104) AG (m3 94 77) (m3 94 60) st oo (aCm c (qNo (m 100) v2)) := p1_m3
      first | have e12 : (l2 + (1 : Int32)).toInt = l2.toInt + (1) := i_addk rfl (by omega) (by omega) | have b13 := i_bd (l2 + (1 : Int32))
      exact IH (61 - (l2 + (1 : Int32)).toInt).toNat (by omega) _ (l1) ((l2 + (1 : Int32))) rfl (zF_zov (zF_zov hF ws_192_208) ws_207_208) hV_m3 (by omega) (by omega) (by omega) (show (3101 - (m 94 76).toInt).toNat < n0 from by omega) (show (m 94 10).toInt = 3 from by omega) r_W p0_m3 r_AX3 (show qYW (m 99) (m 100) (m 98) (m 101) (m 102) AT (m 107) (m 108) (m 109) OW (m 112) (m 113) (m 114) (m 94 55) (m 94 46) ro 0 0 0 1 (m3 110) (m3 119) (m 94 76) (m3 94 75) (m3 103) (m3 111) (m3 104) AG (m3 94 77) (m3 94 60) st oo l1 (l2 + (1 : Int32)) (aSp 512 aa) from by first | (exact ⟨_, f, ⟨p1_m3, (congrArg (aSp f) (YW_rf hB w0 w3 wu (by omega) (by omega) p0_m1.symm).2).symm.trans hT, hf⟩, w0, w3, wu⟩) | (exfalso; omega; done) | (exfalso; contradiction; done))
theorem lp_208ry_0 {X : Nat × (Nat → Int32)} {P : Option ma_V → (Nat → Nat → Int32) → Prop} {aa : Nat→Nat→Int32} {AT : Nat→Int32} {OW : Nat→Int32} {AG : Nat→Int32} {ro : Int32} {st : Int} {oo : Int} {m0 : Nat → Nat → Int32} (h0 : zV m0) (K : ∀ m₉, zF wr_208 m0 m₉ → zV m₉ → (zOw (m₉ 99) (m₉ 103) (m₉ 111)) → (qYB (m₉ 99) (m₉ 100) (m₉ 98) (m₉ 101) (m₉ 102) AT (m₉ 107) (m₉ 108) (m₉ 109) OW (m₉ 112) (m₉ 113) (m₉ 114) (m₉ 94 55) (m₉ 94 46) ro 0 0 0 1 (m₉ 110) (m₉ 119) (m₉ 94 76) (m₉ 94 75) (m₉ 103) (m₉ 111) (m₉ 104) AG (m₉ 94 77) (m₉ 94 60) st oo (aSp 512 aa)) → ((m₉ 94 75).toInt ≤ (m₉ 94 76).toInt) → P none m₉) : ∀ (n : Nat) (m : Nat → Nat → Int32) , (3101 - (m 94 76).toInt).toNat = n → zF wr_208 m0 m → zV m → ((m 94 10).toInt = 3) → (zW (m 94 7) (m 98) (m 101) (m 102) (m 108)) → (zOw (m 99) (m 103) (m 111)) → (qAX aa (m 94 13) (m 94 14) (m 94 15) (m 94 16)) → (qYS (m 99) (m 100) (m 98) (m 101) (m 102) AT (m 107) (m 108) (m 109) OW (m 112) (m 113) (m 114) (m 94 55) (m 94 46) ro 0 0 0 1 (m 110) (m 119) (m 94 76) (m 94 75) (m 103) (m 111) (m 104) AG (m 94 77) (m 94 60) st oo (aSp 512 aa)) → zm X 3 64 208 0 [(0, .inr (.inr (some 94)))] m P := by
  intro n
  induction n using Nat.strongRecOn with
  | _ n IH =>
    intro m  hmu hF hV hi0 r_W r_OW r_AX3 r_YS
    refine g_208_0  ?_
    have f1 : 0 ≤ (m 94 10).toInt ∧ (m 94 10).toInt ≤ 6 := rs_94_10 (m := m) hV
    have f2 : 0 ≤ (m 94 75).toInt ∧ (m 94 75).toInt ≤ 3100 := rs_94_75 (m := m) hV
    have f3 : 0 ≤ (m 94 76).toInt ∧ (m 94 76).toInt ≤ 3100 := rs_94_76 (m := m) hV
    refine zd (fun (h4 : (m 94 75) ≤ (m 94 76)) => ?_) (fun (h4 : ¬ (m 94 75) ≤ (m 94 76)) => ?_)
    · skip
      have g5 := i_le h4
      try have hb := YS_b r_YS
      exact K _ hF hV r_OW (show qYB (m 99) (m 100) (m 98) (m 101) (m 102) AT (m 107) (m 108) (m 109) OW (m 112) (m 113) (m 114) (m 94 55) (m 94 46) ro 0 0 0 1 (m 110) (m 119) (m 94 76) (m 94 75) (m 103) (m 111) (m 104) AG (m 94 77) (m 94 60) st oo (aSp 512 aa) from by first | (exact YS_end r_YS (by omega)) | (exfalso; omega; done) | (exfalso; contradiction; done)) (show (m 94 75).toInt ≤ (m 94 76).toInt from by omega)
    · skip
      have g6 := i_nle h4
      try have hb := YS_b r_YS
      have hg7 : (0 ≤ (m 94 76) ∧ (m 94 76).toNatClampNeg < 3100) := i_ix (by omega) (by omega)
      refine ⟨hg7, ?_⟩
      try have hb := YS_b r_YS
      first | have e9 : ((m 94 76) + (1 : Int32)).toInt = (m 94 76).toInt + (1) := i_addk rfl (by omega) (by omega) | have b10 := i_bd ((m 94 76) + (1 : Int32))
      have hV8 : zV (ma_u m 94 76 ((m 94 76) + (1 : Int32))) := us_94_76 hV (by omega) (by omega)
      first | have f11 : 0 ≤ (m 119 (m 94 76).toNatClampNeg).toInt ∧ (m 119 (m 94 76).toNatClampNeg).toInt ≤ 3099 := ra_119 (m := m) hV (k := (m 94 76).toNatClampNeg) (i_ix (n := 3100) (by omega) (by omega)).2 | have b12 := i_bd (m 119 (m 94 76).toNatClampNeg)
      have li13 : (0 : Int32).toInt = 0 := rfl
      exact lp_208ry_33 h0 K (fun _  z1 z2 z3 y0 y1 y2 y3 y4 => IH _ z1 _  rfl z2 z3 y0 y1 y2 y3 y4) _ _ ((m 119 (m 94 76).toNatClampNeg)) ((0 : Int32)) rfl (zF_u hF rfl) hV8 (by omega) (by omega) (by omega) (show (3101 - ((m 94 76) + (1 : Int32)).toInt).toNat < n from by omega) (show (m 94 10).toInt = 3 from by omega) r_W r_OW r_AX3 (show qYW (m 99) (m 100) (m 98) (m 101) (m 102) AT (m 107) (m 108) (m 109) OW (m 112) (m 113) (m 114) (m 94 55) (m 94 46) ro 0 0 0 1 (m 110) (m 119) ((m 94 76) + (1 : Int32)) (m 94 75) (m 103) (m 111) (m 104) AG (m 94 77) (m 94 60) st oo (m 119 (m 94 76).toNatClampNeg) (0 : Int32) (aSp 512 aa) from by first | (exact YS_go r_YS (by omega) rfl rfl) | (exfalso; omega; done) | (exfalso; contradiction; done))
theorem sp_208ry {X : Nat × (Nat → Int32)} {P : Option ma_V → (Nat → Nat → Int32) → Prop} {aa : Nat→Nat→Int32} {AT : Nat→Int32} {OW : Nat→Int32} {AG : Nat→Int32} {ro : Int32} {st : Int} {oo : Int} {m : Nat → Nat → Int32}  (hV : zV m) (hpre0 : (m 94 10).toInt = 3) (r_W : zW (m 94 7) (m 98) (m 101) (m 102) (m 108)) (r_OW : zOw (m 99) (m 103) (m 111)) (r_AX3 : qAX aa (m 94 13) (m 94 14) (m 94 15) (m 94 16)) (r_YB : qYB (m 99) (m 100) (m 98) (m 101) (m 102) AT (m 107) (m 108) (m 109) OW (m 112) (m 113) (m 114) (m 94 55) (m 94 46) ro 0 0 0 1 (m 110) (m 119) (m 94 76) (m 94 75) (m 103) (m 111) (m 104) AG (m 94 77) (m 94 60) st oo aa) (KZ : ∀ m₉, zV (zov wr_208 m m₉) → (zOw (m 99) (m₉ 103) (m₉ 111)) → (qYB (m 99) (m 100) (m 98) (m 101) (m 102) AT (m 107) (m 108) (m 109) OW (m 112) (m 113) (m 114) (m 94 55) (m 94 46) ro 0 0 0 1 (m₉ 110) (m₉ 119) (m₉ 94 76) (m₉ 94 75) (m₉ 103) (m₉ 111) (m₉ 104) AG (m₉ 94 77) (m₉ 94 60) st oo (aSp 512 aa)) → ((m₉ 94 75).toInt ≤ (m₉ 94 76).toInt) → P none (zov wr_208 m m₉)) : zm X 3 64 208 0 [(0, .inr (.inr (some 94)))] m P := by
  have K : ∀ m₉, zF wr_208 m m₉ → zV m₉ → (zOw (m₉ 99) (m₉ 103) (m₉ 111)) → (qYB (m₉ 99) (m₉ 100) (m₉ 98) (m₉ 101) (m₉ 102) AT (m₉ 107) (m₉ 108) (m₉ 109) OW (m₉ 112) (m₉ 113) (m₉ 114) (m₉ 94 55) (m₉ 94 46) ro 0 0 0 1 (m₉ 110) (m₉ 119) (m₉ 94 76) (m₉ 94 75) (m₉ 103) (m₉ 111) (m₉ 104) AG (m₉ 94 77) (m₉ 94 60) st oo (aSp 512 aa)) → ((m₉ 94 75).toInt ≤ (m₉ 94 76).toInt) → P none m₉ := by
    intro m₉ hf z q0 q1 q2
    have e := zov_eq hf
    rw [e] at z ⊢
    try rw [e] at q0
    try rw [e] at q1
    try rw [e] at q2
    exact KZ m₉ z q0 q1 q2
  have f1 : 0 ≤ (m 94 10).toInt ∧ (m 94 10).toInt ≤ 6 := rs_94_10 (m := m) hV
  have f2 : 0 ≤ (m 94 76).toInt ∧ (m 94 76).toInt ≤ 3100 := rs_94_76 (m := m) hV
  exact lp_208ry_0 hV K _ _  rfl zF_rfl hV (show (m 94 10).toInt = 3 from by omega) r_W r_OW r_AX3 (show qYS (m 99) (m 100) (m 98) (m 101) (m 102) AT (m 107) (m 108) (m 109) OW (m 112) (m 113) (m 114) (m 94 55) (m 94 46) ro 0 0 0 1 (m 110) (m 119) (m 94 76) (m 94 75) (m 103) (m 111) (m 104) AG (m 94 77) (m 94 60) st oo (aSp 512 aa) from by first | (exact YS_0 r_YB) | (exfalso; omega; done) | (exfalso; contradiction; done))

/-! from 95.v05 -/
/-! AGES, the reference (written by wip/tools/gen15v.py) -/
theorem lp_195ry_5 {X : Nat × (Nat → Int32)} {P : Option ma_V → (Nat → Nat → Int32) → Prop} {ab : Int32} {yo : Int32} {m0 : Nat → Nat → Int32} (h0 : zV m0) (K : ∀ v m₉, zF wr_195 m0 m₉ → zV m₉ → (zWS (m₉ 100) (m₉ 99) (m₉ 110) (m₉ 109) ab v) → (qMin (qCw (m₉ 99) (m₉ 110) (m₉ 109) (m₉ 100) ab) (m₉ 100) v 3100) → P (some (.inl v)) m₉) : ∀ (n : Nat) (m : Nat → Nat → Int32) (l1 : Int32) (l2 : Int32) (l3 : Int32) (l4 : Int32), (3100 - l4.toInt).toNat = n → zF wr_195 m0 m → zV m → (0 ≤ l4.toInt) → (l4.toInt ≤ 3100) → (l1.toInt = ab.toInt) → (l2.toInt = 1) → (l1 = ab) → (-1 ≤ l3.toInt) → (l3.toInt ≤ 3099) → (∀ s, s < 3100 → (m 99) s ≠ 0 → (m 110) s = 0 → (m 94 14).toInt ≤ ((m 103) s).toInt) → (zWS (m 100) (m 99) (m 110) (m 109) ab l3) → (qMin (qCw (m 99) (m 110) (m 109) (m 100) l1) (m 100) l3 l4.toInt) → zm X 1 21 195 5 [(0, .inr (.inr (some 94))), (1, .inl l1), (2, .inl l2), (3, .inl l3), (4, .inl l4)] m P := by
  intro n
  induction n using Nat.strongRecOn with
  | _ n IH =>
    intro m l1 l2 l3 l4 hmu hF hV hi0 hi1 hi2 hi3 r_LN hi5 hi6 r_KO r_WS r_WM
    refine g_195_5 l1 l2 l3 l4 ?_
    have li1 : (3100 : Int32).toInt = 3100 := rfl
    have b2 := i_bd l4
    refine zd (fun (h3 : (3100 : Int32) ≤ l4) => ?_) (fun (h3 : ¬ (3100 : Int32) ≤ l4) => ?_)
    · skip
      have g4 := i_le h3
      have b5 := i_bd l3
      exact K (l3) _ hF hV r_WS (show qMin (qCw (m 99) (m 110) (m 109) (m 100) ab) (m 100) l3 3100 from by first | (exact Min_0 (by decide) (by decide)) | (rw [← r_LN]; exact (show l4.toInt = 3100 from by omega) ▸ r_WM; done) | (exact Min_new r_WM (by omega) (by omega) (by omega) ⟨by assumption, by assumption, by assumption, by omega⟩ (Or.inl (by omega))) | (exact Min_new r_WM (by omega) (by omega) (by omega) ⟨by assumption, by assumption, by assumption, by omega⟩ (Or.inr (by omega))) | (exact Min_keep r_WM (by omega) (by omega) (by omega) (by omega)) | (exact Min_skip r_WM (by omega) (by omega) (fun z => absurd (by assumption) z.1)) | (exact Min_skip r_WM (by omega) (by omega) (fun z => absurd z.2.1 (by assumption))) | (exact Min_skip r_WM (by omega) (by omega) (fun z => absurd (by assumption) z.2.2.1)) | (exact Min_skip r_WM (by omega) (by omega) (fun z => by have z1 := z.2.2.2; omega)) | (exact Min_skip r_WM (by omega) (by omega) (fun z => absurd (r_KO _ (tn_lt (by omega) (by omega)) z.1 z.2.1) (by omega))) | (exfalso; omega; done) | (exfalso; contradiction; done))
    · skip
      have g6 := i_nle h3
      have hg7 : (0 ≤ l4 ∧ l4.toNatClampNeg < 3100) := i_ix (by omega) (by omega)
      refine ⟨hg7, ?_⟩
      first | have f8 : 0 ≤ (m 99 l4.toNatClampNeg).toInt ∧ (m 99 l4.toNatClampNeg).toInt ≤ 1 := ra_99 (m := m) hV (k := l4.toNatClampNeg) (i_ix (n := 3100) (by omega) (by omega)).2 | have b9 := i_bd (m 99 l4.toNatClampNeg)
      have li10 : (0 : Int32).toInt = 0 := rfl
      refine zd (fun (h11 : (m 99 l4.toNatClampNeg) = (0 : Int32)) => ?_) (fun (h11 : ¬ (m 99 l4.toNatClampNeg) = (0 : Int32)) => ?_)
      · skip
        have g12 := i_eq h11
        have b13 := i_bd l1
        have b14 := i_bd l2
        have b15 := i_bd l3
        first | have e16 : (l4 + (1 : Int32)).toInt = l4.toInt + (1) := i_addk rfl (by omega) (by omega) | have b17 := i_bd (l4 + (1 : Int32))
        exact IH (3100 - (l4 + (1 : Int32)).toInt).toNat (by omega) _ (l1) (l2) (l3) ((l4 + (1 : Int32))) rfl hF hV (by omega) (by omega) (by omega) (by omega) r_LN (by omega) (by omega) r_KO r_WS (show qMin (qCw (m 99) (m 110) (m 109) (m 100) l1) (m 100) l3 (l4 + (1 : Int32)).toInt from by first | (exact Min_0 (by decide) (by decide)) | (rw [← r_LN]; exact (show l4.toInt = 3100 from by omega) ▸ r_WM; done) | (exact Min_new r_WM (by omega) (by omega) (by omega) ⟨by assumption, by assumption, by assumption, by omega⟩ (Or.inl (by omega))) | (exact Min_new r_WM (by omega) (by omega) (by omega) ⟨by assumption, by assumption, by assumption, by omega⟩ (Or.inr (by omega))) | (exact Min_keep r_WM (by omega) (by omega) (by omega) (by omega)) | (exact Min_skip r_WM (by omega) (by omega) (fun z => absurd (by assumption) z.1)) | (exact Min_skip r_WM (by omega) (by omega) (fun z => absurd z.2.1 (by assumption))) | (exact Min_skip r_WM (by omega) (by omega) (fun z => absurd (by assumption) z.2.2.1)) | (exact Min_skip r_WM (by omega) (by omega) (fun z => by have z1 := z.2.2.2; omega)) | (exact Min_skip r_WM (by omega) (by omega) (fun z => absurd (r_KO _ (tn_lt (by omega) (by omega)) z.1 z.2.1) (by omega))) | (exfalso; omega; done) | (exfalso; contradiction; done))
      · skip
        have g18 := i_ne h11
        have hg19 : (0 ≤ l4 ∧ l4.toNatClampNeg < 3100) := i_ix (by omega) (by omega)
        refine ⟨hg19, ?_⟩
        first | have f20 : 0 ≤ (m 110 l4.toNatClampNeg).toInt ∧ (m 110 l4.toNatClampNeg).toInt ≤ 1 := ra_110 (m := m) hV (k := l4.toNatClampNeg) (i_ix (n := 3100) (by omega) (by omega)).2 | have b21 := i_bd (m 110 l4.toNatClampNeg)
        refine zd (fun (h22 : (m 110 l4.toNatClampNeg) = (0 : Int32)) => ?_) (fun (h22 : ¬ (m 110 l4.toNatClampNeg) = (0 : Int32)) => ?_)
        · skip
          have g23 := i_eq h22
          have hg24 : (0 ≤ l4 ∧ l4.toNatClampNeg < 3100) := i_ix (by omega) (by omega)
          refine ⟨hg24, ?_⟩
          first | have f25 : 0 ≤ (m 109 l4.toNatClampNeg).toInt ∧ (m 109 l4.toNatClampNeg).toInt ≤ 1 := ra_109 (m := m) hV (k := l4.toNatClampNeg) (i_ix (n := 3100) (by omega) (by omega)).2 | have b26 := i_bd (m 109 l4.toNatClampNeg)
          refine zd (fun (h27 : (m 109 l4.toNatClampNeg) = (0 : Int32)) => ?_) (fun (h27 : ¬ (m 109 l4.toNatClampNeg) = (0 : Int32)) => ?_)
          · skip
            have g28 := i_eq h27
            have b29 := i_bd l1
            have b30 := i_bd l2
            have b31 := i_bd l3
            first | have e32 : (l4 + (1 : Int32)).toInt = l4.toInt + (1) := i_addk rfl (by omega) (by omega) | have b33 := i_bd (l4 + (1 : Int32))
            exact IH (3100 - (l4 + (1 : Int32)).toInt).toNat (by omega) _ (l1) (l2) (l3) ((l4 + (1 : Int32))) rfl hF hV (by omega) (by omega) (by omega) (by omega) r_LN (by omega) (by omega) r_KO r_WS (show qMin (qCw (m 99) (m 110) (m 109) (m 100) l1) (m 100) l3 (l4 + (1 : Int32)).toInt from by first | (exact Min_0 (by decide) (by decide)) | (rw [← r_LN]; exact (show l4.toInt = 3100 from by omega) ▸ r_WM; done) | (exact Min_new r_WM (by omega) (by omega) (by omega) ⟨by assumption, by assumption, by assumption, by omega⟩ (Or.inl (by omega))) | (exact Min_new r_WM (by omega) (by omega) (by omega) ⟨by assumption, by assumption, by assumption, by omega⟩ (Or.inr (by omega))) | (exact Min_keep r_WM (by omega) (by omega) (by omega) (by omega)) | (exact Min_skip r_WM (by omega) (by omega) (fun z => absurd (by assumption) z.1)) | (exact Min_skip r_WM (by omega) (by omega) (fun z => absurd z.2.1 (by assumption))) | (exact Min_skip r_WM (by omega) (by omega) (fun z => absurd (by assumption) z.2.2.1)) | (exact Min_skip r_WM (by omega) (by omega) (fun z => by have z1 := z.2.2.2; omega)) | (exact Min_skip r_WM (by omega) (by omega) (fun z => absurd (r_KO _ (tn_lt (by omega) (by omega)) z.1 z.2.1) (by omega))) | (exfalso; omega; done) | (exfalso; contradiction; done))
          · skip
            have g34 := i_ne h27
            have hg35 : (0 ≤ l4 ∧ l4.toNatClampNeg < 3100) := i_ix (by omega) (by omega)
            refine ⟨hg35, ?_⟩
            first | have f36 : 0 ≤ (m 100 l4.toNatClampNeg).toInt ∧ (m 100 l4.toNatClampNeg).toInt ≤ 100000 := ra_100 (m := m) hV (k := l4.toNatClampNeg) (i_ix (n := 3100) (by omega) (by omega)).2 | have b37 := i_bd (m 100 l4.toNatClampNeg)
            have b38 := i_bd l1
            refine zd (fun (h39 : (m 100 l4.toNatClampNeg) ≤ l1) => ?_) (fun (h39 : ¬ (m 100 l4.toNatClampNeg) ≤ l1) => ?_)
            · skip
              have g40 := i_le h39
              have b41 := i_bd l2
              have b42 := i_bd l3
              first | have e43 : (l4 + (1 : Int32)).toInt = l4.toInt + (1) := i_addk rfl (by omega) (by omega) | have b44 := i_bd (l4 + (1 : Int32))
              exact IH (3100 - (l4 + (1 : Int32)).toInt).toNat (by omega) _ (l1) (l2) (l3) ((l4 + (1 : Int32))) rfl hF hV (by omega) (by omega) (by omega) (by omega) r_LN (by omega) (by omega) r_KO r_WS (show qMin (qCw (m 99) (m 110) (m 109) (m 100) l1) (m 100) l3 (l4 + (1 : Int32)).toInt from by first | (exact Min_0 (by decide) (by decide)) | (rw [← r_LN]; exact (show l4.toInt = 3100 from by omega) ▸ r_WM; done) | (exact Min_new r_WM (by omega) (by omega) (by omega) ⟨by assumption, by assumption, by assumption, by omega⟩ (Or.inl (by omega))) | (exact Min_new r_WM (by omega) (by omega) (by omega) ⟨by assumption, by assumption, by assumption, by omega⟩ (Or.inr (by omega))) | (exact Min_keep r_WM (by omega) (by omega) (by omega) (by omega)) | (exact Min_skip r_WM (by omega) (by omega) (fun z => absurd (by assumption) z.1)) | (exact Min_skip r_WM (by omega) (by omega) (fun z => absurd z.2.1 (by assumption))) | (exact Min_skip r_WM (by omega) (by omega) (fun z => absurd (by assumption) z.2.2.1)) | (exact Min_skip r_WM (by omega) (by omega) (fun z => by have z1 := z.2.2.2; omega)) | (exact Min_skip r_WM (by omega) (by omega) (fun z => absurd (r_KO _ (tn_lt (by omega) (by omega)) z.1 z.2.1) (by omega))) | (exfalso; omega; done) | (exfalso; contradiction; done))
            · skip
              have g45 := i_nle h39
              have b46 := i_bd l2
              refine zd (fun (h47 : l2 = (0 : Int32)) => ?_) (fun (h47 : ¬ l2 = (0 : Int32)) => ?_)
              · skip
                have g48 := i_eq h47
                have b49 := i_bd l3
                refine zd (fun (h50 : l3 < (0 : Int32)) => ?_) (fun (h50 : ¬ l3 < (0 : Int32)) => ?_)
                · skip
                  have g51 := i_lt h50
                  first | have e52 : (l4 + (1 : Int32)).toInt = l4.toInt + (1) := i_addk rfl (by omega) (by omega) | have b53 := i_bd (l4 + (1 : Int32))
                  exact IH (3100 - (l4 + (1 : Int32)).toInt).toNat (by omega) _ (l1) (l2) (l4) ((l4 + (1 : Int32))) rfl hF hV (by omega) (by omega) (by omega) (by omega) r_LN (by omega) (by omega) r_KO (show zWS (m 100) (m 99) (m 110) (m 109) ab l4 from by first | (exact Or.inl (by decide)) | (exact Or.inr ⟨by omega, by omega, by assumption, by assumption, by assumption, by omega⟩) | (exfalso; omega; done) | (exfalso; contradiction; done)) (show qMin (qCw (m 99) (m 110) (m 109) (m 100) l1) (m 100) l4 (l4 + (1 : Int32)).toInt from by first | (exact Min_0 (by decide) (by decide)) | (rw [← r_LN]; exact (show l4.toInt = 3100 from by omega) ▸ r_WM; done) | (exact Min_new r_WM (by omega) (by omega) (by omega) ⟨by assumption, by assumption, by assumption, by omega⟩ (Or.inl (by omega))) | (exact Min_new r_WM (by omega) (by omega) (by omega) ⟨by assumption, by assumption, by assumption, by omega⟩ (Or.inr (by omega))) | (exact Min_keep r_WM (by omega) (by omega) (by omega) (by omega)) | (exact Min_skip r_WM (by omega) (by omega) (fun z => absurd (by assumption) z.1)) | (exact Min_skip r_WM (by omega) (by omega) (fun z => absurd z.2.1 (by assumption))) | (exact Min_skip r_WM (by omega) (by omega) (fun z => absurd (by assumption) z.2.2.1)) | (exact Min_skip r_WM (by omega) (by omega) (fun z => by have z1 := z.2.2.2; omega)) | (exact Min_skip r_WM (by omega) (by omega) (fun z => absurd (r_KO _ (tn_lt (by omega) (by omega)) z.1 z.2.1) (by omega))) | (exfalso; omega; done) | (exfalso; contradiction; done))
                · skip
                  have g54 := i_nlt h50
                  have hg55 : (0 ≤ l4 ∧ l4.toNatClampNeg < 3100) := i_ix (by omega) (by omega)
                  refine ⟨hg55, ?_⟩
                  have hg56 : (0 ≤ l3 ∧ l3.toNatClampNeg < 3100) := i_ix (by omega) (by omega)
                  refine ⟨hg56, ?_⟩
                  first | have f57 : 0 ≤ (m 100 l3.toNatClampNeg).toInt ∧ (m 100 l3.toNatClampNeg).toInt ≤ 100000 := ra_100 (m := m) hV (k := l3.toNatClampNeg) (i_ix (n := 3100) (by omega) (by omega)).2 | have b58 := i_bd (m 100 l3.toNatClampNeg)
                  refine zd (fun (h59 : (m 100 l3.toNatClampNeg) ≤ (m 100 l4.toNatClampNeg)) => ?_) (fun (h59 : ¬ (m 100 l3.toNatClampNeg) ≤ (m 100 l4.toNatClampNeg)) => ?_)
                  · skip
                    have g60 := i_le h59
                    first | have e61 : (l4 + (1 : Int32)).toInt = l4.toInt + (1) := i_addk rfl (by omega) (by omega) | have b62 := i_bd (l4 + (1 : Int32))
                    exact IH (3100 - (l4 + (1 : Int32)).toInt).toNat (by omega) _ (l1) (l2) (l3) ((l4 + (1 : Int32))) rfl hF hV (by omega) (by omega) (by omega) (by omega) r_LN (by omega) (by omega) r_KO r_WS (show qMin (qCw (m 99) (m 110) (m 109) (m 100) l1) (m 100) l3 (l4 + (1 : Int32)).toInt from by first | (exact Min_0 (by decide) (by decide)) | (rw [← r_LN]; exact (show l4.toInt = 3100 from by omega) ▸ r_WM; done) | (exact Min_new r_WM (by omega) (by omega) (by omega) ⟨by assumption, by assumption, by assumption, by omega⟩ (Or.inl (by omega))) | (exact Min_new r_WM (by omega) (by omega) (by omega) ⟨by assumption, by assumption, by assumption, by omega⟩ (Or.inr (by omega))) | (exact Min_keep r_WM (by omega) (by omega) (by omega) (by omega)) | (exact Min_skip r_WM (by omega) (by omega) (fun z => absurd (by assumption) z.1)) | (exact Min_skip r_WM (by omega) (by omega) (fun z => absurd z.2.1 (by assumption))) | (exact Min_skip r_WM (by omega) (by omega) (fun z => absurd (by assumption) z.2.2.1)) | (exact Min_skip r_WM (by omega) (by omega) (fun z => by have z1 := z.2.2.2; omega)) | (exact Min_skip r_WM (by omega) (by omega) (fun z => absurd (r_KO _ (tn_lt (by omega) (by omega)) z.1 z.2.1) (by omega))) | (exfalso; omega; done) | (exfalso; contradiction; done))
                  · skip
                    have g63 := i_nle h59
                    first | have e64 : (l4 + (1 : Int32)).toInt = l4.toInt + (1) := i_addk rfl (by omega) (by omega) | have b65 := i_bd (l4 + (1 : Int32))
                    exact IH (3100 - (l4 + (1 : Int32)).toInt).toNat (by omega) _ (l1) (l2) (l4) ((l4 + (1 : Int32))) rfl hF hV (by omega) (by omega) (by omega) (by omega) r_LN (by omega) (by omega) r_KO (show zWS (m 100) (m 99) (m 110) (m 109) ab l4 from by first | (exact Or.inl (by decide)) | (exact Or.inr ⟨by omega, by omega, by assumption, by assumption, by assumption, by omega⟩) | (exfalso; omega; done) | (exfalso; contradiction; done)) (show qMin (qCw (m 99) (m 110) (m 109) (m 100) l1) (m 100) l4 (l4 + (1 : Int32)).toInt from by first | (exact Min_0 (by decide) (by decide)) | (rw [← r_LN]; exact (show l4.toInt = 3100 from by omega) ▸ r_WM; done) | (exact Min_new r_WM (by omega) (by omega) (by omega) ⟨by assumption, by assumption, by assumption, by omega⟩ (Or.inl (by omega))) | (exact Min_new r_WM (by omega) (by omega) (by omega) ⟨by assumption, by assumption, by assumption, by omega⟩ (Or.inr (by omega))) | (exact Min_keep r_WM (by omega) (by omega) (by omega) (by omega)) | (exact Min_skip r_WM (by omega) (by omega) (fun z => absurd (by assumption) z.1)) | (exact Min_skip r_WM (by omega) (by omega) (fun z => absurd z.2.1 (by assumption))) | (exact Min_skip r_WM (by omega) (by omega) (fun z => absurd (by assumption) z.2.2.1)) | (exact Min_skip r_WM (by omega) (by omega) (fun z => by have z1 := z.2.2.2; omega)) | (exact Min_skip r_WM (by omega) (by omega) (fun z => absurd (r_KO _ (tn_lt (by omega) (by omega)) z.1 z.2.1) (by omega))) | (exfalso; omega; done) | (exfalso; contradiction; done))
              · skip
                have g66 := i_ne h47
                have hg67 : (0 ≤ l4 ∧ l4.toNatClampNeg < 3100) := i_ix (by omega) (by omega)
                refine ⟨hg67, ?_⟩
                have f68 : 0 ≤ (m 94 14).toInt ∧ (m 94 14).toInt ≤ 1500 := rs_94_14 (m := m) hV
                first | have f69 : 0 ≤ (m 103 l4.toNatClampNeg).toInt ∧ (m 103 l4.toNatClampNeg).toInt ≤ 4599 := ra_103 (m := m) hV (k := l4.toNatClampNeg) (i_ix (n := 3100) (by omega) (by omega)).2 | have b70 := i_bd (m 103 l4.toNatClampNeg)
                refine zd (fun (h71 : (m 94 14) ≤ (m 103 l4.toNatClampNeg)) => ?_) (fun (h71 : ¬ (m 94 14) ≤ (m 103 l4.toNatClampNeg)) => ?_)
                · skip
                  have g72 := i_le h71
                  have b73 := i_bd l3
                  refine zd (fun (h74 : l3 < (0 : Int32)) => ?_) (fun (h74 : ¬ l3 < (0 : Int32)) => ?_)
                  · skip
                    have g75 := i_lt h74
                    first | have e76 : (l4 + (1 : Int32)).toInt = l4.toInt + (1) := i_addk rfl (by omega) (by omega) | have b77 := i_bd (l4 + (1 : Int32))
                    exact IH (3100 - (l4 + (1 : Int32)).toInt).toNat (by omega) _ (l1) (l2) (l4) ((l4 + (1 : Int32))) rfl hF hV (by omega) (by omega) (by omega) (by omega) r_LN (by omega) (by omega) r_KO (show zWS (m 100) (m 99) (m 110) (m 109) ab l4 from by first | (exact Or.inl (by decide)) | (exact Or.inr ⟨by omega, by omega, by assumption, by assumption, by assumption, by omega⟩) | (exfalso; omega; done) | (exfalso; contradiction; done)) (show qMin (qCw (m 99) (m 110) (m 109) (m 100) l1) (m 100) l4 (l4 + (1 : Int32)).toInt from by first | (exact Min_0 (by decide) (by decide)) | (rw [← r_LN]; exact (show l4.toInt = 3100 from by omega) ▸ r_WM; done) | (exact Min_new r_WM (by omega) (by omega) (by omega) ⟨by assumption, by assumption, by assumption, by omega⟩ (Or.inl (by omega))) | (exact Min_new r_WM (by omega) (by omega) (by omega) ⟨by assumption, by assumption, by assumption, by omega⟩ (Or.inr (by omega))) | (exact Min_keep r_WM (by omega) (by omega) (by omega) (by omega)) | (exact Min_skip r_WM (by omega) (by omega) (fun z => absurd (by assumption) z.1)) | (exact Min_skip r_WM (by omega) (by omega) (fun z => absurd z.2.1 (by assumption))) | (exact Min_skip r_WM (by omega) (by omega) (fun z => absurd (by assumption) z.2.2.1)) | (exact Min_skip r_WM (by omega) (by omega) (fun z => by have z1 := z.2.2.2; omega)) | (exact Min_skip r_WM (by omega) (by omega) (fun z => absurd (r_KO _ (tn_lt (by omega) (by omega)) z.1 z.2.1) (by omega))) | (exfalso; omega; done) | (exfalso; contradiction; done))
                  · skip
                    have g78 := i_nlt h74
                    have hg79 : (0 ≤ l4 ∧ l4.toNatClampNeg < 3100) := i_ix (by omega) (by omega)
                    refine ⟨hg79, ?_⟩
                    have hg80 : (0 ≤ l3 ∧ l3.toNatClampNeg < 3100) := i_ix (by omega) (by omega)
                    refine ⟨hg80, ?_⟩
                    first | have f81 : 0 ≤ (m 100 l3.toNatClampNeg).toInt ∧ (m 100 l3.toNatClampNeg).toInt ≤ 100000 := ra_100 (m := m) hV (k := l3.toNatClampNeg) (i_ix (n := 3100) (by omega) (by omega)).2 | have b82 := i_bd (m 100 l3.toNatClampNeg)
                    refine zd (fun (h83 : (m 100 l3.toNatClampNeg) ≤ (m 100 l4.toNatClampNeg)) => ?_) (fun (h83 : ¬ (m 100 l3.toNatClampNeg) ≤ (m 100 l4.toNatClampNeg)) => ?_)
                    · skip
                      have g84 := i_le h83
                      first | have e85 : (l4 + (1 : Int32)).toInt = l4.toInt + (1) := i_addk rfl (by omega) (by omega) | have b86 := i_bd (l4 + (1 : Int32))
                      exact IH (3100 - (l4 + (1 : Int32)).toInt).toNat (by omega) _ (l1) (l2) (l3) ((l4 + (1 : Int32))) rfl hF hV (by omega) (by omega) (by omega) (by omega) r_LN (by omega) (by omega) r_KO r_WS (show qMin (qCw (m 99) (m 110) (m 109) (m 100) l1) (m 100) l3 (l4 + (1 : Int32)).toInt from by first | (exact Min_0 (by decide) (by decide)) | (rw [← r_LN]; exact (show l4.toInt = 3100 from by omega) ▸ r_WM; done) | (exact Min_new r_WM (by omega) (by omega) (by omega) ⟨by assumption, by assumption, by assumption, by omega⟩ (Or.inl (by omega))) | (exact Min_new r_WM (by omega) (by omega) (by omega) ⟨by assumption, by assumption, by assumption, by omega⟩ (Or.inr (by omega))) | (exact Min_keep r_WM (by omega) (by omega) (by omega) (by omega)) | (exact Min_skip r_WM (by omega) (by omega) (fun z => absurd (by assumption) z.1)) | (exact Min_skip r_WM (by omega) (by omega) (fun z => absurd z.2.1 (by assumption))) | (exact Min_skip r_WM (by omega) (by omega) (fun z => absurd (by assumption) z.2.2.1)) | (exact Min_skip r_WM (by omega) (by omega) (fun z => by have z1 := z.2.2.2; omega)) | (exact Min_skip r_WM (by omega) (by omega) (fun z => absurd (r_KO _ (tn_lt (by omega) (by omega)) z.1 z.2.1) (by omega))) | (exfalso; omega; done) | (exfalso; contradiction; done))
                    · skip
                      have g87 := i_nle h83
                      first | have e88 : (l4 + (1 : Int32)).toInt = l4.toInt + (1) := i_addk rfl (by omega) (by omega) | have b89 := i_bd (l4 + (1 : Int32))
                      exact IH (3100 - (l4 + (1 : Int32)).toInt).toNat (by omega) _ (l1) (l2) (l4) ((l4 + (1 : Int32))) rfl hF hV (by omega) (by omega) (by omega) (by omega) r_LN (by omega) (by omega) r_KO (show zWS (m 100) (m 99) (m 110) (m 109) ab l4 from by first | (exact Or.inl (by decide)) | (exact Or.inr ⟨by omega, by omega, by assumption, by assumption, by assumption, by omega⟩) | (exfalso; omega; done) | (exfalso; contradiction; done)) (show qMin (qCw (m 99) (m 110) (m 109) (m 100) l1) (m 100) l4 (l4 + (1 : Int32)).toInt from by first | (exact Min_0 (by decide) (by decide)) | (rw [← r_LN]; exact (show l4.toInt = 3100 from by omega) ▸ r_WM; done) | (exact Min_new r_WM (by omega) (by omega) (by omega) ⟨by assumption, by assumption, by assumption, by omega⟩ (Or.inl (by omega))) | (exact Min_new r_WM (by omega) (by omega) (by omega) ⟨by assumption, by assumption, by assumption, by omega⟩ (Or.inr (by omega))) | (exact Min_keep r_WM (by omega) (by omega) (by omega) (by omega)) | (exact Min_skip r_WM (by omega) (by omega) (fun z => absurd (by assumption) z.1)) | (exact Min_skip r_WM (by omega) (by omega) (fun z => absurd z.2.1 (by assumption))) | (exact Min_skip r_WM (by omega) (by omega) (fun z => absurd (by assumption) z.2.2.1)) | (exact Min_skip r_WM (by omega) (by omega) (fun z => by have z1 := z.2.2.2; omega)) | (exact Min_skip r_WM (by omega) (by omega) (fun z => absurd (r_KO _ (tn_lt (by omega) (by omega)) z.1 z.2.1) (by omega))) | (exfalso; omega; done) | (exfalso; contradiction; done))
                · skip
                  have g90 := i_nle h71
                  have b91 := i_bd l3
                  first | have e92 : (l4 + (1 : Int32)).toInt = l4.toInt + (1) := i_addk rfl (by omega) (by omega) | have b93 := i_bd (l4 + (1 : Int32))
                  exact IH (3100 - (l4 + (1 : Int32)).toInt).toNat (by omega) _ (l1) (l2) (l3) ((l4 + (1 : Int32))) rfl hF hV (by omega) (by omega) (by omega) (by omega) r_LN (by omega) (by omega) r_KO r_WS (show qMin (qCw (m 99) (m 110) (m 109) (m 100) l1) (m 100) l3 (l4 + (1 : Int32)).toInt from by first | (exact Min_0 (by decide) (by decide)) | (rw [← r_LN]; exact (show l4.toInt = 3100 from by omega) ▸ r_WM; done) | (exact Min_new r_WM (by omega) (by omega) (by omega) ⟨by assumption, by assumption, by assumption, by omega⟩ (Or.inl (by omega))) | (exact Min_new r_WM (by omega) (by omega) (by omega) ⟨by assumption, by assumption, by assumption, by omega⟩ (Or.inr (by omega))) | (exact Min_keep r_WM (by omega) (by omega) (by omega) (by omega)) | (exact Min_skip r_WM (by omega) (by omega) (fun z => absurd (by assumption) z.1)) | (exact Min_skip r_WM (by omega) (by omega) (fun z => absurd z.2.1 (by assumption))) | (exact Min_skip r_WM (by omega) (by omega) (fun z => absurd (by assumption) z.2.2.1)) | (exact Min_skip r_WM (by omega) (by omega) (fun z => by have z1 := z.2.2.2; omega)) | (exact Min_skip r_WM (by omega) (by omega) (fun z => absurd (r_KO _ (tn_lt (by omega) (by omega)) z.1 z.2.1) (by omega))) | (exfalso; omega; done) | (exfalso; contradiction; done))
        · skip
          have g94 := i_ne h22
          have b95 := i_bd l1
          have b96 := i_bd l2
          have b97 := i_bd l3
          first | have e98 : (l4 + (1 : Int32)).toInt = l4.toInt + (1) := i_addk rfl (by omega) (by omega) | have b99 := i_bd (l4 + (1 : Int32))
          exact IH (3100 - (l4 + (1 : Int32)).toInt).toNat (by omega) _ (l1) (l2) (l3) ((l4 + (1 : Int32))) rfl hF hV (by omega) (by omega) (by omega) (by omega) r_LN (by omega) (by omega) r_KO r_WS (show qMin (qCw (m 99) (m 110) (m 109) (m 100) l1) (m 100) l3 (l4 + (1 : Int32)).toInt from by first | (exact Min_0 (by decide) (by decide)) | (rw [← r_LN]; exact (show l4.toInt = 3100 from by omega) ▸ r_WM; done) | (exact Min_new r_WM (by omega) (by omega) (by omega) ⟨by assumption, by assumption, by assumption, by omega⟩ (Or.inl (by omega))) | (exact Min_new r_WM (by omega) (by omega) (by omega) ⟨by assumption, by assumption, by assumption, by omega⟩ (Or.inr (by omega))) | (exact Min_keep r_WM (by omega) (by omega) (by omega) (by omega)) | (exact Min_skip r_WM (by omega) (by omega) (fun z => absurd (by assumption) z.1)) | (exact Min_skip r_WM (by omega) (by omega) (fun z => absurd z.2.1 (by assumption))) | (exact Min_skip r_WM (by omega) (by omega) (fun z => absurd (by assumption) z.2.2.1)) | (exact Min_skip r_WM (by omega) (by omega) (fun z => by have z1 := z.2.2.2; omega)) | (exact Min_skip r_WM (by omega) (by omega) (fun z => absurd (r_KO _ (tn_lt (by omega) (by omega)) z.1 z.2.1) (by omega))) | (exfalso; omega; done) | (exfalso; contradiction; done))
theorem sp_195ry {X : Nat × (Nat → Int32)} {P : Option ma_V → (Nat → Nat → Int32) → Prop} {m : Nat → Nat → Int32} (ab : Int32) (yo : Int32) (hV : zV m) (hpre0 : yo.toInt = 1) (r_KO : ∀ s, s < 3100 → (m 99) s ≠ 0 → (m 110) s = 0 → (m 94 14).toInt ≤ ((m 103) s).toInt) (KZ : ∀ v m₉, zV (zov wr_195 m m₉) → (zWS (m 100) (m 99) (m 110) (m 109) ab v) → (qMin (qCw (m 99) (m 110) (m 109) (m 100) ab) (m 100) v 3100) → P (some (.inl v)) (zov wr_195 m m₉)) : zm X 1 21 195 0 [(0, .inr (.inr (some 94))), (1, .inl ab), (2, .inl yo)] m P := by
  have K : ∀ v m₉, zF wr_195 m m₉ → zV m₉ → (zWS (m₉ 100) (m₉ 99) (m₉ 110) (m₉ 109) ab v) → (qMin (qCw (m₉ 99) (m₉ 110) (m₉ 109) (m₉ 100) ab) (m₉ 100) v 3100) → P (some (.inl v)) m₉ := by
    intro v m₉ hf z q0 q1
    have e := zov_eq hf
    rw [e] at z ⊢
    try rw [e] at q0
    try rw [e] at q1
    exact KZ v m₉ z q0 q1
  refine g_195_0 ab yo ?_
  have b1 := i_bd ab
  have b2 := i_bd yo
  have li3 : (-1 : Int32).toInt = -1 := rfl
  have li4 : (0 : Int32).toInt = 0 := rfl
  exact lp_195ry_5 (ab := ab) (yo := yo) hV K _ _ (ab) (yo) ((-1 : Int32)) ((0 : Int32)) rfl zF_rfl hV (by omega) (by omega) (by omega) (by omega) (show ab = ab from by first | (exact rfl) | (exfalso; omega; done) | (exfalso; contradiction; done)) (by omega) (by omega) r_KO (show zWS (m 100) (m 99) (m 110) (m 109) ab (-1 : Int32) from by first | (exact Or.inl (by decide)) | (exact Or.inr ⟨by omega, by omega, by assumption, by assumption, by assumption, by omega⟩) | (exfalso; omega; done) | (exfalso; contradiction; done)) (show qMin (qCw (m 99) (m 110) (m 109) (m 100) ab) (m 100) (-1 : Int32) (0 : Int32).toInt from by first | (exact Min_0 (by decide) (by decide)) | (exfalso; omega; done) | (exfalso; contradiction; done))
set_option maxHeartbeats 8000000 in
theorem lp_209ry_9 {X : Nat × (Nat → Int32)} {P : Option ma_V → (Nat → Nat → Int32) → Prop} {T : Nat} {aa : Nat→Nat→Int32} {AT : Nat→Int32} {OW : Nat→Int32} {AG : Nat→Int32} {ro : Int32} {st : Int} {oo : Int} {yo : Int32} {m0 : Nat → Nat → Int32} (h0 : zV m0) (K : ∀ m₉, zF wr_209 m0 m₉ → zV m₉ → (zGW T (m₉ 94 55) (m₉ 109)) → (zuw (m0 113) (m₉ 113)) → (zOw (m₉ 99) (m₉ 103) (m₉ 111)) → (qYB (m₉ 99) (m₉ 100) (m₉ 98) (m₉ 101) (m₉ 102) AT (m₉ 107) (m₉ 108) (m₉ 109) OW (m₉ 112) (m₉ 113) (m₉ 114) (m₉ 94 55) (m₉ 94 46) ro 0 0 0 1 (m₉ 110) (m₉ 119) (m₉ 94 76) (m₉ 94 75) (m₉ 103) (m₉ 111) (m₉ 104) AG (m₉ 94 77) (m₉ 94 60) st oo (aGw aa 0)) → (qE0 (aPc (aGw aa 0))) → (qCl (aPc (aGw aa 0))) → P none m₉) : ∀ (n : Nat) (m : Nat → Nat → Int32) (l1 : Int32) (l3 : Int32), ((zmg (m 100) l3 : Int)).toNat = n → zF wr_209 m0 m → zV m → (l1.toInt = 1) → (T ≤ 512) → ((m 94 10).toInt = 3) → (zWS (m 100) (m 99) (m 110) (m 109) (-1 : Int32) l3) → (zW (m 94 7) (m 98) (m 101) (m 102) (m 108)) → (zGW T (m 94 55) (m 109)) → (zuw (m0 113) (m 113)) → (zOw (m 99) (m 103) (m 111)) → (qAX aa (m 94 13) (m 94 14) (m 94 15) (m 94 16)) → (qYG (m 99) (m 100) (m 98) (m 101) (m 102) AT (m 107) (m 108) (m 109) OW (m 112) (m 113) (m 114) (m 94 55) (m 94 46) ro 0 0 0 1 (m 110) (m 119) (m 94 76) (m 94 75) (m 103) (m 111) (m 104) AG (m 94 77) (m 94 60) st oo l3 (aGw aa 0)) → zm X 4 86 209 9 [(0, .inr (.inr (some 94))), (1, .inl l1), (3, .inl l3)] m P := by
  intro n
  induction n using Nat.strongRecOn with
  | _ n IH =>
    intro m l1 l3 hmu hF hV hi0 hi1 hi2 r_WS r_W r_GW r_UW r_OW r_AX3 r_YG
    refine g_209_9 l1 l3 ?_
    have f1 : 0 ≤ (m 94 10).toInt ∧ (m 94 10).toInt ≤ 6 := rs_94_10 (m := m) hV
    obtain ⟨b, lst, gHB, gE0, gCL, gl, gMn, gT⟩ := r_YG
    have gAX := AX_gw r_AX3 gT
    have gQI := gHB.2.2.2.2.2.2.2.1.1
    have b2 := i_bd l3
    have li3 : (0 : Int32).toInt = 0 := rfl
    refine zd (fun (h4 : l3 < (0 : Int32)) => ?_) (fun (h4 : ¬ l3 < (0 : Int32)) => ?_)
    · skip
      have g5 := i_lt h4
      try have gw := GW_room r_GW
      try have ws0 := WS_ge r_WS (by omega)
      exact K _ hF hV r_GW r_UW r_OW (show qYB (m 99) (m 100) (m 98) (m 101) (m 102) AT (m 107) (m 108) (m 109) OW (m 112) (m 113) (m 114) (m 94 55) (m 94 46) ro 0 0 0 1 (m 110) (m 119) (m 94 76) (m 94 75) (m 103) (m 111) (m 104) AG (m 94 77) (m 94 60) st oo (aGw aa 0) from by first | (exact (YG_end ⟨b, lst, gHB, gE0, gCL, gl, gMn, gT⟩ (by omega)).1) | (exact gHB) | (exfalso; omega; done) | (exfalso; contradiction; done)) (show qE0 (aPc (aGw aa 0)) from by first | (exact (YG_end ⟨b, lst, gHB, gE0, gCL, gl, gMn, gT⟩ (by omega)).2.1) | (exfalso; omega; done) | (exfalso; contradiction; done)) (show qCl (aPc (aGw aa 0)) from by first | (exact (YG_end ⟨b, lst, gHB, gE0, gCL, gl, gMn, gT⟩ (by omega)).2.2) | (exfalso; omega; done) | (exfalso; contradiction; done))
    · skip
      have g6 := i_nlt h4
      try obtain ⟨ws1, ws2, ws3, ws4, ws5, ws6⟩ := WS_ge r_WS (by omega)
      have hg7 : (0 ≤ l3 ∧ l3.toNatClampNeg < 3100) := i_ix (by omega) (by omega)
      refine ⟨hg7, ?_⟩
      try have ws0 := WS_ge r_WS (by omega)
      refine sp_197rv (aa := b) (l3) hV (by omega) (by omega) (by omega) (show (m 94 10).toInt ≠ 4 from by omega) (show (m 109) l3.toNatClampNeg ≠ 0 from by first | (exact ws5) | (exact ws0.2.2.2.2.1) | (assumption; done) | (exfalso; omega; done) | (exfalso; contradiction; done)) (show (m 99) l3.toNatClampNeg ≠ 0 from by first | (exact ws3) | (exact ws0.2.2.1) | (assumption; done) | (exact ws3) | (exfalso; omega; done) | (exfalso; contradiction; done)) r_GW gHB.1 gQI (fun m1 hV_m1 p0_m1 p1_m1 p2_m1 p3_m1 p4_m1 p5_m1 => zmv_n ?_)
      have p0_m1 : zGW T (m1 94 55) (m1 109) := p0_m1
      have p1_m1 : zuw (m 113) (m1 113) := p1_m1
      have p2_m1 : zwx (m 114) (m1 114) (m 94 55) l3 := p2_m1
      have p3_m1 : (m1 94 55).toInt = (m 94 55).toInt + 1 := p3_m1
      have p4_m1 : qRB (m 99) (m 100) (m 98) (m 101) (m 102) AT (m 107) (m 108) (m1 109) OW (m 112) (m1 113) (m1 114) (m1 94 55) (m 94 46) ro 0 0 0 1 (aGr b ((m 100) l3.toNatClampNeg)) := p4_m1
      have p5_m1 : qI (aGr b ((m 100) l3.toNatClampNeg)) := p5_m1
      have f8 : 0 ≤ (m1 94 55).toInt ∧ (m1 94 55).toInt ≤ 3100 := rs_94_55 (m := (zov wr_197 m m1)) hV_m1
      have f9 : 0 ≤ (m 94 55).toInt ∧ (m 94 55).toInt ≤ 3100 := rs_94_55 (m := m) hV
      try have ws0 := WS_ge r_WS (by omega)
      refine sp_207ry (aa := (aGr b (m 100 l3.toNatClampNeg))) (l3) hV_m1 (by omega) (by omega) (show (m 94 10).toInt = 3 from by omega) (show qU (m 99) l3 from by first | (exact Or.inr ⟨by omega, ws0.2.2.1⟩) | (exfalso; omega; done) | (exfalso; contradiction; done)) r_OW (show qAX (aGr b (m 100 l3.toNatClampNeg)) (m 94 13) (m 94 14) (m 94 15) (m 94 16) from by first | (exact AX_gr gAX) | (exact r_AX3) | (exfalso; omega; done) | (exfalso; contradiction; done)) (show qYB (m 99) (m 100) (m 98) (m 101) (m 102) AT (m 107) (m 108) (m1 109) OW (m 112) (m1 113) (m1 114) (m1 94 55) (m 94 46) ro 0 0 0 1 (m 110) (m 119) (m 94 76) (m 94 75) (m 103) (m 111) (m 104) AG (m 94 77) (m 94 60) st oo (aGr b (m 100 l3.toNatClampNeg)) from by first | (exact YB_gr p4_m1 p5_m1 gHB) | (exact gHB) | (exfalso; omega; done) | (exfalso; contradiction; done)) (fun m3 hV_m3 p0_m3 p1_m3 => zmv_n ?_)
      have p0_m3 : zOw (m 99) (m3 103) (m3 111) := p0_m3
      have p1_m3 : qYB (m 99) (m 100) (m 98) (m 101) (m 102) AT (m 107) (m 108) (m1 109) OW (m 112) (m1 113) (m1 114) (m1 94 55) (m 94 46) ro 0 0 0 1 (m3 110) (m3 119) (m 94 76) (m3 94 75) (m3 103) (m3 111) (m3 104) AG (m3 94 77) (m3 94 60) st oo (aCm (aGr b (m 100 l3.toNatClampNeg)) (qNo (m 100) l3)) := p1_m3
      try have ws0 := WS_ge r_WS (by omega)
      refine sp_208ry (aa := (aCm (aGr b (m 100 l3.toNatClampNeg)) (qNo (m 100) l3)))  hV_m3 (show (m 94 10).toInt = 3 from by omega) r_W p0_m3 (show qAX (aCm (aGr b (m 100 l3.toNatClampNeg)) (qNo (m 100) l3)) (m 94 13) (m 94 14) (m 94 15) (m 94 16) from by first | (exact AX_cm (AX_gr gAX)) | (exact r_AX3) | (exfalso; omega; done) | (exfalso; contradiction; done)) p1_m3 (fun m5 hV_m5 p0_m5 p1_m5 p2_m5 => zmv_n ?_)
      have p0_m5 : zOw (m 99) (m5 103) (m5 111) := p0_m5
      have p1_m5 : qYB (m 99) (m 100) (m 98) (m 101) (m 102) AT (m 107) (m 108) (m1 109) OW (m 112) (m1 113) (m1 114) (m1 94 55) (m 94 46) ro 0 0 0 1 (m5 110) (m5 119) (m5 94 76) (m5 94 75) (m5 103) (m5 111) (m5 104) AG (m5 94 77) (m5 94 60) st oo (aSp 512 (aCm (aGr b (m 100 l3.toNatClampNeg)) (qNo (m 100) l3))) := p1_m5
      have p2_m5 : (m5 94 75).toInt ≤ (m5 94 76).toInt := p2_m5
      have f10 : 0 ≤ (m5 94 75).toInt ∧ (m5 94 75).toInt ≤ 3100 := rs_94_75 (m := (zov wr_208 (zov wr_207 (zov wr_197 m m1) m3) m5)) hV_m5
      have f11 : 0 ≤ (m5 94 76).toInt ∧ (m5 94 76).toInt ≤ 3100 := rs_94_76 (m := (zov wr_208 (zov wr_207 (zov wr_197 m m1) m3) m5)) hV_m5
      first | have f12 : 0 ≤ (m 100 l3.toNatClampNeg).toInt ∧ (m 100 l3.toNatClampNeg).toInt ≤ 100000 := ra_100 (m := m) hV (k := l3.toNatClampNeg) (i_ix (n := 3100) (by omega) (by omega)).2 | have b13 := i_bd (m 100 l3.toNatClampNeg)
      have b14 := i_bd l1
      try have ws0 := WS_ge r_WS (by omega)
      refine sp_195ry ((m 100 l3.toNatClampNeg)) (l1) hV_m5 (by omega) (show ∀ s, s < 3100 → (m 99) s ≠ 0 → (m5 110) s = 0 → (m 94 14).toInt ≤ ((m5 103) s).toInt from by first | (intro s hs hu hk; have z := YB_ko p1_m5 hs hu hk; rw [(AX_sp (AX_cm (AX_gr gAX))).2.1] at z; exact z; done) | (exfalso; omega; done) | (exfalso; contradiction; done)) (fun v8 m7 hV_m7 p0_m7 p1_m7 => zmi_n ?_)
      have p0_m7 : zWS (m 100) (m 99) (m5 110) (m1 109) (m 100 l3.toNatClampNeg) v8 := p0_m7
      have p1_m7 : qMin (qCw (m 99) (m5 110) (m1 109) (m 100) (m 100 l3.toNatClampNeg)) (m 100) v8 3100 := p1_m7
      try have gw := GW_room p0_m1
      try have ws0 := WS_ge r_WS (by omega)
      have b15 := i_bd v8
      exact IH ((zmg (m 100) v8 : Int)).toNat (by have zq := zmg_lt (s := l3) (by omega) p0_m7 rfl (by omega) (by omega); omega) _ (l1) (v8) rfl (zF_zov (zF_zov (zF_zov (zF_zov hF ws_197_209) ws_207_209) ws_208_209) ws_195_209) hV_m7 (by omega) (by omega) (show (m 94 10).toInt = 3 from by omega) (show zWS (m 100) (m 99) (m5 110) (m1 109) (-1 : Int32) v8 from by first | (exact WS_weak p0_m7 (by omega)) | (exact p0_m7) | (exact Or.inl (by decide)) | (exact Or.inr ⟨by omega, by omega, by assumption, by assumption, by assumption, by omega⟩) | (exfalso; omega; done) | (exfalso; contradiction; done)) r_W p0_m1 (show zuw (m0 113) (m1 113) from by first | (exact zuw_tr r_UW p1_m1) | (exact zuw_rfl) | (exfalso; omega; done) | (exfalso; contradiction; done)) p0_m5 r_AX3 (show qYG (m 99) (m 100) (m 98) (m 101) (m 102) AT (m 107) (m 108) (m1 109) OW (m 112) (m1 113) (m1 114) (m1 94 55) (m 94 46) ro 0 0 0 1 (m5 110) (m5 119) (m5 94 76) (m5 94 75) (m5 103) (m5 111) (m5 104) AG (m5 94 77) (m5 94 60) st oo v8 (aGw aa 0) from by first | (exact YG_nx gHB gE0 gCL gl gMn gT (by omega) ws0.2.2.1 (by omega) (GW_512 r_GW ws0.2.2.2.2.1 (by omega) (by omega) (by omega)) p1_m5 p1_m7) | (exfalso; omega; done) | (exfalso; contradiction; done))
set_option maxHeartbeats 8000000 in
theorem sp_209ry {X : Nat × (Nat → Int32)} {P : Option ma_V → (Nat → Nat → Int32) → Prop} {T : Nat} {aa : Nat→Nat→Int32} {AT : Nat→Int32} {OW : Nat→Int32} {AG : Nat→Int32} {ro : Int32} {st : Int} {oo : Int} {m : Nat → Nat → Int32} (yo : Int32) (hV : zV m) (hpre0 : yo.toInt = 1) (hpre1 : T ≤ 512) (hpre2 : (m 94 10).toInt = 3) (r_W : zW (m 94 7) (m 98) (m 101) (m 102) (m 108)) (r_GW : zGW T (m 94 55) (m 109)) (r_OW : zOw (m 99) (m 103) (m 111)) (r_AX3 : qAX aa (m 94 13) (m 94 14) (m 94 15) (m 94 16)) (r_YB : qYB (m 99) (m 100) (m 98) (m 101) (m 102) AT (m 107) (m 108) (m 109) OW (m 112) (m 113) (m 114) (m 94 55) (m 94 46) ro 0 0 0 1 (m 110) (m 119) (m 94 76) (m 94 75) (m 103) (m 111) (m 104) AG (m 94 77) (m 94 60) st oo aa) (r_E0 : qE0 (aPc aa)) (r_CLr : qCl (aPc aa)) (KZ : ∀ m₉, zV (zov wr_209 m m₉) → (zGW T (m₉ 94 55) (m₉ 109)) → (zuw (m 113) (m₉ 113)) → (zOw (m 99) (m₉ 103) (m₉ 111)) → (qYB (m 99) (m 100) (m 98) (m 101) (m 102) AT (m 107) (m 108) (m₉ 109) OW (m 112) (m₉ 113) (m₉ 114) (m₉ 94 55) (m 94 46) ro 0 0 0 1 (m₉ 110) (m₉ 119) (m₉ 94 76) (m₉ 94 75) (m₉ 103) (m₉ 111) (m₉ 104) AG (m₉ 94 77) (m₉ 94 60) st oo (aGw aa 0)) → (qE0 (aPc (aGw aa 0))) → (qCl (aPc (aGw aa 0))) → P none (zov wr_209 m m₉)) : zm X 4 86 209 0 [(0, .inr (.inr (some 94))), (1, .inl yo)] m P := by
  have K : ∀ m₉, zF wr_209 m m₉ → zV m₉ → (zGW T (m₉ 94 55) (m₉ 109)) → (zuw (m 113) (m₉ 113)) → (zOw (m₉ 99) (m₉ 103) (m₉ 111)) → (qYB (m₉ 99) (m₉ 100) (m₉ 98) (m₉ 101) (m₉ 102) AT (m₉ 107) (m₉ 108) (m₉ 109) OW (m₉ 112) (m₉ 113) (m₉ 114) (m₉ 94 55) (m₉ 94 46) ro 0 0 0 1 (m₉ 110) (m₉ 119) (m₉ 94 76) (m₉ 94 75) (m₉ 103) (m₉ 111) (m₉ 104) AG (m₉ 94 77) (m₉ 94 60) st oo (aGw aa 0)) → (qE0 (aPc (aGw aa 0))) → (qCl (aPc (aGw aa 0))) → P none m₉ := by
    intro m₉ hf z q0 q1 q2 q3 q4 q5
    have e := zov_eq hf
    rw [e] at z ⊢
    try rw [e] at q0
    try rw [e] at q1
    try rw [e] at q2
    try rw [e] at q3
    try rw [e] at q4
    try rw [e] at q5
    exact KZ m₉ z q0 q1 q2 q3 q4 q5
  refine g_209_0 yo ?_
  have f1 : 0 ≤ (m 94 10).toInt ∧ (m 94 10).toInt ≤ 6 := rs_94_10 (m := m) hV
  have li2 : (-1 : Int32).toInt = -1 := rfl
  have b3 := i_bd yo
  try have ws0 := WS_ge r_WS (by omega)
  refine sp_195ry ((-1 : Int32)) (yo) hV (by omega) (show ∀ s, s < 3100 → (m 99) s ≠ 0 → (m 110) s = 0 → (m 94 14).toInt ≤ ((m 103) s).toInt from by first | (intro s hs hu hk; have z := YB_ko r_YB hs hu hk; rw [r_AX3.2.1] at z; exact z; done) | (exfalso; omega; done) | (exfalso; contradiction; done)) (fun v2 m1 hV_m1 p0_m1 p1_m1 => zmi_n ?_)
  have p0_m1 : zWS (m 100) (m 99) (m 110) (m 109) (-1 : Int32) v2 := p0_m1
  have p1_m1 : qMin (qCw (m 99) (m 110) (m 109) (m 100) (-1 : Int32)) (m 100) v2 3100 := p1_m1
  try have gw := GW_room r_GW
  try have ws0 := WS_ge r_WS (by omega)
  have b4 := i_bd v2
  exact lp_209ry_9 (yo := yo) hV K _ _ (yo) (v2) rfl (zF_zov zF_rfl ws_195_209) hV_m1 (by omega) (by omega) (show (m 94 10).toInt = 3 from by omega) p0_m1 r_W r_GW (show zuw (m 113) (m 113) from by first | (exact zuw_rfl) | (exact zuw_rfl) | (exfalso; omega; done) | (exfalso; contradiction; done)) r_OW r_AX3 (show qYG (m 99) (m 100) (m 98) (m 101) (m 102) AT (m 107) (m 108) (m 109) OW (m 112) (m 113) (m 114) (m 94 55) (m 94 46) ro 0 0 0 1 (m 110) (m 119) (m 94 76) (m 94 75) (m 103) (m 111) (m 104) AG (m 94 77) (m 94 60) st oo v2 (aGw aa 0) from by first | (exact YG_0 r_YB r_E0 r_CLr p1_m1) | (exfalso; omega; done) | (exfalso; contradiction; done))

/-! from 95.v06 -/
/-! AGES, the reference (written by wip/tools/gen15v.py) -/
/-! AGES, the reference: dirty cards, the minor cleaning put together -/
def qZR (us nr kr kd ws ho wd wi rt wk wl : Nat → Int32) (wm nu ro fo le ra pi : Int32) (kp ca : Nat → Int32) (cat cm : Int32) (at2 ow2 ag2 : Nat → Int32) (to o2 : Int32) (st o0 : Int) (i : Int32) (T : Nat → Nat → Int32) : Prop := ∃ AT OW AG, qYR us nr kr kd ws AT ho wd wi OW rt wk wl wm nu ro fo le ra pi kp ca cat cm at2 ow2 ag2 AG to o2 st o0 i T
def qZX (us nr kr kd ws ho wd wi rt wk wl : Nat → Int32) (wm nu ro fo le ra pi : Int32) (kp ca : Nat → Int32) (cat cm : Int32) (at2 ow2 ag2 : Nat → Int32) (to o2 : Int32) (st o0 : Int) (i : Int32) (T : Nat → Nat → Int32) : Prop := ∃ AT OW AG, qYX us nr kr kd ws AT ho wd wi OW rt wk wl wm nu ro fo le ra pi kp ca cat cm at2 ow2 ag2 AG to o2 st o0 i T
section F36
variable {a b c d aa T : Nat → Nat → Int32} {us us₉ nr kr kd ws AT AG at2 at3 ag2 ag3 ho wd wi OW ow2 ow3 rt wk wk₉ wl kp kp₉ ca ca₉ dt at₉ gs : Nat → Int32} {wm nu ro fo le ra pi cat cm cm₉ to to₉ o2 o2₉ s x y i l cd yo ol ag tp ot hf hf₉ tp₉ ot₉ : Int32} {st o0 p p2 : Int} {j k n f : Nat}
theorem YE_cd (h : qYE us nr kr kd ws AT ho wd wi OW rt wk wl wm nu ro fo le ra pi kp ca cat cm at2 ow2 ag2 AG to o2 st o0 dt p s i T) : (at2 s.toNatClampNeg).toInt = p ∧ us s.toNatClampNeg ≠ 0 ∧ (ws s.toNatClampNeg).toInt ≤ 60 ∧ p + (ws s.toNatClampNeg).toInt + 1 ≤ 1500 ∧ 0 ≤ s.toInt ∧ s.toInt ≤ 3099 ∧ 0 ≤ p ∧ p < o0 ∧ o0 ≤ 1500 := by
  have yp := YE_p h
  obtain ⟨c, hB, _, ⟨h0, h3, hu⟩, ⟨e, hp, hl, _⟩, _⟩ := h
  have sl := tn_lt h0 (by omega : s.toInt < 3100)
  have r := hB.1.1.1 _ sl hu
  have ea := (YB_lo hB sl hu).2 (by rw [← r.2.2.2.1, e]; exact hl)
  obtain ⟨p1, ⟨p2, p2₉⟩, p3, p4, p5, hA, hF, f5, es, eo⟩ := hB.2.2
  have al := R1_al hB.1.1 sl hu
  have a1 := hA.2.2.2.2.2.2 _ al
  have a3 := hA.2.2.1
  have a6 := hA.2.2.2.2.2.1
  have sz : (c 128 (nr s.toNatClampNeg).toNatClampNeg).toInt = (ws s.toNatClampNeg).toInt + 1 := by
    rw [r.2.2.1]
    exact i_addk rfl (by have := r.2.2.2.2.2.1; omega) (by have := r.2.2.2.2.2.1; omega)
  unfold qA1 at a1
  have a12 := a1.2.1 (by omega)
  have e2 := r.2.2.2.1
  have w6 := r.2.2.2.2.2.1
  refine ⟨by rw [ea, ← e2]; exact e, hu, by omega, by omega, yp⟩
theorem YB_c4 (h : qYB us nr kr kd ws AT ho wd wi OW rt wk wl wm nu ro fo le ra pi kp ca cat cm at2 ow2 ag2 AG to o2 st o0 c) (hx : qAX c yo ol ag cd) : 4 ≤ cd.toInt ∧ o0 ≤ ol.toInt := by
  have a3 := h.2.2.2.2.2.2.2.1.2.2.1
  have a6 := h.2.2.2.2.2.2.2.1.2.2.2.2.2.1
  have eo := h.2.2.2.2.2.2.2.2.2.2.2
  rw [← hx.2.2.2, ← hx.2.1]
  omega
theorem card_i2 {a i c : Int32} (h1 : 0 ≤ a.toInt) (h2 : a.toInt ≤ 4599) (h3 : 0 ≤ i.toInt) (h4 : i.toInt ≤ 60) (h5 : 4 ≤ c.toInt) : (a.toInt + 1 + (i.toNatClampNeg : Int)) / c.toInt = ((((a + (1 : Int32) + i) / c).toNatClampNeg : Nat) : Int) := by
  rw [card_ix h1 h2 h3 h4 h5]
  have t := tn_cast h3
  have g : 0 ≤ (a.toInt + 1 + (i.toNatClampNeg : Int)) / c.toInt := Int.ediv_nonneg (by omega) (by omega)
  omega
theorem YE_ix (hB : qYB us nr kr kd ws AT ho wd wi OW rt wk wl wm nu ro fo le ra pi kp ca cat cm at2 ow2 ag2 AG to o2 st o0 c) (hx : qAX c yo ol ag cd) (he : (c 130 (nr s.toNatClampNeg).toNatClampNeg).toInt = p) (ha : (at2 s.toNatClampNeg).toInt = p) (hp : 0 ≤ p) (hl : p ≤ 1500) (hi : 0 ≤ i.toInt) (h6 : i.toInt ≤ 60) : ((((at2 s.toNatClampNeg + (1 : Int32) + i) / cd).toNatClampNeg : Nat) : Int) = gCx c (nr s.toNatClampNeg).toNatClampNeg i.toInt := by
  have c4 := (YB_c4 hB hx).1
  rw [← card_i2 (by omega) (by omega) hi h6 c4]
  unfold gCx
  rw [he, hx.2.2.2, ha, tn_cast hi]
theorem YE_cm (hB2 : qYB us nr kr kd ws AT ho wd wi OW rt wk wl wm nu ro fo le ra pi kp₉ ca₉ cat cm₉ at3 ow3 ag3 AG to₉ o2₉ st o0 (aCm c y)) (hd : qDt dt c) (hs : 0 ≤ s.toInt ∧ s.toInt ≤ 3099 ∧ us s.toNatClampNeg ≠ 0) (hp : (c 130 (nr s.toNatClampNeg).toNatClampNeg).toInt = p ∧ 0 ≤ p ∧ p < o0 ∧ qGd c p) (hT : gDp (gDw c (nr s.toNatClampNeg).toNatClampNeg i) o0 (p + (c 128 (nr s.toNatClampNeg).toNatClampNeg).toInt) = T) (hz : gDw c (nr s.toNatClampNeg).toNatClampNeg i = gDw (aCm c y) (nr s.toNatClampNeg).toNatClampNeg (i + 1)) : qYE us nr kr kd ws AT ho wd wi OW rt wk wl wm nu ro fo le ra pi kp₉ ca₉ cat cm₉ at3 ow3 ag3 AG to₉ o2₉ st o0 dt p s (i + 1) T := by
  have o : zOf c (aCm c y) := cm_of
  refine ⟨_, hB2, Dt_cm hd, hs, ⟨?_, hp.2.1, hp.2.2.1, Gd_of hp.2.2.2 o⟩, ?_⟩
  · rw [of_r o (k := 130) (by decide) (by decide) (by decide)]
    exact hp.1
  · rw [← hz, of_r o (k := 128) (by decide) (by decide) (by decide)]
    exact hT
theorem Do_e (h : qDo us ws at₉ kr kd wd ol cd dt l.toNatClampNeg) (hl : l.toInt = 3100) (hR : qRB us nr kr kd ws at₉ ho wd wi OW rt wk wl wm nu ro fo le ra pi a) (hx : qAX a yo ol ag cd) (hc : 4 ≤ cd.toInt) : qDt dt (gFd a) := by
  have t := tn_cast (x := l) (by omega)
  rw [show l.toNatClampNeg = 3100 from by omega] at h
  exact Do_end h hR hx.2.1 hx.2.2.2 hc
theorem B3_e (hv : qAv a) : aPc (aSp 512 (gDp (aRo (aWh a (a 87 9)) 0) (a 87 10).toInt 0)) = gB3 a := by
  have f0 : 0 ≤ (aWh a (a 87 9) 75 5).toInt := by
    rw [wh_5]
    have := hv.2.2.1
    omega
  have f1 : 0 ≤ (aRo (aWh a (a 87 9)) 0 75 5).toInt := by
    rw [ro_5]
    exact f0
  have f2 : 0 ≤ (gDp (aRo (aWh a (a 87 9)) 0) (a 87 10).toInt 0 75 5).toInt := by
    show 0 ≤ (gDf _ _ _ _ 75 5).toInt
    rw [df_5]
    exact f1
  rw [Pc_sp _ _ f2, Pc_dp f1, Pc_ro f0]
  rfl
theorem AL_to (h : qAL a yo ol ag cd tp ot hf) (hv : qAv a) (ht : (hf.toInt = 0 → to.toInt = ol.toInt + yo.toInt) ∧ (hf.toInt = 1 → to.toInt = ol.toInt)) : to.toInt = 2 * (a 87 9).toInt + (a 87 5).toInt - (a 87 3).toInt := by
  obtain ⟨⟨h1, h2, h3, h4⟩, h5, h6, h7, h8, h9⟩ := h
  rw [h1, h2]
  omega
theorem G_87 (h3 : k ≠ 3) (h4 : k ≠ 4) (h10 : k ≠ 10) : gMf f 0 (gMk1 a) 87 k = a 87 k := by
  rw [gMf_7 h4 h10]
  show ma_u (ma_u (gMk0 a) 87 3 _) 87 4 _ 87 k = _
  rw [xu_o (fun z => h4 z.2), xu_o (fun z => h3 z.2), Mi_8 ⟨by decide, by decide⟩]
theorem AX_G (h : qAX a yo ol ag cd) : qAX (gMf f 0 (gMk1 a)) yo ol ag cd := ⟨(G_87 (by decide) (by decide) (by decide)).trans h.1, (G_87 (by decide) (by decide) (by decide)).trans h.2.1, (G_87 (by decide) (by decide) (by decide)).trans h.2.2.1, (G_87 (by decide) (by decide) (by decide)).trans h.2.2.2⟩
theorem AX_h (h : qAX a yo ol ag cd) {z : Int} {v : Int32} : qAX (ma_u (zSd (aSw a) z 0 0).1 87 10 v) yo ol ag cd := by
  have r : ∀ k, k ≠ 10 → ma_u (zSd (aSw a) z 0 0).1 87 10 v 87 k = a 87 k := fun k hk => by
    rw [xu_o (fun w => hk w.2)]
    exact (Sf_r (by decide) (by decide) _ _ _ _).trans sw_87
  exact ⟨(r 5 (by decide)).trans h.1, (r 9 (by decide)).trans h.2.1, (r 11 (by decide)).trans h.2.2.1, (r 12 (by decide)).trans h.2.2.2⟩
theorem Ag_ma2 (hg : qAg us nr gs a) (hv : qAv a) (e : d = gMa a) (hR : qR1 us₉ nr ws at₉ ho d) (hu : ∀ s, s < 3100 → us₉ s ≠ 0 → us s ≠ 0) : qAg us₉ nr gs (gMa a) := Ag_ma hg hv (e ▸ hR) hu
theorem AL_mv (h : qAL a yo ol ag cd tp ot hf) (hv : qAv a) (h4 : tp₉ = gMf (gMk1 a 75 4).toInt.toNat 0 (gMk1 a) 87 4) (h10 : ot₉ = gMf (gMk1 a 75 4).toInt.toNat 0 (gMk1 a) 87 10) (hh : hf₉.toInt = 1 - hf.toInt) : qAL (gMv a) yo ol ag cd tp₉ ot₉ hf₉ := by
  obtain ⟨⟨h1, h2, h3, h4₉⟩, h5, h6, h7, h8, h9⟩ := h
  have r : ∀ k, gMv a 87 k = gMf (gMk1 a 75 4).toInt.toNat 0 (gMk1 a) 87 k := fun k => by
    show gFd _ 87 k = _
    rw [Fd_r (by decide)]
  have v3 := v3_e hv
  have r3 : gMv a 87 3 = a 87 9 + a 87 5 + a 87 9 - a 87 3 := by
    rw [r, gMf_7 (by decide) (by decide)]
    show ma_u (ma_u (gMk0 a) 87 3 _) 87 4 _ 87 3 = _
    rw [xu_o (fun z => absurd z.2 (by decide)), xu_s]
  refine ⟨⟨?_, ?_, ?_, ?_⟩, ?_, ?_, by omega, fun w => ?_, fun w => ?_⟩
  · rw [r, G_87 (by decide) (by decide) (by decide), h1]
  · rw [r, G_87 (by decide) (by decide) (by decide), h2]
  · rw [r, G_87 (by decide) (by decide) (by decide), h3]
  · rw [r, G_87 (by decide) (by decide) (by decide), h4₉]
  · rw [r, h4]
  · rw [r, h10]
  · rw [r3, v3, h1, h2]
    have := h9 (by omega)
    omega
  · rw [r3, v3, h1, h2]
    have := h8 (by omega)
    omega
theorem AL_tp (h : qAL a yo ol ag cd tp ot hf) (e : hf = hf₉) : qAL a yo ol ag cd (a 87 4) (a 87 10) hf₉ := ⟨h.1, rfl, rfl, e ▸ h.2.2.2⟩
theorem ro_r (h : n ≠ 75 ∧ n ≠ 76 ∧ n ≠ 77) : aRo (aWh a x) 0 n = a n := funext (fun k => (aRo_o h).trans (wh_of n k h.1 h.2.1 h.2.2).symm)
theorem AX_t1 (h : qAX a yo ol ag cd) : qAX (aRo (aWh a x) 0) yo ol ag cd := AX_cg h (ro_r ⟨by decide, by decide, by decide⟩)
theorem AX_t2 (h : qAX a yo ol ag cd) : qAX (gDp (aRo (aWh a x) 0) p p2) yo ol ag cd := AX_cg (AX_t1 h) (funext (fun k => gdf_o ⟨by decide, by decide, by decide⟩ _ _ _))
theorem Dt_t1 (h : qDt dt a) : qDt dt (aRo (aWh a x) 0) := by
  unfold qDt
  rw [ro_r ⟨by decide, by decide, by decide⟩]
  exact h
theorem Ag_mv (h : ∀ s, s < 3100 → us₉ s ≠ 0 → ag2 s = gMf (gMk1 a 75 4).toInt.toNat 0 (gMk1 a) 131 (nr s).toNatClampNeg) : qAg us₉ nr ag2 (gMv a) := fun s hs hu => by
  rw [h s hs hu]
  show _ = gFd _ 131 _
  rw [Fd_r (by decide)]
end F36
set_option maxHeartbeats 8000000 in
theorem lp_216ry_27 {X : Nat × (Nat → Int32)} {P : Option ma_V → (Nat → Nat → Int32) → Prop} {aa : Nat→Nat→Int32} {AT : Nat→Int32} {OW : Nat→Int32} {AG : Nat→Int32} {ro : Int32} {st : Int} {oo : Int} {en : Int32} {m0 : Nat → Nat → Int32} (h0 : zV m0) (K : ∀ m₉, zF wr_216 m0 m₉ → zV m₉ → (zOw (m₉ 99) (m₉ 103) (m₉ 111)) → (qYB (m₉ 99) (m₉ 100) (m₉ 98) (m₉ 101) (m₉ 102) AT (m₉ 107) (m₉ 108) (m₉ 109) OW (m₉ 112) (m₉ 113) (m₉ 114) (m₉ 94 55) (m₉ 94 46) ro 0 0 0 1 (m₉ 110) (m₉ 119) (m₉ 94 76) (m₉ 94 75) (m₉ 103) (m₉ 111) (m₉ 104) AG (m₉ 94 77) (m₉ 94 60) st oo (gDp aa oo 0)) → P none m₉) {n2 : Nat} (OUT2 : ∀ (m₉ : Nat → Nat → Int32) (l1 : Int32) (l2 : Int32), (l1.toInt - l2.toInt).toNat < n2 → zF wr_216 m0 m₉ → zV m₉ → (0 ≤ l2.toInt) → (l1.toInt = oo) → ((m₉ 94 10).toInt = 3) → (zW (m₉ 94 7) (m₉ 98) (m₉ 101) (m₉ 102) (m₉ 108)) → (zOw (m₉ 99) (m₉ 103) (m₉ 111)) → (qAX aa (m₉ 94 13) (m₉ 94 14) (m₉ 94 15) (m₉ 94 16)) → (qYD (m₉ 99) (m₉ 100) (m₉ 98) (m₉ 101) (m₉ 102) AT (m₉ 107) (m₉ 108) (m₉ 109) OW (m₉ 112) (m₉ 113) (m₉ 114) (m₉ 94 55) (m₉ 94 46) ro 0 0 0 1 (m₉ 110) (m₉ 119) (m₉ 94 76) (m₉ 94 75) (m₉ 103) (m₉ 111) (m₉ 104) AG (m₉ 94 77) (m₉ 94 60) st oo (m₉ 117) l2.toInt (gDp aa oo 0)) → zm X 3 64 216 2 [(0, .inr (.inr (some 94))), (1, .inl l1), (2, .inl l2)] m₉ P) : ∀ (n : Nat) (m : Nat → Nat → Int32) (l1 : Int32) (l2 : Int32) (l3 : Int32) (l4 : Int32), (61 - l4.toInt).toNat = n → zF wr_216 m0 m → zV m → (0 ≤ l2.toInt) → (l1.toInt = oo) → (l2.toInt < l1.toInt) → (0 ≤ l3.toInt) → (l3.toInt ≤ 3099) → (0 ≤ l4.toInt) → ((l1.toInt - l2.toInt).toNat = n2) → ((m 94 10).toInt = 3) → (zW (m 94 7) (m 98) (m 101) (m 102) (m 108)) → (zOw (m 99) (m 103) (m 111)) → (qAX aa (m 94 13) (m 94 14) (m 94 15) (m 94 16)) → (qYE (m 99) (m 100) (m 98) (m 101) (m 102) AT (m 107) (m 108) (m 109) OW (m 112) (m 113) (m 114) (m 94 55) (m 94 46) ro 0 0 0 1 (m 110) (m 119) (m 94 76) (m 94 75) (m 103) (m 111) (m 104) AG (m 94 77) (m 94 60) st oo (m 117) l2.toInt l3 l4 (gDp aa oo 0)) → zm X 3 64 216 27 [(0, .inr (.inr (some 94))), (1, .inl l1), (2, .inl l2), (3, .inl l3), (4, .inl l4)] m P := by
  intro n
  induction n using Nat.strongRecOn with
  | _ n IH =>
    intro m l1 l2 l3 l4 hmu hF hV hi0 hi1 hi2 hi3 hi4 hi5 hi6 hi7 r_W r_OW r_AX3 r_YE
    refine g_216_27 l1 l2 l3 l4 ?_
    have f1 : 0 ≤ (m 94 10).toInt ∧ (m 94 10).toInt ≤ 6 := rs_94_10 (m := m) hV
    have yc := YE_cd r_YE
    obtain ⟨c, hB, hd, hs, hp, hT⟩ := r_YE
    have cAX := AX_dp r_AX3 hT
    have c4 := YB_c4 hB cAX
    have cl : (c 130 (m 100 l3.toNatClampNeg).toNatClampNeg).toInt < (c 87 9).toInt := (by rw [cAX.2.1]; omega)
    have b2 := i_bd l3
    try have tc2 := tn_cast (x := l2) (by omega)
    try have ow2 := r_OW l2.toNatClampNeg (by omega) (by omega)
    have hg3 : (0 ≤ l3 ∧ l3.toNatClampNeg < 3100) := i_ix (by omega) (by omega)
    refine ⟨hg3, ?_⟩
    first | have f4 : 0 ≤ (m 102 l3.toNatClampNeg).toInt ∧ (m 102 l3.toNatClampNeg).toInt ≤ 60 := ra_102 (m := m) hV (k := l3.toNatClampNeg) (i_ix (n := 3100) (by omega) (by omega)).2 | have b5 := i_bd (m 102 l3.toNatClampNeg)
    have b6 := i_bd l4
    refine zd (fun (h7 : (m 102 l3.toNatClampNeg) ≤ l4) => ?_) (fun (h7 : ¬ (m 102 l3.toNatClampNeg) ≤ l4) => ?_)
    · skip
      have g8 := i_le h7
      try have tc2 := tn_cast (x := l2) (by omega)
      try have ow2 := r_OW l2.toNatClampNeg (by omega) (by omega)
      have hg9 : (0 ≤ l3 ∧ l3.toNatClampNeg < 3100) := i_ix (by omega) (by omega)
      refine ⟨hg9, ?_⟩
      try have tc2 := tn_cast (x := l2) (by omega)
      try have ow2 := r_OW l2.toNatClampNeg (by omega) (by omega)
      have b10 := i_bd l1
      have b11 := i_bd l2
      first | have e12 : ((m 102 l3.toNatClampNeg) + (1 : Int32)).toInt = (m 102 l3.toNatClampNeg).toInt + (1) := i_addk rfl (by omega) (by omega) | have b13 := i_bd ((m 102 l3.toNatClampNeg) + (1 : Int32))
      first | have e14 : (l2 + ((m 102 l3.toNatClampNeg) + (1 : Int32))).toInt = l2.toInt + ((m 102 l3.toNatClampNeg) + (1 : Int32)).toInt := i_add (by omega) (by omega) | have b15 := i_bd (l2 + ((m 102 l3.toNatClampNeg) + (1 : Int32)))
      exact OUT2 _ (l1) ((l2 + ((m 102 l3.toNatClampNeg) + (1 : Int32)))) (show (l1.toInt - (l2 + ((m 102 l3.toNatClampNeg) + (1 : Int32))).toInt).toNat < n2 from by omega) hF hV (by omega) (by omega) (show (m 94 10).toInt = 3 from by omega) r_W r_OW r_AX3 (show qYD (m 99) (m 100) (m 98) (m 101) (m 102) AT (m 107) (m 108) (m 109) OW (m 112) (m 113) (m 114) (m 94 55) (m 94 46) ro 0 0 0 1 (m 110) (m 119) (m 94 76) (m 94 75) (m 103) (m 111) (m 104) AG (m 94 77) (m 94 60) st oo (m 117) (l2 + ((m 102 l3.toNatClampNeg) + (1 : Int32))).toInt (gDp aa oo 0) from by first | (exact YE_end ⟨c, hB, hd, hs, hp, hT⟩ (by omega) (by omega) (by omega)) | (exfalso; omega; done) | (exfalso; contradiction; done))
    · skip
      have g16 := i_nle h7
      have hg17 : (0 ≤ l3 ∧ l3.toNatClampNeg < 3100) := i_ix (by omega) (by omega)
      refine ⟨hg17, ?_⟩
      have f18 : 0 ≤ (m 94 16).toInt ∧ (m 94 16).toInt ≤ 64 := rs_94_16 (m := m) hV
      have hg19 : (m 94 16) ≠ 0 := i_nz (by omega)
      refine ⟨hg19, ?_⟩
      first | have f20 : 0 ≤ (m 103 l3.toNatClampNeg).toInt ∧ (m 103 l3.toNatClampNeg).toInt ≤ 4599 := ra_103 (m := m) hV (k := l3.toNatClampNeg) (i_ix (n := 3100) (by omega) (by omega)).2 | have b21 := i_bd (m 103 l3.toNatClampNeg)
      first | have e22 : ((m 103 l3.toNatClampNeg) + (1 : Int32)).toInt = (m 103 l3.toNatClampNeg).toInt + (1) := i_addk rfl (by omega) (by omega) | have b23 := i_bd ((m 103 l3.toNatClampNeg) + (1 : Int32))
      first | have e24 : (((m 103 l3.toNatClampNeg) + (1 : Int32)) + l4).toInt = ((m 103 l3.toNatClampNeg) + (1 : Int32)).toInt + l4.toInt := i_add (by omega) (by omega) | have b25 := i_bd (((m 103 l3.toNatClampNeg) + (1 : Int32)) + l4)
      first | have f26 := i_div (x := (((m 103 l3.toNatClampNeg) + (1 : Int32)) + l4)) (y := (m 94 16)) (by omega) (by omega) | have b27 := i_bd ((((m 103 l3.toNatClampNeg) + (1 : Int32)) + l4) / (m 94 16))
      try have dv : 0 ≤ (((((m 103 l3.toNatClampNeg) + (1 : Int32)) + l4) / (m 94 16))).toInt ∧ (((((m 103 l3.toNatClampNeg) + (1 : Int32)) + l4) / (m 94 16))).toInt ≤ 499 := i_div4 (by omega) (by omega) (by omega)
      have hg28 : (0 ≤ ((((m 103 l3.toNatClampNeg) + (1 : Int32)) + l4) / (m 94 16)) ∧ ((((m 103 l3.toNatClampNeg) + (1 : Int32)) + l4) / (m 94 16)).toNatClampNeg < 512) := i_ix (by omega) (by omega)
      refine ⟨hg28, ?_⟩
      first | have f29 : 0 ≤ (m 117 ((((m 103 l3.toNatClampNeg) + (1 : Int32)) + l4) / (m 94 16)).toNatClampNeg).toInt ∧ (m 117 ((((m 103 l3.toNatClampNeg) + (1 : Int32)) + l4) / (m 94 16)).toNatClampNeg).toInt ≤ 1 := ra_117 (m := m) hV (k := ((((m 103 l3.toNatClampNeg) + (1 : Int32)) + l4) / (m 94 16)).toNatClampNeg) (i_ix (n := 512) (by omega) (by omega)).2 | have b30 := i_bd (m 117 ((((m 103 l3.toNatClampNeg) + (1 : Int32)) + l4) / (m 94 16)).toNatClampNeg)
      have li31 : (0 : Int32).toInt = 0 := rfl
      refine zd (fun (h32 : (m 117 ((((m 103 l3.toNatClampNeg) + (1 : Int32)) + l4) / (m 94 16)).toNatClampNeg) = (0 : Int32)) => ?_) (fun (h32 : ¬ (m 117 ((((m 103 l3.toNatClampNeg) + (1 : Int32)) + l4) / (m 94 16)).toNatClampNeg) = (0 : Int32)) => ?_)
      · skip
        have g33 := i_eq h32
        try have tc2 := tn_cast (x := l2) (by omega)
        try have ow2 := r_OW l2.toNatClampNeg (by omega) (by omega)
        have b34 := i_bd l1
        have b35 := i_bd l2
        first | have e36 : (l4 + (1 : Int32)).toInt = l4.toInt + (1) := i_addk rfl (by omega) (by omega) | have b37 := i_bd (l4 + (1 : Int32))
        exact IH (61 - (l4 + (1 : Int32)).toInt).toNat (by omega) _ (l1) (l2) (l3) ((l4 + (1 : Int32))) rfl hF hV (by omega) (by omega) (by omega) (by omega) (by omega) (by omega) (by omega) (show (m 94 10).toInt = 3 from by omega) r_W r_OW r_AX3 (show qYE (m 99) (m 100) (m 98) (m 101) (m 102) AT (m 107) (m 108) (m 109) OW (m 112) (m 113) (m 114) (m 94 55) (m 94 46) ro 0 0 0 1 (m 110) (m 119) (m 94 76) (m 94 75) (m 103) (m 111) (m 104) AG (m 94 77) (m 94 60) st oo (m 117) l2.toInt l3 (l4 + (1 : Int32)) (gDp aa oo 0) from by first | (exact ⟨c, hB, hd, hs, hp, by rw [← (YE_n hB hd hs.1 hs.2.1 hs.2.2 cl (by omega) (by omega) (YE_ix hB cAX hp.1 yc.1 (by omega) (by omega) (by omega) (by omega)) (by assumption))]; exact hT⟩) | (exfalso; omega; done) | (exfalso; contradiction; done))
      · skip
        have g38 := i_ne h32
        refine sp_192 (l3) (l4) hV (by omega) (by omega) (by omega) (show l4.toInt < (m 102 l3.toNatClampNeg).toInt from by omega) (fun v2 m1 hV_m1 p0_m1 => zmi_n ?_)
        have p0_m1 : v2 = zrf (m 98) (m 101) (m 108) l3.toNatClampNeg l4.toNatClampNeg := p0_m1
        try have := W_ref r_W (by omega) (by omega) (by omega) (by omega) p0_m1
        have b39 := i_bd v2
        refine sp_207ry (aa := c) (v2) hV_m1 (by omega) (by omega) (show (m 94 10).toInt = 3 from by omega) (show qU (m 99) v2 from by first | (exact (YE_y hB hd hs.1 hs.2.1 hs.2.2 cl (by omega) (by omega) (YE_ix hB cAX hp.1 yc.1 (by omega) (by omega) (by omega) (by omega)) (by assumption) p0_m1.symm).1) | (exfalso; omega; done) | (exfalso; contradiction; done)) r_OW (show qAX c (m 94 13) (m 94 14) (m 94 15) (m 94 16) from by first | (exact cAX) | (exact r_AX3) | (exfalso; omega; done) | (exfalso; contradiction; done)) hB (fun m3 hV_m3 p0_m3 p1_m3 => zmv_n ?_)
        have p0_m3 : zOw (m 99) (m3 103) (m3 111) := p0_m3
        have p1_m3 : qYB (m 99) (m 100) (m 98) (m 101) (m 102) AT (m 107) (m 108) (m 109) OW (m 112) (m 113) (m 114) (m 94 55) (m 94 46) ro 0 0 0 1 (m3 110) (m3 119) (m 94 76) (m3 94 75) (m3 103) (m3 111) (m3 104) AG (m3 94 77) (m3 94 60) st oo (aCm c (qNo (m 100) v2)) := p1_m3
        try have tc2 := tn_cast (x := l2) (by omega)
        try have ow2 := p0_m3 l2.toNatClampNeg (by omega) (by omega)
        have b40 := i_bd l1
        have b41 := i_bd l2
        first | have e42 : (l4 + (1 : Int32)).toInt = l4.toInt + (1) := i_addk rfl (by omega) (by omega) | have b43 := i_bd (l4 + (1 : Int32))
        exact IH (61 - (l4 + (1 : Int32)).toInt).toNat (by omega) _ (l1) (l2) (l3) ((l4 + (1 : Int32))) rfl (zF_zov (zF_zov hF ws_192_216) ws_207_216) hV_m3 (by omega) (by omega) (by omega) (by omega) (by omega) (by omega) (by omega) (show (m 94 10).toInt = 3 from by omega) r_W p0_m3 r_AX3 (show qYE (m 99) (m 100) (m 98) (m 101) (m 102) AT (m 107) (m 108) (m 109) OW (m 112) (m 113) (m 114) (m 94 55) (m 94 46) ro 0 0 0 1 (m3 110) (m3 119) (m 94 76) (m3 94 75) (m3 103) (m3 111) (m3 104) AG (m3 94 77) (m3 94 60) st oo (m 117) l2.toInt l3 (l4 + (1 : Int32)) (gDp aa oo 0) from by first | (exact YE_cm p1_m3 hd hs hp hT (YE_y hB hd hs.1 hs.2.1 hs.2.2 cl (by omega) (by omega) (YE_ix hB cAX hp.1 yc.1 (by omega) (by omega) (by omega) (by omega)) (by assumption) p0_m1.symm).2) | (exfalso; omega; done) | (exfalso; contradiction; done))
set_option maxHeartbeats 8000000 in
theorem lp_216ry_2 {X : Nat × (Nat → Int32)} {P : Option ma_V → (Nat → Nat → Int32) → Prop} {aa : Nat→Nat→Int32} {AT : Nat→Int32} {OW : Nat→Int32} {AG : Nat→Int32} {ro : Int32} {st : Int} {oo : Int} {en : Int32} {m0 : Nat → Nat → Int32} (h0 : zV m0) (K : ∀ m₉, zF wr_216 m0 m₉ → zV m₉ → (zOw (m₉ 99) (m₉ 103) (m₉ 111)) → (qYB (m₉ 99) (m₉ 100) (m₉ 98) (m₉ 101) (m₉ 102) AT (m₉ 107) (m₉ 108) (m₉ 109) OW (m₉ 112) (m₉ 113) (m₉ 114) (m₉ 94 55) (m₉ 94 46) ro 0 0 0 1 (m₉ 110) (m₉ 119) (m₉ 94 76) (m₉ 94 75) (m₉ 103) (m₉ 111) (m₉ 104) AG (m₉ 94 77) (m₉ 94 60) st oo (gDp aa oo 0)) → P none m₉) : ∀ (n : Nat) (m : Nat → Nat → Int32) (l1 : Int32) (l2 : Int32), (l1.toInt - l2.toInt).toNat = n → zF wr_216 m0 m → zV m → (0 ≤ l2.toInt) → (l1.toInt = oo) → ((m 94 10).toInt = 3) → (zW (m 94 7) (m 98) (m 101) (m 102) (m 108)) → (zOw (m 99) (m 103) (m 111)) → (qAX aa (m 94 13) (m 94 14) (m 94 15) (m 94 16)) → (qYD (m 99) (m 100) (m 98) (m 101) (m 102) AT (m 107) (m 108) (m 109) OW (m 112) (m 113) (m 114) (m 94 55) (m 94 46) ro 0 0 0 1 (m 110) (m 119) (m 94 76) (m 94 75) (m 103) (m 111) (m 104) AG (m 94 77) (m 94 60) st oo (m 117) l2.toInt (gDp aa oo 0)) → zm X 3 64 216 2 [(0, .inr (.inr (some 94))), (1, .inl l1), (2, .inl l2)] m P := by
  intro n
  induction n using Nat.strongRecOn with
  | _ n IH =>
    intro m l1 l2 hmu hF hV hi0 hi1 hi2 r_W r_OW r_AX3 r_YD
    refine g_216_2 l1 l2 ?_
    have f1 : 0 ≤ (m 94 10).toInt ∧ (m 94 10).toInt ≤ 6 := rs_94_10 (m := m) hV
    have b2 := i_bd l1
    have b3 := i_bd l2
    refine zd (fun (h4 : l1 ≤ l2) => ?_) (fun (h4 : ¬ l1 ≤ l2) => ?_)
    · skip
      have g5 := i_le h4
      try have yd := YD_p r_YD
      try have tc2 := tn_cast (x := l2) (by omega)
      try have ow2 := r_OW l2.toNatClampNeg (by omega) (by omega)
      exact K _ hF hV r_OW (show qYB (m 99) (m 100) (m 98) (m 101) (m 102) AT (m 107) (m 108) (m 109) OW (m 112) (m 113) (m 114) (m 94 55) (m 94 46) ro 0 0 0 1 (m 110) (m 119) (m 94 76) (m 94 75) (m 103) (m 111) (m 104) AG (m 94 77) (m 94 60) st oo (gDp aa oo 0) from by first | (exact (YD_end r_YD (by omega)).1) | (exfalso; omega; done) | (exfalso; contradiction; done))
    · skip
      have g6 := i_nle h4
      try have yd := YD_p r_YD
      have hg7 : (0 ≤ l2 ∧ l2.toNatClampNeg < 4600) := i_ix (by omega) (by omega)
      refine ⟨hg7, ?_⟩
      have li8 : (0 : Int32).toInt = 0 := rfl
      first | have f9 : -1 ≤ (m 111 l2.toNatClampNeg).toInt ∧ (m 111 l2.toNatClampNeg).toInt ≤ 3099 := ra_111 (m := m) hV (k := l2.toNatClampNeg) (i_ix (n := 4600) (by omega) (by omega)).2 | have b10 := i_bd (m 111 l2.toNatClampNeg)
      refine zd (fun (h11 : (0 : Int32) ≤ (m 111 l2.toNatClampNeg)) => ?_) (fun (h11 : ¬ (0 : Int32) ≤ (m 111 l2.toNatClampNeg)) => ?_)
      · skip
        have g12 := i_le h11
        try have yd := YD_p r_YD
        try have tc2 := tn_cast (x := l2) (by omega)
        try have ow2 := r_OW l2.toNatClampNeg (by omega) (by omega)
        exact lp_216ry_27 (en := en) h0 K (fun _ _ _ z1 z2 z3 y0 y1 y2 y3 y4 y5 y6 => IH _ z1 _ _ _ rfl z2 z3 y0 y1 y2 y3 y4 y5 y6) _ _ (l1) (l2) ((m 111 l2.toNatClampNeg)) ((0 : Int32)) rfl hF hV (by omega) (by omega) (by omega) (by omega) (by omega) (by omega) (by omega) (show (m 94 10).toInt = 3 from by omega) r_W r_OW r_AX3 (show qYE (m 99) (m 100) (m 98) (m 101) (m 102) AT (m 107) (m 108) (m 109) OW (m 112) (m 113) (m 114) (m 94 55) (m 94 46) ro 0 0 0 1 (m 110) (m 119) (m 94 76) (m 94 75) (m 103) (m 111) (m 104) AG (m 94 77) (m 94 60) st oo (m 117) l2.toInt (m 111 l2.toNatClampNeg) (0 : Int32) (gDp aa oo 0) from by first | (exact YD_go r_YD r_OW (by omega) rfl (by omega) (by omega) (by decide)) | (exfalso; omega; done) | (exfalso; contradiction; done))
      · skip
        have g13 := i_nle h11
        try have yd := YD_p r_YD
        try have tc2 := tn_cast (x := l2) (by omega)
        try have ow2 := r_OW l2.toNatClampNeg (by omega) (by omega)
        first | have e14 : (l2 + (1 : Int32)).toInt = l2.toInt + (1) := i_addk rfl (by omega) (by omega) | have b15 := i_bd (l2 + (1 : Int32))
        exact IH (l1.toInt - (l2 + (1 : Int32)).toInt).toNat (by omega) _ (l1) ((l2 + (1 : Int32))) rfl hF hV (by omega) (by omega) (show (m 94 10).toInt = 3 from by omega) r_W r_OW r_AX3 (show qYD (m 99) (m 100) (m 98) (m 101) (m 102) AT (m 107) (m 108) (m 109) OW (m 112) (m 113) (m 114) (m 94 55) (m 94 46) ro 0 0 0 1 (m 110) (m 119) (m 94 76) (m 94 75) (m 103) (m 111) (m 104) AG (m 94 77) (m 94 60) st oo (m 117) (l2 + (1 : Int32)).toInt (gDp aa oo 0) from by first | (exact YD_fr r_YD (by omega) (show (m 111 l2.toNatClampNeg).toInt < 0 by omega) (by omega)) | (exfalso; omega; done) | (exfalso; contradiction; done))
set_option maxHeartbeats 8000000 in
theorem sp_216ry {X : Nat × (Nat → Int32)} {P : Option ma_V → (Nat → Nat → Int32) → Prop} {aa : Nat→Nat→Int32} {AT : Nat→Int32} {OW : Nat→Int32} {AG : Nat→Int32} {ro : Int32} {st : Int} {oo : Int} {m : Nat → Nat → Int32} (en : Int32) (hV : zV m) (hpre0 : 0 ≤ en.toInt) (hpre1 : en.toInt = oo) (hpre2 : (m 94 10).toInt = 3) (r_W : zW (m 94 7) (m 98) (m 101) (m 102) (m 108)) (r_OW : zOw (m 99) (m 103) (m 111)) (r_AX3 : qAX aa (m 94 13) (m 94 14) (m 94 15) (m 94 16)) (r_DT : qDt (m 117) aa) (r_YB : qYB (m 99) (m 100) (m 98) (m 101) (m 102) AT (m 107) (m 108) (m 109) OW (m 112) (m 113) (m 114) (m 94 55) (m 94 46) ro 0 0 0 1 (m 110) (m 119) (m 94 76) (m 94 75) (m 103) (m 111) (m 104) AG (m 94 77) (m 94 60) st oo aa) (KZ : ∀ m₉, zV (zov wr_216 m m₉) → (zOw (m 99) (m₉ 103) (m₉ 111)) → (qYB (m 99) (m 100) (m 98) (m 101) (m 102) AT (m 107) (m 108) (m 109) OW (m 112) (m 113) (m 114) (m 94 55) (m 94 46) ro 0 0 0 1 (m₉ 110) (m₉ 119) (m 94 76) (m₉ 94 75) (m₉ 103) (m₉ 111) (m₉ 104) AG (m₉ 94 77) (m₉ 94 60) st oo (gDp aa oo 0)) → P none (zov wr_216 m m₉)) : zm X 3 64 216 0 [(0, .inr (.inr (some 94))), (1, .inl en)] m P := by
  have K : ∀ m₉, zF wr_216 m m₉ → zV m₉ → (zOw (m₉ 99) (m₉ 103) (m₉ 111)) → (qYB (m₉ 99) (m₉ 100) (m₉ 98) (m₉ 101) (m₉ 102) AT (m₉ 107) (m₉ 108) (m₉ 109) OW (m₉ 112) (m₉ 113) (m₉ 114) (m₉ 94 55) (m₉ 94 46) ro 0 0 0 1 (m₉ 110) (m₉ 119) (m₉ 94 76) (m₉ 94 75) (m₉ 103) (m₉ 111) (m₉ 104) AG (m₉ 94 77) (m₉ 94 60) st oo (gDp aa oo 0)) → P none m₉ := by
    intro m₉ hf z q0 q1
    have e := zov_eq hf
    rw [e] at z ⊢
    try rw [e] at q0
    try rw [e] at q1
    exact KZ m₉ z q0 q1
  refine g_216_0 en ?_
  have f1 : 0 ≤ (m 94 10).toInt ∧ (m 94 10).toInt ≤ 6 := rs_94_10 (m := m) hV
  try have tc2 := tn_cast (x := l2) (by omega)
  try have ow2 := r_OW l2.toNatClampNeg (by omega) (by omega)
  have b2 := i_bd en
  have li3 : (0 : Int32).toInt = 0 := rfl
  exact lp_216ry_2 (en := en) hV K _ _ (en) ((0 : Int32)) rfl zF_rfl hV (by omega) (by omega) (show (m 94 10).toInt = 3 from by omega) r_W r_OW r_AX3 (show qYD (m 99) (m 100) (m 98) (m 101) (m 102) AT (m 107) (m 108) (m 109) OW (m 112) (m 113) (m 114) (m 94 55) (m 94 46) ro 0 0 0 1 (m 110) (m 119) (m 94 76) (m 94 75) (m 103) (m 111) (m 104) AG (m 94 77) (m 94 60) st oo (m 117) (0 : Int32).toInt (gDp aa oo 0) from by first | (exact YD_0 r_YB r_DT) | (exfalso; omega; done) | (exfalso; contradiction; done))
theorem lp_215ry_4 {X : Nat × (Nat → Int32)} {P : Option ma_V → (Nat → Nat → Int32) → Prop} {aa : Nat→Nat→Int32} {ro : Int32} {m0 : Nat → Nat → Int32} (h0 : zV m0) (K : ∀ v m₉, zF wr_215 m0 m₉ → zV m₉ → (v = 0 ∨ v = 1) → ((v.toInt = 1 ∧ gFu aa) ∨ (v.toInt = 0 ∧ ¬ gFu aa)) → P (some (.inl v)) m₉) : ∀ (n : Nat) (m : Nat → Nat → Int32) (l1 : Int32) (l2 : Int32), (3100 - l2.toInt).toNat = n → zF wr_215 m0 m → zV m → (0 ≤ l2.toInt) → (l2.toInt ≤ 3100) → (0 ≤ l1.toInt) → (l1.toInt ≤ 61 * l2.toInt) → (qRB (m 99) (m 100) (m 98) (m 101) (m 102) (m 103) (m 107) (m 108) (m 109) (m 111) (m 112) (m 113) (m 114) (m 94 55) (m 94 46) ro 0 0 0 1 aa) → (qAv aa) → (qAL aa (m 94 13) (m 94 14) (m 94 15) (m 94 16) (m 94 59) (m 94 60) (m 94 61)) → (qAg (m 99) (m 100) (m 104) aa) → (l1.toInt = sm (zbG (m 99) (m 103) (m 94 14) (m 104) (m 94 15)) (m 102) l2.toNatClampNeg) → zm X 1 21 215 4 [(0, .inr (.inr (some 94))), (1, .inl l1), (2, .inl l2)] m P := by
  intro n
  induction n using Nat.strongRecOn with
  | _ n IH =>
    intro m l1 l2 hmu hF hV hi0 hi1 hi2 hi3 r_RB r_AV r_AL r_AGq r_SG
    refine g_215_4 l1 l2 ?_
    have li1 : (3100 : Int32).toInt = 3100 := rfl
    have b2 := i_bd l2
    refine zd (fun (h3 : (3100 : Int32) ≤ l2) => ?_) (fun (h3 : ¬ (3100 : Int32) ≤ l2) => ?_)
    · skip
      have g4 := i_le h3
      have b5 := i_bd l1
      have f6 : 0 ≤ (m 94 14).toInt ∧ (m 94 14).toInt ≤ 1500 := rs_94_14 (m := m) hV
      have f7 : 0 ≤ (m 94 60).toInt ∧ (m 94 60).toInt ≤ 1600 := rs_94_60 (m := m) hV
      first | have e8 : ((m 94 14) - (m 94 60)).toInt = (m 94 14).toInt - (m 94 60).toInt := i_sub (by omega) (by omega) | have b9 := i_bd ((m 94 14) - (m 94 60))
      refine zd (fun (h10 : l1 ≤ ((m 94 14) - (m 94 60))) => ?_) (fun (h10 : ¬ l1 ≤ ((m 94 14) - (m 94 60))) => ?_)
      · skip
        have g11 := i_le h10
        try have alb := AL_b r_AL r_AV
        have li12 : (0 : Int32).toInt = 0 := rfl
        exact K ((0 : Int32)) _ hF hV (by decide) (show ((0 : Int32).toInt = 1 ∧ gFu aa) ∨ ((0 : Int32).toInt = 0 ∧ ¬ gFu aa) from by first | (exact Or.inl ⟨rfl, (OF_y r_RB.1 r_AV r_AL r_AGq (sm_full r_SG (by omega))).mpr (by omega)⟩) | (exact Or.inr ⟨rfl, fun z => absurd ((OF_y r_RB.1 r_AV r_AL r_AGq (sm_full r_SG (by omega))).mp z) (by omega)⟩) | (exfalso; omega; done) | (exfalso; contradiction; done))
      · skip
        have g13 := i_nle h10
        try have alb := AL_b r_AL r_AV
        have li14 : (1 : Int32).toInt = 1 := rfl
        exact K ((1 : Int32)) _ hF hV (by decide) (show ((1 : Int32).toInt = 1 ∧ gFu aa) ∨ ((1 : Int32).toInt = 0 ∧ ¬ gFu aa) from by first | (exact Or.inl ⟨rfl, (OF_y r_RB.1 r_AV r_AL r_AGq (sm_full r_SG (by omega))).mpr (by omega)⟩) | (exact Or.inr ⟨rfl, fun z => absurd ((OF_y r_RB.1 r_AV r_AL r_AGq (sm_full r_SG (by omega))).mp z) (by omega)⟩) | (exfalso; omega; done) | (exfalso; contradiction; done))
    · skip
      have g15 := i_nle h3
      have hg16 : (0 ≤ l2 ∧ l2.toNatClampNeg < 3100) := i_ix (by omega) (by omega)
      refine ⟨hg16, ?_⟩
      first | have f17 : 0 ≤ (m 99 l2.toNatClampNeg).toInt ∧ (m 99 l2.toNatClampNeg).toInt ≤ 1 := ra_99 (m := m) hV (k := l2.toNatClampNeg) (i_ix (n := 3100) (by omega) (by omega)).2 | have b18 := i_bd (m 99 l2.toNatClampNeg)
      have li19 : (0 : Int32).toInt = 0 := rfl
      refine zd (fun (h20 : (m 99 l2.toNatClampNeg) = (0 : Int32)) => ?_) (fun (h20 : ¬ (m 99 l2.toNatClampNeg) = (0 : Int32)) => ?_)
      · skip
        have g21 := i_eq h20
        try have alb := AL_b r_AL r_AV
        have b22 := i_bd l1
        first | have e23 : (l2 + (1 : Int32)).toInt = l2.toInt + (1) := i_addk rfl (by omega) (by omega) | have b24 := i_bd (l2 + (1 : Int32))
        exact IH (3100 - (l2 + (1 : Int32)).toInt).toNat (by omega) _ (l1) ((l2 + (1 : Int32))) rfl hF hV (by omega) (by omega) (by omega) (by omega) r_RB r_AV r_AL r_AGq (show l1.toInt = sm (zbG (m 99) (m 103) (m 94 14) (m 104) (m 94 15)) (m 102) (l2 + (1 : Int32)).toNatClampNeg from by first | (exact sm_add r_SG (decide_eq_true ⟨by assumption, by omega, by assumption⟩) (tn_succ (by omega) (by omega)) (by omega)) | (exact sm_skip r_SG (decide_eq_false (fun z => by obtain ⟨z1, z2, z3⟩ := z; first | exact z1 (by assumption) | (exfalso; omega) | exact absurd z3 (by assumption))) (tn_succ (by omega) (by omega))) | (exact rfl) | (exfalso; omega; done) | (exfalso; contradiction; done))
      · skip
        have g25 := i_ne h20
        have hg26 : (0 ≤ l2 ∧ l2.toNatClampNeg < 3100) := i_ix (by omega) (by omega)
        refine ⟨hg26, ?_⟩
        have f27 : 0 ≤ (m 94 14).toInt ∧ (m 94 14).toInt ≤ 1500 := rs_94_14 (m := m) hV
        first | have f28 : 0 ≤ (m 103 l2.toNatClampNeg).toInt ∧ (m 103 l2.toNatClampNeg).toInt ≤ 4599 := ra_103 (m := m) hV (k := l2.toNatClampNeg) (i_ix (n := 3100) (by omega) (by omega)).2 | have b29 := i_bd (m 103 l2.toNatClampNeg)
        refine zd (fun (h30 : (m 94 14) ≤ (m 103 l2.toNatClampNeg)) => ?_) (fun (h30 : ¬ (m 94 14) ≤ (m 103 l2.toNatClampNeg)) => ?_)
        · skip
          have g31 := i_le h30
          have hg32 : (0 ≤ l2 ∧ l2.toNatClampNeg < 3100) := i_ix (by omega) (by omega)
          refine ⟨hg32, ?_⟩
          have b33 := i_bd (m 104 l2.toNatClampNeg)
          first | have e34 : ((m 104 l2.toNatClampNeg) + (1 : Int32)).toInt = (m 104 l2.toNatClampNeg).toInt + (1) := i_addk rfl (by omega) (by omega) | have b35 := i_bd ((m 104 l2.toNatClampNeg) + (1 : Int32))
          have b36 := i_bd (m 94 15)
          refine zd (fun (h37 : ((m 104 l2.toNatClampNeg) + (1 : Int32)) = (m 94 15)) => ?_) (fun (h37 : ¬ ((m 104 l2.toNatClampNeg) + (1 : Int32)) = (m 94 15)) => ?_)
          · skip
            have g38 := i_eq h37
            have hg39 : (0 ≤ l2 ∧ l2.toNatClampNeg < 3100) := i_ix (by omega) (by omega)
            refine ⟨hg39, ?_⟩
            try have alb := AL_b r_AL r_AV
            have b40 := i_bd l1
            first | have f41 : 0 ≤ (m 102 l2.toNatClampNeg).toInt ∧ (m 102 l2.toNatClampNeg).toInt ≤ 60 := ra_102 (m := m) hV (k := l2.toNatClampNeg) (i_ix (n := 3100) (by omega) (by omega)).2 | have b42 := i_bd (m 102 l2.toNatClampNeg)
            first | have e43 : ((m 102 l2.toNatClampNeg) + (1 : Int32)).toInt = (m 102 l2.toNatClampNeg).toInt + (1) := i_addk rfl (by omega) (by omega) | have b44 := i_bd ((m 102 l2.toNatClampNeg) + (1 : Int32))
            first | have e45 : (l1 + ((m 102 l2.toNatClampNeg) + (1 : Int32))).toInt = l1.toInt + ((m 102 l2.toNatClampNeg) + (1 : Int32)).toInt := i_add (by omega) (by omega) | have b46 := i_bd (l1 + ((m 102 l2.toNatClampNeg) + (1 : Int32)))
            first | have e47 : (l2 + (1 : Int32)).toInt = l2.toInt + (1) := i_addk rfl (by omega) (by omega) | have b48 := i_bd (l2 + (1 : Int32))
            exact IH (3100 - (l2 + (1 : Int32)).toInt).toNat (by omega) _ ((l1 + ((m 102 l2.toNatClampNeg) + (1 : Int32)))) ((l2 + (1 : Int32))) rfl hF hV (by omega) (by omega) (by omega) (by omega) r_RB r_AV r_AL r_AGq (show (l1 + ((m 102 l2.toNatClampNeg) + (1 : Int32))).toInt = sm (zbG (m 99) (m 103) (m 94 14) (m 104) (m 94 15)) (m 102) (l2 + (1 : Int32)).toNatClampNeg from by first | (exact sm_add r_SG (decide_eq_true ⟨by assumption, by omega, by assumption⟩) (tn_succ (by omega) (by omega)) (by omega)) | (exact sm_skip r_SG (decide_eq_false (fun z => by obtain ⟨z1, z2, z3⟩ := z; first | exact z1 (by assumption) | (exfalso; omega) | exact absurd z3 (by assumption))) (tn_succ (by omega) (by omega))) | (exact rfl) | (exfalso; omega; done) | (exfalso; contradiction; done))
          · skip
            have g49 := i_ne h37
            try have alb := AL_b r_AL r_AV
            have b50 := i_bd l1
            first | have e51 : (l2 + (1 : Int32)).toInt = l2.toInt + (1) := i_addk rfl (by omega) (by omega) | have b52 := i_bd (l2 + (1 : Int32))
            exact IH (3100 - (l2 + (1 : Int32)).toInt).toNat (by omega) _ (l1) ((l2 + (1 : Int32))) rfl hF hV (by omega) (by omega) (by omega) (by omega) r_RB r_AV r_AL r_AGq (show l1.toInt = sm (zbG (m 99) (m 103) (m 94 14) (m 104) (m 94 15)) (m 102) (l2 + (1 : Int32)).toNatClampNeg from by first | (exact sm_add r_SG (decide_eq_true ⟨by assumption, by omega, by assumption⟩) (tn_succ (by omega) (by omega)) (by omega)) | (exact sm_skip r_SG (decide_eq_false (fun z => by obtain ⟨z1, z2, z3⟩ := z; first | exact z1 (by assumption) | (exfalso; omega) | exact absurd z3 (by assumption))) (tn_succ (by omega) (by omega))) | (exact rfl) | (exfalso; omega; done) | (exfalso; contradiction; done))
        · skip
          have g53 := i_nle h30
          try have alb := AL_b r_AL r_AV
          have b54 := i_bd l1
          first | have e55 : (l2 + (1 : Int32)).toInt = l2.toInt + (1) := i_addk rfl (by omega) (by omega) | have b56 := i_bd (l2 + (1 : Int32))
          exact IH (3100 - (l2 + (1 : Int32)).toInt).toNat (by omega) _ (l1) ((l2 + (1 : Int32))) rfl hF hV (by omega) (by omega) (by omega) (by omega) r_RB r_AV r_AL r_AGq (show l1.toInt = sm (zbG (m 99) (m 103) (m 94 14) (m 104) (m 94 15)) (m 102) (l2 + (1 : Int32)).toNatClampNeg from by first | (exact sm_add r_SG (decide_eq_true ⟨by assumption, by omega, by assumption⟩) (tn_succ (by omega) (by omega)) (by omega)) | (exact sm_skip r_SG (decide_eq_false (fun z => by obtain ⟨z1, z2, z3⟩ := z; first | exact z1 (by assumption) | (exfalso; omega) | exact absurd z3 (by assumption))) (tn_succ (by omega) (by omega))) | (exact rfl) | (exfalso; omega; done) | (exfalso; contradiction; done))
theorem sp_215ry {X : Nat × (Nat → Int32)} {P : Option ma_V → (Nat → Nat → Int32) → Prop} {aa : Nat→Nat→Int32} {ro : Int32} {m : Nat → Nat → Int32}  (hV : zV m) (r_RB : qRB (m 99) (m 100) (m 98) (m 101) (m 102) (m 103) (m 107) (m 108) (m 109) (m 111) (m 112) (m 113) (m 114) (m 94 55) (m 94 46) ro 0 0 0 1 aa) (r_AV : qAv aa) (r_AL : qAL aa (m 94 13) (m 94 14) (m 94 15) (m 94 16) (m 94 59) (m 94 60) (m 94 61)) (r_AGq : qAg (m 99) (m 100) (m 104) aa) (KZ : ∀ v m₉, zV (zov wr_215 m m₉) → (v = 0 ∨ v = 1) → ((v.toInt = 1 ∧ gFu aa) ∨ (v.toInt = 0 ∧ ¬ gFu aa)) → P (some (.inl v)) (zov wr_215 m m₉)) : zm X 1 21 215 0 [(0, .inr (.inr (some 94)))] m P := by
  have K : ∀ v m₉, zF wr_215 m m₉ → zV m₉ → (v = 0 ∨ v = 1) → ((v.toInt = 1 ∧ gFu aa) ∨ (v.toInt = 0 ∧ ¬ gFu aa)) → P (some (.inl v)) m₉ := by
    intro v m₉ hf z q0 q1
    have e := zov_eq hf
    rw [e] at z ⊢
    try rw [e] at q0
    try rw [e] at q1
    exact KZ v m₉ z q0 q1
  refine g_215_0  ?_
  try have alb := AL_b r_AL r_AV
  have li1 : (0 : Int32).toInt = 0 := rfl
  exact lp_215ry_4 hV K _ _ ((0 : Int32)) ((0 : Int32)) rfl zF_rfl hV (by omega) (by omega) (by omega) (by omega) r_RB r_AV r_AL r_AGq (show (0 : Int32).toInt = sm (zbG (m 99) (m 103) (m 94 14) (m 104) (m 94 15)) (m 102) (0 : Int32).toNatClampNeg from by first | (exact rfl) | (exfalso; omega; done) | (exfalso; contradiction; done))

/-! from 95.v07 -/
/-! AGES, the reference (written by wip/tools/gen15v.py) -/
theorem lp_212ry_55 {X : Nat × (Nat → Int32)} {P : Option ma_V → (Nat → Nat → Int32) → Prop} {aa : Nat→Nat→Int32} {ro : Int32} {m0 : Nat → Nat → Int32} (h0 : zV m0) (K : ∀ m₉, zF wr_212 m0 m₉ → zV m₉ → (qDt (m₉ 117) (gFd aa)) → P none m₉) {n26 : Nat} (OUT26 : ∀ (m₉ : Nat → Nat → Int32) (l1 : Int32), (3100 - l1.toInt).toNat < n26 → zF wr_212 m0 m₉ → zV m₉ → (0 ≤ l1.toInt) → (l1.toInt ≤ 3100) → (zW (m₉ 94 7) (m₉ 98) (m₉ 101) (m₉ 102) (m₉ 108)) → (4 ≤ (m₉ 94 16).toInt) → (qRB (m₉ 99) (m₉ 100) (m₉ 98) (m₉ 101) (m₉ 102) (m₉ 103) (m₉ 107) (m₉ 108) (m₉ 109) (m₉ 111) (m₉ 112) (m₉ 113) (m₉ 114) (m₉ 94 55) (m₉ 94 46) ro 0 0 0 1 aa) → (qAX aa (m₉ 94 13) (m₉ 94 14) (m₉ 94 15) (m₉ 94 16)) → (qDo (m₉ 99) (m₉ 102) (m₉ 103) (m₉ 98) (m₉ 101) (m₉ 108) (m₉ 94 14) (m₉ 94 16) (m₉ 117) l1.toNatClampNeg) → zm X 2 44 212 26 [(0, .inr (.inr (some 94))), (1, .inl l1)] m₉ P) : ∀ (n : Nat) (m : Nat → Nat → Int32) (l1 : Int32) (l2 : Int32), (61 - l2.toInt).toNat = n → zF wr_212 m0 m → zV m → (0 ≤ l1.toInt) → (l1.toInt ≤ 3099) → (0 ≤ l2.toInt) → ((3100 - l1.toInt).toNat = n26) → (zW (m 94 7) (m 98) (m 101) (m 102) (m 108)) → (4 ≤ (m 94 16).toInt) → (qRB (m 99) (m 100) (m 98) (m 101) (m 102) (m 103) (m 107) (m 108) (m 109) (m 111) (m 112) (m 113) (m 114) (m 94 55) (m 94 46) ro 0 0 0 1 aa) → (qAX aa (m 94 13) (m 94 14) (m 94 15) (m 94 16)) → ((m 99) l1.toNatClampNeg ≠ 0) → ((m 103 l1.toNatClampNeg).toInt < (m 94 14).toInt) → (qDj (m 99) (m 102) (m 103) (m 98) (m 101) (m 108) (m 94 14) (m 94 16) (m 117) l1.toNatClampNeg l2.toNatClampNeg) → zm X 2 44 212 55 [(0, .inr (.inr (some 94))), (1, .inl l1), (2, .inl l2)] m P := by
  intro n
  induction n using Nat.strongRecOn with
  | _ n IH =>
    intro m l1 l2 hmu hF hV hi0 hi1 hi2 hi3 r_W hi5 r_RB r_AX3 r_UO hi9 r_DJ
    refine g_212_55 l1 l2 ?_
    have f1 : 0 ≤ (m 94 16).toInt ∧ (m 94 16).toInt ≤ 64 := rs_94_16 (m := m) hV
    have b2 := i_bd l1
    first | have f3 : 0 ≤ (m 103 l1.toNatClampNeg).toInt ∧ (m 103 l1.toNatClampNeg).toInt ≤ 4599 := ra_103 (m := m) hV (k := l1.toNatClampNeg) (i_ix (n := 3100) (by omega) (by omega)).2 | have b4 := i_bd (m 103 l1.toNatClampNeg)
    have f5 : 0 ≤ (m 94 14).toInt ∧ (m 94 14).toInt ≤ 1500 := rs_94_14 (m := m) hV
    have hg6 : (0 ≤ l1 ∧ l1.toNatClampNeg < 3100) := i_ix (by omega) (by omega)
    refine ⟨hg6, ?_⟩
    first | have f7 : 0 ≤ (m 102 l1.toNatClampNeg).toInt ∧ (m 102 l1.toNatClampNeg).toInt ≤ 60 := ra_102 (m := m) hV (k := l1.toNatClampNeg) (i_ix (n := 3100) (by omega) (by omega)).2 | have b8 := i_bd (m 102 l1.toNatClampNeg)
    have b9 := i_bd l2
    refine zd (fun (h10 : (m 102 l1.toNatClampNeg) ≤ l2) => ?_) (fun (h10 : ¬ (m 102 l1.toNatClampNeg) ≤ l2) => ?_)
    · skip
      have g11 := i_le h10
      first | have e12 : (l1 + (1 : Int32)).toInt = l1.toInt + (1) := i_addk rfl (by omega) (by omega) | have b13 := i_bd (l1 + (1 : Int32))
      exact OUT26 _ ((l1 + (1 : Int32))) (show (3100 - (l1 + (1 : Int32)).toInt).toNat < n26 from by omega) hF hV (by omega) (by omega) r_W (show 4 ≤ (m 94 16).toInt from by omega) r_RB r_AX3 (show qDo (m 99) (m 102) (m 103) (m 98) (m 101) (m 108) (m 94 14) (m 94 16) (m 117) (l1 + (1 : Int32)).toNatClampNeg from by first | (exact Dj_e r_DJ (by rw [tn_cast (x := l2) (by omega)]; omega) (tn_succ (by omega) (by omega))) | (exfalso; omega; done) | (exfalso; contradiction; done))
    · skip
      have g14 := i_nle h10
      refine sp_192 (l1) (l2) hV (by omega) (by omega) (by omega) (show l2.toInt < (m 102 l1.toNatClampNeg).toInt from by omega) (fun v2 m1 hV_m1 p0_m1 => zmi_n ?_)
      have p0_m1 : v2 = zrf (m 98) (m 101) (m 108) l1.toNatClampNeg l2.toNatClampNeg := p0_m1
      try have := W_ref r_W (by omega) (by omega) (by omega) (by omega) p0_m1
      have b15 := i_bd v2
      have li16 : (0 : Int32).toInt = 0 := rfl
      refine zd (fun (h17 : v2 < (0 : Int32)) => ?_) (fun (h17 : ¬ v2 < (0 : Int32)) => ?_)
      · skip
        have g18 := i_lt h17
        first | have e19 : (l2 + (1 : Int32)).toInt = l2.toInt + (1) := i_addk rfl (by omega) (by omega) | have b20 := i_bd (l2 + (1 : Int32))
        exact IH (61 - (l2 + (1 : Int32)).toInt).toNat (by omega) _ (l1) ((l2 + (1 : Int32))) rfl (zF_zov hF ws_192_212) hV_m1 (by omega) (by omega) (by omega) (show (3100 - l1.toInt).toNat = n26 from by omega) r_W (show 4 ≤ (m 94 16).toInt from by omega) r_RB r_AX3 r_UO (show (m 103 l1.toNatClampNeg).toInt < (m 94 14).toInt from by omega) (show qDj (m 99) (m 102) (m 103) (m 98) (m 101) (m 108) (m 94 14) (m 94 16) (m 117) l1.toNatClampNeg (l2 + (1 : Int32)).toNatClampNeg from by first | (exact Dj_no r_DJ (Or.inl (by rw [← p0_m1]; omega)) (tn_succ (by omega) (by omega))) | (exact Dj_no r_DJ (Or.inr (by rw [← p0_m1]; omega)) (tn_succ (by omega) (by omega))) | (exact Dj_ye r_DJ r_UO (by omega) (by rw [tn_cast (x := l2) (by omega)]; omega) (by rw [← p0_m1]; omega) (by rw [← p0_m1]; omega) (card_i2 (by omega) (by omega) (by omega) (by omega) (by omega)) (fun t => mu_at t) (tn_succ (by omega) (by omega))) | (exfalso; omega; done) | (exfalso; contradiction; done))
      · skip
        have g21 := i_nlt h17
        have hg22 : (0 ≤ v2 ∧ v2.toNatClampNeg < 3100) := i_ix (by omega) (by omega)
        refine ⟨hg22, ?_⟩
        first | have f23 : 0 ≤ (m 103 v2.toNatClampNeg).toInt ∧ (m 103 v2.toNatClampNeg).toInt ≤ 4599 := ra_103 (m := m) hV (k := v2.toNatClampNeg) (i_ix (n := 3100) (by omega) (by omega)).2 | have b24 := i_bd (m 103 v2.toNatClampNeg)
        refine zd (fun (h25 : (m 94 14) ≤ (m 103 v2.toNatClampNeg)) => ?_) (fun (h25 : ¬ (m 94 14) ≤ (m 103 v2.toNatClampNeg)) => ?_)
        · skip
          have g26 := i_le h25
          have hg27 : (0 ≤ l1 ∧ l1.toNatClampNeg < 3100) := i_ix (by omega) (by omega)
          refine ⟨hg27, ?_⟩
          have hg28 : (m 94 16) ≠ 0 := i_nz (by omega)
          refine ⟨hg28, ?_⟩
          first | have e29 : ((m 103 l1.toNatClampNeg) + (1 : Int32)).toInt = (m 103 l1.toNatClampNeg).toInt + (1) := i_addk rfl (by omega) (by omega) | have b30 := i_bd ((m 103 l1.toNatClampNeg) + (1 : Int32))
          first | have e31 : (((m 103 l1.toNatClampNeg) + (1 : Int32)) + l2).toInt = ((m 103 l1.toNatClampNeg) + (1 : Int32)).toInt + l2.toInt := i_add (by omega) (by omega) | have b32 := i_bd (((m 103 l1.toNatClampNeg) + (1 : Int32)) + l2)
          first | have f33 := i_div (x := (((m 103 l1.toNatClampNeg) + (1 : Int32)) + l2)) (y := (m 94 16)) (by omega) (by omega) | have b34 := i_bd ((((m 103 l1.toNatClampNeg) + (1 : Int32)) + l2) / (m 94 16))
          try have dv : 0 ≤ (((((m 103 l1.toNatClampNeg) + (1 : Int32)) + l2) / (m 94 16))).toInt ∧ (((((m 103 l1.toNatClampNeg) + (1 : Int32)) + l2) / (m 94 16))).toInt ≤ 499 := i_div4 (by omega) (by omega) (by omega)
          have hg35 : (0 ≤ ((((m 103 l1.toNatClampNeg) + (1 : Int32)) + l2) / (m 94 16)) ∧ ((((m 103 l1.toNatClampNeg) + (1 : Int32)) + l2) / (m 94 16)).toNatClampNeg < 512) := i_ix (by omega) (by omega)
          refine ⟨hg35, ?_⟩
          have li37 : (1 : Int32).toInt = 1 := rfl
          have hV36 : zV (ma_u (zov wr_192 m m1) 117 ((((m 103 l1.toNatClampNeg) + (1 : Int32)) + l2) / (m 94 16)).toNatClampNeg (1 : Int32)) := ua_117 hV_m1 (by omega) (by omega)
          first | have e38 : (l2 + (1 : Int32)).toInt = l2.toInt + (1) := i_addk rfl (by omega) (by omega) | have b39 := i_bd (l2 + (1 : Int32))
          exact IH (61 - (l2 + (1 : Int32)).toInt).toNat (by omega) _ (l1) ((l2 + (1 : Int32))) rfl (zF_u (zF_zov hF ws_192_212) rfl) hV36 (by omega) (by omega) (by omega) (show (3100 - l1.toInt).toNat = n26 from by omega) r_W (show 4 ≤ (m 94 16).toInt from by omega) r_RB r_AX3 r_UO (show (m 103 l1.toNatClampNeg).toInt < (m 94 14).toInt from by omega) (show qDj (m 99) (m 102) (m 103) (m 98) (m 101) (m 108) (m 94 14) (m 94 16) ((ma_u m 117 ((((m 103 l1.toNatClampNeg) + (1 : Int32)) + l2) / (m 94 16)).toNatClampNeg (1 : Int32)) 117) l1.toNatClampNeg (l2 + (1 : Int32)).toNatClampNeg from by first | (exact Dj_ye r_DJ r_UO (by omega) (by rw [tn_cast (x := l2) (by omega)]; omega) (by rw [← p0_m1]; omega) (by rw [← p0_m1]; omega) (card_i2 (by omega) (by omega) (by omega) (by omega) (by omega)) (fun t => mu_at t) (tn_succ (by omega) (by omega))) | (exact Dj_no r_DJ (Or.inl (by rw [← p0_m1]; omega)) (tn_succ (by omega) (by omega))) | (exact Dj_no r_DJ (Or.inr (by rw [← p0_m1]; omega)) (tn_succ (by omega) (by omega))) | (exfalso; omega; done) | (exfalso; contradiction; done))
        · skip
          have g40 := i_nle h25
          first | have e41 : (l2 + (1 : Int32)).toInt = l2.toInt + (1) := i_addk rfl (by omega) (by omega) | have b42 := i_bd (l2 + (1 : Int32))
          exact IH (61 - (l2 + (1 : Int32)).toInt).toNat (by omega) _ (l1) ((l2 + (1 : Int32))) rfl (zF_zov hF ws_192_212) hV_m1 (by omega) (by omega) (by omega) (show (3100 - l1.toInt).toNat = n26 from by omega) r_W (show 4 ≤ (m 94 16).toInt from by omega) r_RB r_AX3 r_UO (show (m 103 l1.toNatClampNeg).toInt < (m 94 14).toInt from by omega) (show qDj (m 99) (m 102) (m 103) (m 98) (m 101) (m 108) (m 94 14) (m 94 16) (m 117) l1.toNatClampNeg (l2 + (1 : Int32)).toNatClampNeg from by first | (exact Dj_no r_DJ (Or.inr (by rw [← p0_m1]; omega)) (tn_succ (by omega) (by omega))) | (exact Dj_no r_DJ (Or.inl (by rw [← p0_m1]; omega)) (tn_succ (by omega) (by omega))) | (exact Dj_ye r_DJ r_UO (by omega) (by rw [tn_cast (x := l2) (by omega)]; omega) (by rw [← p0_m1]; omega) (by rw [← p0_m1]; omega) (card_i2 (by omega) (by omega) (by omega) (by omega) (by omega)) (fun t => mu_at t) (tn_succ (by omega) (by omega))) | (exfalso; omega; done) | (exfalso; contradiction; done))
theorem lp_212ry_26 {X : Nat × (Nat → Int32)} {P : Option ma_V → (Nat → Nat → Int32) → Prop} {aa : Nat→Nat→Int32} {ro : Int32} {m0 : Nat → Nat → Int32} (h0 : zV m0) (K : ∀ m₉, zF wr_212 m0 m₉ → zV m₉ → (qDt (m₉ 117) (gFd aa)) → P none m₉) : ∀ (n : Nat) (m : Nat → Nat → Int32) (l1 : Int32), (3100 - l1.toInt).toNat = n → zF wr_212 m0 m → zV m → (0 ≤ l1.toInt) → (l1.toInt ≤ 3100) → (zW (m 94 7) (m 98) (m 101) (m 102) (m 108)) → (4 ≤ (m 94 16).toInt) → (qRB (m 99) (m 100) (m 98) (m 101) (m 102) (m 103) (m 107) (m 108) (m 109) (m 111) (m 112) (m 113) (m 114) (m 94 55) (m 94 46) ro 0 0 0 1 aa) → (qAX aa (m 94 13) (m 94 14) (m 94 15) (m 94 16)) → (qDo (m 99) (m 102) (m 103) (m 98) (m 101) (m 108) (m 94 14) (m 94 16) (m 117) l1.toNatClampNeg) → zm X 2 44 212 26 [(0, .inr (.inr (some 94))), (1, .inl l1)] m P := by
  intro n
  induction n using Nat.strongRecOn with
  | _ n IH =>
    intro m l1 hmu hF hV hi0 hi1 r_W hi3 r_RB r_AX3 r_DO
    refine g_212_26 l1 ?_
    have f1 : 0 ≤ (m 94 16).toInt ∧ (m 94 16).toInt ≤ 64 := rs_94_16 (m := m) hV
    have li2 : (3100 : Int32).toInt = 3100 := rfl
    have b3 := i_bd l1
    refine zd (fun (h4 : (3100 : Int32) ≤ l1) => ?_) (fun (h4 : ¬ (3100 : Int32) ≤ l1) => ?_)
    · skip
      have g5 := i_le h4
      exact K _ hF hV (show qDt (m 117) (gFd aa) from by first | (exact Do_e r_DO (by omega) r_RB r_AX3 (by omega)) | (exfalso; omega; done) | (exfalso; contradiction; done))
    · skip
      have g6 := i_nle h4
      have hg7 : (0 ≤ l1 ∧ l1.toNatClampNeg < 3100) := i_ix (by omega) (by omega)
      refine ⟨hg7, ?_⟩
      first | have f8 : 0 ≤ (m 99 l1.toNatClampNeg).toInt ∧ (m 99 l1.toNatClampNeg).toInt ≤ 1 := ra_99 (m := m) hV (k := l1.toNatClampNeg) (i_ix (n := 3100) (by omega) (by omega)).2 | have b9 := i_bd (m 99 l1.toNatClampNeg)
      have li10 : (0 : Int32).toInt = 0 := rfl
      refine zd (fun (h11 : (m 99 l1.toNatClampNeg) = (0 : Int32)) => ?_) (fun (h11 : ¬ (m 99 l1.toNatClampNeg) = (0 : Int32)) => ?_)
      · skip
        have g12 := i_eq h11
        first | have e13 : (l1 + (1 : Int32)).toInt = l1.toInt + (1) := i_addk rfl (by omega) (by omega) | have b14 := i_bd (l1 + (1 : Int32))
        exact IH (3100 - (l1 + (1 : Int32)).toInt).toNat (by omega) _ ((l1 + (1 : Int32))) rfl hF hV (by omega) (by omega) r_W (show 4 ≤ (m 94 16).toInt from by omega) r_RB r_AX3 (show qDo (m 99) (m 102) (m 103) (m 98) (m 101) (m 108) (m 94 14) (m 94 16) (m 117) (l1 + (1 : Int32)).toNatClampNeg from by first | (exact Do_sk r_DO (Or.inl (by assumption)) (tn_succ (by omega) (by omega))) | (exact Do_sk r_DO (Or.inr (by omega)) (tn_succ (by omega) (by omega))) | (exfalso; omega; done) | (exfalso; contradiction; done))
      · skip
        have g15 := i_ne h11
        have hg16 : (0 ≤ l1 ∧ l1.toNatClampNeg < 3100) := i_ix (by omega) (by omega)
        refine ⟨hg16, ?_⟩
        have f17 : 0 ≤ (m 94 14).toInt ∧ (m 94 14).toInt ≤ 1500 := rs_94_14 (m := m) hV
        first | have f18 : 0 ≤ (m 103 l1.toNatClampNeg).toInt ∧ (m 103 l1.toNatClampNeg).toInt ≤ 4599 := ra_103 (m := m) hV (k := l1.toNatClampNeg) (i_ix (n := 3100) (by omega) (by omega)).2 | have b19 := i_bd (m 103 l1.toNatClampNeg)
        refine zd (fun (h20 : (m 94 14) ≤ (m 103 l1.toNatClampNeg)) => ?_) (fun (h20 : ¬ (m 94 14) ≤ (m 103 l1.toNatClampNeg)) => ?_)
        · skip
          have g21 := i_le h20
          first | have e22 : (l1 + (1 : Int32)).toInt = l1.toInt + (1) := i_addk rfl (by omega) (by omega) | have b23 := i_bd (l1 + (1 : Int32))
          exact IH (3100 - (l1 + (1 : Int32)).toInt).toNat (by omega) _ ((l1 + (1 : Int32))) rfl hF hV (by omega) (by omega) r_W (show 4 ≤ (m 94 16).toInt from by omega) r_RB r_AX3 (show qDo (m 99) (m 102) (m 103) (m 98) (m 101) (m 108) (m 94 14) (m 94 16) (m 117) (l1 + (1 : Int32)).toNatClampNeg from by first | (exact Do_sk r_DO (Or.inr (by omega)) (tn_succ (by omega) (by omega))) | (exact Do_sk r_DO (Or.inl (by assumption)) (tn_succ (by omega) (by omega))) | (exfalso; omega; done) | (exfalso; contradiction; done))
        · skip
          have g24 := i_nle h20
          exact lp_212ry_55 h0 K (fun _ _ z1 z2 z3 y0 y1 y2 y3 y4 y5 y6 => IH _ z1 _ _ rfl z2 z3 y0 y1 y2 y3 y4 y5 y6) _ _ (l1) ((0 : Int32)) rfl hF hV (by omega) (by omega) (by omega) (show (3100 - l1.toInt).toNat = n from by omega) r_W (show 4 ≤ (m 94 16).toInt from by omega) r_RB r_AX3 (show (m 99) l1.toNatClampNeg ≠ 0 from by first | (assumption; done) | (exfalso; omega; done) | (exfalso; contradiction; done)) (show (m 103 l1.toNatClampNeg).toInt < (m 94 14).toInt from by omega) (show qDj (m 99) (m 102) (m 103) (m 98) (m 101) (m 108) (m 94 14) (m 94 16) (m 117) l1.toNatClampNeg (0 : Int32).toNatClampNeg from by first | (exact Dj_0 r_DO) | (exfalso; omega; done) | (exfalso; contradiction; done))
theorem lp_212ry_2 {X : Nat × (Nat → Int32)} {P : Option ma_V → (Nat → Nat → Int32) → Prop} {aa : Nat→Nat→Int32} {ro : Int32} {m0 : Nat → Nat → Int32} (h0 : zV m0) (K : ∀ m₉, zF wr_212 m0 m₉ → zV m₉ → (qDt (m₉ 117) (gFd aa)) → P none m₉) : ∀ (n : Nat) (m : Nat → Nat → Int32) (l1 : Int32), (512 - l1.toInt).toNat = n → zF wr_212 m0 m → zV m → (0 ≤ l1.toInt) → (zW (m 94 7) (m 98) (m 101) (m 102) (m 108)) → (4 ≤ (m 94 16).toInt) → (qRB (m 99) (m 100) (m 98) (m 101) (m 102) (m 103) (m 107) (m 108) (m 109) (m 111) (m 112) (m 113) (m 114) (m 94 55) (m 94 46) ro 0 0 0 1 aa) → (qAX aa (m 94 13) (m 94 14) (m 94 15) (m 94 16)) → (∀ k : Nat, (k : Int) < l1.toInt → (m 117) k = 0) → zm X 2 44 212 2 [(0, .inr (.inr (some 94))), (1, .inl l1)] m P := by
  intro n
  induction n using Nat.strongRecOn with
  | _ n IH =>
    intro m l1 hmu hF hV hi0 r_W hi2 r_RB r_AX3 r_DZ
    refine g_212_2 l1 ?_
    have f1 : 0 ≤ (m 94 16).toInt ∧ (m 94 16).toInt ≤ 64 := rs_94_16 (m := m) hV
    have li2 : (512 : Int32).toInt = 512 := rfl
    have b3 := i_bd l1
    refine zd (fun (h4 : (512 : Int32) ≤ l1) => ?_) (fun (h4 : ¬ (512 : Int32) ≤ l1) => ?_)
    · skip
      have g5 := i_le h4
      have li6 : (0 : Int32).toInt = 0 := rfl
      exact lp_212ry_26 h0 K _ _ ((0 : Int32)) rfl hF hV (by omega) (by omega) r_W (show 4 ≤ (m 94 16).toInt from by omega) r_RB r_AX3 (show qDo (m 99) (m 102) (m 103) (m 98) (m 101) (m 108) (m 94 14) (m 94 16) (m 117) (0 : Int32).toNatClampNeg from by first | (exact Do_0 (fun k hk => r_DZ k (by omega))) | (exfalso; omega; done) | (exfalso; contradiction; done))
    · skip
      have g7 := i_nle h4
      skip
      have hg8 : (0 ≤ l1 ∧ l1.toNatClampNeg < 512) := i_ix (by omega) (by omega)
      refine ⟨hg8, ?_⟩
      have li10 : (0 : Int32).toInt = 0 := rfl
      have hV9 : zV (ma_u m 117 l1.toNatClampNeg (0 : Int32)) := ua_117 hV (by omega) (by omega)
      first | have e11 : (l1 + (1 : Int32)).toInt = l1.toInt + (1) := i_addk rfl (by omega) (by omega) | have b12 := i_bd (l1 + (1 : Int32))
      exact IH (512 - (l1 + (1 : Int32)).toInt).toNat (by omega) _ ((l1 + (1 : Int32))) rfl (zF_u hF rfl) hV9 (by omega) r_W (show 4 ≤ (m 94 16).toInt from by omega) r_RB r_AX3 (show ∀ k : Nat, (k : Int) < (l1 + (1 : Int32)).toInt → ((ma_u m 117 l1.toNatClampNeg (0 : Int32)) 117) k = 0 from by first | (intro k hk; rw [mu_at]; by_cases w : k = l1.toNatClampNeg; (rw [if_pos w]); (rw [if_neg w]; exact r_DZ k (by have := tn_cast (x := l1) (by omega); omega)); done) | (exfalso; omega; done) | (exfalso; contradiction; done))
theorem sp_212ry {X : Nat × (Nat → Int32)} {P : Option ma_V → (Nat → Nat → Int32) → Prop} {aa : Nat→Nat→Int32} {ro : Int32} {m : Nat → Nat → Int32}  (hV : zV m) (r_W : zW (m 94 7) (m 98) (m 101) (m 102) (m 108)) (hpre1 : 4 ≤ (m 94 16).toInt) (r_RB : qRB (m 99) (m 100) (m 98) (m 101) (m 102) (m 103) (m 107) (m 108) (m 109) (m 111) (m 112) (m 113) (m 114) (m 94 55) (m 94 46) ro 0 0 0 1 aa) (r_AX3 : qAX aa (m 94 13) (m 94 14) (m 94 15) (m 94 16)) (KZ : ∀ m₉, zV (zov wr_212 m m₉) → (qDt (m₉ 117) (gFd aa)) → P none (zov wr_212 m m₉)) : zm X 2 44 212 0 [(0, .inr (.inr (some 94)))] m P := by
  have K : ∀ m₉, zF wr_212 m m₉ → zV m₉ → (qDt (m₉ 117) (gFd aa)) → P none m₉ := by
    intro m₉ hf z q0
    have e := zov_eq hf
    rw [e] at z ⊢
    try rw [e] at q0
    exact KZ m₉ z q0
  refine g_212_0  ?_
  have f1 : 0 ≤ (m 94 16).toInt ∧ (m 94 16).toInt ≤ 64 := rs_94_16 (m := m) hV
  have li2 : (0 : Int32).toInt = 0 := rfl
  exact lp_212ry_2 hV K _ _ ((0 : Int32)) rfl zF_rfl hV (by omega) r_W (show 4 ≤ (m 94 16).toInt from by omega) r_RB r_AX3 (show ∀ k : Nat, (k : Int) < (0 : Int32).toInt → (m 117) k = 0 from by first | (intro k hk; exact absurd hk (by have z0 : (0 : Int32).toInt = 0 := rfl; omega); done) | (exfalso; omega; done) | (exfalso; contradiction; done))
theorem sp_187ry {X : Nat × (Nat → Int32)} {P : Option ma_V → (Nat → Nat → Int32) → Prop} {T : Nat} {aa : Nat→Nat→Int32} {ro : Int32} {m : Nat → Nat → Int32}  (hV : zV m) (hpre0 : T ≤ 512) (r_W : zW (m 94 7) (m 98) (m 101) (m 102) (m 108)) (r_GW : zGW T (m 94 55) (m 109)) (r_GU : zGU T (m 94 46) (m 99)) (r_OW : zOw (m 99) (m 103) (m 111)) (hpre5 : (m 94 10).toInt ≠ 4) (r_RB : qRB (m 99) (m 100) (m 98) (m 101) (m 102) (m 103) (m 107) (m 108) (m 109) (m 111) (m 112) (m 113) (m 114) (m 94 55) (m 94 46) ro 0 0 0 1 aa) (r_QI : qI aa) (r_WTS : (m 94 45).toInt = sm (zbU (m 99)) (m 102) 3100) (KZ : ∀ v m₉, zV (zov wr_187 m m₉) → (zGW T (m₉ 94 55) (m₉ 109)) → (zGU T (m 94 46) (m₉ 99)) → (zOw (m₉ 99) (m 103) (m₉ 111)) → (qRB (m₉ 99) (m 100) (m 98) (m 101) (m 102) (m 103) (m 107) (m 108) (m₉ 109) (m₉ 111) (m 112) (m₉ 113) (m₉ 114) (m₉ 94 55) (m 94 46) ro 0 0 0 1 (aSw aa)) → (qI (aSw aa)) → ((m₉ 94 45).toInt = sm (zbU (m₉ 99)) (m 102) 3100) → (∀ s, s < 3100 → (m₉ 99) s ≠ 0 → (m 99) s ≠ 0) → P (some (.inl v)) (zov wr_187 m m₉)) : zm X 4 88 187 0 [(0, .inr (.inr (some 94)))] m P := by
  have K : ∀ v m₉, zF wr_187 m m₉ → zV m₉ → (zGW T (m₉ 94 55) (m₉ 109)) → (zGU T (m₉ 94 46) (m₉ 99)) → (zOw (m₉ 99) (m₉ 103) (m₉ 111)) → (qRB (m₉ 99) (m₉ 100) (m₉ 98) (m₉ 101) (m₉ 102) (m₉ 103) (m₉ 107) (m₉ 108) (m₉ 109) (m₉ 111) (m₉ 112) (m₉ 113) (m₉ 114) (m₉ 94 55) (m₉ 94 46) ro 0 0 0 1 (aSw aa)) → (qI (aSw aa)) → ((m₉ 94 45).toInt = sm (zbU (m₉ 99)) (m₉ 102) 3100) → (∀ s, s < 3100 → (m₉ 99) s ≠ 0 → (m 99) s ≠ 0) → P (some (.inl v)) m₉ := by
    intro v m₉ hf z q0 q1 q2 q3 q4 q5 q6
    have e := zov_eq hf
    rw [e] at z ⊢
    try rw [e] at q0
    try rw [e] at q1
    try rw [e] at q2
    try rw [e] at q3
    skip
    try rw [e] at q5
    try rw [e] at q6
    exact KZ v m₉ z q0 q1 q2 q3 q4 q5 q6
  refine g_187_0  ?_
  have f1 : 0 ≤ (m 94 10).toInt ∧ (m 94 10).toInt ≤ 6 := rs_94_10 (m := m) hV
  have hV2 : zV (ma_u m 94 47 ((m 94 47) + (1 : Int32))) := uf_94_47 hV
  refine sp_188rm (aa := aa)  hV2 r_W r_RB r_QI (fun m1 hV_m1 p0_m1 p1_m1 p2_m1 => zmv_n ?_)
  have p0_m1 : (m1 94 73).toInt = 0 := p0_m1
  have p1_m1 : ∀ s, s < 3100 → (m 99) s ≠ 0 → ((m1 110) s ≠ 0 ↔ zRch aa ((m 100) s).toNatClampNeg) := p1_m1
  have p2_m1 : ∀ s, s < 3100 → (m1 110) s ≠ 0 → (m 99) s ≠ 0 := p2_m1
  have f3 : 0 ≤ (m1 94 73).toInt ∧ (m1 94 73).toInt ≤ 3100 := rs_94_73 (m := (zov wr_188 (ma_u m 94 47 ((m 94 47) + (1 : Int32))) m1)) hV_m1
  refine sp_194rm (aa := (aRA aa))  hV_m1 (by omega) (show (m 94 10).toInt ≠ 4 from by omega) (show (m1 94 73).toInt = 0 from by omega) r_W r_GW (show qRB (m 99) (m 100) (m 98) (m 101) (m 102) (m 103) (m 107) (m 108) (m 109) (m 111) (m 112) (m 113) (m 114) (m 94 55) (m 94 46) ro 0 0 0 1 (aRA aa) from by first | (exact RB_of r_RB RA_zo) | (exfalso; omega; done) | (exfalso; contradiction; done)) (show qI (aRA aa) from by first | (exact qI_of r_QI RA_zo) | (exfalso; omega; done) | (exfalso; contradiction; done)) (show qKB (m1 110) (m 99) (m 100) (aRA aa) from by first | (exact KB_ra r_QI p2_m1 p1_m1) | (exfalso; omega; done) | (exfalso; contradiction; done)) (show qE0 (aRA aa) from by first | (exact E0_ra r_QI) | (exfalso; omega; done) | (exfalso; contradiction; done)) (show qCl (aRA aa) from by first | (exact Cl_ra r_QI) | (exfalso; omega; done) | (exfalso; contradiction; done)) (fun m3 hV_m3 p0_m3 p1_m3 p2_m3 p3_m3 p4_m3 p5_m3 p6_m3 p7_m3 => zmv_n ?_)
  have p0_m3 : (m3 94 73).toInt = 0 := p0_m3
  have p1_m3 : zGW T (m3 94 55) (m3 109) := p1_m3
  have p2_m3 : zuw (m 113) (m3 113) := p2_m3
  have p3_m3 : qRB (m 99) (m 100) (m 98) (m 101) (m 102) (m 103) (m 107) (m 108) (m3 109) (m 111) (m 112) (m3 113) (m3 114) (m3 94 55) (m 94 46) ro 0 0 0 1 (aGw (aRA aa) 0) := p3_m3
  have p4_m3 : qI (aGw (aRA aa) 0) := p4_m3
  have p5_m3 : qKB (m3 110) (m 99) (m 100) (aGw (aRA aa) 0) := p5_m3
  have p6_m3 : qE0 (aGw (aRA aa) 0) := p6_m3
  have p7_m3 : qCl (aGw (aRA aa) 0) := p7_m3
  have f4 : 0 ≤ (m3 94 73).toInt ∧ (m3 94 73).toInt ≤ 3100 := rs_94_73 (m := (zov wr_194 (zov wr_188 (ma_u m 94 47 ((m 94 47) + (1 : Int32))) m1) m3)) hV_m3
  refine sp_199r  hV_m3  (fun m5 hV_m5 p0_m5 p1_m5 => zmv_n ?_)
  have p0_m5 : zuw (m3 113) (m5 113) := p0_m5
  have p1_m5 : qUr (m3 113) (m5 113) (m3 110) 16 := p1_m5
  refine sp_200rn  hV_m5 (show (m 94 10).toInt ≠ 4 from by omega) r_W r_GU r_OW r_WTS (fun v8 m7 hV_m7 p0_m7 p1_m7 p2_m7 p3_m7 p4_m7 => zmi_n ?_)
  have p0_m7 : zrm (m 99) (m7 99) (m3 110) 3100 := p0_m7
  have p1_m7 : zowr (m 111) (m7 111) (m 99) (m3 110) (m 103) := p1_m7
  have p2_m7 : zGU T (m 94 46) (m7 99) := p2_m7
  have p3_m7 : zOw (m7 99) (m 103) (m7 111) := p3_m7
  have p4_m7 : (m7 94 45).toInt = sm (zbU (m7 99)) (m 102) 3100 := p4_m7
  have b5 := i_bd v8
  exact K (v8) _ (zF_zov (zF_zov (zF_zov (zF_zov (zF_u zF_rfl rfl) ws_188_187) ws_194_187) ws_199_187) ws_200_187) hV_m7 p1_m3 p2_m7 p3_m7 (show qRB (m7 99) (m 100) (m 98) (m 101) (m 102) (m 103) (m 107) (m 108) (m3 109) (m7 111) (m 112) (m5 113) (m3 114) (m3 94 55) (m 94 46) ro 0 0 0 1 (aSw aa) from by first | (exact RB_mv p3_m3 p4_m3 p5_m3 (CK_of p7_m3 p3_m3 p5_m3) p6_m3.1.2.2.2.2.2.1 p1_m5 p0_m7 p1_m7) | (exfalso; omega; done) | (exfalso; contradiction; done)) (show qI (aSw aa) from by first | (exact I_mv p4_m3 p6_m3.1.2.2.2.2.2.1) | (exfalso; omega; done) | (exfalso; contradiction; done)) p4_m7 (show ∀ s, s < 3100 → (m7 99) s ≠ 0 → (m 99) s ≠ 0 from by first | (exact fun s hs z => (((p0_m7 s hs).1 hs).mp z).1) | (exfalso; omega; done) | (exfalso; contradiction; done))
theorem sp_211ry {X : Nat × (Nat → Int32)} {P : Option ma_V → (Nat → Nat → Int32) → Prop} {T : Nat} {aa : Nat→Nat→Int32} {ro : Int32} {m : Nat → Nat → Int32}  (hV : zV m) (hpre0 : T ≤ 512) (r_W : zW (m 94 7) (m 98) (m 101) (m 102) (m 108)) (r_GW : zGW T (m 94 55) (m 109)) (r_GU : zGU T (m 94 46) (m 99)) (r_OW : zOw (m 99) (m 103) (m 111)) (hpre5 : (m 94 10).toInt = 3) (r_RB : qRB (m 99) (m 100) (m 98) (m 101) (m 102) (m 103) (m 107) (m 108) (m 109) (m 111) (m 112) (m 113) (m 114) (m 94 55) (m 94 46) ro 0 0 0 1 aa) (r_AV : qAv aa) (r_AL : qAL aa (m 94 13) (m 94 14) (m 94 15) (m 94 16) (m 94 59) (m 94 60) (m 94 61)) (r_AGq : qAg (m 99) (m 100) (m 104) aa) (r_WTS : (m 94 45).toInt = sm (zbU (m 99)) (m 102) 3100) (KZ : ∀ v m₉, zV (zov wr_211 m m₉) → (zGW T (m₉ 94 55) (m₉ 109)) → (zGU T (m 94 46) (m₉ 99)) → (zOw (m₉ 99) (m₉ 103) (m₉ 111)) → (qRB (m₉ 99) (m 100) (m 98) (m 101) (m 102) (m₉ 103) (m 107) (m 108) (m₉ 109) (m₉ 111) (m 112) (m₉ 113) (m₉ 114) (m₉ 94 55) (m 94 46) ro 0 0 0 1 (gMa aa)) → (qAv (gMa aa)) → (qAL (gMa aa) (m 94 13) (m 94 14) (m 94 15) (m 94 16) (m 94 59) (m₉ 94 60) (m 94 61)) → (qAg (m₉ 99) (m 100) (m 104) (gMa aa)) → (qDt (m₉ 117) (gMa aa)) → ((m₉ 94 45).toInt = sm (zbU (m₉ 99)) (m 102) 3100) → P (some (.inl v)) (zov wr_211 m m₉)) : zm X 5 108 211 0 [(0, .inr (.inr (some 94)))] m P := by
  have K : ∀ v m₉, zF wr_211 m m₉ → zV m₉ → (zGW T (m₉ 94 55) (m₉ 109)) → (zGU T (m₉ 94 46) (m₉ 99)) → (zOw (m₉ 99) (m₉ 103) (m₉ 111)) → (qRB (m₉ 99) (m₉ 100) (m₉ 98) (m₉ 101) (m₉ 102) (m₉ 103) (m₉ 107) (m₉ 108) (m₉ 109) (m₉ 111) (m₉ 112) (m₉ 113) (m₉ 114) (m₉ 94 55) (m₉ 94 46) ro 0 0 0 1 (gMa aa)) → (qAv (gMa aa)) → (qAL (gMa aa) (m₉ 94 13) (m₉ 94 14) (m₉ 94 15) (m₉ 94 16) (m₉ 94 59) (m₉ 94 60) (m₉ 94 61)) → (qAg (m₉ 99) (m₉ 100) (m₉ 104) (gMa aa)) → (qDt (m₉ 117) (gMa aa)) → ((m₉ 94 45).toInt = sm (zbU (m₉ 99)) (m₉ 102) 3100) → P (some (.inl v)) m₉ := by
    intro v m₉ hf z q0 q1 q2 q3 q4 q5 q6 q7 q8
    have e := zov_eq hf
    rw [e] at z ⊢
    try rw [e] at q0
    try rw [e] at q1
    try rw [e] at q2
    try rw [e] at q3
    skip
    try rw [e] at q5
    try rw [e] at q6
    try rw [e] at q7
    try rw [e] at q8
    exact KZ v m₉ z q0 q1 q2 q3 q4 q5 q6 q7 q8
  refine g_211_0  ?_
  have f1 : 0 ≤ (m 94 10).toInt ∧ (m 94 10).toInt ≤ 6 := rs_94_10 (m := m) hV
  try have alb := AL_b r_AL r_AV
  refine sp_187ry (aa := aa)  hV (by omega) r_W r_GW r_GU r_OW (show (m 94 10).toInt ≠ 4 from by omega) r_RB (show qI aa from by first | (exact r_AV.1) | (exfalso; omega; done) | (exfalso; contradiction; done)) r_WTS (fun v2 m1 hV_m1 p0_m1 p1_m1 p2_m1 p3_m1 p4_m1 p5_m1 p6_m1 => zmi_n ?_)
  have p0_m1 : zGW T (m1 94 55) (m1 109) := p0_m1
  have p1_m1 : zGU T (m 94 46) (m1 99) := p1_m1
  have p2_m1 : zOw (m1 99) (m 103) (m1 111) := p2_m1
  have p3_m1 : qRB (m1 99) (m 100) (m 98) (m 101) (m 102) (m 103) (m 107) (m 108) (m1 109) (m1 111) (m 112) (m1 113) (m1 114) (m1 94 55) (m 94 46) ro 0 0 0 1 (aSw aa) := p3_m1
  have p4_m1 : qI (aSw aa) := p4_m1
  have p5_m1 : (m1 94 45).toInt = sm (zbU (m1 99)) (m 102) 3100 := p5_m1
  have p6_m1 : ∀ s, s < 3100 → (m1 99) s ≠ 0 → (m 99) s ≠ 0 := p6_m1
  have f2 : 0 ≤ (m 94 14).toInt ∧ (m 94 14).toInt ≤ 1500 := rs_94_14 (m := m) hV
  try have alb := AL_b r_AL r_AV
  refine sp_204rm (aa := (aSw aa)) ((m 94 14)) hV_m1 (by omega) (by omega) p2_m1 p3_m1 p4_m1 (fun v4 m3 hV_m3 p0_m3 p1_m3 p2_m3 p3_m3 => zmi_n ?_)
  have p0_m3 : zOw (m1 99) (m3 103) (m3 111) := p0_m3
  have p1_m3 : qRB (m1 99) (m 100) (m 98) (m 101) (m 102) (m3 103) (m 107) (m 108) (m1 109) (m3 111) (m 112) (m1 113) (m1 114) (m1 94 55) (m 94 46) ro 0 0 0 1 (zSd (aSw aa) (m 94 14).toInt 0 0).1 := p1_m3
  have p2_m3 : qEq v4.toInt (zSd (aSw aa) (m 94 14).toInt 0 0).2 ∧ ∃ p, (m 94 14).toInt ≤ p ∧ qJs (zSd (aSw aa) (m 94 14).toInt 0 0).1 p v4.toInt := p2_m3
  have p3_m3 : 0 ≤ v4.toInt ∧ v4.toInt ≤ 1600 := p3_m3
  have b4 := i_bd v4
  have hV3 : zV (ma_u (zov wr_204 (zov wr_187 m m1) m3) 94 60 v4) := us_94_60 hV_m3 (by omega) (by omega)
  try have alb := AL_b r_AL r_AV
  have f5 : 0 ≤ (m 94 16).toInt ∧ (m 94 16).toInt ≤ 64 := rs_94_16 (m := m) hV
  refine sp_212ry (aa := (ma_u (zSd (aSw aa) (m 94 14).toInt 0 0).1 87 10 v4))  hV3 r_W (show 4 ≤ (m 94 16).toInt from by omega) (show qRB (m1 99) (m 100) (m 98) (m 101) (m 102) (m3 103) (m 107) (m 108) (m1 109) (m3 111) (m 112) (m1 113) (m1 114) (m1 94 55) (m 94 46) ro 0 0 0 1 (ma_u (zSd (aSw aa) (m 94 14).toInt 0 0).1 87 10 v4) from by first | (exact RB_87k p1_m3 (by decide) (by decide) (by decide) (by decide) (by decide)) | (exfalso; omega; done) | (exfalso; contradiction; done)) (show qAX (ma_u (zSd (aSw aa) (m 94 14).toInt 0 0).1 87 10 v4) (m 94 13) (m 94 14) (m 94 15) (m 94 16) from by first | (exact AX_h r_AL.1) | (exfalso; omega; done) | (exfalso; contradiction; done)) (fun m5 hV_m5 p0_m5 => zmv_n ?_)
  have p0_m5 : qDt (m5 117) (gFd (ma_u (zSd (aSw aa) (m 94 14).toInt 0 0).1 87 10 v4)) := p0_m5
  try have alb := AL_b r_AL r_AV
  have b6 := i_bd v2
  exact K (v2) _ (zF_zov (zF_u (zF_zov (zF_zov zF_rfl ws_187_211) ws_204_211) rfl) ws_212_211) hV_m5 p0_m1 p1_m1 p0_m3 (show qRB (m1 99) (m 100) (m 98) (m 101) (m 102) (m3 103) (m 107) (m 108) (m1 109) (m3 111) (m 112) (m1 113) (m1 114) (m1 94 55) (m 94 46) ro 0 0 0 1 (gMa aa) from by first | (rw [← (show gFd (ma_u (zSd (aSw aa) (m 94 14).toInt 0 0).1 87 10 _) = gMa aa from congrArg gFd (Ma_h (congrArg Int32.toInt r_AL.1.2.1).symm p2_m3.1).1)]; exact RB_fd (RB_87k p1_m3 (by decide) (by decide) (by decide) (by decide) (by decide)); done) | (exfalso; omega; done) | (exfalso; contradiction; done)) (show qAv (gMa aa) from by first | (exact Av_ma r_AV) | (exact r_AV) | (exfalso; omega; done) | (exfalso; contradiction; done)) (show qAL (gMa aa) (m 94 13) (m 94 14) (m 94 15) (m 94 16) (m 94 59) v4 (m 94 61) from by first | (exact AL_ma r_AL r_AV (Ma_h (congrArg Int32.toInt r_AL.1.2.1).symm p2_m3.1).2) | (exact r_AL) | (exfalso; omega; done) | (exfalso; contradiction; done)) (show qAg (m1 99) (m 100) (m 104) (gMa aa) from by first | (exact Ag_ma2 r_AGq r_AV (show gFd (ma_u (zSd (aSw aa) (m 94 14).toInt 0 0).1 87 10 _) = gMa aa from congrArg gFd (Ma_h (congrArg Int32.toInt r_AL.1.2.1).symm p2_m3.1).1) (RB_fd (RB_87k p1_m3 (by decide) (by decide) (by decide) (by decide) (by decide))).1 p6_m1) | (exact r_AGq) | (exfalso; omega; done) | (exfalso; contradiction; done)) (show qDt (m5 117) (gMa aa) from by first | (rw [← (show gFd (ma_u (zSd (aSw aa) (m 94 14).toInt 0 0).1 87 10 _) = gMa aa from congrArg gFd (Ma_h (congrArg Int32.toInt r_AL.1.2.1).symm p2_m3.1).1)]; exact p0_m5; done) | (exact p0_m5) | (exfalso; omega; done) | (exfalso; contradiction; done)) p5_m1

/-! from 95.v08 -/
/-! AGES, the reference (written by wip/tools/gen15v.py) -/
set_option maxHeartbeats 8000000 in
theorem lp_214ry_145 {X : Nat × (Nat → Int32)} {P : Option ma_V → (Nat → Nat → Int32) → Prop} {T : Nat} {aa : Nat→Nat→Int32} {ro : Int32} {m0 : Nat → Nat → Int32} (h0 : zV m0) (K : ∀ v m₉, zF wr_214 m0 m₉ → zV m₉ → (zGW T (m₉ 94 55) (m₉ 109)) → (zGU T (m₉ 94 46) (m₉ 99)) → (zOw (m₉ 99) (m₉ 103) (m₉ 111)) → (qRB (m₉ 99) (m₉ 100) (m₉ 98) (m₉ 101) (m₉ 102) (m₉ 103) (m₉ 107) (m₉ 108) (m₉ 109) (m₉ 111) (m₉ 112) (m₉ 113) (m₉ 114) (m₉ 94 55) (m₉ 94 46) ro 0 0 0 1 (gMi aa)) → (qAv (gMi aa)) → (qAL (gMi aa) (m₉ 94 13) (m₉ 94 14) (m₉ 94 15) (m₉ 94 16) (m₉ 94 59) (m₉ 94 60) (m₉ 94 61)) → (qAg (m₉ 99) (m₉ 100) (m₉ 104) (gMi aa)) → (qDt (m₉ 117) (gMi aa)) → ((m₉ 94 45).toInt = sm (zbU (m₉ 99)) (m₉ 102) 3100) → P (some (.inl v)) m₉) : ∀ (n : Nat) (m : Nat → Nat → Int32) (l1 : Int32) (l2 : Int32) (l3 : Int32), (3100 - l3.toInt).toNat = n → zF wr_214 m0 m → zV m → (0 ≤ l3.toInt) → (T ≤ 512) → (zW (m 94 7) (m 98) (m 101) (m 102) (m 108)) → (zGW T (m 94 55) (m 109)) → (zGU T (m 94 46) (m 99)) → (zOw (m 99) (m 103) (m 111)) → ((m 94 10).toInt = 3) → (qAv (gM0 aa)) → (qAL (gM0 aa) (m 94 13) (m 94 14) (m 94 15) (m 94 16) ((gM0 aa) 87 4) ((gM0 aa) 87 10) (m0 94 61)) → (qDt (m 117) (gM0 aa)) → (qAX (gM0 aa) (m 94 13) (m 94 14) (m 94 15) (m 94 16)) → (¬ gFu (gM0 aa)) → (l2.toInt = ((gM0 aa) 87 10).toInt) → ((m 94 45).toInt = sm (zbU (m 99)) (m 102) 3100) → ((m 94 61).toInt = 1 - (m0 94 61).toInt) → (qZX (m 99) (m 100) (m 98) (m 101) (m 102) (m 107) (m 108) (m 109) (m 112) (m 113) (m 114) (m 94 55) (m 94 46) ro 0 0 0 1 (m 110) (m 119) (m 94 76) (m 94 75) (m 103) (m 111) (m 104) (m 94 77) (m 94 60) (2 * ((gM0 aa) 87 9).toInt + ((gM0 aa) 87 5).toInt - ((gM0 aa) 87 3).toInt) ((gM0 aa) 87 10).toInt l3 (aRo (aWh (gM0 aa) ((gM0 aa) 87 9)) 0)) → zm X 6 129 214 145 [(0, .inr (.inr (some 94))), (1, .inl l1), (2, .inl l2), (3, .inl l3)] m P := by
  intro n
  induction n using Nat.strongRecOn with
  | _ n IH =>
    intro m l1 l2 l3 hmu hF hV hi0 hi1 r_W r_GW r_GU r_OW hi6 r_AV r_ALo r_DT r_AX3 r_NF r_ENd r_WTS hi14 r_ZX
    refine g_214_145 l1 l2 l3 ?_
    have f1 : 0 ≤ (m 94 10).toInt ∧ (m 94 10).toInt ≤ 6 := rs_94_10 (m := m) hV
    have f2 : 0 ≤ (m 94 61).toInt ∧ (m 94 61).toInt ≤ 1 := rs_94_61 (m := m) hV
    have f3 : 0 ≤ (m0 94 61).toInt ∧ (m0 94 61).toInt ≤ 1 := rs_94_61 (m := m0) h0
    obtain ⟨AT, OW, AG, c, hB, hT⟩ := r_ZX
    have cAX := AX_wi r_AX3 hT
    have f4 : 0 ≤ (m 94 55).toInt ∧ (m 94 55).toInt ≤ 3100 := rs_94_55 (m := m) hV
    have b5 := i_bd l3
    refine zd (fun (h6 : (m 94 55) ≤ l3) => ?_) (fun (h6 : ¬ (m 94 55) ≤ l3) => ?_)
    · skip
      have g7 := i_le h6
      have b8 := i_bd l2
      try have alb := AL_b r_AL r_AV
      try have ah7 := r_AL.2.2.2.1
      try have gw := GW_room r_GW
      try have alo := AL_b r_ALo r_AV
      try have end2 := r_ENd
      refine sp_216ry (aa := (aRo (aWh (gM0 aa) ((gM0 aa) 87 9)) 0)) (AT := AT) (OW := OW) (AG := AG) (st := (2 * ((gM0 aa) 87 9).toInt + ((gM0 aa) 87 5).toInt - ((gM0 aa) 87 3).toInt)) (oo := ((gM0 aa) 87 10).toInt) (l2) hV (by omega) (by omega) (show (m 94 10).toInt = 3 from by omega) r_W r_OW (show qAX (aRo (aWh (gM0 aa) ((gM0 aa) 87 9)) 0) (m 94 13) (m 94 14) (m 94 15) (m 94 16) from by first | (exact AX_t1 r_AX3) | (exact r_AX3) | (exfalso; omega; done) | (exfalso; contradiction; done)) (show qDt (m 117) (aRo (aWh (gM0 aa) ((gM0 aa) 87 9)) 0) from by first | (exact Dt_t1 r_DT) | (exact r_DT) | (exfalso; omega; done) | (exfalso; contradiction; done)) (show qYB (m 99) (m 100) (m 98) (m 101) (m 102) AT (m 107) (m 108) (m 109) OW (m 112) (m 113) (m 114) (m 94 55) (m 94 46) ro 0 0 0 1 (m 110) (m 119) (m 94 76) (m 94 75) (m 103) (m 111) (m 104) AG (m 94 77) (m 94 60) (2 * ((gM0 aa) 87 9).toInt + ((gM0 aa) 87 5).toInt - ((gM0 aa) 87 3).toInt) ((gM0 aa) 87 10).toInt (aRo (aWh (gM0 aa) ((gM0 aa) 87 9)) 0) from by first | (exact YX_end ⟨c, hB, hT⟩ (by omega)) | (exact hB) | (exfalso; omega; done) | (exfalso; contradiction; done)) (fun m1 hV_m1 p0_m1 p1_m1 => zmv_n ?_)
      have p0_m1 : zOw (m 99) (m1 103) (m1 111) := p0_m1
      have p1_m1 : qYB (m 99) (m 100) (m 98) (m 101) (m 102) AT (m 107) (m 108) (m 109) OW (m 112) (m 113) (m 114) (m 94 55) (m 94 46) ro 0 0 0 1 (m1 110) (m1 119) (m 94 76) (m1 94 75) (m1 103) (m1 111) (m1 104) AG (m1 94 77) (m1 94 60) (2 * ((gM0 aa) 87 9).toInt + ((gM0 aa) 87 5).toInt - ((gM0 aa) 87 3).toInt) ((gM0 aa) 87 10).toInt (gDp (aRo (aWh (gM0 aa) ((gM0 aa) 87 9)) 0) ((gM0 aa) 87 10).toInt 0) := p1_m1
      try have alb := AL_b r_AL r_AV
      try have ah7 := r_AL.2.2.2.1
      try have gw := GW_room r_GW
      try have alo := AL_b r_ALo r_AV
      try have end2 := r_ENd
      refine sp_208ry (aa := (gDp (aRo (aWh (gM0 aa) ((gM0 aa) 87 9)) 0) ((gM0 aa) 87 10).toInt 0)) (AT := AT) (OW := OW) (AG := AG) (st := (2 * ((gM0 aa) 87 9).toInt + ((gM0 aa) 87 5).toInt - ((gM0 aa) 87 3).toInt)) (oo := ((gM0 aa) 87 10).toInt)  hV_m1 (show (m 94 10).toInt = 3 from by omega) r_W p0_m1 (show qAX (gDp (aRo (aWh (gM0 aa) ((gM0 aa) 87 9)) 0) ((gM0 aa) 87 10).toInt 0) (m 94 13) (m 94 14) (m 94 15) (m 94 16) from by first | (exact AX_t2 r_AX3) | (exact r_AX3) | (exfalso; omega; done) | (exfalso; contradiction; done)) p1_m1 (fun m3 hV_m3 p0_m3 p1_m3 p2_m3 => zmv_n ?_)
      have p0_m3 : zOw (m 99) (m3 103) (m3 111) := p0_m3
      have p1_m3 : qYB (m 99) (m 100) (m 98) (m 101) (m 102) AT (m 107) (m 108) (m 109) OW (m 112) (m 113) (m 114) (m 94 55) (m 94 46) ro 0 0 0 1 (m3 110) (m3 119) (m3 94 76) (m3 94 75) (m3 103) (m3 111) (m3 104) AG (m3 94 77) (m3 94 60) (2 * ((gM0 aa) 87 9).toInt + ((gM0 aa) 87 5).toInt - ((gM0 aa) 87 3).toInt) ((gM0 aa) 87 10).toInt (aSp 512 (gDp (aRo (aWh (gM0 aa) ((gM0 aa) 87 9)) 0) ((gM0 aa) 87 10).toInt 0)) := p1_m3
      have p2_m3 : (m3 94 75).toInt ≤ (m3 94 76).toInt := p2_m3
      have f9 : 0 ≤ (m3 94 75).toInt ∧ (m3 94 75).toInt ≤ 3100 := rs_94_75 (m := (zov wr_208 (zov wr_216 m m1) m3)) hV_m3
      have f10 : 0 ≤ (m3 94 76).toInt ∧ (m3 94 76).toInt ≤ 3100 := rs_94_76 (m := (zov wr_208 (zov wr_216 m m1) m3)) hV_m3
      have li11 : (1 : Int32).toInt = 1 := rfl
      try have alb := AL_b r_AL r_AV
      try have ah7 := r_AL.2.2.2.1
      try have gw := GW_room r_GW
      try have alo := AL_b r_ALo r_AV
      try have end2 := r_ENd
      refine sp_209ry (aa := (aSp 512 (gDp (aRo (aWh (gM0 aa) ((gM0 aa) 87 9)) 0) ((gM0 aa) 87 10).toInt 0))) (AT := AT) (OW := OW) (AG := AG) (st := (2 * ((gM0 aa) 87 9).toInt + ((gM0 aa) 87 5).toInt - ((gM0 aa) 87 3).toInt)) (oo := ((gM0 aa) 87 10).toInt) ((1 : Int32)) hV_m3 (by omega) (by omega) (show (m 94 10).toInt = 3 from by omega) r_W r_GW p0_m3 (show qAX (aSp 512 (gDp (aRo (aWh (gM0 aa) ((gM0 aa) 87 9)) 0) ((gM0 aa) 87 10).toInt 0)) (m 94 13) (m 94 14) (m 94 15) (m 94 16) from by first | (exact AX_sp (AX_t2 r_AX3)) | (exact r_AX3) | (exfalso; omega; done) | (exfalso; contradiction; done)) p1_m3 (show qE0 (aPc (aSp 512 (gDp (aRo (aWh (gM0 aa) ((gM0 aa) 87 9)) 0) ((gM0 aa) 87 10).toInt 0))) from by first | (rw [B3_e r_AV]; exact (B3_all r_AV).1; done) | (exfalso; omega; done) | (exfalso; contradiction; done)) (show qCl (aPc (aSp 512 (gDp (aRo (aWh (gM0 aa) ((gM0 aa) 87 9)) 0) ((gM0 aa) 87 10).toInt 0))) from by first | (rw [B3_e r_AV]; exact (B3_all r_AV).2.2.1; done) | (exfalso; omega; done) | (exfalso; contradiction; done)) (fun m5 hV_m5 p0_m5 p1_m5 p2_m5 p3_m5 p4_m5 p5_m5 => zmv_n ?_)
      have p0_m5 : zGW T (m5 94 55) (m5 109) := p0_m5
      have p1_m5 : zuw (m 113) (m5 113) := p1_m5
      have p2_m5 : zOw (m 99) (m5 103) (m5 111) := p2_m5
      have p3_m5 : qYB (m 99) (m 100) (m 98) (m 101) (m 102) AT (m 107) (m 108) (m5 109) OW (m 112) (m5 113) (m5 114) (m5 94 55) (m 94 46) ro 0 0 0 1 (m5 110) (m5 119) (m5 94 76) (m5 94 75) (m5 103) (m5 111) (m5 104) AG (m5 94 77) (m5 94 60) (2 * ((gM0 aa) 87 9).toInt + ((gM0 aa) 87 5).toInt - ((gM0 aa) 87 3).toInt) ((gM0 aa) 87 10).toInt (aGw (aSp 512 (gDp (aRo (aWh (gM0 aa) ((gM0 aa) 87 9)) 0) ((gM0 aa) 87 10).toInt 0)) 0) := p3_m5
      have p4_m5 : qE0 (aPc (aGw (aSp 512 (gDp (aRo (aWh (gM0 aa) ((gM0 aa) 87 9)) 0) ((gM0 aa) 87 10).toInt 0)) 0)) := p4_m5
      have p5_m5 : qCl (aPc (aGw (aSp 512 (gDp (aRo (aWh (gM0 aa) ((gM0 aa) 87 9)) 0) ((gM0 aa) 87 10).toInt 0)) 0)) := p5_m5
      try have alb := AL_b r_AL r_AV
      try have ah7 := r_AL.2.2.2.1
      try have gw := GW_room p0_m5
      try have alo := AL_b r_ALo r_AV
      try have end2 := r_ENd
      refine sp_199r  hV_m5  (fun m7 hV_m7 p0_m7 p1_m7 => zmv_n ?_)
      have p0_m7 : zuw (m5 113) (m7 113) := p0_m7
      have p1_m7 : qUr (m5 113) (m7 113) (m5 110) 16 := p1_m7
      have f13 : 0 ≤ (m5 94 77).toInt ∧ (m5 94 77).toInt ≤ 4600 := rs_94_77 (m := (zov wr_209 (zov wr_208 (zov wr_216 m m1) m3) m5)) hV_m5
      have hV12 : zV (ma_u (zov wr_199 (zov wr_209 (zov wr_208 (zov wr_216 m m1) m3) m5) m7) 94 59 (m5 94 77)) := us_94_59 hV_m7 (by omega) (by omega)
      try have alb := AL_b r_AL r_AV
      try have ah7 := r_AL.2.2.2.1
      try have gw := GW_room p0_m5
      try have alo := AL_b r_ALo r_AV
      try have end2 := r_ENd
      refine sp_200rn  hV12 (show (m 94 10).toInt ≠ 4 from by omega) r_W r_GU p2_m5 r_WTS (fun v10 m9 hV_m9 p0_m9 p1_m9 p2_m9 p3_m9 p4_m9 => zmi_n ?_)
      have p0_m9 : zrm (m 99) (m9 99) (m5 110) 3100 := p0_m9
      have p1_m9 : zowr (m5 111) (m9 111) (m 99) (m5 110) (m5 103) := p1_m9
      have p2_m9 : zGU T (m 94 46) (m9 99) := p2_m9
      have p3_m9 : zOw (m9 99) (m5 103) (m9 111) := p3_m9
      have p4_m9 : (m9 94 45).toInt = sm (zbU (m9 99)) (m 102) 3100 := p4_m9
      try have alb := AL_b r_AL r_AV
      try have ah7 := r_AL.2.2.2.1
      try have gw := GW_room p0_m5
      try have alo := AL_b r_ALo r_AV
      try have end2 := r_ENd
      have f14 : 0 ≤ (m 94 16).toInt ∧ (m 94 16).toInt ≤ 64 := rs_94_16 (m := m) hV
      refine sp_212ry (aa := (gMf (gMk1 (gM0 aa) 75 4).toInt.toNat 0 (gMk1 (gM0 aa))))  hV_m9 r_W (show 4 ≤ (m 94 16).toInt from by omega) (show qRB (m9 99) (m 100) (m 98) (m 101) (m 102) (m5 103) (m 107) (m 108) (m5 109) (m9 111) (m 112) (m7 113) (m5 114) (m5 94 55) (m 94 46) ro 0 0 0 1 (gMf (gMk1 (gM0 aa) 75 4).toInt.toNat 0 (gMk1 (gM0 aa))) from by first | (exact (YB_fin (aa := (gM0 aa)) p3_m5 p5_m5 r_AV r_NF p1_m7 p0_m9 p1_m9).1) | (exfalso; omega; done) | (exfalso; contradiction; done)) (show qAX (gMf (gMk1 (gM0 aa) 75 4).toInt.toNat 0 (gMk1 (gM0 aa))) (m 94 13) (m 94 14) (m 94 15) (m 94 16) from by first | (exact AX_G r_AX3) | (exact r_AX3) | (exfalso; omega; done) | (exfalso; contradiction; done)) (fun m11 hV_m11 p0_m11 => zmv_n ?_)
      have p0_m11 : qDt (m11 117) (gFd (gMf (gMk1 (gM0 aa) 75 4).toInt.toNat 0 (gMk1 (gM0 aa)))) := p0_m11
      try have gw := GW_room p0_m5
      try have alb := AL_b r_AL r_AV
      try have ah7 := r_AL.2.2.2.1
      try have alo := AL_b r_ALo r_AV
      try have h61i := congrArg Int32.toInt r_H61
      have b15 := i_bd l1
      have b16 := i_bd v10
      first | have e17 : (l1 + v10).toInt = l1.toInt + v10.toInt := i_add (by omega) (by omega) | have b18 := i_bd (l1 + v10)
      exact K ((l1 + v10)) _ (zF_zov (zF_zov (zF_u (zF_zov (zF_zov (zF_zov (zF_zov hF ws_216_214) ws_208_214) ws_209_214) ws_199_214) rfl) ws_200_214) ws_212_214) hV_m11 p0_m5 p2_m9 p3_m9 (show qRB (m9 99) (m 100) (m 98) (m 101) (m 102) (m5 103) (m 107) (m 108) (m5 109) (m9 111) (m 112) (m7 113) (m5 114) (m5 94 55) (m 94 46) ro 0 0 0 1 (gMi aa) from by first | (rw [(Mi_n (a := aa) r_NF).1]; exact RB_fd (YB_fin (aa := (gM0 aa)) p3_m5 p5_m5 r_AV r_NF p1_m7 p0_m9 p1_m9).1; done) | (exfalso; omega; done) | (exfalso; contradiction; done)) (show qAv (gMi aa) from by first | (rw [(Mi_n (a := aa) r_NF).1]; exact Av_mv r_AV r_NF; done) | (exact r_AV) | (exfalso; omega; done) | (exfalso; contradiction; done)) (show qAL (gMi aa) (m 94 13) (m 94 14) (m 94 15) (m 94 16) (m5 94 77) (m5 94 60) (m 94 61) from by first | (rw [(Mi_n (a := aa) r_NF).1]; exact AL_mv r_ALo r_AV (YB_fin (aa := (gM0 aa)) p3_m5 p5_m5 r_AV r_NF p1_m7 p0_m9 p1_m9).2.1 (YB_fin (aa := (gM0 aa)) p3_m5 p5_m5 r_AV r_NF p1_m7 p0_m9 p1_m9).2.2.1 (by omega); done) | (exfalso; omega; done) | (exfalso; contradiction; done)) (show qAg (m9 99) (m 100) (m5 104) (gMi aa) from by first | (rw [(Mi_n (a := aa) r_NF).1]; exact Ag_mv (YB_fin (aa := (gM0 aa)) p3_m5 p5_m5 r_AV r_NF p1_m7 p0_m9 p1_m9).2.2.2; done) | (exfalso; omega; done) | (exfalso; contradiction; done)) (show qDt (m11 117) (gMi aa) from by first | (rw [(Mi_n (a := aa) r_NF).1]; exact p0_m11; done) | (exact p0_m11) | (exfalso; omega; done) | (exfalso; contradiction; done)) p4_m9
    · skip
      have g19 := i_nle h6
      have hg20 : (0 ≤ l3 ∧ l3.toNatClampNeg < 3100) := i_ix (by omega) (by omega)
      refine ⟨hg20, ?_⟩
      first | have f21 : 0 ≤ (m 114 l3.toNatClampNeg).toInt ∧ (m 114 l3.toNatClampNeg).toInt ≤ 3099 := ra_114 (m := m) hV (k := l3.toNatClampNeg) (i_ix (n := 3100) (by omega) (by omega)).2 | have b22 := i_bd (m 114 l3.toNatClampNeg)
      try have alb := AL_b r_AL r_AV
      try have ah7 := r_AL.2.2.2.1
      try have gw := GW_room r_GW
      try have alo := AL_b r_ALo r_AV
      try have end2 := r_ENd
      refine sp_207ry (aa := c) (AT := AT) (OW := OW) (AG := AG) (st := (2 * ((gM0 aa) 87 9).toInt + ((gM0 aa) 87 5).toInt - ((gM0 aa) 87 3).toInt)) (oo := ((gM0 aa) 87 10).toInt) ((m 114 l3.toNatClampNeg)) hV (by omega) (by omega) (show (m 94 10).toInt = 3 from by omega) (show qU (m 99) (m 114 l3.toNatClampNeg) from by first | (exact (YX_wl hB (by omega) (by omega) rfl).1.2) | (exfalso; omega; done) | (exfalso; contradiction; done)) r_OW (show qAX c (m 94 13) (m 94 14) (m 94 15) (m 94 16) from by first | (exact cAX) | (exact r_AX3) | (exfalso; omega; done) | (exfalso; contradiction; done)) hB (fun m13 hV_m13 p0_m13 p1_m13 => zmv_n ?_)
      have p0_m13 : zOw (m 99) (m13 103) (m13 111) := p0_m13
      have p1_m13 : qYB (m 99) (m 100) (m 98) (m 101) (m 102) AT (m 107) (m 108) (m 109) OW (m 112) (m 113) (m 114) (m 94 55) (m 94 46) ro 0 0 0 1 (m13 110) (m13 119) (m 94 76) (m13 94 75) (m13 103) (m13 111) (m13 104) AG (m13 94 77) (m13 94 60) (2 * ((gM0 aa) 87 9).toInt + ((gM0 aa) 87 5).toInt - ((gM0 aa) 87 3).toInt) ((gM0 aa) 87 10).toInt (aCm c (qNo (m 100) (m 114 l3.toNatClampNeg))) := p1_m13
      try have gw := GW_room r_GW
      try have alb := AL_b r_AL r_AV
      try have ah7 := r_AL.2.2.2.1
      try have alo := AL_b r_ALo r_AV
      try have h61i := congrArg Int32.toInt r_H61
      have b23 := i_bd l1
      have b24 := i_bd l2
      first | have e25 : (l3 + (1 : Int32)).toInt = l3.toInt + (1) := i_addk rfl (by omega) (by omega) | have b26 := i_bd (l3 + (1 : Int32))
      exact IH (3100 - (l3 + (1 : Int32)).toInt).toNat (by omega) _ (l1) (l2) ((l3 + (1 : Int32))) rfl (zF_zov hF ws_207_214) hV_m13 (by omega) (by omega) r_W r_GW r_GU p0_m13 (show (m 94 10).toInt = 3 from by omega) r_AV r_ALo r_DT r_AX3 r_NF r_ENd r_WTS (show (m 94 61).toInt = 1 - (m0 94 61).toInt from by omega) (show qZX (m 99) (m 100) (m 98) (m 101) (m 102) (m 107) (m 108) (m 109) (m 112) (m 113) (m 114) (m 94 55) (m 94 46) ro 0 0 0 1 (m13 110) (m13 119) (m 94 76) (m13 94 75) (m13 103) (m13 111) (m13 104) (m13 94 77) (m13 94 60) (2 * ((gM0 aa) 87 9).toInt + ((gM0 aa) 87 5).toInt - ((gM0 aa) 87 3).toInt) ((gM0 aa) 87 10).toInt (l3 + (1 : Int32)) (aRo (aWh (gM0 aa) ((gM0 aa) 87 9)) 0) from by first | (exact ⟨_, _, _, _, p1_m13, (YX_wl hB (by omega) (by omega) rfl).2.symm.trans hT⟩) | (exfalso; omega; done) | (exfalso; contradiction; done))
set_option maxHeartbeats 8000000 in
theorem lp_214ry_121 {X : Nat × (Nat → Int32)} {P : Option ma_V → (Nat → Nat → Int32) → Prop} {T : Nat} {aa : Nat→Nat→Int32} {ro : Int32} {m0 : Nat → Nat → Int32} (h0 : zV m0) (K : ∀ v m₉, zF wr_214 m0 m₉ → zV m₉ → (zGW T (m₉ 94 55) (m₉ 109)) → (zGU T (m₉ 94 46) (m₉ 99)) → (zOw (m₉ 99) (m₉ 103) (m₉ 111)) → (qRB (m₉ 99) (m₉ 100) (m₉ 98) (m₉ 101) (m₉ 102) (m₉ 103) (m₉ 107) (m₉ 108) (m₉ 109) (m₉ 111) (m₉ 112) (m₉ 113) (m₉ 114) (m₉ 94 55) (m₉ 94 46) ro 0 0 0 1 (gMi aa)) → (qAv (gMi aa)) → (qAL (gMi aa) (m₉ 94 13) (m₉ 94 14) (m₉ 94 15) (m₉ 94 16) (m₉ 94 59) (m₉ 94 60) (m₉ 94 61)) → (qAg (m₉ 99) (m₉ 100) (m₉ 104) (gMi aa)) → (qDt (m₉ 117) (gMi aa)) → ((m₉ 94 45).toInt = sm (zbU (m₉ 99)) (m₉ 102) 3100) → P (some (.inl v)) m₉) : ∀ (n : Nat) (m : Nat → Nat → Int32) (l1 : Int32) (l2 : Int32) (l3 : Int32), (16 - l3.toInt).toNat = n → zF wr_214 m0 m → zV m → (0 ≤ l3.toInt) → (T ≤ 512) → (zW (m 94 7) (m 98) (m 101) (m 102) (m 108)) → (zGW T (m 94 55) (m 109)) → (zGU T (m 94 46) (m 99)) → (zOw (m 99) (m 103) (m 111)) → ((m 94 10).toInt = 3) → (qAv (gM0 aa)) → (qAL (gM0 aa) (m 94 13) (m 94 14) (m 94 15) (m 94 16) ((gM0 aa) 87 4) ((gM0 aa) 87 10) (m0 94 61)) → (qDt (m 117) (gM0 aa)) → (qAX (gM0 aa) (m 94 13) (m 94 14) (m 94 15) (m 94 16)) → (¬ gFu (gM0 aa)) → (l2.toInt = ((gM0 aa) 87 10).toInt) → ((m 94 45).toInt = sm (zbU (m 99)) (m 102) 3100) → ((m 94 61).toInt = 1 - (m0 94 61).toInt) → (qZR (m 99) (m 100) (m 98) (m 101) (m 102) (m 107) (m 108) (m 109) (m 112) (m 113) (m 114) (m 94 55) (m 94 46) ro 0 0 0 1 (m 110) (m 119) (m 94 76) (m 94 75) (m 103) (m 111) (m 104) (m 94 77) (m 94 60) (2 * ((gM0 aa) 87 9).toInt + ((gM0 aa) 87 5).toInt - ((gM0 aa) 87 3).toInt) ((gM0 aa) 87 10).toInt l3 (aRo (aWh (gM0 aa) ((gM0 aa) 87 9)) 0)) → zm X 6 129 214 121 [(0, .inr (.inr (some 94))), (1, .inl l1), (2, .inl l2), (3, .inl l3)] m P := by
  intro n
  induction n using Nat.strongRecOn with
  | _ n IH =>
    intro m l1 l2 l3 hmu hF hV hi0 hi1 r_W r_GW r_GU r_OW hi6 r_AV r_ALo r_DT r_AX3 r_NF r_ENd r_WTS hi14 r_ZR
    refine g_214_121 l1 l2 l3 ?_
    have f1 : 0 ≤ (m 94 10).toInt ∧ (m 94 10).toInt ≤ 6 := rs_94_10 (m := m) hV
    have f2 : 0 ≤ (m 94 61).toInt ∧ (m 94 61).toInt ≤ 1 := rs_94_61 (m := m) hV
    have f3 : 0 ≤ (m0 94 61).toInt ∧ (m0 94 61).toInt ≤ 1 := rs_94_61 (m := m0) h0
    obtain ⟨AT, OW, AG, c, hB, hT⟩ := r_ZR
    have cAX := AX_ro r_AX3 hT
    have li4 : (16 : Int32).toInt = 16 := rfl
    have b5 := i_bd l3
    refine zd (fun (h6 : (16 : Int32) ≤ l3) => ?_) (fun (h6 : ¬ (16 : Int32) ≤ l3) => ?_)
    · skip
      have g7 := i_le h6
      try have gw := GW_room r_GW
      try have alb := AL_b r_AL r_AV
      try have ah7 := r_AL.2.2.2.1
      try have alo := AL_b r_ALo r_AV
      try have h61i := congrArg Int32.toInt r_H61
      have b8 := i_bd l1
      have b9 := i_bd l2
      have li10 : (0 : Int32).toInt = 0 := rfl
      exact lp_214ry_145 h0 K _ _ (l1) (l2) ((0 : Int32)) rfl hF hV (by omega) (by omega) r_W r_GW r_GU r_OW (show (m 94 10).toInt = 3 from by omega) r_AV r_ALo r_DT r_AX3 r_NF r_ENd r_WTS (show (m 94 61).toInt = 1 - (m0 94 61).toInt from by omega) (show qZX (m 99) (m 100) (m 98) (m 101) (m 102) (m 107) (m 108) (m 109) (m 112) (m 113) (m 114) (m 94 55) (m 94 46) ro 0 0 0 1 (m 110) (m 119) (m 94 76) (m 94 75) (m 103) (m 111) (m 104) (m 94 77) (m 94 60) (2 * ((gM0 aa) 87 9).toInt + ((gM0 aa) 87 5).toInt - ((gM0 aa) 87 3).toInt) ((gM0 aa) 87 10).toInt (0 : Int32) (aRo (aWh (gM0 aa) ((gM0 aa) 87 9)) 0) from by first | (exact ⟨AT, OW, AG, YR_end ⟨c, hB, hT⟩ (by omega) (by omega)⟩) | (exfalso; omega; done) | (exfalso; contradiction; done))
    · skip
      have g11 := i_nle h6
      have hg12 : (0 ≤ l3 ∧ l3.toNatClampNeg < 16) := i_ix (by omega) (by omega)
      refine ⟨hg12, ?_⟩
      first | have f13 : -1 ≤ (m 112 l3.toNatClampNeg).toInt ∧ (m 112 l3.toNatClampNeg).toInt ≤ 3099 := ra_112 (m := m) hV (k := l3.toNatClampNeg) (i_ix (n := 16) (by omega) (by omega)).2 | have b14 := i_bd (m 112 l3.toNatClampNeg)
      try have alb := AL_b r_AL r_AV
      try have ah7 := r_AL.2.2.2.1
      try have gw := GW_room r_GW
      try have alo := AL_b r_ALo r_AV
      try have end2 := r_ENd
      refine sp_207ry (aa := c) (AT := AT) (OW := OW) (AG := AG) (st := (2 * ((gM0 aa) 87 9).toInt + ((gM0 aa) 87 5).toInt - ((gM0 aa) 87 3).toInt)) (oo := ((gM0 aa) 87 10).toInt) ((m 112 l3.toNatClampNeg)) hV (by omega) (by omega) (show (m 94 10).toInt = 3 from by omega) (show qU (m 99) (m 112 l3.toNatClampNeg) from by first | (exact (YR_rt hB (by omega) (by omega) rfl).1) | (exfalso; omega; done) | (exfalso; contradiction; done)) r_OW (show qAX c (m 94 13) (m 94 14) (m 94 15) (m 94 16) from by first | (exact cAX) | (exact r_AX3) | (exfalso; omega; done) | (exfalso; contradiction; done)) hB (fun m1 hV_m1 p0_m1 p1_m1 => zmv_n ?_)
      have p0_m1 : zOw (m 99) (m1 103) (m1 111) := p0_m1
      have p1_m1 : qYB (m 99) (m 100) (m 98) (m 101) (m 102) AT (m 107) (m 108) (m 109) OW (m 112) (m 113) (m 114) (m 94 55) (m 94 46) ro 0 0 0 1 (m1 110) (m1 119) (m 94 76) (m1 94 75) (m1 103) (m1 111) (m1 104) AG (m1 94 77) (m1 94 60) (2 * ((gM0 aa) 87 9).toInt + ((gM0 aa) 87 5).toInt - ((gM0 aa) 87 3).toInt) ((gM0 aa) 87 10).toInt (aCm c (qNo (m 100) (m 112 l3.toNatClampNeg))) := p1_m1
      try have gw := GW_room r_GW
      try have alb := AL_b r_AL r_AV
      try have ah7 := r_AL.2.2.2.1
      try have alo := AL_b r_ALo r_AV
      try have h61i := congrArg Int32.toInt r_H61
      have b15 := i_bd l1
      have b16 := i_bd l2
      first | have e17 : (l3 + (1 : Int32)).toInt = l3.toInt + (1) := i_addk rfl (by omega) (by omega) | have b18 := i_bd (l3 + (1 : Int32))
      exact IH (16 - (l3 + (1 : Int32)).toInt).toNat (by omega) _ (l1) (l2) ((l3 + (1 : Int32))) rfl (zF_zov hF ws_207_214) hV_m1 (by omega) (by omega) r_W r_GW r_GU p0_m1 (show (m 94 10).toInt = 3 from by omega) r_AV r_ALo r_DT r_AX3 r_NF r_ENd r_WTS (show (m 94 61).toInt = 1 - (m0 94 61).toInt from by omega) (show qZR (m 99) (m 100) (m 98) (m 101) (m 102) (m 107) (m 108) (m 109) (m 112) (m 113) (m 114) (m 94 55) (m 94 46) ro 0 0 0 1 (m1 110) (m1 119) (m 94 76) (m1 94 75) (m1 103) (m1 111) (m1 104) (m1 94 77) (m1 94 60) (2 * ((gM0 aa) 87 9).toInt + ((gM0 aa) 87 5).toInt - ((gM0 aa) 87 3).toInt) ((gM0 aa) 87 10).toInt (l3 + (1 : Int32)) (aRo (aWh (gM0 aa) ((gM0 aa) 87 9)) 0) from by first | (exact ⟨_, _, _, _, p1_m1, (YR_rt hB (by omega) (by omega) rfl).2.symm.trans hT⟩) | (exfalso; omega; done) | (exfalso; contradiction; done))
set_option maxHeartbeats 8000000 in
theorem lp_214ry_35 {X : Nat × (Nat → Int32)} {P : Option ma_V → (Nat → Nat → Int32) → Prop} {T : Nat} {aa : Nat→Nat→Int32} {ro : Int32} {m0 : Nat → Nat → Int32} (h0 : zV m0) (K : ∀ v m₉, zF wr_214 m0 m₉ → zV m₉ → (zGW T (m₉ 94 55) (m₉ 109)) → (zGU T (m₉ 94 46) (m₉ 99)) → (zOw (m₉ 99) (m₉ 103) (m₉ 111)) → (qRB (m₉ 99) (m₉ 100) (m₉ 98) (m₉ 101) (m₉ 102) (m₉ 103) (m₉ 107) (m₉ 108) (m₉ 109) (m₉ 111) (m₉ 112) (m₉ 113) (m₉ 114) (m₉ 94 55) (m₉ 94 46) ro 0 0 0 1 (gMi aa)) → (qAv (gMi aa)) → (qAL (gMi aa) (m₉ 94 13) (m₉ 94 14) (m₉ 94 15) (m₉ 94 16) (m₉ 94 59) (m₉ 94 60) (m₉ 94 61)) → (qAg (m₉ 99) (m₉ 100) (m₉ 104) (gMi aa)) → (qDt (m₉ 117) (gMi aa)) → ((m₉ 94 45).toInt = sm (zbU (m₉ 99)) (m₉ 102) 3100) → P (some (.inl v)) m₉) : ∀ (n : Nat) (m : Nat → Nat → Int32) (l1 : Int32) (l2 : Int32), (3100 - l2.toInt).toNat = n → zF wr_214 m0 m → zV m → (0 ≤ l2.toInt) → (l2.toInt ≤ 3100) → (T ≤ 512) → (zW (m 94 7) (m 98) (m 101) (m 102) (m 108)) → (zGW T (m 94 55) (m 109)) → (zGU T (m 94 46) (m 99)) → (zOw (m 99) (m 103) (m 111)) → ((m 94 10).toInt = 3) → (qRB (m 99) (m 100) (m 98) (m 101) (m 102) (m 103) (m 107) (m 108) (m 109) (m 111) (m 112) (m 113) (m 114) (m 94 55) (m 94 46) ro 0 0 0 1 (gM0 aa)) → (qAv (gM0 aa)) → (qAL (gM0 aa) (m 94 13) (m 94 14) (m 94 15) (m 94 16) (m 94 59) (m 94 60) (m 94 61)) → (qAg (m 99) (m 100) (m 104) (gM0 aa)) → (qDt (m 117) (gM0 aa)) → (qAX (gM0 aa) (m 94 13) (m 94 14) (m 94 15) (m 94 16)) → (¬ gFu (gM0 aa)) → ((m 94 61) = (m0 94 61)) → ((m 94 45).toInt = sm (zbU (m 99)) (m 102) 3100) → (∀ s : Nat, (s : Int) < l2.toInt → ((m 110) s ≠ 0 ↔ (m 99) s ≠ 0 ∧ ((m 103) s).toInt < (m 94 14).toInt)) → zm X 6 129 214 35 [(0, .inr (.inr (some 94))), (1, .inl l1), (2, .inl l2)] m P := by
  intro n
  induction n using Nat.strongRecOn with
  | _ n IH =>
    intro m l1 l2 hmu hF hV hi0 hi1 hi2 r_W r_GW r_GU r_OW hi7 r_RB r_AV r_AL r_AGq r_DT r_AX3 r_NF r_H61 r_WTS r_KOl
    refine g_214_35 l1 l2 ?_
    have f1 : 0 ≤ (m 94 10).toInt ∧ (m 94 10).toInt ≤ 6 := rs_94_10 (m := m) hV
    have li2 : (3100 : Int32).toInt = 3100 := rfl
    have b3 := i_bd l2
    refine zd (fun (h4 : (3100 : Int32) ≤ l2) => ?_) (fun (h4 : ¬ (3100 : Int32) ≤ l2) => ?_)
    · skip
      have g5 := i_le h4
      try have gw := GW_room r_GW
      try have alb := AL_b r_AL r_AV
      try have ah7 := r_AL.2.2.2.1
      try have alo := AL_b r_ALo r_AV
      try have h61i := congrArg Int32.toInt r_H61
      have li7 : (0 : Int32).toInt = 0 := rfl
      have hV6 : zV (ma_u m 94 75 (0 : Int32)) := us_94_75 hV (by omega) (by omega)
      have hV8 : zV (ma_u (ma_u m 94 75 (0 : Int32)) 94 76 (0 : Int32)) := us_94_76 hV6 (by omega) (by omega)
      have li10 : (1 : Int32).toInt = 1 := rfl
      have f11 : 0 ≤ (m 94 61).toInt ∧ (m 94 61).toInt ≤ 1 := rs_94_61 (m := m) hV
      first | have e12 : ((1 : Int32) - (m 94 61)).toInt = (1 : Int32).toInt - (m 94 61).toInt := i_sub (by omega) (by omega) | have b13 := i_bd ((1 : Int32) - (m 94 61))
      have hV9 : zV (ma_u (ma_u (ma_u m 94 75 (0 : Int32)) 94 76 (0 : Int32)) 94 61 ((1 : Int32) - (m 94 61))) := us_94_61 hV8 (by omega) (by omega)
      have f15 : 0 ≤ (m 94 14).toInt ∧ (m 94 14).toInt ≤ 1500 := rs_94_14 (m := m) hV
      have f16 : 0 ≤ (m 94 13).toInt ∧ (m 94 13).toInt ≤ 1500 := rs_94_13 (m := m) hV
      first | have f17 := i_mul01 (x := ((1 : Int32) - (m 94 61))) (y := (m 94 13)) (by omega) (by omega) (by omega) (by omega) | have b18 := i_bd (((1 : Int32) - (m 94 61)) * (m 94 13))
      first | have e19 : ((m 94 14) + (((1 : Int32) - (m 94 61)) * (m 94 13))).toInt = (m 94 14).toInt + (((1 : Int32) - (m 94 61)) * (m 94 13)).toInt := i_add (by omega) (by omega) | have b20 := i_bd ((m 94 14) + (((1 : Int32) - (m 94 61)) * (m 94 13)))
      have hV14 : zV (ma_u (ma_u (ma_u (ma_u m 94 75 (0 : Int32)) 94 76 (0 : Int32)) 94 61 ((1 : Int32) - (m 94 61))) 94 77 ((m 94 14) + (((1 : Int32) - (m 94 61)) * (m 94 13)))) := us_94_77 hV9 (by omega) (by omega)
      have b21 := i_bd l1
      have f22 : 0 ≤ (m 94 60).toInt ∧ (m 94 60).toInt ≤ 1600 := rs_94_60 (m := m) hV
      have f23 : 0 ≤ (m0 94 61).toInt ∧ (m0 94 61).toInt ≤ 1 := rs_94_61 (m := m0) h0
      exact lp_214ry_121 h0 K _ _ (l1) ((m 94 60)) ((0 : Int32)) rfl (zF_u (zF_u (zF_u (zF_u hF rfl) rfl) rfl) rfl) hV14 (by omega) (by omega) r_W r_GW r_GU r_OW (show (m 94 10).toInt = 3 from by omega) r_AV (show qAL (gM0 aa) (m 94 13) (m 94 14) (m 94 15) (m 94 16) ((gM0 aa) 87 4) ((gM0 aa) 87 10) (m0 94 61) from by first | (exact AL_tp r_AL r_H61) | (exfalso; omega; done) | (exfalso; contradiction; done)) r_DT r_AX3 r_NF (show (m 94 60).toInt = ((gM0 aa) 87 10).toInt from by first | (exact (congrArg Int32.toInt r_AL.2.2.1).symm) | (exfalso; omega; done) | (exfalso; contradiction; done)) r_WTS (show ((1 : Int32) - (m 94 61)).toInt = 1 - (m0 94 61).toInt from by omega) (show qZR (m 99) (m 100) (m 98) (m 101) (m 102) (m 107) (m 108) (m 109) (m 112) (m 113) (m 114) (m 94 55) (m 94 46) ro 0 0 0 1 (m 110) (m 119) (0 : Int32) (0 : Int32) (m 103) (m 111) (m 104) ((m 94 14) + (((1 : Int32) - (m 94 61)) * (m 94 13))) (m 94 60) (2 * ((gM0 aa) 87 9).toInt + ((gM0 aa) 87 5).toInt - ((gM0 aa) 87 3).toInt) ((gM0 aa) 87 10).toInt (0 : Int32) (aRo (aWh (gM0 aa) ((gM0 aa) 87 9)) 0) from by first | (exact ⟨_, _, _, YR_0 (YB_wh r_RB r_AV r_NF r_AGq (fun s hs => by rw [r_AL.1.2.1]; exact r_KOl s (by omega)) (by omega) (by omega) (AL_to r_AL r_AV ⟨fun _ => by omega, fun _ => by omega⟩) r_AL.2.2.1.symm) (by omega)⟩) | (exfalso; omega; done) | (exfalso; contradiction; done))
    · skip
      have g24 := i_nle h4
      have hg25 : (0 ≤ l2 ∧ l2.toNatClampNeg < 3100) := i_ix (by omega) (by omega)
      refine ⟨hg25, ?_⟩
      first | have f26 : 0 ≤ (m 99 l2.toNatClampNeg).toInt ∧ (m 99 l2.toNatClampNeg).toInt ≤ 1 := ra_99 (m := m) hV (k := l2.toNatClampNeg) (i_ix (n := 3100) (by omega) (by omega)).2 | have b27 := i_bd (m 99 l2.toNatClampNeg)
      have li28 : (0 : Int32).toInt = 0 := rfl
      refine zd (fun (h29 : (m 99 l2.toNatClampNeg) = (0 : Int32)) => ?_) (fun (h29 : ¬ (m 99 l2.toNatClampNeg) = (0 : Int32)) => ?_)
      · skip
        have g30 := i_eq h29
        have hg31 : (0 ≤ l2 ∧ l2.toNatClampNeg < 3100) := i_ix (by omega) (by omega)
        refine ⟨hg31, ?_⟩
        try have gw := GW_room r_GW
        try have alb := AL_b r_AL r_AV
        try have ah7 := r_AL.2.2.2.1
        try have alo := AL_b r_ALo r_AV
        try have h61i := congrArg Int32.toInt r_H61
        have hV32 : zV (ma_u m 110 l2.toNatClampNeg (0 : Int32)) := ua_110 hV (by omega) (by omega)
        have b33 := i_bd l1
        first | have e34 : (l2 + (1 : Int32)).toInt = l2.toInt + (1) := i_addk rfl (by omega) (by omega) | have b35 := i_bd (l2 + (1 : Int32))
        exact IH (3100 - (l2 + (1 : Int32)).toInt).toNat (by omega) _ (l1) ((l2 + (1 : Int32))) rfl (zF_u hF rfl) hV32 (by omega) (by omega) (by omega) r_W r_GW r_GU r_OW (show (m 94 10).toInt = 3 from by omega) r_RB r_AV r_AL r_AGq r_DT r_AX3 r_NF r_H61 r_WTS (show ∀ s : Nat, (s : Int) < (l2 + (1 : Int32)).toInt → (((ma_u m 110 l2.toNatClampNeg (0 : Int32)) 110) s ≠ 0 ↔ (m 99) s ≠ 0 ∧ ((m 103) s).toInt < (m 94 14).toInt) from by first | (exact KO_step r_KOl (by omega) (by omega) ⟨fun _ => ⟨by assumption, by omega⟩, fun _ => by decide⟩) | (exact KO_step r_KOl (by omega) (by omega) ⟨fun z => absurd rfl z, fun z => absurd (by assumption) z.1⟩) | (exact KO_step r_KOl (by omega) (by omega) ⟨fun z => absurd rfl z, fun z => absurd z.2 (by omega)⟩) | (exfalso; omega; done) | (exfalso; contradiction; done))
      · skip
        have g36 := i_ne h29
        have hg37 : (0 ≤ l2 ∧ l2.toNatClampNeg < 3100) := i_ix (by omega) (by omega)
        refine ⟨hg37, ?_⟩
        have f38 : 0 ≤ (m 94 14).toInt ∧ (m 94 14).toInt ≤ 1500 := rs_94_14 (m := m) hV
        first | have f39 : 0 ≤ (m 103 l2.toNatClampNeg).toInt ∧ (m 103 l2.toNatClampNeg).toInt ≤ 4599 := ra_103 (m := m) hV (k := l2.toNatClampNeg) (i_ix (n := 3100) (by omega) (by omega)).2 | have b40 := i_bd (m 103 l2.toNatClampNeg)
        refine zd (fun (h41 : (m 94 14) ≤ (m 103 l2.toNatClampNeg)) => ?_) (fun (h41 : ¬ (m 94 14) ≤ (m 103 l2.toNatClampNeg)) => ?_)
        · skip
          have g42 := i_le h41
          have hg43 : (0 ≤ l2 ∧ l2.toNatClampNeg < 3100) := i_ix (by omega) (by omega)
          refine ⟨hg43, ?_⟩
          try have gw := GW_room r_GW
          try have alb := AL_b r_AL r_AV
          try have ah7 := r_AL.2.2.2.1
          try have alo := AL_b r_ALo r_AV
          try have h61i := congrArg Int32.toInt r_H61
          have hV44 : zV (ma_u m 110 l2.toNatClampNeg (0 : Int32)) := ua_110 hV (by omega) (by omega)
          have b45 := i_bd l1
          first | have e46 : (l2 + (1 : Int32)).toInt = l2.toInt + (1) := i_addk rfl (by omega) (by omega) | have b47 := i_bd (l2 + (1 : Int32))
          exact IH (3100 - (l2 + (1 : Int32)).toInt).toNat (by omega) _ (l1) ((l2 + (1 : Int32))) rfl (zF_u hF rfl) hV44 (by omega) (by omega) (by omega) r_W r_GW r_GU r_OW (show (m 94 10).toInt = 3 from by omega) r_RB r_AV r_AL r_AGq r_DT r_AX3 r_NF r_H61 r_WTS (show ∀ s : Nat, (s : Int) < (l2 + (1 : Int32)).toInt → (((ma_u m 110 l2.toNatClampNeg (0 : Int32)) 110) s ≠ 0 ↔ (m 99) s ≠ 0 ∧ ((m 103) s).toInt < (m 94 14).toInt) from by first | (exact KO_step r_KOl (by omega) (by omega) ⟨fun _ => ⟨by assumption, by omega⟩, fun _ => by decide⟩) | (exact KO_step r_KOl (by omega) (by omega) ⟨fun z => absurd rfl z, fun z => absurd (by assumption) z.1⟩) | (exact KO_step r_KOl (by omega) (by omega) ⟨fun z => absurd rfl z, fun z => absurd z.2 (by omega)⟩) | (exfalso; omega; done) | (exfalso; contradiction; done))
        · skip
          have g48 := i_nle h41
          have hg49 : (0 ≤ l2 ∧ l2.toNatClampNeg < 3100) := i_ix (by omega) (by omega)
          refine ⟨hg49, ?_⟩
          try have gw := GW_room r_GW
          try have alb := AL_b r_AL r_AV
          try have ah7 := r_AL.2.2.2.1
          try have alo := AL_b r_ALo r_AV
          try have h61i := congrArg Int32.toInt r_H61
          have li51 : (1 : Int32).toInt = 1 := rfl
          have hV50 : zV (ma_u m 110 l2.toNatClampNeg (1 : Int32)) := ua_110 hV (by omega) (by omega)
          have b52 := i_bd l1
          first | have e53 : (l2 + (1 : Int32)).toInt = l2.toInt + (1) := i_addk rfl (by omega) (by omega) | have b54 := i_bd (l2 + (1 : Int32))
          exact IH (3100 - (l2 + (1 : Int32)).toInt).toNat (by omega) _ (l1) ((l2 + (1 : Int32))) rfl (zF_u hF rfl) hV50 (by omega) (by omega) (by omega) r_W r_GW r_GU r_OW (show (m 94 10).toInt = 3 from by omega) r_RB r_AV r_AL r_AGq r_DT r_AX3 r_NF r_H61 r_WTS (show ∀ s : Nat, (s : Int) < (l2 + (1 : Int32)).toInt → (((ma_u m 110 l2.toNatClampNeg (1 : Int32)) 110) s ≠ 0 ↔ (m 99) s ≠ 0 ∧ ((m 103) s).toInt < (m 94 14).toInt) from by first | (exact KO_step r_KOl (by omega) (by omega) ⟨fun _ => ⟨by assumption, by omega⟩, fun _ => by decide⟩) | (exact KO_step r_KOl (by omega) (by omega) ⟨fun z => absurd rfl z, fun z => absurd (by assumption) z.1⟩) | (exact KO_step r_KOl (by omega) (by omega) ⟨fun z => absurd rfl z, fun z => absurd z.2 (by omega)⟩) | (exfalso; omega; done) | (exfalso; contradiction; done))
set_option maxHeartbeats 8000000 in
theorem sp_214ry {X : Nat × (Nat → Int32)} {P : Option ma_V → (Nat → Nat → Int32) → Prop} {T : Nat} {aa : Nat→Nat→Int32} {ro : Int32} {m : Nat → Nat → Int32}  (hV : zV m) (hpre0 : T ≤ 512) (r_W : zW (m 94 7) (m 98) (m 101) (m 102) (m 108)) (r_GW : zGW T (m 94 55) (m 109)) (r_GU : zGU T (m 94 46) (m 99)) (r_OW : zOw (m 99) (m 103) (m 111)) (hpre5 : (m 94 10).toInt = 3) (r_RB : qRB (m 99) (m 100) (m 98) (m 101) (m 102) (m 103) (m 107) (m 108) (m 109) (m 111) (m 112) (m 113) (m 114) (m 94 55) (m 94 46) ro 0 0 0 1 aa) (r_AV : qAv aa) (r_AL : qAL aa (m 94 13) (m 94 14) (m 94 15) (m 94 16) (m 94 59) (m 94 60) (m 94 61)) (r_AGq : qAg (m 99) (m 100) (m 104) aa) (r_DT : qDt (m 117) aa) (r_WTS : (m 94 45).toInt = sm (zbU (m 99)) (m 102) 3100) (KZ : ∀ v m₉, zV (zov wr_214 m m₉) → (zGW T (m₉ 94 55) (m₉ 109)) → (zGU T (m 94 46) (m₉ 99)) → (zOw (m₉ 99) (m₉ 103) (m₉ 111)) → (qRB (m₉ 99) (m 100) (m 98) (m 101) (m 102) (m₉ 103) (m 107) (m 108) (m₉ 109) (m₉ 111) (m 112) (m₉ 113) (m₉ 114) (m₉ 94 55) (m 94 46) ro 0 0 0 1 (gMi aa)) → (qAv (gMi aa)) → (qAL (gMi aa) (m 94 13) (m 94 14) (m 94 15) (m 94 16) (m₉ 94 59) (m₉ 94 60) (m₉ 94 61)) → (qAg (m₉ 99) (m 100) (m₉ 104) (gMi aa)) → (qDt (m₉ 117) (gMi aa)) → ((m₉ 94 45).toInt = sm (zbU (m₉ 99)) (m 102) 3100) → P (some (.inl v)) (zov wr_214 m m₉)) : zm X 6 129 214 0 [(0, .inr (.inr (some 94)))] m P := by
  have K : ∀ v m₉, zF wr_214 m m₉ → zV m₉ → (zGW T (m₉ 94 55) (m₉ 109)) → (zGU T (m₉ 94 46) (m₉ 99)) → (zOw (m₉ 99) (m₉ 103) (m₉ 111)) → (qRB (m₉ 99) (m₉ 100) (m₉ 98) (m₉ 101) (m₉ 102) (m₉ 103) (m₉ 107) (m₉ 108) (m₉ 109) (m₉ 111) (m₉ 112) (m₉ 113) (m₉ 114) (m₉ 94 55) (m₉ 94 46) ro 0 0 0 1 (gMi aa)) → (qAv (gMi aa)) → (qAL (gMi aa) (m₉ 94 13) (m₉ 94 14) (m₉ 94 15) (m₉ 94 16) (m₉ 94 59) (m₉ 94 60) (m₉ 94 61)) → (qAg (m₉ 99) (m₉ 100) (m₉ 104) (gMi aa)) → (qDt (m₉ 117) (gMi aa)) → ((m₉ 94 45).toInt = sm (zbU (m₉ 99)) (m₉ 102) 3100) → P (some (.inl v)) m₉ := by
    intro v m₉ hf z q0 q1 q2 q3 q4 q5 q6 q7 q8
    have e := zov_eq hf
    rw [e] at z ⊢
    try rw [e] at q0
    try rw [e] at q1
    try rw [e] at q2
    try rw [e] at q3
    try rw [e] at q4
    try rw [e] at q5
    try rw [e] at q6
    try rw [e] at q7
    try rw [e] at q8
    exact KZ v m₉ z q0 q1 q2 q3 q4 q5 q6 q7 q8
  refine g_214_0  ?_
  have f1 : 0 ≤ (m 94 10).toInt ∧ (m 94 10).toInt ≤ 6 := rs_94_10 (m := m) hV
  try have alb := AL_b r_AL r_AV
  try have ah7 := r_AL.2.2.2.1
  try have gw := GW_room r_GW
  try have alo := AL_b r_ALo r_AV
  try have end2 := r_ENd
  refine sp_215ry (aa := aa)  hV r_RB r_AV r_AL r_AGq (fun v2 m1 hV_m1 hb_m1 p0_m1 => zmi_n ?_)
  have p0_m1 : (v2.toInt = 1 ∧ gFu aa) ∨ (v2.toInt = 0 ∧ ¬ gFu aa) := p0_m1
  have f2 := i_01 hb_m1
  have li3 : (0 : Int32).toInt = 0 := rfl
  refine zd (fun (h4 : v2 = (0 : Int32)) => ?_) (fun (h4 : ¬ v2 = (0 : Int32)) => ?_)
  · skip
    have g5 := i_eq h4
    try have alb := AL_b r_AL r_AV
    try have ah7 := r_AL.2.2.2.1
    try have gw := GW_room r_GW
    try have alo := AL_b r_ALo r_AV
    try have end2 := r_ENd
    refine sp_215ry (aa := aa)  hV_m1 r_RB r_AV r_AL r_AGq (fun v4 m3 hV_m3 hb_m3 p0_m3 => zmi_n ?_)
    have p0_m3 : (v4.toInt = 1 ∧ gFu aa) ∨ (v4.toInt = 0 ∧ ¬ gFu aa) := p0_m3
    have f6 := i_01 hb_m3
    refine zd (fun (h7 : v4 = (0 : Int32)) => ?_) (fun (h7 : ¬ v4 = (0 : Int32)) => ?_)
    · skip
      have g8 := i_eq h7
      try have gw := GW_room r_GW
      try have alb := AL_b r_AL r_AV
      try have ah7 := r_AL.2.2.2.1
      try have alo := AL_b r_ALo r_AV
      try have h61i := congrArg Int32.toInt r_H61
      have hV9 : zV (ma_u (zov wr_215 (zov wr_215 m m1) m3) 94 47 ((m 94 47) + (1 : Int32))) := uf_94_47 hV_m3
      exact lp_214ry_35 hV K _ _ ((0 : Int32)) ((0 : Int32)) rfl (zF_u (zF_zov (zF_zov zF_rfl ws_215_214) ws_215_214) rfl) hV9 (by omega) (by omega) (by omega) r_W r_GW r_GU r_OW (show (m 94 10).toInt = 3 from by omega) (show qRB (m 99) (m 100) (m 98) (m 101) (m 102) (m 103) (m 107) (m 108) (m 109) (m 111) (m 112) (m 113) (m 114) (m 94 55) (m 94 46) ro 0 0 0 1 (gM0 aa) from by first | (rw [(M0_n (a := aa) (p0_m1.elim (fun z => absurd z.1 (by omega)) (fun z => z.2))).1]; exact r_RB; done) | (exfalso; omega; done) | (exfalso; contradiction; done)) (show qAv (gM0 aa) from by first | (rw [(M0_n (a := aa) (p0_m1.elim (fun z => absurd z.1 (by omega)) (fun z => z.2))).1]; exact r_AV; done) | (exact r_AV) | (exfalso; omega; done) | (exfalso; contradiction; done)) (show qAL (gM0 aa) (m 94 13) (m 94 14) (m 94 15) (m 94 16) (m 94 59) (m 94 60) (m 94 61) from by first | (rw [(M0_n (a := aa) (p0_m1.elim (fun z => absurd z.1 (by omega)) (fun z => z.2))).1]; exact r_AL; done) | (exact r_AL) | (exfalso; omega; done) | (exfalso; contradiction; done)) (show qAg (m 99) (m 100) (m 104) (gM0 aa) from by first | (rw [(M0_n (a := aa) (p0_m1.elim (fun z => absurd z.1 (by omega)) (fun z => z.2))).1]; exact r_AGq; done) | (exact r_AGq) | (exfalso; omega; done) | (exfalso; contradiction; done)) (show qDt (m 117) (gM0 aa) from by first | (rw [(M0_n (a := aa) (p0_m1.elim (fun z => absurd z.1 (by omega)) (fun z => z.2))).1]; exact r_DT; done) | (exact r_DT) | (exfalso; omega; done) | (exfalso; contradiction; done)) (show qAX (gM0 aa) (m 94 13) (m 94 14) (m 94 15) (m 94 16) from by first | (rw [(M0_n (a := aa) (p0_m1.elim (fun z => absurd z.1 (by omega)) (fun z => z.2))).1]; exact r_AL.1; done) | (exfalso; omega; done) | (exfalso; contradiction; done)) (show ¬ gFu (gM0 aa) from by first | (rw [(M0_n (a := aa) (p0_m1.elim (fun z => absurd z.1 (by omega)) (fun z => z.2))).1]; exact (p0_m3.elim (fun z => absurd z.1 (by omega)) (fun z => z.2)); done) | (exfalso; omega; done) | (exfalso; contradiction; done)) (show (m 94 61) = (m 94 61) from by first | (exact rfl) | (exfalso; omega; done) | (exfalso; contradiction; done)) r_WTS (show ∀ s : Nat, (s : Int) < (0 : Int32).toInt → ((m 110) s ≠ 0 ↔ (m 99) s ≠ 0 ∧ ((m 103) s).toInt < (m 94 14).toInt) from by first | (intro s hs; omega; done) | (exfalso; omega; done) | (exfalso; contradiction; done))
    · skip
      have g10 := i_ne h7
      try have gw := GW_room r_GW
      try have alb := AL_b r_AL r_AV
      try have ah7 := r_AL.2.2.2.1
      try have alo := AL_b r_ALo r_AV
      try have h61i := congrArg Int32.toInt r_H61
      exact K ((0 : Int32)) _ (zF_zov (zF_zov zF_rfl ws_215_214) ws_215_214) hV_m3 r_GW r_GU r_OW (show qRB (m 99) (m 100) (m 98) (m 101) (m 102) (m 103) (m 107) (m 108) (m 109) (m 111) (m 112) (m 113) (m 114) (m 94 55) (m 94 46) ro 0 0 0 1 (gMi aa) from by first | (rw [(Mi_y (a := aa) (by rw [(M0_n (a := aa) (p0_m1.elim (fun z => absurd z.1 (by omega)) (fun z => z.2))).1]; exact (p0_m3.elim (fun z => z.2) (fun z => absurd z.1 (by omega))))).1, (M0_n (a := aa) (p0_m1.elim (fun z => absurd z.1 (by omega)) (fun z => z.2))).1]; exact r_RB; done) | (exfalso; omega; done) | (exfalso; contradiction; done)) (show qAv (gMi aa) from by first | (rw [(Mi_y (a := aa) (by rw [(M0_n (a := aa) (p0_m1.elim (fun z => absurd z.1 (by omega)) (fun z => z.2))).1]; exact (p0_m3.elim (fun z => z.2) (fun z => absurd z.1 (by omega))))).1, (M0_n (a := aa) (p0_m1.elim (fun z => absurd z.1 (by omega)) (fun z => z.2))).1]; exact r_AV; done) | (exact r_AV) | (exfalso; omega; done) | (exfalso; contradiction; done)) (show qAL (gMi aa) (m 94 13) (m 94 14) (m 94 15) (m 94 16) (m 94 59) (m 94 60) (m 94 61) from by first | (rw [(Mi_y (a := aa) (by rw [(M0_n (a := aa) (p0_m1.elim (fun z => absurd z.1 (by omega)) (fun z => z.2))).1]; exact (p0_m3.elim (fun z => z.2) (fun z => absurd z.1 (by omega))))).1, (M0_n (a := aa) (p0_m1.elim (fun z => absurd z.1 (by omega)) (fun z => z.2))).1]; exact r_AL; done) | (exact r_AL) | (exfalso; omega; done) | (exfalso; contradiction; done)) (show qAg (m 99) (m 100) (m 104) (gMi aa) from by first | (rw [(Mi_y (a := aa) (by rw [(M0_n (a := aa) (p0_m1.elim (fun z => absurd z.1 (by omega)) (fun z => z.2))).1]; exact (p0_m3.elim (fun z => z.2) (fun z => absurd z.1 (by omega))))).1, (M0_n (a := aa) (p0_m1.elim (fun z => absurd z.1 (by omega)) (fun z => z.2))).1]; exact r_AGq; done) | (exact r_AGq) | (exfalso; omega; done) | (exfalso; contradiction; done)) (show qDt (m 117) (gMi aa) from by first | (rw [(Mi_y (a := aa) (by rw [(M0_n (a := aa) (p0_m1.elim (fun z => absurd z.1 (by omega)) (fun z => z.2))).1]; exact (p0_m3.elim (fun z => z.2) (fun z => absurd z.1 (by omega))))).1, (M0_n (a := aa) (p0_m1.elim (fun z => absurd z.1 (by omega)) (fun z => z.2))).1]; exact r_DT; done) | (exact r_DT) | (exfalso; omega; done) | (exfalso; contradiction; done)) r_WTS
  · skip
    have g11 := i_ne h4
    try have alb := AL_b r_AL r_AV
    try have ah7 := r_AL.2.2.2.1
    try have gw := GW_room r_GW
    try have alo := AL_b r_ALo r_AV
    try have end2 := r_ENd
    refine sp_211ry (aa := aa)  hV_m1 (by omega) r_W r_GW r_GU r_OW (show (m 94 10).toInt = 3 from by omega) r_RB r_AV r_AL r_AGq r_WTS (fun v6 m5 hV_m5 p0_m5 p1_m5 p2_m5 p3_m5 p4_m5 p5_m5 p6_m5 p7_m5 p8_m5 => zmi_n ?_)
    have p0_m5 : zGW T (m5 94 55) (m5 109) := p0_m5
    have p1_m5 : zGU T (m 94 46) (m5 99) := p1_m5
    have p2_m5 : zOw (m5 99) (m5 103) (m5 111) := p2_m5
    have p3_m5 : qRB (m5 99) (m 100) (m 98) (m 101) (m 102) (m5 103) (m 107) (m 108) (m5 109) (m5 111) (m 112) (m5 113) (m5 114) (m5 94 55) (m 94 46) ro 0 0 0 1 (gMa aa) := p3_m5
    have p4_m5 : qAv (gMa aa) := p4_m5
    have p5_m5 : qAL (gMa aa) (m 94 13) (m 94 14) (m 94 15) (m 94 16) (m 94 59) (m5 94 60) (m 94 61) := p5_m5
    have p6_m5 : qAg (m5 99) (m 100) (m 104) (gMa aa) := p6_m5
    have p7_m5 : qDt (m5 117) (gMa aa) := p7_m5
    have p8_m5 : (m5 94 45).toInt = sm (zbU (m5 99)) (m 102) 3100 := p8_m5
    try have alb := AL_b r_AL r_AV
    try have ah7 := r_AL.2.2.2.1
    try have gw := GW_room p0_m5
    try have alo := AL_b r_ALo r_AV
    try have end2 := r_ENd
    refine sp_215ry (aa := (gMa aa))  hV_m5 p3_m5 p4_m5 p5_m5 p6_m5 (fun v8 m7 hV_m7 hb_m7 p0_m7 => zmi_n ?_)
    have p0_m7 : (v8.toInt = 1 ∧ gFu (gMa aa)) ∨ (v8.toInt = 0 ∧ ¬ gFu (gMa aa)) := p0_m7
    have f12 := i_01 hb_m7
    refine zd (fun (h13 : v8 = (0 : Int32)) => ?_) (fun (h13 : ¬ v8 = (0 : Int32)) => ?_)
    · skip
      have g14 := i_eq h13
      try have gw := GW_room p0_m5
      try have alb := AL_b r_AL r_AV
      try have ah7 := r_AL.2.2.2.1
      try have alo := AL_b r_ALo r_AV
      try have h61i := congrArg Int32.toInt r_H61
      have hV15 : zV (ma_u (zov wr_215 (zov wr_211 (zov wr_215 m m1) m5) m7) 94 47 ((m5 94 47) + (1 : Int32))) := uf_94_47 hV_m7
      have b16 := i_bd v6
      exact lp_214ry_35 hV K _ _ (v6) ((0 : Int32)) rfl (zF_u (zF_zov (zF_zov (zF_zov zF_rfl ws_215_214) ws_211_214) ws_215_214) rfl) hV15 (by omega) (by omega) (by omega) r_W p0_m5 p1_m5 p2_m5 (show (m 94 10).toInt = 3 from by omega) (show qRB (m5 99) (m 100) (m 98) (m 101) (m 102) (m5 103) (m 107) (m 108) (m5 109) (m5 111) (m 112) (m5 113) (m5 114) (m5 94 55) (m 94 46) ro 0 0 0 1 (gM0 aa) from by first | (rw [(M0_y (a := aa) (p0_m1.elim (fun z => z.2) (fun z => absurd z.1 (by omega)))).1]; exact p3_m5; done) | (exfalso; omega; done) | (exfalso; contradiction; done)) (show qAv (gM0 aa) from by first | (rw [(M0_y (a := aa) (p0_m1.elim (fun z => z.2) (fun z => absurd z.1 (by omega)))).1]; exact p4_m5; done) | (exact p4_m5) | (exfalso; omega; done) | (exfalso; contradiction; done)) (show qAL (gM0 aa) (m 94 13) (m 94 14) (m 94 15) (m 94 16) (m 94 59) (m5 94 60) (m 94 61) from by first | (rw [(M0_y (a := aa) (p0_m1.elim (fun z => z.2) (fun z => absurd z.1 (by omega)))).1]; exact p5_m5; done) | (exact p5_m5) | (exfalso; omega; done) | (exfalso; contradiction; done)) (show qAg (m5 99) (m 100) (m 104) (gM0 aa) from by first | (rw [(M0_y (a := aa) (p0_m1.elim (fun z => z.2) (fun z => absurd z.1 (by omega)))).1]; exact p6_m5; done) | (exact p6_m5) | (exfalso; omega; done) | (exfalso; contradiction; done)) (show qDt (m5 117) (gM0 aa) from by first | (rw [(M0_y (a := aa) (p0_m1.elim (fun z => z.2) (fun z => absurd z.1 (by omega)))).1]; exact p7_m5; done) | (exact p7_m5) | (exfalso; omega; done) | (exfalso; contradiction; done)) (show qAX (gM0 aa) (m 94 13) (m 94 14) (m 94 15) (m 94 16) from by first | (rw [(M0_y (a := aa) (p0_m1.elim (fun z => z.2) (fun z => absurd z.1 (by omega)))).1]; exact p5_m5.1; done) | (exfalso; omega; done) | (exfalso; contradiction; done)) (show ¬ gFu (gM0 aa) from by first | (rw [(M0_y (a := aa) (p0_m1.elim (fun z => z.2) (fun z => absurd z.1 (by omega)))).1]; exact (p0_m7.elim (fun z => absurd z.1 (by omega)) (fun z => z.2)); done) | (exfalso; omega; done) | (exfalso; contradiction; done)) (show (m 94 61) = (m 94 61) from by first | (exact rfl) | (exfalso; omega; done) | (exfalso; contradiction; done)) p8_m5 (show ∀ s : Nat, (s : Int) < (0 : Int32).toInt → ((m5 110) s ≠ 0 ↔ (m5 99) s ≠ 0 ∧ ((m5 103) s).toInt < (m 94 14).toInt) from by first | (intro s hs; omega; done) | (exfalso; omega; done) | (exfalso; contradiction; done))
    · skip
      have g17 := i_ne h13
      try have gw := GW_room p0_m5
      try have alb := AL_b r_AL r_AV
      try have ah7 := r_AL.2.2.2.1
      try have alo := AL_b r_ALo r_AV
      try have h61i := congrArg Int32.toInt r_H61
      have b18 := i_bd v6
      exact K (v6) _ (zF_zov (zF_zov (zF_zov zF_rfl ws_215_214) ws_211_214) ws_215_214) hV_m7 p0_m5 p1_m5 p2_m5 (show qRB (m5 99) (m 100) (m 98) (m 101) (m 102) (m5 103) (m 107) (m 108) (m5 109) (m5 111) (m 112) (m5 113) (m5 114) (m5 94 55) (m 94 46) ro 0 0 0 1 (gMi aa) from by first | (rw [(Mi_y (a := aa) (by rw [(M0_y (a := aa) (p0_m1.elim (fun z => z.2) (fun z => absurd z.1 (by omega)))).1]; exact (p0_m7.elim (fun z => z.2) (fun z => absurd z.1 (by omega))))).1, (M0_y (a := aa) (p0_m1.elim (fun z => z.2) (fun z => absurd z.1 (by omega)))).1]; exact p3_m5; done) | (exfalso; omega; done) | (exfalso; contradiction; done)) (show qAv (gMi aa) from by first | (rw [(Mi_y (a := aa) (by rw [(M0_y (a := aa) (p0_m1.elim (fun z => z.2) (fun z => absurd z.1 (by omega)))).1]; exact (p0_m7.elim (fun z => z.2) (fun z => absurd z.1 (by omega))))).1, (M0_y (a := aa) (p0_m1.elim (fun z => z.2) (fun z => absurd z.1 (by omega)))).1]; exact p4_m5; done) | (exact p4_m5) | (exfalso; omega; done) | (exfalso; contradiction; done)) (show qAL (gMi aa) (m 94 13) (m 94 14) (m 94 15) (m 94 16) (m 94 59) (m5 94 60) (m 94 61) from by first | (rw [(Mi_y (a := aa) (by rw [(M0_y (a := aa) (p0_m1.elim (fun z => z.2) (fun z => absurd z.1 (by omega)))).1]; exact (p0_m7.elim (fun z => z.2) (fun z => absurd z.1 (by omega))))).1, (M0_y (a := aa) (p0_m1.elim (fun z => z.2) (fun z => absurd z.1 (by omega)))).1]; exact p5_m5; done) | (exact p5_m5) | (exfalso; omega; done) | (exfalso; contradiction; done)) (show qAg (m5 99) (m 100) (m 104) (gMi aa) from by first | (rw [(Mi_y (a := aa) (by rw [(M0_y (a := aa) (p0_m1.elim (fun z => z.2) (fun z => absurd z.1 (by omega)))).1]; exact (p0_m7.elim (fun z => z.2) (fun z => absurd z.1 (by omega))))).1, (M0_y (a := aa) (p0_m1.elim (fun z => z.2) (fun z => absurd z.1 (by omega)))).1]; exact p6_m5; done) | (exact p6_m5) | (exfalso; omega; done) | (exfalso; contradiction; done)) (show qDt (m5 117) (gMi aa) from by first | (rw [(Mi_y (a := aa) (by rw [(M0_y (a := aa) (p0_m1.elim (fun z => z.2) (fun z => absurd z.1 (by omega)))).1]; exact (p0_m7.elim (fun z => z.2) (fun z => absurd z.1 (by omega))))).1, (M0_y (a := aa) (p0_m1.elim (fun z => z.2) (fun z => absurd z.1 (by omega)))).1]; exact p7_m5; done) | (exact p7_m5) | (exfalso; omega; done) | (exfalso; contradiction; done)) p8_m5

/-! from 95.v09 -/
/-! AGES, the reference (written by wip/tools/gen15v.py) -/
/-! AGES: a new one in the reference -/
def yFt (a : Nat → Nat → Int32) (z v : Int32) : Nat → Nat → Int32 := if v.toInt < 0 then gRs a z.toInt else if (gRs a z.toInt 87 9).toInt ≤ v.toInt then ma_u (gRs a z.toInt) 87 4 (v + z) else ma_u (gRs a z.toInt) 87 10 (v + z)
section F37
variable {a b c d aa : Nat → Nat → Int32} {us nr kr kd ws at₉ ho wd wi ow rt wk wl gs dt : Nat → Int32} {wm nu ro fo le ra pi : Int32} {x y v z w pl kk i yo ol ag cd tp ot hf : Int32} {n k N : Nat} {L : Int64} {F G : Nat → Int}
theorem yFt_n (h : v.toInt < 0) : yFt a z v = gRs a z.toInt := if_pos h
theorem yFt_y (h : 0 ≤ v.toInt) (hy : (gRs a z.toInt 87 9).toInt ≤ v.toInt) : yFt a z v = ma_u (gRs a z.toInt) 87 4 (v + z) := (if_neg (by omega)).trans (if_pos hy)
theorem yFt_o (h : 0 ≤ v.toInt) (hy : v.toInt < (gRs a z.toInt 87 9).toInt) : yFt a z v = ma_u (gRs a z.toInt) 87 10 (v + z) := (if_neg (by omega)).trans (if_neg (by omega))
theorem gM0_7 (h10 : k ≠ 10) : gM0 a 87 k = a 87 k := by
  unfold gM0
  split
  · exact Ma_87 h10
  · rfl
theorem gMi_7 (h3 : k ≠ 3) (h4 : k ≠ 4) (h10 : k ≠ 10) : gMi a 87 k = a 87 k := by
  unfold gMi
  split
  · exact gM0_7 h10
  · have e : gMv (gM0 a) 87 k = gMf (gMk1 (gM0 a) 75 4).toInt.toNat 0 (gMk1 (gM0 a)) 87 k := by
      show gFd _ 87 k = _
      rw [Fd_r (by decide)]
    rw [e, G_87 h3 h4 h10]
    exact gM0_7 h10
theorem gRs_7 {t : Int} (h3 : k ≠ 3) (h4 : k ≠ 4) (h10 : k ≠ 10) : gRs a t 87 k = a 87 k := by
  unfold gRs
  split
  · unfold gRo
    split
    · exact Ma_87 h10
    · rfl
  · have e1 : gR1 a t 87 k = a 87 k := by
      unfold gR1
      split
      · rfl
      · exact gMi_7 h3 h4 h10
    unfold gR2
    split
    · exact e1
    · rw [gMi_7 h3 h4 h10, Ma_87 h10]
      exact e1
theorem Yf_7 (h3 : k ≠ 3) (h4 : k ≠ 4) (h10 : k ≠ 10) : yFt a z v 87 k = a 87 k := by
  unfold yFt
  split
  · exact gRs_7 h3 h4 h10
  · split
    · rw [xu_o (fun w => h4 w.2)]
      exact gRs_7 h3 h4 h10
    · rw [xu_o (fun w => h10 w.2)]
      exact gRs_7 h3 h4 h10
theorem Yf_r (h : n ≠ 87) : yFt a z v n = gRs a z.toInt n := by
  unfold yFt
  split
  · rfl
  · split
    · exact ma_u_ne _ _ _ h
    · exact ma_u_ne _ _ _ h
/-- where there is room -/
theorem Yp_v (h : qEq v.toInt (gRp a z.toInt)) (h0 : 0 ≤ v.toInt) (hz : 1 ≤ z.toInt) (hv : qAv (gRs a z.toInt)) : ((gRs a z.toInt 87 9).toInt ≤ v.toInt ∧ v.toInt = (gRs a z.toInt 87 4).toInt ∧ v.toInt + z.toInt ≤ (gRs a z.toInt 87 3).toInt + (gRs a z.toInt 87 5).toInt) ∨ (v.toInt < (gRs a z.toInt 87 9).toInt ∧ v.toInt = (gRs a z.toInt 87 10).toInt ∧ v.toInt + z.toInt ≤ (gRs a z.toInt 87 9).toInt) := by
  have q := qE h
  have a3 := hv.2.2.1
  have a4 := hv.2.2.2.1
  have a5 := hv.2.2.2.2.1
  unfold gRp at q
  generalize gRs a z.toInt = B at *
  by_cases c1 : (a 87 5).toInt / 2 < z.toInt
  · rw [if_pos c1] at q
    by_cases c2 : (B 87 9).toInt < (B 87 10).toInt + z.toInt
    · rw [if_pos c2] at q
      omega
    · rw [if_neg c2] at q
      exact Or.inr ⟨by omega, by omega, by omega⟩
  · rw [if_neg c1] at q
    by_cases c2 : (B 87 4).toInt + z.toInt ≤ (B 87 3).toInt + (B 87 5).toInt
    · rw [if_pos c2] at q
      exact Or.inl ⟨by omega, by omega, by omega⟩
    · rw [if_neg c2] at q
      omega
theorem Yf_I (hv : qAv (gRs a z.toInt)) : qI (yFt a z v) := by
  unfold yFt
  split
  · exact hv.1
  · split
    · exact I_87k hv.1 (by decide) (by decide) (by decide)
    · exact I_87k hv.1 (by decide) (by decide) (by decide)
/-- the room behind the place is still free -/
def qYn (b : Nat → Nat → Int32) (w pl : Int32) : Prop := ((b 87 9).toInt ≤ pl.toInt ∧ (b 87 3).toInt ≤ pl.toInt ∧ pl.toInt + w.toInt + 1 = (b 87 4).toInt ∧ gSy b 512 + (w.toInt + 1) ≤ (b 87 4).toInt - (b 87 3).toInt) ∨ (pl.toInt < (b 87 9).toInt ∧ pl.toInt + w.toInt + 1 = (b 87 10).toInt)
theorem Av_87 (hv : qAv a) (hr : ∀ c, c ≠ 87 → b c = a c) (h7 : ∀ k, k ≠ 4 → k ≠ 10 → b 87 k = a 87 k) (h4 : (a 87 4).toInt ≤ (b 87 4).toInt ∧ (b 87 4).toInt ≤ (a 87 3).toInt + (a 87 5).toInt) (h10 : (a 87 10).toInt ≤ (b 87 10).toInt ∧ (b 87 10).toInt ≤ (a 87 9).toInt) (hI : qI b) : qAv b := by
  obtain ⟨_, g2, nm, hs, ht, hO, ha⟩ := Av_0 hv
  have di := hv.2.2.2.2.2.2.2
  have al : ∀ n, xAl b n ↔ xAl a n := fun n => by
    unfold xAl
    rw [hr 126 (by decide)]
  have sy : gSy b 512 = gSy a 512 := by
    rw [Sy_sg, Sy_sg]
    refine sg_cg _ (fun n hn => ?_)
    rw [hr 126 (by decide), hr 128 (by decide), hr 130 (by decide), h7 9 (by decide) (by decide)]
  have rf : ∀ n i, aRef b n i = aRef a n i := fun n i => rf_cg (hr _ (by omega)) (hr _ (by decide)) (hr _ (by decide))
  refine Av_mk ⟨hI, (h7 2 (by decide) (by decide)).trans g2, ?_, ?_, ⟨?_, ?_, ?_⟩, ⟨?_, ?_⟩, fun n hn => ?_⟩ (fun n hn ho i hi hw => ?_)
  · rw [h7 5 (by decide) (by decide), h7 9 (by decide) (by decide), h7 0 (by decide) (by decide), h7 11 (by decide) (by decide), h7 12 (by decide) (by decide)]
    exact nm
  · rw [h7 3 (by decide) (by decide), h7 9 (by decide) (by decide), h7 5 (by decide) (by decide)]
    exact hs
  · rw [h7 3 (by decide) (by decide)]
    omega
  · rw [h7 3 (by decide) (by decide), h7 5 (by decide) (by decide)]
    exact h4.2
  · rw [sy, h7 3 (by decide) (by decide)]
    omega
  · omega
  · rw [h7 9 (by decide) (by decide)]
    exact h10.2
  · have q := ha n ((al n).mp hn)
    unfold qA1 at q ⊢
    rw [hr 131 (by decide), hr 130 (by decide), hr 128 (by decide), hr 133 (by decide), h7 11 (by decide) (by decide), h7 9 (by decide) (by decide), h7 3 (by decide) (by decide)]
    refine ⟨q.1, fun w => ?_, fun w => ?_⟩
    · have := q.2.1 w
      omega
    · have := q.2.2 w
      exact ⟨⟨this.1.1, by omega⟩, this.2⟩
  · unfold gRw at hw
    rw [rf, hr 126 (by decide), hr 130 (by decide), h7 9 (by decide) (by decide)] at hw
    rw [hr 130 (by decide), h7 9 (by decide) (by decide)] at ho
    rw [hr 128 (by decide)] at hi
    have q := di n ((al n).mp hn) ho i hi hw
    unfold gCx at q ⊢
    rw [hr 83 (by decide), hr 130 (by decide), h7 12 (by decide) (by decide)]
    exact q
theorem Yf_av (hv : qAv (gRs aa (w + 1).toInt)) (hR : qEq pl.toInt (gRp aa (w + 1).toInt)) (h0 : 0 ≤ pl.toInt) (hw : 0 ≤ w.toInt) (hw6 : w.toInt ≤ 60) (hp : pl.toInt ≤ 4500) : qAv (yFt aa (w + 1) pl) ∧ qYn (yFt aa (w + 1) pl) w pl := by
  have e1 := i_p1 (i := w) (by omega)
  have e2 : (pl + (w + 1)).toInt = pl.toInt + (w + 1).toInt := i_add (by omega) (by omega)
  have a3 := hv.2.2.1
  have a4 := hv.2.2.2.1
  have a5 := hv.2.2.2.2.1
  have a6 := hv.2.2.2.2.2.1
  have f := Yp_v hR h0 (by omega) hv
  have I := Yf_I (v := pl) hv
  rcases f with f | f
  · rw [yFt_y h0 f.1] at I ⊢
    have h4 : ma_u (gRs aa (w + 1).toInt) 87 4 (pl + (w + 1)) 87 4 = pl + (w + 1) := xu_s
    have h7 : ∀ k, k ≠ 4 → ma_u (gRs aa (w + 1).toInt) 87 4 (pl + (w + 1)) 87 k = gRs aa (w + 1).toInt 87 k := fun k hk => xu_o (fun z => hk z.2)
    have hr : ∀ c, c ≠ 87 → ma_u (gRs aa (w + 1).toInt) 87 4 (pl + (w + 1)) c = gRs aa (w + 1).toInt c := fun c hc => ma_u_ne _ _ _ hc
    have sy : gSy (ma_u (gRs aa (w + 1).toInt) 87 4 (pl + (w + 1))) 512 = gSy (gRs aa (w + 1).toInt) 512 := by
      rw [Sy_sg, Sy_sg]
      refine sg_cg _ (fun n hn => ?_)
      rw [hr 126 (by decide), hr 128 (by decide), hr 130 (by decide), h7 9 (by decide)]
    refine ⟨Av_87 hv hr (fun k h _ => h7 k h) (by rw [h4]; omega) (by rw [h7 10 (by decide)]; omega) I, Or.inl ?_⟩
    rw [sy, h4, h7 9 (by decide), h7 3 (by decide)]
    omega
  · rw [yFt_o h0 f.1] at I ⊢
    have h10 : ma_u (gRs aa (w + 1).toInt) 87 10 (pl + (w + 1)) 87 10 = pl + (w + 1) := xu_s
    have h7 : ∀ k, k ≠ 10 → ma_u (gRs aa (w + 1).toInt) 87 10 (pl + (w + 1)) 87 k = gRs aa (w + 1).toInt 87 k := fun k hk => xu_o (fun z => hk z.2)
    have hr : ∀ c, c ≠ 87 → ma_u (gRs aa (w + 1).toInt) 87 10 (pl + (w + 1)) c = gRs aa (w + 1).toInt c := fun c hc => ma_u_ne _ _ _ hc
    refine ⟨Av_87 hv hr (fun k _ h => h7 k h) (by rw [h7 4 (by decide)]; omega) (by rw [h10]; omega) I, Or.inr ?_⟩
    rw [h10, h7 9 (by decide)]
    omega
theorem Ne_y (hv : qAv (gRs aa (w + 1).toInt)) (hR : qEq pl.toInt (gRp aa (w + 1).toInt)) (h0 : 0 ≤ pl.toInt) (hw : 0 ≤ w.toInt) (hw6 : w.toInt ≤ 60) (hy : yFt aa (w + 1) pl 69 6 = y) (hy5 : y.toInt < 512) : qNe (yFt aa (w + 1) pl) y w pl := by
  have e1 := i_p1 (i := w) (by omega)
  have f := Yp_v hR h0 (by omega) hv
  obtain ⟨_, g2, nm, hs, ht, hO, ha⟩ := Av_0 hv
  have r0 : yFt aa (w + 1) pl 87 0 = gRs aa (w + 1).toInt 87 0 := (Yf_7 (by decide) (by decide) (by decide)).trans (gRs_7 (by decide) (by decide) (by decide)).symm
  refine ⟨Yf_I hv, hy.symm, hy5, ⟨hw, hw6⟩, h0, ?_, fun x hx => ?_⟩
  · rw [r0]
    omega
  · unfold xAl at hx
    rw [Yf_r (by decide)] at hx
    have q := ha x hx
    unfold qA1 at q
    rw [Yf_r (by decide), Yf_r (by decide)]
    have q1 := q.2.1
    have q2 := q.2.2
    rcases f with f | f
    · refine Or.inl ?_
      by_cases o : (gRs aa (w + 1).toInt 130 x).toInt < (gRs aa (w + 1).toInt 87 9).toInt
      · have := q1 o
        omega
      · have := q2 (by omega)
        omega
    · by_cases o : (gRs aa (w + 1).toInt 130 x).toInt < (gRs aa (w + 1).toInt 87 9).toInt
      · have := q1 o
        exact Or.inl (by omega)
      · exact Or.inr (by omega)
theorem Ad_k {F : Nat → Int32} : aAd (ma_u b 87 k x) y F L = ma_u (aAd b y F L) 87 k x := by
  funext c₉ k₉
  by_cases w : c₉ = 87
  · rw [w, ad_87]
    show (if (87 : Nat) = 87 ∧ k₉ = k then x else b 87 k₉) = (if (87 : Nat) = 87 ∧ k₉ = k then x else aAd b y F L 87 k₉)
    rw [ad_87]
  · rw [xu_o (fun z => w z.1)]
    exact o7_ad (a := ma_u b 87 k x) (b := b) (fun c2 k2 h2 => xu_o (fun z => h2 z.1)) c₉ k₉ w
theorem yMk_2b {kd wd rt : Int32} (h : (a 69 6).toInt < 512) (h1 : pl.toInt = gRp a (wd + 1).toInt) (h2 : 0 ≤ pl.toInt) (hw : 0 ≤ wd.toInt) (hw6 : wd.toInt ≤ 60) (hp5 : pl.toInt ≤ 4500) (hy0 : 0 ≤ y.toInt) (hy : y = yFt a (wd + 1) pl 69 6) (h8 : yFt a (wd + 1) pl 87 8 = 0) : yMk a kd wd L rt = aRt (aAd (yFt a (wd + 1) pl) y (zFn y kd (wd + 1) pl) L) rt y ∧ yMn a wd = y := by
  have A := Ad_of (b := gRs a (wd + 1).toInt) (y := y) (kk := kd) (w := wd) (pl := pl) (L := L) hy0 hw hw6 h2 hp5
  have k8 : gRs a (wd + 1).toInt 87 8 = 0 := (gRs_7 (by decide) (by decide) (by decide)).trans ((Yf_7 (by decide) (by decide) (by decide)).symm.trans h8)
  rw [← r0_rt (ad_87.trans h8)]
  rw [Yf_r (by decide)] at hy
  have e := yMk_2 (a := a) (kd := kd) (wd := wd) (rt := rt) (L := L) (pl := pl) h rfl h1 (by omega) hy
  rw [e.1]
  refine ⟨?_, e.2⟩
  have m1 := A.1.2.1
  have m2 := A.1.2.2.1
  rw [aMd_n (ad_87.trans k8), xu_o (by omega)] at m1 m2
  have g9 : aAd (gRs a (wd + 1).toInt) y (zFn y kd (wd + 1) pl) L 87 9 = gRs a (wd + 1).toInt 87 9 := ad_87
  unfold gMd
  rw [m1, m2, g9]
  by_cases c : (gRs a (wd + 1).toInt 87 9).toInt ≤ pl.toInt
  · rw [if_pos c, yFt_y h2 c, Ad_k]
  · rw [if_neg c, yFt_o h2 (by omega), Ad_k]
theorem sg_one : ∀ N, (∀ k, k < N → k ≠ n → F k = G k) → n < N → zsg G N = zsg F N + (G n - F n) := by
  intro N
  induction N with
  | zero => intro _ h; omega
  | succ N ih =>
    intro h hn
    have e1 : zsg F (N + 1) = zsg F N + F N := rfl
    have e2 : zsg G (N + 1) = zsg G N + G N := rfl
    by_cases z : n = N
    · have e := sg_cg (F := F) (G := G) N (fun k hk => h k (by omega) (by omega))
      rw [z]
      omega
    · have e := ih (fun k hk hne => h k (by omega) hne) (by omega)
      have := h N (by omega) (by omega)
      omega
theorem Ad_131 (h : 0 ≤ y.toInt) : aAd b y (zFn y kk (w + 1) pl) L 131 y.toNatClampNeg = 0 := by
  unfold aAd
  rw [xu_o (by omega), xu_o (by omega)]
  unfold zIw
  rw [if_neg (by omega), xu_o (by omega)]
  unfold zNw
  rw [if_neg (by omega), if_pos ⟨by decide, by decide, rfl⟩]
  rfl
/-- a new one is there -/
theorem Av_add {rt : Int32} (hv : qAv b) (h : qNe b y w pl) (hn : qYn b w pl) (h8 : b 87 8 = 0) (hd : ∀ n, xAl b n → ∀ i : Nat, (i : Int) < (b 128 n).toInt - 1 → (aRef b n (Int32.ofNat i)).toInt < 0 ∨ xAl b (aRef b n (Int32.ofNat i)).toNatClampNeg) : qAv (aRt (aAd b y (zFn y kk (w + 1) pl) L) rt y) := by
  have q := Ne_b h
  have hw := h.2.2.2.1
  have A := Ad_of (b := b) (y := y) (kk := kk) (w := w) (pl := pl) (L := L) q.1 hw.1 hw.2 q.2.2.2.1 (by omega)
  have I := I_ad h A
  obtain ⟨_, g2, nm, hs, ht, hO, ha⟩ := Av_0 hv
  have di := hv.2.2.2.2.2.2.2
  have e := hd_0 (b := b) (y := y) (F := zFn y kk (w + 1) pl) (L := L) g2 h8
  have I2 : qI (aAd b y (zFn y kk (w + 1) pl) L) := by
    rw [← e]
    exact I_872 I (by decide) I.2.2.2.1.2.2.1.1 (Gd_0 I)
  have e7 : ∀ k, aAd b y (zFn y kk (w + 1) pl) L 87 k = b 87 k := fun k => ad_87
  have r83 : aAd b y (zFn y kk (w + 1) pl) L 83 = b 83 := funext (fun k => ad_9 ⟨by decide, by decide⟩)
  have r131 := Ad_131 (b := b) (y := y) (kk := kk) (w := w) (pl := pl) (L := L) q.1
  have ro : ∀ c, c ≠ 87 → aAd b y (zFn y kk (w + 1) pl) L c = aMd (aAd b y (zFn y kk (w + 1) pl) L) y c := fun c hc => by
    rw [aMd_n (ad_87.trans h8), ma_u_ne _ _ _ hc]
  have rf : ∀ n i, aRef (aAd b y (zFn y kk (w + 1) pl) L) n i = aRef (aMd (aAd b y (zFn y kk (w + 1) pl) L) y) n i := fun n i => rf_cg (ro _ (by omega)) (ro _ (by decide)) (ro _ (by decide))
  generalize aMd (aAd b y (zFn y kk (w + 1) pl) L) y = E at *
  generalize hD : aAd b y (zFn y kk (w + 1) pl) L = D at *
  have al : ∀ x, xAl D x ↔ xAl b x ∨ x = y.toNatClampNeg := fun x => by
    unfold xAl
    rw [ro 126 (by decide)]
    exact Al_ad h A
  have fo : ∀ x, x ≠ y.toNatClampNeg → D 126 x = b 126 x ∧ D 128 x = b 128 x ∧ D 130 x = b 130 x ∧ D 131 x = b 131 x ∧ D 133 x = b 133 x := fun x hx => by
    rw [ro 126 (by decide), ro 128 (by decide), ro 130 (by decide), ro 131 (by decide), ro 133 (by decide)]
    exact ⟨A.2.1 126 x (by decide) (by decide) hx, A.2.1 128 x (by decide) (by decide) hx, A.2.1 130 x (by decide) (by decide) hx, A.2.1 131 x (by decide) (by decide) hx, A.2.1 133 x (by decide) (by decide) hx⟩
  have fy : D 126 y.toNatClampNeg = 1 ∧ D 128 y.toNatClampNeg = w + 1 ∧ D 130 y.toNatClampNeg = pl ∧ D 133 y.toNatClampNeg = 0 := by
    rw [ro 126 (by decide), ro 128 (by decide), ro 130 (by decide), ro 133 (by decide)]
    exact ⟨A.1.1, A.1.2.1, A.1.2.2.1, A.1.2.2.2.1⟩
  have b126 : b 126 y.toNatClampNeg = 0 := by
    by_cases z : b 126 y.toNatClampNeg = 0
    · exact z
    · exact absurd ⟨q.2.1, z⟩ (Ne_al h)
  have sy : gSy D 512 = gSy b 512 + (if (b 87 9).toInt ≤ pl.toInt then w.toInt + 1 else 0) := by
    rw [Sy_sg, Sy_sg]
    have s := sg_one (n := y.toNatClampNeg) (F := fun n => if b 126 n ≠ 0 ∧ (b 87 9).toInt ≤ (b 130 n).toInt then (b 128 n).toInt else 0) (G := fun n => if D 126 n ≠ 0 ∧ (D 87 9).toInt ≤ (D 130 n).toInt then (D 128 n).toInt else 0) 512 (fun k hk hne => by
      have f := fo k hne
      show (if b 126 k ≠ 0 ∧ (b 87 9).toInt ≤ (b 130 k).toInt then (b 128 k).toInt else 0) = (if D 126 k ≠ 0 ∧ (D 87 9).toInt ≤ (D 130 k).toInt then (D 128 k).toInt else 0)
      rw [f.1, f.2.1, f.2.2.1, e7]) q.2.1
    rw [s]
    show _ + ((if D 126 y.toNatClampNeg ≠ 0 ∧ (D 87 9).toInt ≤ (D 130 y.toNatClampNeg).toInt then (D 128 y.toNatClampNeg).toInt else 0) - (if b 126 y.toNatClampNeg ≠ 0 ∧ (b 87 9).toInt ≤ (b 130 y.toNatClampNeg).toInt then (b 128 y.toNatClampNeg).toInt else 0)) = _
    rw [fy.1, fy.2.1, fy.2.2.1, e7, b126, if_neg (show ¬ ((0 : Int32) ≠ 0 ∧ _) from fun z => z.1 rfl), q.2.2.2.2.2.1]
    by_cases o : (b 87 9).toInt ≤ pl.toInt
    · rw [if_pos ⟨by decide, o⟩, if_pos o]
      omega
    · rw [if_neg (fun z => o z.2), if_neg o]
      omega
  have w1 := q.2.2.2.2.2.1
  have H : qAv D := by
    refine Av_mk ⟨I2, (e7 2).trans g2, ?_, ?_, ⟨?_, ?_, ?_⟩, ?_, fun n hn₉ => ?_⟩ (fun n hn₉ ho i hi hr => ?_)
    · rw [e7, e7, e7, e7, e7]
      exact nm
    · rw [e7, e7, e7]
      exact hs
    · rw [e7, e7]
      exact ht.1
    · rw [e7, e7, e7]
      exact ht.2.1
    · rw [sy, e7, e7]
      rcases hn with z | z
      · rw [if_pos z.1]
        exact z.2.2.2
      · rw [if_neg (by omega)]
        have := ht.2.2
        omega
    · rw [e7, e7]
      exact hO
    · unfold qA1
      rw [e7, e7, e7, e7, e7]
      rcases (al n).mp hn₉ with z | z
      · have o := ne_al h z
        have f := fo n o
        rw [f.2.1, f.2.2.1, f.2.2.2.1, f.2.2.2.2]
        exact ha n z
      · rw [z, fy.2.1, fy.2.2.1, fy.2.2.2, r131]
        have z0 : (0 : Int32).toInt = 0 := rfl
        rw [z0]
        rcases hn with u | u
        · exact ⟨⟨by omega, by omega⟩, fun _ => by omega, fun _ => ⟨⟨by omega, by omega⟩, by omega, rfl⟩⟩
        · exact ⟨⟨by omega, by omega⟩, fun _ => by omega, fun _ => by omega⟩
    · rcases (al n).mp hn₉ with z | z
      · have o := ne_al h z
        have f := fo n o
        rw [f.2.2.1, e7] at ho
        rw [f.2.1] at hi
        have sz := (hv.1.1 n z).2.1
        have i0 : (Int32.ofNat i).toInt = (i : Int) := ofN_s (by omega)
        have er : aRef D n (Int32.ofNat i) = aRef b n (Int32.ofNat i) := (rf n _).trans (rf_ad h A ⟨z, by omega, by omega⟩)
        unfold gRw at hr
        rw [er, e7] at hr
        have hu := (hd n z i hi).elim (fun z => absurd hr.1 (by omega)) id
        have fu := fo _ (ne_al h hu)
        rw [fu.1, fu.2.2.1] at hr
        have k := di n z ho i hi hr
        unfold gCx at k ⊢
        rw [r83, f.2.2.1, e7]
        exact k
      · rw [z] at hr hi
        rw [fy.2.1] at hi
        have i0 : (Int32.ofNat i).toInt = (i : Int) := ofN_s (by omega)
        have er : aRef D y.toNatClampNeg (Int32.ofNat i) = -1 := (rf _ _).trans (rf_nw h A (by omega) (by omega))
        unfold gRw at hr
        rw [er] at hr
        exact absurd hr.1 (by decide)
  have rr : ∀ c, c ≠ 72 → c ≠ 75 → c ≠ 76 → c ≠ 77 → aRt D rt y c = D c := fun c h1 h2 h3 h4 => rt_r h1 h2 h3 h4
  refine Av_mk (A0_cg (Av_0 H) (I_cg I2 (rr 126 (by decide) (by decide) (by decide) (by decide)) (rr 128 (by decide) (by decide) (by decide) (by decide)) (rr 130 (by decide) (by decide) (by decide) (by decide)) (rr 71 (by decide) (by decide) (by decide) (by decide)) (rr 69 (by decide) (by decide) (by decide) (by decide)) (rr 87 (by decide) (by decide) (by decide) (by decide)) (fun n => rr _ (by omega) (by omega) (by omega) (by omega))) (rr 126 (by decide) (by decide) (by decide) (by decide)) (rr 87 (by decide) (by decide) (by decide) (by decide)) (rr 130 (by decide) (by decide) (by decide) (by decide)) (rr 128 (by decide) (by decide) (by decide) (by decide)) (rr 131 (by decide) (by decide) (by decide) (by decide)) (rr 133 (by decide) (by decide) (by decide) (by decide))) ?_
  have rf2 : ∀ n i, aRef (aRt D rt y) n i = aRef D n i := fun n i => rf_cg (rr _ (by omega) (by omega) (by omega) (by omega)) (rr _ (by decide) (by decide) (by decide) (by decide)) (rr _ (by decide) (by decide) (by decide) (by decide))
  have dH := H.2.2.2.2.2.2.2
  intro n hn₉ ho i hi hr
  unfold gRw gCx xAl at *
  rw [rr 126 (by decide) (by decide) (by decide) (by decide)] at hn₉
  rw [rf2, rr 126 (by decide) (by decide) (by decide) (by decide), rr 87 (by decide) (by decide) (by decide) (by decide), rr 130 (by decide) (by decide) (by decide) (by decide)] at hr
  rw [rr 130 (by decide) (by decide) (by decide) (by decide), rr 87 (by decide) (by decide) (by decide) (by decide)] at ho
  rw [rr 128 (by decide) (by decide) (by decide) (by decide)] at hi
  rw [rr 83 (by decide) (by decide) (by decide) (by decide), rr 130 (by decide) (by decide) (by decide) (by decide), rr 87 (by decide) (by decide) (by decide) (by decide)]
  exact dH n hn₉ ho i hi hr
theorem RB_hd (hR : qRB us nr kr kd ws at₉ ho wd wi ow rt wk wl wm nu ro fo le ra pi b) : ∀ n, xAl b n → ∀ i : Nat, (i : Int) < (b 128 n).toInt - 1 → (aRef b n (Int32.ofNat i)).toInt < 0 ∨ xAl b (aRef b n (Int32.ofNat i)).toNatClampNeg := fun n hn i hi => by
  obtain ⟨s, hs, hu, e⟩ := R1_ex hR.1 hn
  have q := hR.1.1 s hs hu
  rw [e] at q
  have sz : (b 128 n).toInt = (ws s).toInt + 1 := by
    rw [q.2.2.1]
    exact i_addk rfl (by have := q.2.2.2.2.2.1; omega) (by have := q.2.2.2.2.2.1; omega)
  have r := hR.2.1 s hs hu i (by omega)
  rw [e] at r
  rw [r.2.1]
  by_cases z : (zrf kr kd wd s i).toInt < 0
  · rw [No_n z]
    exact Or.inl (by decide)
  · rw [No_y (by omega)]
    have u := U_y r.1 (by omega)
    exact Or.inr (R1_al hR.1 (tn_lt (by omega) u.1) u.2)
theorem AL_cg (h : qAL a yo ol ag cd tp ot hf) (e : b 87 = a 87) : qAL b yo ol ag cd tp ot hf := by
  unfold qAL
  rw [e]
  exact h
theorem AL_ft (h : qAL (gRs a z.toInt) yo ol ag cd tp ot hf) (h0 : 0 ≤ v.toInt) (hy : (gRs a z.toInt 87 9).toInt ≤ v.toInt) : qAL (yFt a z v) yo ol ag cd (v + z) ot hf := by
  rw [yFt_y h0 hy]
  unfold qAL at h ⊢
  rw [xu_o (by decide), xu_o (by decide), xu_o (by decide), xu_o (by decide), xu_s, xu_o (by decide), xu_o (by decide)]
  exact ⟨h.1, rfl, h.2.2⟩
theorem AL_fo (h : qAL (gRs a z.toInt) yo ol ag cd tp ot hf) (h0 : 0 ≤ v.toInt) (hy : v.toInt < (gRs a z.toInt 87 9).toInt) : qAL (yFt a z v) yo ol ag cd tp (v + z) hf := by
  rw [yFt_o h0 hy]
  unfold qAL at h ⊢
  rw [xu_o (by decide), xu_o (by decide), xu_o (by decide), xu_o (by decide), xu_o (by decide), xu_s, xu_o (by decide)]
  exact ⟨h.1, h.2.1, rfl, h.2.2.2⟩
end F37

/-! from 95.v10 -/
/-! AGES, the reference (written by wip/tools/gen15v.py) -/
/-! AGES: ages and cards of a new one in the reference; a link -/
section F38
variable {a b c d aa : Nat → Nat → Int32} {us us₉ nr nr₉ kr kd ws at₉ ho wd wi ow rt wk wl gs gs₉ dt dt₉ : Nat → Int32} {wm nu ro fo le ra pi : Int32} {x y v z w pl kk i r1 yo ol ag cd tp ot hf o t : Int32} {n k s : Nat} {L : Int64}
theorem Ag_cg (h : qAg us nr gs a) (e : b 131 = a 131) : qAg us nr gs b := by
  unfold qAg
  rw [e]
  exact h
theorem Dt_cg (h : qDt dt a) (e : b 83 = a 83) : qDt dt b := by
  unfold qDt
  rw [e]
  exact h
theorem Ag_z (h : qAg us nr gs b) (h1 : ∀ t, t ≠ s → us₉ t = us t) (h2 : ∀ t, t ≠ s → nr₉ t = nr t) (h3 : ∀ t, t ≠ s → gs₉ t = gs t) : qAg (zmk us₉ s) nr₉ gs₉ b := fun t ht hu => by
  unfold zmk at hu
  by_cases z : t = s
  · rw [if_pos z] at hu
    exact absurd rfl hu
  · rw [if_neg z, h1 t z] at hu
    rw [h2 t z, h3 t z]
    exact h t ht hu
theorem Ag_h (h : qAg (zmk us s) nr gs b) (h3 : ∀ t, t ≠ s → gs₉ t = gs t) : qAg (zmk us s) nr gs₉ b := fun t ht hu => by
  by_cases z : t = s
  · unfold zmk at hu
    rw [if_pos z] at hu
    exact absurd rfl hu
  · rw [h3 t z]
    exact h t ht hu
theorem Ag_us (e : us₉ = us) (h : qAg us nr gs a) : qAg us₉ nr gs a := e ▸ h
theorem Ag_new (h : qAg (zmk us s) nr gs b) (hN : qNs us nr kr kd ws at₉ ho wd wi ow rt wk wl wm nu ro fo le ra pi b s y kk w pl) (hE : qNe b y w pl) (h0 : gs s = 0) : qAg us nr gs (aRt (aAd b y (zFn y kk (w + 1) pl) L) r1 y) := fun t ht hu => by
  have q := Ne_b hE
  rw [rt_r (c := 131) (by decide) (by decide) (by decide) (by decide)]
  by_cases z : t = s
  · rw [z, hN.2.2.1, Ad_131 q.1, h0]
  · have hu2 : zmk us s t ≠ 0 := by
      unfold zmk
      rw [if_neg z]
      exact hu
    have al := R1_al hN.1.1 ht hu2
    have ne := ne_al hE al
    have hw := hE.2.2.2.1
    have A := Ad_of (b := b) (y := y) (kk := kk) (w := w) (pl := pl) (L := L) q.1 hw.1 hw.2 q.2.2.2.1 (by omega)
    have r : aMd (aAd b y (zFn y kk (w + 1) pl) L) y 131 = aAd b y (zFn y kk (w + 1) pl) L 131 := by
      funext k
      unfold aMd
      split <;> rw [xu_o (by omega)]
      all_goals first | rfl | rw [xu_o (by omega)]
    have e := A.2.1 131 _ (by decide) (by decide) ne
    rw [r] at e
    rw [e]
    exact h t ht hu2
theorem Dt_new (h : qDt dt b) : qDt dt (aRt (aAd b y (zFn y kk (w + 1) pl) L) r1 y) := Dt_cg h (by
  rw [rt_r (c := 83) (by decide) (by decide) (by decide) (by decide)]
  funext k
  exact ad_9 ⟨by decide, by decide⟩)
theorem AL_new (h : qAL b yo ol ag cd tp ot hf) : qAL (aRt (aAd b y (zFn y kk (w + 1) pl) L) r1 y) yo ol ag cd tp ot hf := AL_cg h (by
  rw [rt_r (c := 87) (by decide) (by decide) (by decide) (by decide)]
  funext k
  exact ad_87)
/-! room: what the code's tests say -/
theorem AL_hs (h : qAL a yo ol ag cd tp ot hf) (hv : qAv a) (hz : 1 ≤ z.toInt) (hz6 : z.toInt ≤ 61) : gHs a z.toInt ↔ (tp + z).toInt ≤ (ol + (hf + 1) * yo).toInt := by
  have b := AL_b h hv
  obtain ⟨⟨h1, h2, h3, h4⟩, h5, h6, h7, h8, h9⟩ := h
  have e1 : (tp + z).toInt = tp.toInt + z.toInt := i_add (by omega) (by omega)
  have e2 : (hf + (1 : Int32)).toInt = hf.toInt + 1 := i_p1 (by omega)
  have e3 := i_mul01 (x := hf + (1 : Int32)) (y := yo) (by omega) (by omega) (by omega) (by omega)
  have e4 : (ol + (hf + 1) * yo).toInt = ol.toInt + ((hf + 1) * yo).toInt := i_add (by omega) (by omega)
  unfold gHs
  rw [h5, h1, e1, e4]
  rcases h7 with w | w
  · rw [h8 w]
    omega
  · rw [h9 w]
    omega
theorem AL_ob (h : qAL a yo ol ag cd tp ot hf) (hv : qAv a) (hz : 1 ≤ z.toInt) (hz6 : z.toInt ≤ 61) : (a 87 9).toInt < (a 87 10).toInt + z.toInt ↔ ol.toInt < (ot + z).toInt := by
  have b := AL_b h hv
  have e1 : (ot + z).toInt = ot.toInt + z.toInt := i_add (by omega) (by omega)
  rw [h.1.2.1, h.2.2.1, e1]
theorem AL_2 (h : qAL a yo ol ag cd tp ot hf) (hv : qAv a) : (a 87 5).toInt / 2 = (yo / (2 : Int32)).toInt := by
  have b := AL_b h hv
  have d := (i_div (x := yo) (y := (2 : Int32)) (by omega) (by decide)).2.2.1
  have t2 : (2 : Int32).toInt = 2 := rfl
  rw [t2] at d
  rw [h.1.1, d]
theorem AL_yo (h : qAL a yo ol ag cd tp ot hf) (hv : qAv a) : (a 87 9).toInt ≤ tp.toInt := by
  have b4 := hv.2.2.2.1
  have b5 := hv.2.2.2.2.1
  have b3 := hv.2.2.1
  rw [← h.2.1]
  omega
theorem E_b0 (h : qAL a yo ol ag cd tp ot hf) (hv : qAv a) (hz : 1 ≤ z.toInt) (hz6 : z.toInt ≤ 61) (h2 : (yo / (2 : Int32)).toInt < z.toInt) (hn : ¬ ol.toInt < (ot + z).toInt) : gRs a z.toInt = a ∧ qEq ot.toInt (gRp a z.toInt) ∧ ot.toInt < (gRs a z.toInt 87 9).toInt := by
  have E := Rs_go (a := a) (z := z.toInt) (by rw [AL_2 h hv]; exact h2) (Ro_n (fun w => hn ((AL_ob h hv hz hz6).mp w)))
  have b := AL_b h hv
  have e1 : (ot + z).toInt = ot.toInt + z.toInt := i_add (by omega) (by omega)
  refine ⟨E.1, ?_, ?_⟩
  · unfold qEq
    rw [E.2.2 (fun w => hn ((AL_ob h hv hz hz6).mp w)), h.2.2.1]
  · rw [E.1, h.1.2.1]
    omega
theorem E_b1 (h : qAL a yo ol ag cd tp ot hf) (hv : qAv a) (hz : 1 ≤ z.toInt) (hz6 : z.toInt ≤ 61) (h2 : (yo / (2 : Int32)).toInt < z.toInt) (hn : ol.toInt < (ot + z).toInt) {tp2 ot2 hf2 : Int32} (hh : qAL (gMa a) yo ol ag cd tp2 ot2 hf2) (hv2 : qAv (gMa a)) : gRs a z.toInt = gMa a ∧ (ol.toInt < (ot2 + z).toInt → qEq (-1 : Int32).toInt (gRp a z.toInt)) ∧ (¬ ol.toInt < (ot2 + z).toInt → qEq ot2.toInt (gRp a z.toInt) ∧ ot2.toInt < (gRs a z.toInt 87 9).toInt) := by
  have E := Rs_go (a := a) (z := z.toInt) (by rw [AL_2 h hv]; exact h2) (gRo_y ((AL_ob h hv hz hz6).mpr hn))
  have b := AL_b hh hv2
  have e1 : (ot2 + z).toInt = ot2.toInt + z.toInt := i_add (by omega) (by omega)
  refine ⟨E.1, fun w => ?_, fun w => ⟨?_, ?_⟩⟩
  · unfold qEq
    rw [E.2.1 ((AL_ob hh hv2 hz hz6).mpr w)]
    rfl
  · unfold qEq
    rw [E.2.2 (fun y => w ((AL_ob hh hv2 hz hz6).mp y)), hh.2.2.1]
  · rw [E.1, hh.1.2.1]
    omega
theorem E_s0 (h : qAL a yo ol ag cd tp ot hf) (hv : qAv a) (hz : 1 ≤ z.toInt) (hz6 : z.toInt ≤ 61) (h2 : ¬ (yo / (2 : Int32)).toInt < z.toInt) (hs : (tp + z).toInt ≤ (ol + (hf + 1) * yo).toInt) : gRs a z.toInt = a ∧ qEq tp.toInt (gRp a z.toInt) ∧ (gRs a z.toInt 87 9).toInt ≤ tp.toInt := by
  have g := (AL_hs h hv hz hz6).mpr hs
  have E := Rs_gy (a := a) (z := z.toInt) (by rw [AL_2 h hv]; exact h2) (R1_gy g) (R2_gy g)
  refine ⟨E.1, ?_, ?_⟩
  · unfold qEq
    rw [E.2.1 g, h.2.1]
  · rw [E.1]
    exact AL_yo h hv
theorem E_s1 (h : qAL a yo ol ag cd tp ot hf) (hv : qAv a) (hz : 1 ≤ z.toInt) (hz6 : z.toInt ≤ 61) (h2 : ¬ (yo / (2 : Int32)).toInt < z.toInt) (hs : ¬ (tp + z).toInt ≤ (ol + (hf + 1) * yo).toInt) {tp2 ot2 hf2 : Int32} (hh : qAL (gMi a) yo ol ag cd tp2 ot2 hf2) (hv2 : qAv (gMi a)) (hs2 : (tp2 + z).toInt ≤ (ol + (hf2 + 1) * yo).toInt) : gRs a z.toInt = gMi a ∧ qEq tp2.toInt (gRp a z.toInt) ∧ (gRs a z.toInt 87 9).toInt ≤ tp2.toInt := by
  have g := (AL_hs hh hv2 hz hz6).mpr hs2
  have E := Rs_gy (a := a) (z := z.toInt) (by rw [AL_2 h hv]; exact h2) (R1_gn (fun w => hs ((AL_hs h hv hz hz6).mp w))) (R2_gy g)
  refine ⟨E.1, ?_, ?_⟩
  · unfold qEq
    rw [E.2.1 g, hh.2.1]
  · rw [E.1]
    exact AL_yo hh hv2
theorem E_s3 (h : qAL a yo ol ag cd tp ot hf) (hv : qAv a) (hz : 1 ≤ z.toInt) (hz6 : z.toInt ≤ 61) (h2 : ¬ (yo / (2 : Int32)).toInt < z.toInt) (hs : ¬ (tp + z).toInt ≤ (ol + (hf + 1) * yo).toInt) {tp2 ot2 hf2 tp3 ot3 hf3 : Int32} (hh : qAL (gMi a) yo ol ag cd tp2 ot2 hf2) (hv2 : qAv (gMi a)) (hs2 : ¬ (tp2 + z).toInt ≤ (ol + (hf2 + 1) * yo).toInt) (h3 : qAL (gMi (gMa (gMi a))) yo ol ag cd tp3 ot3 hf3) (hv3 : qAv (gMi (gMa (gMi a)))) : gRs a z.toInt = gMi (gMa (gMi a)) ∧ (¬ (tp3 + z).toInt ≤ (ol + (hf3 + 1) * yo).toInt → qEq (-1 : Int32).toInt (gRp a z.toInt)) ∧ ((tp3 + z).toInt ≤ (ol + (hf3 + 1) * yo).toInt → qEq tp3.toInt (gRp a z.toInt) ∧ (gRs a z.toInt 87 9).toInt ≤ tp3.toInt) := by
  have E := Rs_gy (a := a) (z := z.toInt) (by rw [AL_2 h hv]; exact h2) (R1_gn (fun w => hs ((AL_hs h hv hz hz6).mp w))) (R2_gn (fun w => hs2 ((AL_hs hh hv2 hz hz6).mp w)))
  refine ⟨E.1, fun w => ?_, fun w => ⟨?_, ?_⟩⟩
  · unfold qEq
    rw [E.2.2 (fun y => w ((AL_hs h3 hv3 hz hz6).mp y))]
    rfl
  · unfold qEq
    rw [E.2.1 ((AL_hs h3 hv3 hz hz6).mpr w), h3.2.1]
  · rw [E.1]
    exact AL_yo h3 hv3
end F38

/-! from 95.v11 -/
/-! AGES, the reference (written by wip/tools/gen15v.py) -/
set_option maxHeartbeats 8000000 in
theorem sp_210ry {X : Nat × (Nat → Int32)} {P : Option ma_V → (Nat → Nat → Int32) → Prop} {T : Nat} {aa : Nat→Nat→Int32} {ro : Int32} {m : Nat → Nat → Int32} (nw : Int32) (hV : zV m) (hpre0 : 1 ≤ nw.toInt) (hpre1 : nw.toInt ≤ 61) (hpre2 : T ≤ 512) (r_W : zW (m 94 7) (m 98) (m 101) (m 102) (m 108)) (r_GW : zGW T (m 94 55) (m 109)) (r_GU : zGU T (m 94 46) (m 99)) (r_OW : zOw (m 99) (m 103) (m 111)) (hpre7 : (m 94 10).toInt = 3) (r_RB : qRB (m 99) (m 100) (m 98) (m 101) (m 102) (m 103) (m 107) (m 108) (m 109) (m 111) (m 112) (m 113) (m 114) (m 94 55) (m 94 46) ro 0 0 0 1 aa) (r_AV : qAv aa) (r_AL : qAL aa (m 94 13) (m 94 14) (m 94 15) (m 94 16) (m 94 59) (m 94 60) (m 94 61)) (r_AGq : qAg (m 99) (m 100) (m 104) aa) (r_DT : qDt (m 117) aa) (r_WTS : (m 94 45).toInt = sm (zbU (m 99)) (m 102) 3100) (KZ : ∀ v m₉, zV (zov wr_210 m m₉) → (zGW T (m₉ 94 55) (m₉ 109)) → (zGU T (m 94 46) (m₉ 99)) → (zOw (m₉ 99) (m₉ 103) (m₉ 111)) → (-1 ≤ v.toInt ∧ v.toInt ≤ 4500) → (qRB (m₉ 99) (m 100) (m 98) (m 101) (m 102) (m₉ 103) (m 107) (m 108) (m₉ 109) (m₉ 111) (m 112) (m₉ 113) (m₉ 114) (m₉ 94 55) (m 94 46) ro 0 0 0 1 (yFt aa nw v)) → (qI (yFt aa nw v)) → (qAL (yFt aa nw v) (m 94 13) (m 94 14) (m 94 15) (m 94 16) (m₉ 94 59) (m₉ 94 60) (m₉ 94 61)) → (qAg (m₉ 99) (m 100) (m₉ 104) (yFt aa nw v)) → (qDt (m₉ 117) (yFt aa nw v)) → (qEq v.toInt (gRp aa nw.toInt)) → (qAv (gRs aa nw.toInt)) → ((m₉ 94 45).toInt = sm (zbU (m₉ 99)) (m 102) 3100) → P (some (.inl v)) (zov wr_210 m m₉)) : zm X 7 152 210 0 [(0, .inr (.inr (some 94))), (1, .inl nw)] m P := by
  have K : ∀ v m₉, zF wr_210 m m₉ → zV m₉ → (zGW T (m₉ 94 55) (m₉ 109)) → (zGU T (m₉ 94 46) (m₉ 99)) → (zOw (m₉ 99) (m₉ 103) (m₉ 111)) → (-1 ≤ v.toInt ∧ v.toInt ≤ 4500) → (qRB (m₉ 99) (m₉ 100) (m₉ 98) (m₉ 101) (m₉ 102) (m₉ 103) (m₉ 107) (m₉ 108) (m₉ 109) (m₉ 111) (m₉ 112) (m₉ 113) (m₉ 114) (m₉ 94 55) (m₉ 94 46) ro 0 0 0 1 (yFt aa nw v)) → (qI (yFt aa nw v)) → (qAL (yFt aa nw v) (m₉ 94 13) (m₉ 94 14) (m₉ 94 15) (m₉ 94 16) (m₉ 94 59) (m₉ 94 60) (m₉ 94 61)) → (qAg (m₉ 99) (m₉ 100) (m₉ 104) (yFt aa nw v)) → (qDt (m₉ 117) (yFt aa nw v)) → (qEq v.toInt (gRp aa nw.toInt)) → (qAv (gRs aa nw.toInt)) → ((m₉ 94 45).toInt = sm (zbU (m₉ 99)) (m₉ 102) 3100) → P (some (.inl v)) m₉ := by
    intro v m₉ hf z q0 q1 q2 q3 q4 q5 q6 q7 q8 q9 q10 q11
    have e := zov_eq hf
    rw [e] at z ⊢
    try rw [e] at q0
    try rw [e] at q1
    try rw [e] at q2
    try rw [e] at q3
    try rw [e] at q4
    try rw [e] at q5
    try rw [e] at q6
    try rw [e] at q7
    try rw [e] at q8
    try rw [e] at q9
    try rw [e] at q10
    try rw [e] at q11
    exact KZ v m₉ z q0 q1 q2 q3 q4 q5 q6 q7 q8 q9 q10 q11
  refine g_210_0 nw ?_
  have f1 : 0 ≤ (m 94 10).toInt ∧ (m 94 10).toInt ≤ 6 := rs_94_10 (m := m) hV
  have b2 := i_bd nw
  have f3 : 0 ≤ (m 94 13).toInt ∧ (m 94 13).toInt ≤ 1500 := rs_94_13 (m := m) hV
  have li4 : (2 : Int32).toInt = 2 := rfl
  first | have f5 := i_div (x := (m 94 13)) (y := (2 : Int32)) (by omega) (by omega) | have b6 := i_bd ((m 94 13) / (2 : Int32))
  try have f7 : (((m 94 13) / (2 : Int32))).toInt = (m 94 13).toInt / 2 := (i_div (x := (m 94 13)) (y := (2 : Int32)) (by omega) (by omega)).2.2.1
  refine zd (fun (h8 : nw ≤ ((m 94 13) / (2 : Int32))) => ?_) (fun (h8 : ¬ nw ≤ ((m 94 13) / (2 : Int32))) => ?_)
  · skip
    have g9 := i_le h8
    have f10 : 0 ≤ (m 94 59).toInt ∧ (m 94 59).toInt ≤ 4600 := rs_94_59 (m := m) hV
    first | have e11 : ((m 94 59) + nw).toInt = (m 94 59).toInt + nw.toInt := i_add (by omega) (by omega) | have b12 := i_bd ((m 94 59) + nw)
    have f13 : 0 ≤ (m 94 14).toInt ∧ (m 94 14).toInt ≤ 1500 := rs_94_14 (m := m) hV
    have f14 : 0 ≤ (m 94 61).toInt ∧ (m 94 61).toInt ≤ 1 := rs_94_61 (m := m) hV
    first | have e15 : ((m 94 61) + (1 : Int32)).toInt = (m 94 61).toInt + (1) := i_addk rfl (by omega) (by omega) | have b16 := i_bd ((m 94 61) + (1 : Int32))
    first | have f17 := i_mul01 (x := ((m 94 61) + (1 : Int32))) (y := (m 94 13)) (by omega) (by omega) (by omega) (by omega) | have b18 := i_bd (((m 94 61) + (1 : Int32)) * (m 94 13))
    first | have e19 : ((m 94 14) + (((m 94 61) + (1 : Int32)) * (m 94 13))).toInt = (m 94 14).toInt + (((m 94 61) + (1 : Int32)) * (m 94 13)).toInt := i_add (by omega) (by omega) | have b20 := i_bd ((m 94 14) + (((m 94 61) + (1 : Int32)) * (m 94 13)))
    refine zd (fun (h21 : ((m 94 59) + nw) ≤ ((m 94 14) + (((m 94 61) + (1 : Int32)) * (m 94 13)))) => ?_) (fun (h21 : ¬ ((m 94 59) + nw) ≤ ((m 94 14) + (((m 94 61) + (1 : Int32)) * (m 94 13)))) => ?_)
    · skip
      have g22 := i_le h21
      have li23 : (0 : Int32).toInt = 0 := rfl
      refine zd (fun (h24 : (m 94 59) < (0 : Int32)) => ?_) (fun (h24 : ¬ (m 94 59) < (0 : Int32)) => ?_)
      · skip
        have g25 := i_lt h24
        exfalso; omega
      · skip
        have g26 := i_nlt h24
        try have alb := AL_b r_AL r_AV
        try have al2 := r_AL.2.2.2.1
        have hV27 : zV (ma_u m 94 59 ((m 94 59) + nw)) := us_94_59 hV (by omega) (by omega)
        exact K ((m 94 59)) _ (zF_u zF_rfl rfl) hV27 r_GW r_GU r_OW (show -1 ≤ (m 94 59).toInt ∧ (m 94 59).toInt ≤ 4500 from by omega) (show qRB (m 99) (m 100) (m 98) (m 101) (m 102) (m 103) (m 107) (m 108) (m 109) (m 111) (m 112) (m 113) (m 114) (m 94 55) (m 94 46) ro 0 0 0 1 (yFt aa nw (m 94 59)) from by first | (have E := E_b0 r_AL r_AV (z := nw) (by omega) (by omega) (by omega) (by omega); rw [yFt_o (by omega) E.2.2, E.1]; exact RB_87k r_RB (by decide) (by decide) (by decide) (by decide) (by decide); done) | (have E := E_s0 r_AL r_AV (z := nw) (by omega) (by omega) (by omega) (by assumption); rw [yFt_y (by omega) E.2.2, E.1]; exact RB_87k r_RB (by decide) (by decide) (by decide) (by decide) (by decide); done) | (exfalso; omega; done) | (exfalso; contradiction; done)) (show qI (yFt aa nw (m 94 59)) from by first | (have E := E_b0 r_AL r_AV (z := nw) (by omega) (by omega) (by omega) (by omega); exact Yf_I (by rw [E.1]; exact r_AV); done) | (have E := E_s0 r_AL r_AV (z := nw) (by omega) (by omega) (by omega) (by assumption); exact Yf_I (by rw [E.1]; exact r_AV); done) | (exfalso; omega; done) | (exfalso; contradiction; done)) (show qAL (yFt aa nw (m 94 59)) (m 94 13) (m 94 14) (m 94 15) (m 94 16) ((m 94 59) + nw) (m 94 60) (m 94 61) from by first | (have E := E_b0 r_AL r_AV (z := nw) (by omega) (by omega) (by omega) (by omega); exact AL_fo (by rw [E.1]; exact r_AL) (by omega) E.2.2; done) | (have E := E_s0 r_AL r_AV (z := nw) (by omega) (by omega) (by omega) (by assumption); exact AL_ft (by rw [E.1]; exact r_AL) (by omega) E.2.2; done) | (exact r_AL) | (exfalso; omega; done) | (exfalso; contradiction; done)) (show qAg (m 99) (m 100) (m 104) (yFt aa nw (m 94 59)) from by first | (have E := E_b0 r_AL r_AV (z := nw) (by omega) (by omega) (by omega) (by omega); exact Ag_cg (a := gRs aa nw.toInt) (by rw [E.1]; exact r_AGq) (Yf_r (by decide)); done) | (have E := E_s0 r_AL r_AV (z := nw) (by omega) (by omega) (by omega) (by assumption); exact Ag_cg (a := gRs aa nw.toInt) (by rw [E.1]; exact r_AGq) (Yf_r (by decide)); done) | (exact r_AGq) | (exfalso; omega; done) | (exfalso; contradiction; done)) (show qDt (m 117) (yFt aa nw (m 94 59)) from by first | (have E := E_b0 r_AL r_AV (z := nw) (by omega) (by omega) (by omega) (by omega); exact Dt_cg (a := gRs aa nw.toInt) (by rw [E.1]; exact r_DT) (Yf_r (by decide)); done) | (have E := E_s0 r_AL r_AV (z := nw) (by omega) (by omega) (by omega) (by assumption); exact Dt_cg (a := gRs aa nw.toInt) (by rw [E.1]; exact r_DT) (Yf_r (by decide)); done) | (exact r_DT) | (exfalso; omega; done) | (exfalso; contradiction; done)) (show qEq (m 94 59).toInt (gRp aa nw.toInt) from by first | (have E := E_b0 r_AL r_AV (z := nw) (by omega) (by omega) (by omega) (by omega); exact E.2.1; done) | (have E := E_s0 r_AL r_AV (z := nw) (by omega) (by omega) (by omega) (by assumption); exact E.2.1; done) | (exfalso; omega; done) | (exfalso; contradiction; done)) (show qAv (gRs aa nw.toInt) from by first | (have E := E_b0 r_AL r_AV (z := nw) (by omega) (by omega) (by omega) (by omega); rw [E.1]; exact r_AV; done) | (have E := E_s0 r_AL r_AV (z := nw) (by omega) (by omega) (by omega) (by assumption); rw [E.1]; exact r_AV; done) | (exfalso; omega; done) | (exfalso; contradiction; done)) r_WTS
    · skip
      have g28 := i_nle h21
      try have alb := AL_b r_AL r_AV
      try have al2 := r_AL.2.2.2.1
      refine sp_214ry (aa := aa)  hV (by omega) r_W r_GW r_GU r_OW (show (m 94 10).toInt = 3 from by omega) r_RB r_AV r_AL r_AGq r_DT r_WTS (fun v12 m11 hV_m11 p0_m11 p1_m11 p2_m11 p3_m11 p4_m11 p5_m11 p6_m11 p7_m11 p8_m11 => zmi_n ?_)
      have p0_m11 : zGW T (m11 94 55) (m11 109) := p0_m11
      have p1_m11 : zGU T (m 94 46) (m11 99) := p1_m11
      have p2_m11 : zOw (m11 99) (m11 103) (m11 111) := p2_m11
      have p3_m11 : qRB (m11 99) (m 100) (m 98) (m 101) (m 102) (m11 103) (m 107) (m 108) (m11 109) (m11 111) (m 112) (m11 113) (m11 114) (m11 94 55) (m 94 46) ro 0 0 0 1 (gMi aa) := p3_m11
      have p4_m11 : qAv (gMi aa) := p4_m11
      have p5_m11 : qAL (gMi aa) (m 94 13) (m 94 14) (m 94 15) (m 94 16) (m11 94 59) (m11 94 60) (m11 94 61) := p5_m11
      have p6_m11 : qAg (m11 99) (m 100) (m11 104) (gMi aa) := p6_m11
      have p7_m11 : qDt (m11 117) (gMi aa) := p7_m11
      have p8_m11 : (m11 94 45).toInt = sm (zbU (m11 99)) (m 102) 3100 := p8_m11
      have f29 : 0 ≤ (m11 94 59).toInt ∧ (m11 94 59).toInt ≤ 4600 := rs_94_59 (m := (zov wr_214 m m11)) hV_m11
      first | have e30 : ((m11 94 59) + nw).toInt = (m11 94 59).toInt + nw.toInt := i_add (by omega) (by omega) | have b31 := i_bd ((m11 94 59) + nw)
      have f32 : 0 ≤ (m11 94 61).toInt ∧ (m11 94 61).toInt ≤ 1 := rs_94_61 (m := (zov wr_214 m m11)) hV_m11
      first | have e33 : ((m11 94 61) + (1 : Int32)).toInt = (m11 94 61).toInt + (1) := i_addk rfl (by omega) (by omega) | have b34 := i_bd ((m11 94 61) + (1 : Int32))
      first | have f35 := i_mul01 (x := ((m11 94 61) + (1 : Int32))) (y := (m 94 13)) (by omega) (by omega) (by omega) (by omega) | have b36 := i_bd (((m11 94 61) + (1 : Int32)) * (m 94 13))
      first | have e37 : ((m 94 14) + (((m11 94 61) + (1 : Int32)) * (m 94 13))).toInt = (m 94 14).toInt + (((m11 94 61) + (1 : Int32)) * (m 94 13)).toInt := i_add (by omega) (by omega) | have b38 := i_bd ((m 94 14) + (((m11 94 61) + (1 : Int32)) * (m 94 13)))
      refine zd (fun (h39 : ((m11 94 59) + nw) ≤ ((m 94 14) + (((m11 94 61) + (1 : Int32)) * (m 94 13)))) => ?_) (fun (h39 : ¬ ((m11 94 59) + nw) ≤ ((m 94 14) + (((m11 94 61) + (1 : Int32)) * (m 94 13)))) => ?_)
      · skip
        have g40 := i_le h39
        have li41 : (0 : Int32).toInt = 0 := rfl
        refine zd (fun (h42 : (m11 94 59) < (0 : Int32)) => ?_) (fun (h42 : ¬ (m11 94 59) < (0 : Int32)) => ?_)
        · skip
          have g43 := i_lt h42
          exfalso; omega
        · skip
          have g44 := i_nlt h42
          try have alb := AL_b p5_m11 p4_m11
          try have al2 := p5_m11.2.2.2.1
          have hV45 : zV (ma_u (zov wr_214 m m11) 94 59 ((m11 94 59) + nw)) := us_94_59 hV_m11 (by omega) (by omega)
          exact K ((m11 94 59)) _ (zF_u (zF_zov zF_rfl ws_214_210) rfl) hV45 p0_m11 p1_m11 p2_m11 (show -1 ≤ (m11 94 59).toInt ∧ (m11 94 59).toInt ≤ 4500 from by omega) (show qRB (m11 99) (m 100) (m 98) (m 101) (m 102) (m11 103) (m 107) (m 108) (m11 109) (m11 111) (m 112) (m11 113) (m11 114) (m11 94 55) (m 94 46) ro 0 0 0 1 (yFt aa nw (m11 94 59)) from by first | (have E := E_s1 r_AL r_AV (z := nw) (by omega) (by omega) (by omega) (by omega) p5_m11 p4_m11 (by assumption); rw [yFt_y (by omega) E.2.2, E.1]; exact RB_87k p3_m11 (by decide) (by decide) (by decide) (by decide) (by decide); done) | (exfalso; omega; done) | (exfalso; contradiction; done)) (show qI (yFt aa nw (m11 94 59)) from by first | (have E := E_s1 r_AL r_AV (z := nw) (by omega) (by omega) (by omega) (by omega) p5_m11 p4_m11 (by assumption); exact Yf_I (by rw [E.1]; exact p4_m11); done) | (exfalso; omega; done) | (exfalso; contradiction; done)) (show qAL (yFt aa nw (m11 94 59)) (m 94 13) (m 94 14) (m 94 15) (m 94 16) ((m11 94 59) + nw) (m11 94 60) (m11 94 61) from by first | (have E := E_s1 r_AL r_AV (z := nw) (by omega) (by omega) (by omega) (by omega) p5_m11 p4_m11 (by assumption); exact AL_ft (by rw [E.1]; exact p5_m11) (by omega) E.2.2; done) | (exact p5_m11) | (exfalso; omega; done) | (exfalso; contradiction; done)) (show qAg (m11 99) (m 100) (m11 104) (yFt aa nw (m11 94 59)) from by first | (have E := E_s1 r_AL r_AV (z := nw) (by omega) (by omega) (by omega) (by omega) p5_m11 p4_m11 (by assumption); exact Ag_cg (a := gRs aa nw.toInt) (by rw [E.1]; exact p6_m11) (Yf_r (by decide)); done) | (exact p6_m11) | (exfalso; omega; done) | (exfalso; contradiction; done)) (show qDt (m11 117) (yFt aa nw (m11 94 59)) from by first | (have E := E_s1 r_AL r_AV (z := nw) (by omega) (by omega) (by omega) (by omega) p5_m11 p4_m11 (by assumption); exact Dt_cg (a := gRs aa nw.toInt) (by rw [E.1]; exact p7_m11) (Yf_r (by decide)); done) | (exact p7_m11) | (exfalso; omega; done) | (exfalso; contradiction; done)) (show qEq (m11 94 59).toInt (gRp aa nw.toInt) from by first | (have E := E_s1 r_AL r_AV (z := nw) (by omega) (by omega) (by omega) (by omega) p5_m11 p4_m11 (by assumption); exact E.2.1; done) | (exfalso; omega; done) | (exfalso; contradiction; done)) (show qAv (gRs aa nw.toInt) from by first | (have E := E_s1 r_AL r_AV (z := nw) (by omega) (by omega) (by omega) (by omega) p5_m11 p4_m11 (by assumption); rw [E.1]; exact p4_m11; done) | (exfalso; omega; done) | (exfalso; contradiction; done)) p8_m11
      · skip
        have g46 := i_nle h39
        try have alb := AL_b p5_m11 p4_m11
        try have al2 := p5_m11.2.2.2.1
        refine sp_211ry (aa := (gMi aa))  hV_m11 (by omega) r_W p0_m11 p1_m11 p2_m11 (show (m 94 10).toInt = 3 from by omega) p3_m11 p4_m11 p5_m11 p6_m11 p8_m11 (fun v18 m17 hV_m17 p0_m17 p1_m17 p2_m17 p3_m17 p4_m17 p5_m17 p6_m17 p7_m17 p8_m17 => zmi_n ?_)
        have p0_m17 : zGW T (m17 94 55) (m17 109) := p0_m17
        have p1_m17 : zGU T (m 94 46) (m17 99) := p1_m17
        have p2_m17 : zOw (m17 99) (m17 103) (m17 111) := p2_m17
        have p3_m17 : qRB (m17 99) (m 100) (m 98) (m 101) (m 102) (m17 103) (m 107) (m 108) (m17 109) (m17 111) (m 112) (m17 113) (m17 114) (m17 94 55) (m 94 46) ro 0 0 0 1 (gMa (gMi aa)) := p3_m17
        have p4_m17 : qAv (gMa (gMi aa)) := p4_m17
        have p5_m17 : qAL (gMa (gMi aa)) (m 94 13) (m 94 14) (m 94 15) (m 94 16) (m11 94 59) (m17 94 60) (m11 94 61) := p5_m17
        have p6_m17 : qAg (m17 99) (m 100) (m11 104) (gMa (gMi aa)) := p6_m17
        have p7_m17 : qDt (m17 117) (gMa (gMi aa)) := p7_m17
        have p8_m17 : (m17 94 45).toInt = sm (zbU (m17 99)) (m 102) 3100 := p8_m17
        try have alb := AL_b p5_m17 p4_m17
        try have al2 := p5_m17.2.2.2.1
        refine sp_214ry (aa := (gMa (gMi aa)))  hV_m17 (by omega) r_W p0_m17 p1_m17 p2_m17 (show (m 94 10).toInt = 3 from by omega) p3_m17 p4_m17 p5_m17 p6_m17 p7_m17 p8_m17 (fun v20 m19 hV_m19 p0_m19 p1_m19 p2_m19 p3_m19 p4_m19 p5_m19 p6_m19 p7_m19 p8_m19 => zmi_n ?_)
        have p0_m19 : zGW T (m19 94 55) (m19 109) := p0_m19
        have p1_m19 : zGU T (m 94 46) (m19 99) := p1_m19
        have p2_m19 : zOw (m19 99) (m19 103) (m19 111) := p2_m19
        have p3_m19 : qRB (m19 99) (m 100) (m 98) (m 101) (m 102) (m19 103) (m 107) (m 108) (m19 109) (m19 111) (m 112) (m19 113) (m19 114) (m19 94 55) (m 94 46) ro 0 0 0 1 (gMi (gMa (gMi aa))) := p3_m19
        have p4_m19 : qAv (gMi (gMa (gMi aa))) := p4_m19
        have p5_m19 : qAL (gMi (gMa (gMi aa))) (m 94 13) (m 94 14) (m 94 15) (m 94 16) (m19 94 59) (m19 94 60) (m19 94 61) := p5_m19
        have p6_m19 : qAg (m19 99) (m 100) (m19 104) (gMi (gMa (gMi aa))) := p6_m19
        have p7_m19 : qDt (m19 117) (gMi (gMa (gMi aa))) := p7_m19
        have p8_m19 : (m19 94 45).toInt = sm (zbU (m19 99)) (m 102) 3100 := p8_m19
        have f47 : 0 ≤ (m19 94 59).toInt ∧ (m19 94 59).toInt ≤ 4600 := rs_94_59 (m := (zov wr_214 (zov wr_211 (zov wr_214 m m11) m17) m19)) hV_m19
        first | have e48 : ((m19 94 59) + nw).toInt = (m19 94 59).toInt + nw.toInt := i_add (by omega) (by omega) | have b49 := i_bd ((m19 94 59) + nw)
        have f50 : 0 ≤ (m19 94 61).toInt ∧ (m19 94 61).toInt ≤ 1 := rs_94_61 (m := (zov wr_214 (zov wr_211 (zov wr_214 m m11) m17) m19)) hV_m19
        first | have e51 : ((m19 94 61) + (1 : Int32)).toInt = (m19 94 61).toInt + (1) := i_addk rfl (by omega) (by omega) | have b52 := i_bd ((m19 94 61) + (1 : Int32))
        first | have f53 := i_mul01 (x := ((m19 94 61) + (1 : Int32))) (y := (m 94 13)) (by omega) (by omega) (by omega) (by omega) | have b54 := i_bd (((m19 94 61) + (1 : Int32)) * (m 94 13))
        first | have e55 : ((m 94 14) + (((m19 94 61) + (1 : Int32)) * (m 94 13))).toInt = (m 94 14).toInt + (((m19 94 61) + (1 : Int32)) * (m 94 13)).toInt := i_add (by omega) (by omega) | have b56 := i_bd ((m 94 14) + (((m19 94 61) + (1 : Int32)) * (m 94 13)))
        refine zd (fun (h57 : ((m19 94 59) + nw) ≤ ((m 94 14) + (((m19 94 61) + (1 : Int32)) * (m 94 13)))) => ?_) (fun (h57 : ¬ ((m19 94 59) + nw) ≤ ((m 94 14) + (((m19 94 61) + (1 : Int32)) * (m 94 13)))) => ?_)
        · skip
          have g58 := i_le h57
          try have alb := AL_b p5_m19 p4_m19
          try have al2 := p5_m19.2.2.2.1
          have hV59 : zV (ma_u (zov wr_214 (zov wr_211 (zov wr_214 m m11) m17) m19) 94 59 ((m19 94 59) + nw)) := us_94_59 hV_m19 (by omega) (by omega)
          exact K ((m19 94 59)) _ (zF_u (zF_zov (zF_zov (zF_zov zF_rfl ws_214_210) ws_211_210) ws_214_210) rfl) hV59 p0_m19 p1_m19 p2_m19 (show -1 ≤ (m19 94 59).toInt ∧ (m19 94 59).toInt ≤ 4500 from by omega) (show qRB (m19 99) (m 100) (m 98) (m 101) (m 102) (m19 103) (m 107) (m 108) (m19 109) (m19 111) (m 112) (m19 113) (m19 114) (m19 94 55) (m 94 46) ro 0 0 0 1 (yFt aa nw (m19 94 59)) from by first | (have E := E_s3 r_AL r_AV (z := nw) (by omega) (by omega) (by omega) (by omega) p5_m11 p4_m11 (by omega) p5_m19 p4_m19; have E2 := E.2.2 (by assumption); rw [yFt_y (by omega) E2.2, E.1]; exact RB_87k p3_m19 (by decide) (by decide) (by decide) (by decide) (by decide); done) | (exfalso; omega; done) | (exfalso; contradiction; done)) (show qI (yFt aa nw (m19 94 59)) from by first | (have E := E_s3 r_AL r_AV (z := nw) (by omega) (by omega) (by omega) (by omega) p5_m11 p4_m11 (by omega) p5_m19 p4_m19; have E2 := E.2.2 (by assumption); exact Yf_I (by rw [E.1]; exact p4_m19); done) | (exfalso; omega; done) | (exfalso; contradiction; done)) (show qAL (yFt aa nw (m19 94 59)) (m 94 13) (m 94 14) (m 94 15) (m 94 16) ((m19 94 59) + nw) (m19 94 60) (m19 94 61) from by first | (have E := E_s3 r_AL r_AV (z := nw) (by omega) (by omega) (by omega) (by omega) p5_m11 p4_m11 (by omega) p5_m19 p4_m19; have E2 := E.2.2 (by assumption); exact AL_ft (by rw [E.1]; exact p5_m19) (by omega) E2.2; done) | (exact p5_m19) | (exfalso; omega; done) | (exfalso; contradiction; done)) (show qAg (m19 99) (m 100) (m19 104) (yFt aa nw (m19 94 59)) from by first | (have E := E_s3 r_AL r_AV (z := nw) (by omega) (by omega) (by omega) (by omega) p5_m11 p4_m11 (by omega) p5_m19 p4_m19; have E2 := E.2.2 (by assumption); exact Ag_cg (a := gRs aa nw.toInt) (by rw [E.1]; exact p6_m19) (Yf_r (by decide)); done) | (exact p6_m19) | (exfalso; omega; done) | (exfalso; contradiction; done)) (show qDt (m19 117) (yFt aa nw (m19 94 59)) from by first | (have E := E_s3 r_AL r_AV (z := nw) (by omega) (by omega) (by omega) (by omega) p5_m11 p4_m11 (by omega) p5_m19 p4_m19; have E2 := E.2.2 (by assumption); exact Dt_cg (a := gRs aa nw.toInt) (by rw [E.1]; exact p7_m19) (Yf_r (by decide)); done) | (exact p7_m19) | (exfalso; omega; done) | (exfalso; contradiction; done)) (show qEq (m19 94 59).toInt (gRp aa nw.toInt) from by first | (have E := E_s3 r_AL r_AV (z := nw) (by omega) (by omega) (by omega) (by omega) p5_m11 p4_m11 (by omega) p5_m19 p4_m19; have E2 := E.2.2 (by assumption); exact E2.1; done) | (exfalso; omega; done) | (exfalso; contradiction; done)) (show qAv (gRs aa nw.toInt) from by first | (have E := E_s3 r_AL r_AV (z := nw) (by omega) (by omega) (by omega) (by omega) p5_m11 p4_m11 (by omega) p5_m19 p4_m19; have E2 := E.2.2 (by assumption); rw [E.1]; exact p4_m19; done) | (exfalso; omega; done) | (exfalso; contradiction; done)) p8_m19
        · skip
          have g60 := i_nle h57
          try have alb := AL_b p5_m19 p4_m19
          try have al2 := p5_m19.2.2.2.1
          have li61 : (-1 : Int32).toInt = -1 := rfl
          exact K ((-1 : Int32)) _ (zF_zov (zF_zov (zF_zov zF_rfl ws_214_210) ws_211_210) ws_214_210) hV_m19 p0_m19 p1_m19 p2_m19 (show -1 ≤ (-1 : Int32).toInt ∧ (-1 : Int32).toInt ≤ 4500 from by omega) (show qRB (m19 99) (m 100) (m 98) (m 101) (m 102) (m19 103) (m 107) (m 108) (m19 109) (m19 111) (m 112) (m19 113) (m19 114) (m19 94 55) (m 94 46) ro 0 0 0 1 (yFt aa nw (-1 : Int32)) from by first | (have E := E_s3 r_AL r_AV (z := nw) (by omega) (by omega) (by omega) (by omega) p5_m11 p4_m11 (by omega) p5_m19 p4_m19; have E2 := E.2.1 (by omega); rw [yFt_n (by decide), E.1]; exact p3_m19; done) | (exfalso; omega; done) | (exfalso; contradiction; done)) (show qI (yFt aa nw (-1 : Int32)) from by first | (have E := E_s3 r_AL r_AV (z := nw) (by omega) (by omega) (by omega) (by omega) p5_m11 p4_m11 (by omega) p5_m19 p4_m19; have E2 := E.2.1 (by omega); exact Yf_I (by rw [E.1]; exact p4_m19); done) | (exfalso; omega; done) | (exfalso; contradiction; done)) (show qAL (yFt aa nw (-1 : Int32)) (m 94 13) (m 94 14) (m 94 15) (m 94 16) (m19 94 59) (m19 94 60) (m19 94 61) from by first | (have E := E_s3 r_AL r_AV (z := nw) (by omega) (by omega) (by omega) (by omega) p5_m11 p4_m11 (by omega) p5_m19 p4_m19; have E2 := E.2.1 (by omega); rw [yFt_n (by decide), E.1]; exact p5_m19; done) | (exact p5_m19) | (exfalso; omega; done) | (exfalso; contradiction; done)) (show qAg (m19 99) (m 100) (m19 104) (yFt aa nw (-1 : Int32)) from by first | (have E := E_s3 r_AL r_AV (z := nw) (by omega) (by omega) (by omega) (by omega) p5_m11 p4_m11 (by omega) p5_m19 p4_m19; have E2 := E.2.1 (by omega); exact Ag_cg (a := gRs aa nw.toInt) (by rw [E.1]; exact p6_m19) (Yf_r (by decide)); done) | (exact p6_m19) | (exfalso; omega; done) | (exfalso; contradiction; done)) (show qDt (m19 117) (yFt aa nw (-1 : Int32)) from by first | (have E := E_s3 r_AL r_AV (z := nw) (by omega) (by omega) (by omega) (by omega) p5_m11 p4_m11 (by omega) p5_m19 p4_m19; have E2 := E.2.1 (by omega); exact Dt_cg (a := gRs aa nw.toInt) (by rw [E.1]; exact p7_m19) (Yf_r (by decide)); done) | (exact p7_m19) | (exfalso; omega; done) | (exfalso; contradiction; done)) (show qEq (-1 : Int32).toInt (gRp aa nw.toInt) from by first | (have E := E_s3 r_AL r_AV (z := nw) (by omega) (by omega) (by omega) (by omega) p5_m11 p4_m11 (by omega) p5_m19 p4_m19; have E2 := E.2.1 (by omega); exact E2; done) | (exfalso; omega; done) | (exfalso; contradiction; done)) (show qAv (gRs aa nw.toInt) from by first | (have E := E_s3 r_AL r_AV (z := nw) (by omega) (by omega) (by omega) (by omega) p5_m11 p4_m11 (by omega) p5_m19 p4_m19; have E2 := E.2.1 (by omega); rw [E.1]; exact p4_m19; done) | (exfalso; omega; done) | (exfalso; contradiction; done)) p8_m19
  · skip
    have g62 := i_nle h8
    have f63 : 0 ≤ (m 94 60).toInt ∧ (m 94 60).toInt ≤ 1600 := rs_94_60 (m := m) hV
    first | have e64 : ((m 94 60) + nw).toInt = (m 94 60).toInt + nw.toInt := i_add (by omega) (by omega) | have b65 := i_bd ((m 94 60) + nw)
    have f66 : 0 ≤ (m 94 14).toInt ∧ (m 94 14).toInt ≤ 1500 := rs_94_14 (m := m) hV
    refine zd (fun (h67 : ((m 94 60) + nw) ≤ (m 94 14)) => ?_) (fun (h67 : ¬ ((m 94 60) + nw) ≤ (m 94 14)) => ?_)
    · skip
      have g68 := i_le h67
      refine zd (fun (h69 : ((m 94 60) + nw) ≤ (m 94 14)) => ?_) (fun (h69 : ¬ ((m 94 60) + nw) ≤ (m 94 14)) => ?_)
      · skip
        have g70 := i_le h69
        try have alb := AL_b r_AL r_AV
        try have al2 := r_AL.2.2.2.1
        have hV71 : zV (ma_u m 94 60 ((m 94 60) + nw)) := us_94_60 hV (by omega) (by omega)
        exact K ((m 94 60)) _ (zF_u zF_rfl rfl) hV71 r_GW r_GU r_OW (show -1 ≤ (m 94 60).toInt ∧ (m 94 60).toInt ≤ 4500 from by omega) (show qRB (m 99) (m 100) (m 98) (m 101) (m 102) (m 103) (m 107) (m 108) (m 109) (m 111) (m 112) (m 113) (m 114) (m 94 55) (m 94 46) ro 0 0 0 1 (yFt aa nw (m 94 60)) from by first | (have E := E_b0 r_AL r_AV (z := nw) (by omega) (by omega) (by omega) (by omega); rw [yFt_o (by omega) E.2.2, E.1]; exact RB_87k r_RB (by decide) (by decide) (by decide) (by decide) (by decide); done) | (have E := E_s0 r_AL r_AV (z := nw) (by omega) (by omega) (by omega) (by assumption); rw [yFt_y (by omega) E.2.2, E.1]; exact RB_87k r_RB (by decide) (by decide) (by decide) (by decide) (by decide); done) | (exfalso; omega; done) | (exfalso; contradiction; done)) (show qI (yFt aa nw (m 94 60)) from by first | (have E := E_b0 r_AL r_AV (z := nw) (by omega) (by omega) (by omega) (by omega); exact Yf_I (by rw [E.1]; exact r_AV); done) | (have E := E_s0 r_AL r_AV (z := nw) (by omega) (by omega) (by omega) (by assumption); exact Yf_I (by rw [E.1]; exact r_AV); done) | (exfalso; omega; done) | (exfalso; contradiction; done)) (show qAL (yFt aa nw (m 94 60)) (m 94 13) (m 94 14) (m 94 15) (m 94 16) (m 94 59) ((m 94 60) + nw) (m 94 61) from by first | (have E := E_b0 r_AL r_AV (z := nw) (by omega) (by omega) (by omega) (by omega); exact AL_fo (by rw [E.1]; exact r_AL) (by omega) E.2.2; done) | (have E := E_s0 r_AL r_AV (z := nw) (by omega) (by omega) (by omega) (by assumption); exact AL_ft (by rw [E.1]; exact r_AL) (by omega) E.2.2; done) | (exact r_AL) | (exfalso; omega; done) | (exfalso; contradiction; done)) (show qAg (m 99) (m 100) (m 104) (yFt aa nw (m 94 60)) from by first | (have E := E_b0 r_AL r_AV (z := nw) (by omega) (by omega) (by omega) (by omega); exact Ag_cg (a := gRs aa nw.toInt) (by rw [E.1]; exact r_AGq) (Yf_r (by decide)); done) | (have E := E_s0 r_AL r_AV (z := nw) (by omega) (by omega) (by omega) (by assumption); exact Ag_cg (a := gRs aa nw.toInt) (by rw [E.1]; exact r_AGq) (Yf_r (by decide)); done) | (exact r_AGq) | (exfalso; omega; done) | (exfalso; contradiction; done)) (show qDt (m 117) (yFt aa nw (m 94 60)) from by first | (have E := E_b0 r_AL r_AV (z := nw) (by omega) (by omega) (by omega) (by omega); exact Dt_cg (a := gRs aa nw.toInt) (by rw [E.1]; exact r_DT) (Yf_r (by decide)); done) | (have E := E_s0 r_AL r_AV (z := nw) (by omega) (by omega) (by omega) (by assumption); exact Dt_cg (a := gRs aa nw.toInt) (by rw [E.1]; exact r_DT) (Yf_r (by decide)); done) | (exact r_DT) | (exfalso; omega; done) | (exfalso; contradiction; done)) (show qEq (m 94 60).toInt (gRp aa nw.toInt) from by first | (have E := E_b0 r_AL r_AV (z := nw) (by omega) (by omega) (by omega) (by omega); exact E.2.1; done) | (have E := E_s0 r_AL r_AV (z := nw) (by omega) (by omega) (by omega) (by assumption); exact E.2.1; done) | (exfalso; omega; done) | (exfalso; contradiction; done)) (show qAv (gRs aa nw.toInt) from by first | (have E := E_b0 r_AL r_AV (z := nw) (by omega) (by omega) (by omega) (by omega); rw [E.1]; exact r_AV; done) | (have E := E_s0 r_AL r_AV (z := nw) (by omega) (by omega) (by omega) (by assumption); rw [E.1]; exact r_AV; done) | (exfalso; omega; done) | (exfalso; contradiction; done)) r_WTS
      · skip
        have g72 := i_nle h69
        try have alb := AL_b r_AL r_AV
        try have al2 := r_AL.2.2.2.1
        have li73 : (-1 : Int32).toInt = -1 := rfl
        exact K ((-1 : Int32)) _ zF_rfl hV r_GW r_GU r_OW (show -1 ≤ (-1 : Int32).toInt ∧ (-1 : Int32).toInt ≤ 4500 from by omega) (show qRB (m 99) (m 100) (m 98) (m 101) (m 102) (m 103) (m 107) (m 108) (m 109) (m 111) (m 112) (m 113) (m 114) (m 94 55) (m 94 46) ro 0 0 0 1 (yFt aa nw (-1 : Int32)) from by first | (have E := E_b0 r_AL r_AV (z := nw) (by omega) (by omega) (by omega) (by omega); rw [yFt_n (by decide), E.1]; exact r_RB; done) | (have E := E_s0 r_AL r_AV (z := nw) (by omega) (by omega) (by omega) (by assumption); rw [yFt_n (by decide), E.1]; exact r_RB; done) | (exfalso; omega; done) | (exfalso; contradiction; done)) (show qI (yFt aa nw (-1 : Int32)) from by first | (have E := E_b0 r_AL r_AV (z := nw) (by omega) (by omega) (by omega) (by omega); exact Yf_I (by rw [E.1]; exact r_AV); done) | (have E := E_s0 r_AL r_AV (z := nw) (by omega) (by omega) (by omega) (by assumption); exact Yf_I (by rw [E.1]; exact r_AV); done) | (exfalso; omega; done) | (exfalso; contradiction; done)) (show qAL (yFt aa nw (-1 : Int32)) (m 94 13) (m 94 14) (m 94 15) (m 94 16) (m 94 59) (m 94 60) (m 94 61) from by first | (have E := E_b0 r_AL r_AV (z := nw) (by omega) (by omega) (by omega) (by omega); rw [yFt_n (by decide), E.1]; exact r_AL; done) | (have E := E_s0 r_AL r_AV (z := nw) (by omega) (by omega) (by omega) (by assumption); rw [yFt_n (by decide), E.1]; exact r_AL; done) | (exact r_AL) | (exfalso; omega; done) | (exfalso; contradiction; done)) (show qAg (m 99) (m 100) (m 104) (yFt aa nw (-1 : Int32)) from by first | (have E := E_b0 r_AL r_AV (z := nw) (by omega) (by omega) (by omega) (by omega); exact Ag_cg (a := gRs aa nw.toInt) (by rw [E.1]; exact r_AGq) (Yf_r (by decide)); done) | (have E := E_s0 r_AL r_AV (z := nw) (by omega) (by omega) (by omega) (by assumption); exact Ag_cg (a := gRs aa nw.toInt) (by rw [E.1]; exact r_AGq) (Yf_r (by decide)); done) | (exact r_AGq) | (exfalso; omega; done) | (exfalso; contradiction; done)) (show qDt (m 117) (yFt aa nw (-1 : Int32)) from by first | (have E := E_b0 r_AL r_AV (z := nw) (by omega) (by omega) (by omega) (by omega); exact Dt_cg (a := gRs aa nw.toInt) (by rw [E.1]; exact r_DT) (Yf_r (by decide)); done) | (have E := E_s0 r_AL r_AV (z := nw) (by omega) (by omega) (by omega) (by assumption); exact Dt_cg (a := gRs aa nw.toInt) (by rw [E.1]; exact r_DT) (Yf_r (by decide)); done) | (exact r_DT) | (exfalso; omega; done) | (exfalso; contradiction; done)) (show qEq (-1 : Int32).toInt (gRp aa nw.toInt) from by first | (have E := E_b0 r_AL r_AV (z := nw) (by omega) (by omega) (by omega) (by omega); exact E2; done) | (have E := E_s0 r_AL r_AV (z := nw) (by omega) (by omega) (by omega) (by assumption); exact E2; done) | (exfalso; omega; done) | (exfalso; contradiction; done)) (show qAv (gRs aa nw.toInt) from by first | (have E := E_b0 r_AL r_AV (z := nw) (by omega) (by omega) (by omega) (by omega); rw [E.1]; exact r_AV; done) | (have E := E_s0 r_AL r_AV (z := nw) (by omega) (by omega) (by omega) (by assumption); rw [E.1]; exact r_AV; done) | (exfalso; omega; done) | (exfalso; contradiction; done)) r_WTS
    · skip
      have g74 := i_nle h67
      try have alb := AL_b r_AL r_AV
      try have al2 := r_AL.2.2.2.1
      refine sp_211ry (aa := aa)  hV (by omega) r_W r_GW r_GU r_OW (show (m 94 10).toInt = 3 from by omega) r_RB r_AV r_AL r_AGq r_WTS (fun v22 m21 hV_m21 p0_m21 p1_m21 p2_m21 p3_m21 p4_m21 p5_m21 p6_m21 p7_m21 p8_m21 => zmi_n ?_)
      have p0_m21 : zGW T (m21 94 55) (m21 109) := p0_m21
      have p1_m21 : zGU T (m 94 46) (m21 99) := p1_m21
      have p2_m21 : zOw (m21 99) (m21 103) (m21 111) := p2_m21
      have p3_m21 : qRB (m21 99) (m 100) (m 98) (m 101) (m 102) (m21 103) (m 107) (m 108) (m21 109) (m21 111) (m 112) (m21 113) (m21 114) (m21 94 55) (m 94 46) ro 0 0 0 1 (gMa aa) := p3_m21
      have p4_m21 : qAv (gMa aa) := p4_m21
      have p5_m21 : qAL (gMa aa) (m 94 13) (m 94 14) (m 94 15) (m 94 16) (m 94 59) (m21 94 60) (m 94 61) := p5_m21
      have p6_m21 : qAg (m21 99) (m 100) (m 104) (gMa aa) := p6_m21
      have p7_m21 : qDt (m21 117) (gMa aa) := p7_m21
      have p8_m21 : (m21 94 45).toInt = sm (zbU (m21 99)) (m 102) 3100 := p8_m21
      have f75 : 0 ≤ (m21 94 60).toInt ∧ (m21 94 60).toInt ≤ 1600 := rs_94_60 (m := (zov wr_211 m m21)) hV_m21
      first | have e76 : ((m21 94 60) + nw).toInt = (m21 94 60).toInt + nw.toInt := i_add (by omega) (by omega) | have b77 := i_bd ((m21 94 60) + nw)
      refine zd (fun (h78 : ((m21 94 60) + nw) ≤ (m 94 14)) => ?_) (fun (h78 : ¬ ((m21 94 60) + nw) ≤ (m 94 14)) => ?_)
      · skip
        have g79 := i_le h78
        try have alb := AL_b p5_m21 p4_m21
        try have al2 := p5_m21.2.2.2.1
        have hV80 : zV (ma_u (zov wr_211 m m21) 94 60 ((m21 94 60) + nw)) := us_94_60 hV_m21 (by omega) (by omega)
        exact K ((m21 94 60)) _ (zF_u (zF_zov zF_rfl ws_211_210) rfl) hV80 p0_m21 p1_m21 p2_m21 (show -1 ≤ (m21 94 60).toInt ∧ (m21 94 60).toInt ≤ 4500 from by omega) (show qRB (m21 99) (m 100) (m 98) (m 101) (m 102) (m21 103) (m 107) (m 108) (m21 109) (m21 111) (m 112) (m21 113) (m21 114) (m21 94 55) (m 94 46) ro 0 0 0 1 (yFt aa nw (m21 94 60)) from by first | (have E := E_b1 r_AL r_AV (z := nw) (by omega) (by omega) (by omega) (by omega) p5_m21 p4_m21; have E2 := E.2.2 (by omega); rw [yFt_o (by omega) E2.2, E.1]; exact RB_87k p3_m21 (by decide) (by decide) (by decide) (by decide) (by decide); done) | (exfalso; omega; done) | (exfalso; contradiction; done)) (show qI (yFt aa nw (m21 94 60)) from by first | (have E := E_b1 r_AL r_AV (z := nw) (by omega) (by omega) (by omega) (by omega) p5_m21 p4_m21; have E2 := E.2.2 (by omega); exact Yf_I (by rw [E.1]; exact p4_m21); done) | (exfalso; omega; done) | (exfalso; contradiction; done)) (show qAL (yFt aa nw (m21 94 60)) (m 94 13) (m 94 14) (m 94 15) (m 94 16) (m 94 59) ((m21 94 60) + nw) (m 94 61) from by first | (have E := E_b1 r_AL r_AV (z := nw) (by omega) (by omega) (by omega) (by omega) p5_m21 p4_m21; have E2 := E.2.2 (by omega); exact AL_fo (by rw [E.1]; exact p5_m21) (by omega) E2.2; done) | (exact p5_m21) | (exfalso; omega; done) | (exfalso; contradiction; done)) (show qAg (m21 99) (m 100) (m 104) (yFt aa nw (m21 94 60)) from by first | (have E := E_b1 r_AL r_AV (z := nw) (by omega) (by omega) (by omega) (by omega) p5_m21 p4_m21; have E2 := E.2.2 (by omega); exact Ag_cg (a := gRs aa nw.toInt) (by rw [E.1]; exact p6_m21) (Yf_r (by decide)); done) | (exact p6_m21) | (exfalso; omega; done) | (exfalso; contradiction; done)) (show qDt (m21 117) (yFt aa nw (m21 94 60)) from by first | (have E := E_b1 r_AL r_AV (z := nw) (by omega) (by omega) (by omega) (by omega) p5_m21 p4_m21; have E2 := E.2.2 (by omega); exact Dt_cg (a := gRs aa nw.toInt) (by rw [E.1]; exact p7_m21) (Yf_r (by decide)); done) | (exact p7_m21) | (exfalso; omega; done) | (exfalso; contradiction; done)) (show qEq (m21 94 60).toInt (gRp aa nw.toInt) from by first | (have E := E_b1 r_AL r_AV (z := nw) (by omega) (by omega) (by omega) (by omega) p5_m21 p4_m21; have E2 := E.2.2 (by omega); exact E2.1; done) | (exfalso; omega; done) | (exfalso; contradiction; done)) (show qAv (gRs aa nw.toInt) from by first | (have E := E_b1 r_AL r_AV (z := nw) (by omega) (by omega) (by omega) (by omega) p5_m21 p4_m21; have E2 := E.2.2 (by omega); rw [E.1]; exact p4_m21; done) | (exfalso; omega; done) | (exfalso; contradiction; done)) p8_m21
      · skip
        have g81 := i_nle h78
        try have alb := AL_b p5_m21 p4_m21
        try have al2 := p5_m21.2.2.2.1
        have li82 : (-1 : Int32).toInt = -1 := rfl
        exact K ((-1 : Int32)) _ (zF_zov zF_rfl ws_211_210) hV_m21 p0_m21 p1_m21 p2_m21 (show -1 ≤ (-1 : Int32).toInt ∧ (-1 : Int32).toInt ≤ 4500 from by omega) (show qRB (m21 99) (m 100) (m 98) (m 101) (m 102) (m21 103) (m 107) (m 108) (m21 109) (m21 111) (m 112) (m21 113) (m21 114) (m21 94 55) (m 94 46) ro 0 0 0 1 (yFt aa nw (-1 : Int32)) from by first | (have E := E_b1 r_AL r_AV (z := nw) (by omega) (by omega) (by omega) (by omega) p5_m21 p4_m21; have E2 := E.2.1 (by omega); rw [yFt_n (by decide), E.1]; exact p3_m21; done) | (exfalso; omega; done) | (exfalso; contradiction; done)) (show qI (yFt aa nw (-1 : Int32)) from by first | (have E := E_b1 r_AL r_AV (z := nw) (by omega) (by omega) (by omega) (by omega) p5_m21 p4_m21; have E2 := E.2.1 (by omega); exact Yf_I (by rw [E.1]; exact p4_m21); done) | (exfalso; omega; done) | (exfalso; contradiction; done)) (show qAL (yFt aa nw (-1 : Int32)) (m 94 13) (m 94 14) (m 94 15) (m 94 16) (m 94 59) (m21 94 60) (m 94 61) from by first | (have E := E_b1 r_AL r_AV (z := nw) (by omega) (by omega) (by omega) (by omega) p5_m21 p4_m21; have E2 := E.2.1 (by omega); rw [yFt_n (by decide), E.1]; exact p5_m21; done) | (exact p5_m21) | (exfalso; omega; done) | (exfalso; contradiction; done)) (show qAg (m21 99) (m 100) (m 104) (yFt aa nw (-1 : Int32)) from by first | (have E := E_b1 r_AL r_AV (z := nw) (by omega) (by omega) (by omega) (by omega) p5_m21 p4_m21; have E2 := E.2.1 (by omega); exact Ag_cg (a := gRs aa nw.toInt) (by rw [E.1]; exact p6_m21) (Yf_r (by decide)); done) | (exact p6_m21) | (exfalso; omega; done) | (exfalso; contradiction; done)) (show qDt (m21 117) (yFt aa nw (-1 : Int32)) from by first | (have E := E_b1 r_AL r_AV (z := nw) (by omega) (by omega) (by omega) (by omega) p5_m21 p4_m21; have E2 := E.2.1 (by omega); exact Dt_cg (a := gRs aa nw.toInt) (by rw [E.1]; exact p7_m21) (Yf_r (by decide)); done) | (exact p7_m21) | (exfalso; omega; done) | (exfalso; contradiction; done)) (show qEq (-1 : Int32).toInt (gRp aa nw.toInt) from by first | (have E := E_b1 r_AL r_AV (z := nw) (by omega) (by omega) (by omega) (by omega) p5_m21 p4_m21; have E2 := E.2.1 (by omega); exact E2; done) | (exfalso; omega; done) | (exfalso; contradiction; done)) (show qAv (gRs aa nw.toInt) from by first | (have E := E_b1 r_AL r_AV (z := nw) (by omega) (by omega) (by omega) (by omega) p5_m21 p4_m21; have E2 := E.2.1 (by omega); rw [E.1]; exact p4_m21; done) | (exfalso; omega; done) | (exfalso; contradiction; done)) p8_m21

