/-! AGES, the reference (written by wip/tools/gen15v.py) -/
/-! AGES, the reference: the end of a minor cleaning -/
section F33
variable {a b c d aa T : Nat → Nat → Int32} {us us' nr kr kd ws AT AG at2 at3 ag2 ag3 ho wd wi wi' OW ow2 ow3 rt wk wk' wl wl' kp kp' ca ca' dt : Nat → Int32} {wm wm' nu ro fo le ra pi cat cm cm' to to' o2 o2' tg s x x2 y i l cd : Int32} {st o0 p p2 ot : Int} {j k n f : Nat} {P N : Nat → Int}
theorem gMf_pl : ∀ (f j : Nat) (a : Nat → Nat → Int32), qJg a st ot o0 P N j → (j : Int) + f = (a 75 4).toInt → (∀ k : Nat, j ≤ k → k < j + f → (qYg a (a 76 k).toNatClampNeg → gMf f j a 130 (a 76 k).toNatClampNeg = Int32.ofInt (o0 + zsg P k)) ∧ (¬ qYg a (a 76 k).toNatClampNeg → gMf f j a 130 (a 76 k).toNatClampNeg = Int32.ofInt (st + zsg N k)) ∧ gMf f j a 131 (a 76 k).toNatClampNeg = a 131 (a 76 k).toNatClampNeg + 1) ∧ (∀ n, (∀ k, j ≤ k → k < j + f → (a 76 k).toNatClampNeg ≠ n) → gMf f j a 130 n = a 130 n ∧ gMf f j a 131 n = a 131 n) ∧ (∀ (m : Nat) (i : Int32), xAl a m → 0 ≤ i.toInt → i.toInt < (a 128 m).toInt - 1 → aRef (gMf f j a) m i = aRef a m i) ∧ (∀ c, c ≠ 71 → c ≠ 130 → c ≠ 131 → c ≠ 87 → gMf f j a c = a c) := by
  intro f
  induction f with
  | zero =>
    intro j a h e
    exact ⟨fun k h1 h2 => by omega, fun n _ => ⟨rfl, rfl⟩, fun _ _ _ _ _ => rfl, fun _ _ _ _ _ => rfl⟩
  | succ f ih =>
    intro j a h e
    have nx := Jg_nx h (by omega)
    have hF := h.2.1
    have r76 : gM1 a (a 76 j).toNatClampNeg 76 = a 76 := gM1_r (by decide) (by decide) (by decide) (by decide)
    have r75 : gM1 a (a 76 j).toNatClampNeg 75 = a 75 := gM1_r (by decide) (by decide) (by decide) (by decide)
    have r26 : gM1 a (a 76 j).toNatClampNeg 126 = a 126 := gM1_r (by decide) (by decide) (by decide) (by decide)
    have r28 : gM1 a (a 76 j).toNatClampNeg 128 = a 128 := gM1_r (by decide) (by decide) (by decide) (by decide)
    have r11 : gM1 a (a 76 j).toNatClampNeg 87 11 = a 87 11 := gM1_7 (by decide) (by decide)
    have pp := gM1_p (a := a) (n := (a 76 j).toNatClampNeg)
    have rf : ∀ (m : Nat) (i : Int32), xAl a m → 0 ≤ i.toInt → i.toInt < (a 128 m).toInt - 1 → aRef (gM1 a (a 76 j).toNatClampNeg) m i = aRef a m i := fun m i hm i0 i1 => gM1_rf h.1 nx.2.2.2.2.1 nx.2.2.2.1.1 nx.2.2.2.1.2 nx.2.2.1 hm i0 i1
    have go := Jg_go h (by omega)
    have gr : ∀ c, c ≠ 71 → c ≠ 130 → c ≠ 131 → c ≠ 87 → gM1 a (a 76 j).toNatClampNeg c = a c := fun c h1 h2 h3 h4 => gM1_r h1 h2 h3 h4
    have dis : ∀ k, j < k → (k : Int) < (a 75 4).toInt → (a 76 k).toNatClampNeg ≠ (a 76 j).toNatClampNeg := fun k h1 h2 z => by
      have d := hF.2.1 j k h1 h2
      have g1 := tn_cast (hF.1 j (by omega)).1
      have g2 := tn_cast (hF.1 k h2).1
      exact d (Int32.toInt_inj.mp (by omega))
    rw [gMf_y nx.1]
    obtain ⟨i1, i2, i3, i4⟩ := ih (j + 1) (gM1 a (a 76 j).toNatClampNeg) go (by rw [r75]; omega)
    generalize gM1 a (a 76 j).toNatClampNeg = a1 at *
    rw [r76] at i1 i2
    refine ⟨fun k h1 h2 => ?_, fun n hn => ?_, fun m i hm i0 i9 => ?_, fun c h1 h2 h3 h4 => (i4 c h1 h2 h3 h4).trans (gr c h1 h2 h3 h4)⟩
    · by_cases z : k = j
      · rw [z]
        have q := i2 (a 76 j).toNatClampNeg (fun k h1 h2 => dis k (by omega) (by omega))
        rw [q.1, q.2, pp.1, pp.2.2.1]
        have eO : (a 87 10).toInt = o0 + zsg P j := h.2.2.2.2.2.1.1
        have eT : (a 87 4).toInt = st + zsg N j := h.2.2.2.2.2.2.1.1
        rcases nx.2.2.2.2.2.2.2.2 with w | w
        · refine ⟨fun _ => ?_, fun g => absurd w.1 g, rfl⟩
          rw [w.2.2.2.2, ← eO, Int32.ofInt_toInt]
        · refine ⟨fun g => absurd g w.1, fun _ => ?_, rfl⟩
          rw [w.2.2.2.2.2, ← eT, Int32.ofInt_toInt]
      · have q := i1 k (by omega) (by omega)
        have d := dis k (by omega) (by omega)
        have yg : qYg a1 (a 76 k).toNatClampNeg ↔ qYg a (a 76 k).toNatClampNeg := by
          unfold qYg
          rw [r11, pp.2.2.2 _ d]
        rw [yg, pp.2.2.2 _ d] at q
        exact q
    · have d : n ≠ (a 76 j).toNatClampNeg := fun z => hn j (by omega) (by omega) z.symm
      have q := i2 n (fun k h1 h2 => hn k (by omega) (by omega))
      rw [q.1, q.2, pp.2.1 n d, pp.2.2.2 n d]
      exact ⟨rfl, rfl⟩
    · rw [i3 m i (by unfold xAl; rw [r26]; exact hm) i0 (by rw [r28]; exact i9)]
      exact rf m i hm i0 i9
theorem YB_fin (hB : qYB us nr kr kd ws AT ho wd wi OW rt wk wl wm nu ro fo le ra pi kp ca cat cm at2 ow2 ag2 AG to o2 (2 * (aa 87 9).toInt + (aa 87 5).toInt - (aa 87 3).toInt) (aa 87 10).toInt (gKp aa)) (hC : qCl (aPc (gKp aa))) (hv : qAv aa) (hf : ¬ gFu aa) (hu : qUr wk wk' kp 16) (hm : zrm us us' kp 3100) (ho' : zowr ow2 ow3 us kp at2) : qRB us' nr kr kd ws at2 ho wd wi ow3 rt wk' wl wm nu ro fo le ra pi (gMf (gMk1 aa 75 4).toInt.toNat 0 (gMk1 aa)) ∧ to = gMf (gMk1 aa 75 4).toInt.toNat 0 (gMk1 aa) 87 4 ∧ o2 = gMf (gMk1 aa 75 4).toInt.toNat 0 (gMk1 aa) 87 10 ∧ ∀ s, s < 3100 → us' s ≠ 0 → ag2 s = gMf (gMk1 aa 75 4).toInt.toNat 0 (gMk1 aa) 131 (nr s).toNatClampNeg := by
  have hK := KB_yq hB.2.1 hB.1.1
  have RBp : qRB us nr kr kd ws AT ho wd wi OW rt wk wl wm nu ro fo le ra pi (aPc (gKp aa)) := RB_of hB.1 (fun c' k q1 _ q3 => (Pc_o q1 q3).symm)
  have R0 := RB_mv RBp (Kp_I hv).1 hK (CK_of hC RBp hK) (by rw [Pc_5]; decide) hu hm (fun p _ => Or.inl rfl : zowr OW OW us kp AT)
  rw [← Mi_b hv] at R0
  have R1 := RB_of R0 oPc
  have R : qRB us' nr kr kd ws AT ho wd wi OW rt wk' wl wm nu ro fo le ra pi (gMk1 aa) := RB_87k (RB_87k R1 (by decide) (by decide) (by decide) (by decide) (by decide)) (by decide) (by decide) (by decide) (by decide) (by decide)
  have J := Jg_0 hv hf
  have r87 : ∀ k, k ≠ 3 → k ≠ 4 → gMk1 aa 87 k = aa 87 k := fun k h3 h4 => by
    show ma_u (ma_u (gMk0 aa) 87 3 _) 87 4 _ 87 k = _
    rw [xu_o (fun z => h4 z.2), xu_o (fun z => h3 z.2), Mi_8 ⟨by decide, by decide⟩]
  have rr : ∀ c, c ≠ 87 → gMk1 aa c = gMk0 aa c := fun c hc => by
    show ma_u (ma_u (gMk0 aa) 87 3 _) 87 4 _ c = _
    rw [ma_u_ne _ _ _ hc, ma_u_ne _ _ _ hc]
  have w75 : gMk1 aa 75 = gKp aa 75 := (rr 75 (by decide)).trans (Mi_w (Or.inl rfl))
  have w76 : gMk1 aa 76 = gKp aa 76 := (rr 76 (by decide)).trans (Mi_w (Or.inr (Or.inl rfl)))
  have w77 : gMk0 aa 77 = gKp aa 77 := Mi_w (Or.inr (Or.inr rfl))
  have k87 : gKp aa 87 = aa 87 := Kp_r (by decide) (by decide) (by decide) (by decide) (by decide) (by decide) (by decide)
  have k28 : gKp aa 128 = aa 128 := Kp_r (by decide) (by decide) (by decide) (by decide) (by decide) (by decide) (by decide)
  have k30 : gKp aa 130 = aa 130 := Kp_r (by decide) (by decide) (by decide) (by decide) (by decide) (by decide) (by decide)
  have k31 : gKp aa 131 = aa 131 := Kp_r (by decide) (by decide) (by decide) (by decide) (by decide) (by decide) (by decide)
  have fy := Mi_FY hv
  have hcm : gMk1 aa 75 4 = cm := by rw [w75, hB.2.1.1.2]
  have c0 := YB_b hB
  have fld : ∀ n, xAl (gMk0 aa) n → gMk1 aa 128 n = gKp aa 128 n ∧ gMk1 aa 130 n = gKp aa 130 n ∧ gMk1 aa 131 n = gKp aa 131 n := fun n hn => by
    have q := (Mi_f hv hn).1
    rw [rr 128 (by decide), rr 130 (by decide), rr 131 (by decide), k28, k30, k31]
    exact ⟨q 128 (by decide) (by decide) (by decide), q 130 (by decide) (by decide) (by decide), q 131 (by decide) (by decide) (by decide)⟩
  have qal : ∀ j : Nat, (j : Int) < cm.toInt → xAl (gMk0 aa) (gKp aa 76 j).toNatClampNeg := fun j hj => by
    have g := hB.2.1.2.1.1.1 j (by rw [hB.2.1.1.2]; exact hj)
    have t := tn_cast g.1
    exact (fy.2.1 _ (by omega) (by rw [w77]; exact g.2.2.1)).1
  have gP : ∀ j : Nat, (j : Int) < cm.toInt → gPf (gMk1 aa) j = gPf (gKp aa) j ∧ gNf (gMk1 aa) j = gNf (gKp aa) j ∧ (qYg (gMk1 aa) (gKp aa 76 j).toNatClampNeg ↔ qYg (gKp aa) (gKp aa 76 j).toNatClampNeg) := fun j hj => by
    have q := fld _ (qal j hj)
    unfold gPf gNf qYg
    rw [w76, q.1, q.2.2, r87 11 (by decide) (by decide), k87]
    exact ⟨rfl, rfl, Iff.rfl⟩
  have sP : ∀ j : Nat, (j : Int) ≤ cm.toInt → zsg (gPf (gMk1 aa)) j = zsg (gPf (gKp aa)) j ∧ zsg (gNf (gMk1 aa)) j = zsg (gNf (gKp aa)) j := fun j hj => ⟨sg_cgN j (fun k hk => (gP k (by omega)).1), sg_cgN j (fun k hk => (gP k (by omega)).2.1)⟩
  rw [hcm]
  have F := gMf_pl cm.toInt.toNat 0 (gMk1 aa) J (by rw [hcm]; omega)
  have JJ := gMf_J cm.toInt.toNat 0 (gMk1 aa) J (by rw [hcm]; omega)
  have f7 : ∀ k, k ≠ 4 → k ≠ 10 → gMf cm.toInt.toNat 0 (gMk1 aa) 87 k = gMk1 aa 87 k := fun k h1 h2 => gMf_7 h1 h2 _ _ _
  generalize gMf cm.toInt.toNat 0 (gMk1 aa) = G at *
  obtain ⟨F1, F2, F3, F4⟩ := F
  have nes := fun k ht hut => YP_ne hB.2.2 hB.2.1 hB.1.1 (k := k) ht hut
  have hQ := hB.2.1
  obtain ⟨p1, ⟨p2, p2'⟩, p3, p4, p5, hA, hF, f5, es, eo⟩ := hB.2.2
  have pos : ∀ s, s < 3100 → us' s ≠ 0 → (us s ≠ 0 ∧ kp s ≠ 0) ∧ G 130 (nr s).toNatClampNeg = at2 s ∧ G 131 (nr s).toNatClampNeg = ag2 s := fun s hs hu' => by
    have z := ((hm s hs).1 hs).mp hu'
    refine ⟨z, ?_⟩
    by_cases w : gKp aa 77 (nr s).toNatClampNeg = 0
    · have al := R1_al R1.1 hs hu'
      have q := F2 (nr s).toNatClampNeg (fun k _ h2 e => by
        have g := hQ.2.1.1.1 k (by rw [hQ.1.2]; omega)
        rw [← w76, e, w] at g
        exact g.2.2.1 rfl)
      have fl := fld _ al
      have e3 := p3 s hs z.1 w
      rw [q.1, q.2, fl.2.1, fl.2.2, e3.1, e3.2, p5 s hs z.1, (hB.1.1.1 s hs z.1).2.2.2.1]
      exact ⟨rfl, rfl⟩
    · obtain ⟨j, hj, et, ej⟩ := YQ_j hQ hB.1.1 hs z.1 w
      have pj := p1 j hj
      have fj := F1 j (by omega) (by omega)
      have gj := gP j hj
      have sj := sP j (by omega)
      have fl := fld _ (qal j hj)
      rw [et] at pj
      rw [w76, gj.2.2, sj.1, sj.2, fl.2.2, ej] at fj
      rw [ej] at pj
      rw [fj.2.2, pj.2.2, p5 s hs z.1]
      refine ⟨?_, rfl⟩
      by_cases g : qYg (gKp aa) (nr s).toNatClampNeg
      · rw [fj.1 g, ← pj.1 g, Int32.ofInt_toInt]
      · rw [fj.2.1 g, ← pj.2.1 g, Int32.ofInt_toInt]
  refine ⟨⟨⟨fun s hs hu' => ?_, R.1.2.1, fun n hn h1 => ?_⟩, fun s hs hu' i hi => ?_, ?_, ?_, ?_, ?_, fun s hs hu' => ?_, ?_⟩, ?_, ?_, fun s hs hu' => (pos s hs hu').2.2.symm⟩
  · have q := R.1.1 s hs hu'
    have w := pos s hs hu'
    rw [F4 126 (by decide) (by decide) (by decide) (by decide), F4 128 (by decide) (by decide) (by decide) (by decide), F4 133 (by decide) (by decide) (by decide) (by decide)]
    exact ⟨q.1, q.2.1, q.2.2.1, w.2.1, q.2.2.2.2.1, q.2.2.2.2.2.1, (nes s hs w.1.1).1⟩
  · rw [F4 126 (by decide) (by decide) (by decide) (by decide)] at h1
    exact R.1.2.2 n hn h1
  · have q := R.2.1 s hs hu' i hi
    have g := R.1.1 s hs hu'
    have sz2 : (gMk1 aa 128 (nr s).toNatClampNeg).toInt = (ws s).toInt + 1 := by
      rw [g.2.2.1]
      exact i_addk rfl (by have := g.2.2.2.2.2.1; omega) (by have := g.2.2.2.2.2.1; omega)
    have ei : (Int32.ofNat i).toInt = (i : Int) := ofN_s (by have := g.2.2.2.2.2.1; omega)
    rw [F3 _ _ (R1_al R.1 hs hu') (by omega) (by omega), F4 (1000 + (nr s).toNatClampNeg) (by omega) (by omega) (by omega) (by omega)]
    exact q
  · unfold qR3
    rw [F4 72 (by decide) (by decide) (by decide) (by decide)]
    exact R.2.2.1
  · unfold qR3
    rw [F4 73 (by decide) (by decide) (by decide) (by decide)]
    exact R.2.2.2.1
  · unfold qR5
    rw [F4 69 (by decide) (by decide) (by decide) (by decide), F4 74 (by decide) (by decide) (by decide) (by decide)]
    exact R.2.2.2.2.1
  · unfold qR6
    rw [F4 134 (by decide) (by decide) (by decide) (by decide)]
    exact R.2.2.2.2.2.1
  · have w := pos s hs hu'
    have o2 := p4 s hs w.1.1
    have nb := nes s hs w.1.1
    have t := tn_cast (x := at2 s) nb.1
    rcases ho' (at2 s).toNatClampNeg (by omega) with g | ⟨_, t, ht, hut, hkt, hat⟩
    · rw [g]
      exact o2
    · have o3 := p4 t ht hut
      have e3 : (at2 t).toNatClampNeg = (at2 s).toNatClampNeg := by
        have t2 := tn_cast (x := at2 t) (by omega)
        omega
      rw [e3, o2] at o3
      have e4 := congrArg Int32.toInt o3
      rw [ofN_s hs, ofN_s ht] at e4
      exact absurd hkt (by rw [show t = s from by omega]; exact w.1.2)
  · unfold qR8
    rw [F4 69 (by decide) (by decide) (by decide) (by decide), f7 0 (by decide) (by decide), f7 1 (by decide) (by decide), f7 2 (by decide) (by decide), f7 6 (by decide) (by decide), f7 7 (by decide) (by decide)]
    exact R.2.2.2.2.2.2.2
  · have e := JJ.2.2.2.2.2.2.1.1
    rw [Nat.zero_add, (sP _ (by omega)).2] at e
    exact Int32.toInt_inj.mp (by rw [e, p2])
  · have e := JJ.2.2.2.2.2.1.1
    rw [Nat.zero_add, (sP _ (by omega)).1] at e
    exact Int32.toInt_inj.mp (by rw [e, p2'])
end F33
