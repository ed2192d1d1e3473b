/-! from 95.v01 -/
/-! AGES, the reference (written by wip/tools/gen15v.py) -/
/-! AGES, the reference: all that came, ROOTS, WISHES, dirty cards, wishers -/
def qYS (us nr kr kd ws AT ho wd wi OW rt wk wl : Nat → Int32) (wm nu ro fo le ra pi : Int32) (kp ca : Nat → Int32) (cat cm : Int32) (at2 ow2 ag2 AG : Nat → Int32) (to o2 : Int32) (st o0 : Int) (T : Nat → Nat → Int32) : Prop := ∃ (c : Nat → Nat → Int32) (f : Nat), qYB us nr kr kd ws AT ho wd wi OW rt wk wl wm nu ro fo le ra pi kp ca cat cm at2 ow2 ag2 AG to o2 st o0 c ∧ aSp f c = T ∧ 512 ≤ (f : Int) + cat.toInt
def qYW (us nr kr kd ws AT ho wd wi OW rt wk wl : Nat → Int32) (wm nu ro fo le ra pi : Int32) (kp ca : Nat → Int32) (cat cm : Int32) (at2 ow2 ag2 AG : Nat → Int32) (to o2 : Int32) (st o0 : Int) (s i : Int32) (T : Nat → Nat → Int32) : Prop := ∃ (c : Nat → Nat → Int32) (f : Nat), (qYB us nr kr kd ws AT ho wd wi OW rt wk wl wm nu ro fo le ra pi kp ca cat cm at2 ow2 ag2 AG to o2 st o0 c ∧ aSp f (aCw c (nr s.toNatClampNeg).toNatClampNeg i) = T ∧ 512 ≤ (f : Int) + cat.toInt) ∧ 0 ≤ s.toInt ∧ s.toInt ≤ 3099 ∧ us s.toNatClampNeg ≠ 0
def qYR (us nr kr kd ws AT ho wd wi OW rt wk wl : Nat → Int32) (wm nu ro fo le ra pi : Int32) (kp ca : Nat → Int32) (cat cm : Int32) (at2 ow2 ag2 AG : Nat → Int32) (to o2 : Int32) (st o0 : Int) (i : Int32) (T : Nat → Nat → Int32) : Prop := ∃ c, qYB us nr kr kd ws AT ho wd wi OW rt wk wl wm nu ro fo le ra pi kp ca cat cm at2 ow2 ag2 AG to o2 st o0 c ∧ aRo c i = T
def qYX (us nr kr kd ws AT ho wd wi OW rt wk wl : Nat → Int32) (wm nu ro fo le ra pi : Int32) (kp ca : Nat → Int32) (cat cm : Int32) (at2 ow2 ag2 AG : Nat → Int32) (to o2 : Int32) (st o0 : Int) (i : Int32) (T : Nat → Nat → Int32) : Prop := ∃ c, qYB us nr kr kd ws AT ho wd wi OW rt wk wl wm nu ro fo le ra pi kp ca cat cm at2 ow2 ag2 AG to o2 st o0 c ∧ aWi c i = T
/-- the reference's dirty cards -/
def qDt (dt : Nat → Int32) (c : Nat → Nat → Int32) : Prop := ∀ k, k < 375 → (dt k ≠ 0 ↔ c 83 k ≠ 0)
def qYD (us nr kr kd ws AT ho wd wi OW rt wk wl : Nat → Int32) (wm nu ro fo le ra pi : Int32) (kp ca : Nat → Int32) (cat cm : Int32) (at2 ow2 ag2 AG : Nat → Int32) (to o2 : Int32) (st o0 : Int) (dt : Nat → Int32) (p : Int) (T : Nat → Nat → Int32) : Prop := ∃ c, qYB us nr kr kd ws AT ho wd wi OW rt wk wl wm nu ro fo le ra pi kp ca cat cm at2 ow2 ag2 AG to o2 st o0 c ∧ qDt dt c ∧ (qGd c p ∧ 0 ≤ p) ∧ gDp c o0 p = T
def qYE (us nr kr kd ws AT ho wd wi OW rt wk wl : Nat → Int32) (wm nu ro fo le ra pi : Int32) (kp ca : Nat → Int32) (cat cm : Int32) (at2 ow2 ag2 AG : Nat → Int32) (to o2 : Int32) (st o0 : Int) (dt : Nat → Int32) (p : Int) (s i : Int32) (T : Nat → Nat → Int32) : Prop := ∃ c, qYB us nr kr kd ws AT ho wd wi OW rt wk wl wm nu ro fo le ra pi kp ca cat cm at2 ow2 ag2 AG to o2 st o0 c ∧ qDt dt c ∧ (0 ≤ s.toInt ∧ s.toInt ≤ 3099 ∧ us s.toNatClampNeg ≠ 0) ∧ ((c 130 (nr s.toNatClampNeg).toNatClampNeg).toInt = p ∧ 0 ≤ p ∧ p < o0 ∧ qGd c p) ∧ gDp (gDw c (nr s.toNatClampNeg).toNatClampNeg i) o0 (p + (c 128 (nr s.toNatClampNeg).toNatClampNeg).toInt) = T
def qYG (us nr kr kd ws AT ho wd wi OW rt wk wl : Nat → Int32) (wm nu ro fo le ra pi : Int32) (kp ca : Nat → Int32) (cat cm : Int32) (at2 ow2 ag2 AG : Nat → Int32) (to o2 : Int32) (st o0 : Int) (x : Int32) (T : Nat → Nat → Int32) : Prop := ∃ (b : Nat → Nat → Int32) (l : Int32), qYB us nr kr kd ws AT ho wd wi OW rt wk wl wm nu ro fo le ra pi kp ca cat cm at2 ow2 ag2 AG to o2 st o0 b ∧ qE0 (aPc b) ∧ qCl (aPc b) ∧ (-1 ≤ l.toInt ∧ l.toInt + 1 ≤ (b 69 6).toInt) ∧ qMin (qCw us kp wi nr l) nr x 3100 ∧ aGw b (l + 1) = T
section F32
variable {cat₉ : Int32} {a b c d aa T : Nat → Nat → Int32} {us us₉ nr kr kd ws AT AG at2 at3 ag2 ag3 ho wd wi wi₉ OW ow2 ow3 rt wk wk₉ wl wl₉ kp kp₉ ca ca₉ dt : Nat → Int32} {wm wm₉ nu ro fo le ra pi cat cm cm₉ to to₉ o2 o2₉ tg s x x2 y i l cd : Int32} {st o0 p p2 : Int} {j k n f : Nat} {P N : Nat → Int} {ot : Int}
theorem YS_0 (h : qYB us nr kr kd ws AT ho wd wi OW rt wk wl wm nu ro fo le ra pi kp ca cat cm at2 ow2 ag2 AG to o2 st o0 c) : qYS us nr kr kd ws AT ho wd wi OW rt wk wl wm nu ro fo le ra pi kp ca cat cm at2 ow2 ag2 AG to o2 st o0 (aSp 512 c) := ⟨c, 512, h, rfl, by have := YB_b h; omega⟩
theorem YS_b (h : qYS us nr kr kd ws AT ho wd wi OW rt wk wl wm nu ro fo le ra pi kp ca cat cm at2 ow2 ag2 AG to o2 st o0 d) : 0 ≤ cat.toInt ∧ cat.toInt ≤ cm.toInt ∧ cm.toInt ≤ 512 := by
  obtain ⟨c, f, hB, _, _⟩ := h
  exact YB_b hB
theorem YS_end (h : qYS us nr kr kd ws AT ho wd wi OW rt wk wl wm nu ro fo le ra pi kp ca cat cm at2 ow2 ag2 AG to o2 st o0 d) (hl : ¬ cat.toInt < cm.toInt) : qYB us nr kr kd ws AT ho wd wi OW rt wk wl wm nu ro fo le ra pi kp ca cat cm at2 ow2 ag2 AG to o2 st o0 d := by
  obtain ⟨c, f, hB, hT, _⟩ := h
  have e : aSp f c = c := by
    cases f with
    | zero => rfl
    | succ f =>
      show (if (c 75 3).toInt < (c 75 4).toInt then _ else c) = c
      rw [hB.2.1.1.1, hB.2.1.1.2, if_neg hl]
  rw [← hT, e]
  exact hB
theorem YB_hd (h : qYB us nr kr kd ws AT ho wd wi OW rt wk wl wm nu ro fo le ra pi kp ca cat cm at2 ow2 ag2 AG to o2 st o0 c) (hl : cat.toInt < cm.toInt) : qYB us nr kr kd ws AT ho wd wi OW rt wk wl wm nu ro fo le ra pi kp ca (cat + 1) cm at2 ow2 ag2 AG to o2 st o0 (ma_u (ma_u c 75 3 (c 75 3 + 1)) 77 (c 76 (c 75 3).toNatClampNeg).toNatClampNeg 2) := by
  obtain ⟨hR, ⟨⟨q1, q2⟩, q3, q4, q5, q6, q7⟩, p1, p2, p3, p4, p5, hA, hF, f5, es, eo⟩ := h
  have q44 := q3.1.2.2.2
  have e1 : (c 75 3 + 1).toInt = (c 75 3).toInt + 1 := i_p1 (by omega)
  have t := tn_cast (x := c 75 3) q44.1
  have hq := q3.1.1 (c 75 3).toNatClampNeg (by rw [q2, t, q1]; exact hl)
  generalize hz : (c 76 (c 75 3).toNatClampNeg).toNatClampNeg = z at *
  have of : zOf c (ma_u (ma_u c 75 3 (c 75 3 + 1)) 77 z 2) := fun c₉ k h1 h2 h3 => by rw [xu_o (fun w => h3 w.1), xu_o (fun w => h1 w.1)]
  have r3 : (ma_u (ma_u c 75 3 (c 75 3 + 1)) 77 z 2) 75 3 = c 75 3 + 1 := by rw [xu_o (by omega), xu_s]
  have r4 : (ma_u (ma_u c 75 3 (c 75 3 + 1)) 77 z 2) 75 4 = c 75 4 := by rw [xu_o (by omega), xu_o (by omega)]
  have r5 : (ma_u (ma_u c 75 3 (c 75 3 + 1)) 77 z 2) 75 5 = c 75 5 := by rw [xu_o (by omega), xu_o (by omega)]
  have r6 : (ma_u (ma_u c 75 3 (c 75 3 + 1)) 77 z 2) 76 = c 76 := by rw [ma_u_ne _ _ _ (by decide), ma_u_ne _ _ _ (by decide)]
  have rc : (ma_u (ma_u c 75 3 (c 75 3 + 1)) 77 z 2) 77 = ma_u c 77 z 2 77 := by
    funext k
    show (if (77 : Nat) = 77 ∧ k = z then (2 : Int32) else ma_u c 75 3 _ 77 k) = (if (77 : Nat) = 77 ∧ k = z then (2 : Int32) else c 77 k)
    rw [xu_o (by omega)]
  have r7 : ∀ x, (ma_u (ma_u c 75 3 (c 75 3 + 1)) 77 z 2) 77 x ≠ 0 ↔ c 77 x ≠ 0 := fun x => by
    rw [rc]
    by_cases w : x = z
    · rw [w, xu_s]
      exact ⟨fun _ => hq.2.2.1, fun _ => by decide⟩
    · rw [xu_o (fun y => w y.2)]
  generalize ma_u (ma_u c 75 3 (c 75 3 + 1)) 77 z 2 = B at *
  have r26 := of_r of (k := 126) (by decide) (by decide) (by decide)
  have r28 := of_r of (k := 128) (by decide) (by decide) (by decide)
  have r30 := of_r of (k := 130) (by decide) (by decide) (by decide)
  have r31 := of_r of (k := 131) (by decide) (by decide) (by decide)
  have r87 := of_r of (k := 87) (by decide) (by decide) (by decide)
  have gP : gPf B = gPf c := funext (fun j => by unfold gPf; rw [r6, r28, r31, r87])
  have gN : gNf B = gNf c := funext (fun j => by unfold gNf; rw [r6, r28, r31, r87])
  have yg : ∀ n, qYg B n ↔ qYg c n := fun n => yg_r r87 r31
  refine ⟨RB_of hR of, ⟨⟨by rw [r3, q1], r4.trans q2⟩, ⟨⟨?_, ?_, ?_, ?_⟩, ?_⟩, ?_, q5, fun t ht hu => ?_, fun j hj => by rw [r6]; exact q7 j hj⟩, fun j hj => ?_, ?_, fun s hs hu w => ?_, p4, fun s hs hu => by rw [r31]; exact p5 s hs hu, A0_of hA of, Fu_of hF of, by rw [r5, r87]; exact f5, by rw [r87]; exact es, by rw [r87]; exact eo⟩
  · intro j hj
    rw [r4] at hj
    have g := q3.1.1 j hj
    rw [r6, r26]
    exact ⟨g.1, g.2.1, (r7 _).mpr g.2.2.1, g.2.2.2⟩
  · intro j j₉ h1 h2
    rw [r4] at h2
    rw [r6]
    exact q3.1.2.1 j j₉ h1 h2
  · intro x hx w
    rw [r4, r6]
    exact q3.1.2.2.1 x hx ((r7 x).mp w)
  · rw [r3, r4, e1]
    rw [q1, q2] at *
    omega
  · intro x hx w
    rw [r5, r30]
    exact q3.2 x hx ((r7 x).mp w)
  · rw [r4, rc]
    have w := cnt_u1 (m := c) (c := 77) (k := z) (x := (2 : Int32)) (n := 512) (by decide)
    omega
  · rw [r30, r5]
    exact (q6 t ht hu).trans (or_congr Iff.rfl (r7 _).symm)
  · rw [yg, r6, gP, gN]
    exact p1 j hj
  · rw [gP, gN]
    exact p2
  · refine p3 s hs hu ?_
    by_cases v : c 77 (nr s).toNatClampNeg = 0
    · exact v
    · exact absurd w ((r7 _).mpr v)
theorem YS_go (h : qYS us nr kr kd ws AT ho wd wi OW rt wk wl wm nu ro fo le ra pi kp ca cat cm at2 ow2 ag2 AG to o2 st o0 d) (hl : cat.toInt < cm.toInt) (hs : s = ca cat.toNatClampNeg) (hx : x = cat + 1) : qYW us nr kr kd ws AT ho wd wi OW rt wk wl wm nu ro fo le ra pi kp ca x cm at2 ow2 ag2 AG to o2 st o0 s 0 d := by
  obtain ⟨c, f, hB, hT, hf⟩ := h
  have b := YB_b hB
  have t := tn_cast (x := cat) b.1
  have g := hB.2.1.2.2.2.2.2 cat.toNatClampNeg (by omega)
  have e1 : (cat + 1).toInt = cat.toInt + 1 := i_p1 (by omega)
  have q := hB.1.1.1 _ (tn_lt g.1.1 g.1.2.1) g.1.2.2
  have hd := YB_hd hB hl
  cases f with
  | zero => omega
  | succ f =>
    have e2 : aSp (f + 1) c = aSp f (aPop c) := by
      show (if (c 75 3).toInt < (c 75 4).toInt then aSp f (aPop c) else c) = _
      rw [hB.2.1.1.1, hB.2.1.1.2, if_pos hl]
    have e3 : c 76 (c 75 3).toNatClampNeg = nr s.toNatClampNeg := by
      rw [hB.2.1.1.1, g.2, hs]
    rw [← hs] at g q
    have e4 := aPop_y e3 q.1.1 q.1.2 q.2.1
    rw [e3] at hd
    rw [hx]
    exact ⟨_, f, ⟨hd, by rw [← e4, ← e2]; exact hT, by omega⟩, g.1.1, by have := g.1.2.1; omega, g.1.2.2⟩
theorem YW_rf (h : qYB us nr kr kd ws AT ho wd wi OW rt wk wl wm nu ro fo le ra pi kp ca cat cm at2 ow2 ag2 AG to o2 st o0 c) (h0 : 0 ≤ s.toInt) (h3 : s.toInt ≤ 3099) (hu : us s.toNatClampNeg ≠ 0) (hi : 0 ≤ i.toInt) (hw : i.toInt < (ws s.toNatClampNeg).toInt) (hx : zrf kr kd wd s.toNatClampNeg i.toNatClampNeg = x) : qU us x ∧ aCw c (nr s.toNatClampNeg).toNatClampNeg i = aCw (aCm c (qNo nr x)) (nr s.toNatClampNeg).toNatClampNeg (i + 1) := by
  have t := tn_cast hi
  have q := h.1.2.1 _ (tn_lt h0 (by omega)) hu i.toNatClampNeg (by omega)
  have r := h.1.1.1 _ (tn_lt h0 (by omega)) hu
  have sz : (c 128 (nr s.toNatClampNeg).toNatClampNeg).toInt = (ws s.toNatClampNeg).toInt + 1 := by
    rw [r.2.2.1]
    exact i_addk rfl (by have := r.2.2.2.2.2.1; omega) (by have := r.2.2.2.2.2.1; omega)
  rw [hx] at q
  refine ⟨q.1, ?_⟩
  rw [aCw_go (by omega), ← q.2.1, ofN_tn hi]
theorem YW_end (h : qYW us nr kr kd ws AT ho wd wi OW rt wk wl wm nu ro fo le ra pi kp ca cat cm at2 ow2 ag2 AG to o2 st o0 s i d) (hi : 0 ≤ i.toInt) (hw : ¬ i.toInt < (ws s.toNatClampNeg).toInt) : qYS us nr kr kd ws AT ho wd wi OW rt wk wl wm nu ro fo le ra pi kp ca cat cm at2 ow2 ag2 AG to o2 st o0 d := by
  obtain ⟨c, f, ⟨hB, hT, hf⟩, h0, h3, hu⟩ := h
  have r := hB.1.1.1 _ (tn_lt h0 (by omega)) hu
  have sz : (c 128 (nr s.toNatClampNeg).toNatClampNeg).toInt = (ws s.toNatClampNeg).toInt + 1 := by
    rw [r.2.2.1]
    exact i_addk rfl (by have := r.2.2.2.2.2.1; omega) (by have := r.2.2.2.2.2.1; omega)
  rw [aCw_st (by omega)] at hT
  exact ⟨c, f, hB, hT, hf⟩
/-! ROOTS, WISHES -/
theorem YB_wh (hR : qRB us nr kr kd ws AT ho wd wi OW rt wk wl wm nu ro fo le ra pi a) (hv : qAv a) (hf : ¬ gFu a) (hg : ∀ s, s < 3100 → us s ≠ 0 → AG s = a 131 (nr s).toNatClampNeg) (hk : ∀ s, s < 3100 → (kp s ≠ 0 ↔ us s ≠ 0 ∧ (AT s).toInt < (a 87 9).toInt)) (h1 : cat.toInt = 0) (h2 : cm.toInt = 0) (ht : to.toInt = 2 * (a 87 9).toInt + (a 87 5).toInt - (a 87 3).toInt) (h10 : o2 = a 87 10) : qYB us nr kr kd ws AT ho wd wi OW rt wk wl wm nu ro fo le ra pi kp ca cat cm AT OW AG AG to o2 (2 * (a 87 9).toInt + (a 87 5).toInt - (a 87 3).toInt) (a 87 10).toInt (aWh a (a 87 9)) := by
  have o := wh_of (a := a) (x := a 87 9)
  have c0 : cat = 0 := Int32.toInt_inj.mp (by rw [h1]; rfl)
  have m0 : cm = 0 := Int32.toInt_inj.mp (by rw [h2]; rfl)
  have r3 : aWh a (a 87 9) 75 3 = 0 := by
    unfold aWh
    rw [xu_o (by omega), xu_o (by omega), xu_s]
  have r4 : aWh a (a 87 9) 75 4 = 0 := by
    unfold aWh
    rw [xu_o (by omega), xu_s]
  have r30 := of_r o (k := 130) (by decide) (by decide) (by decide)
  have r31 := of_r o (k := 131) (by decide) (by decide) (by decide)
  have r87 := of_r o (k := 87) (by decide) (by decide) (by decide)
  have z4 : (0 : Int32).toInt = 0 := rfl
  refine ⟨RB_of hR o, ⟨⟨by rw [r3, c0], by rw [r4, m0]⟩, FY_wh, by rw [r4, z4]; omega, fun s hs z => ((hk s hs).mp z).1, fun s hs hu => ?_, fun j hj => absurd hj (by omega)⟩, fun j hj => absurd hj (by omega), ⟨?_, ?_⟩, fun _ _ _ _ => ⟨rfl, rfl⟩, hR.2.2.2.2.2.2.1, fun s hs hu => by rw [r31]; exact hg s hs hu, A0_of (Av_0 hv) o, Fu_of hf o, by rw [wh_5, r87], by rw [r87], by rw [r87]⟩
  · have q := hR.1.1 s hs hu
    have n5 := tn_cast q.1.1
    have n6 := q.1.2
    rw [r30, wh_5, wh_7 (by omega), q.2.2.2.1]
    exact (hk s hs).trans ⟨fun z => Or.inl z.2, fun z => z.elim (fun w => ⟨hu, w⟩) (fun w => absurd rfl w)⟩
  · rw [ht, h2]
    show _ = _ + (0 : Int)
    omega
  · rw [h10, h2]
    show _ = _ + (0 : Int)
    omega
theorem YR_0 (h : qYB us nr kr kd ws AT ho wd wi OW rt wk wl wm nu ro fo le ra pi kp ca cat cm at2 ow2 ag2 AG to o2 st o0 c) (hi : i.toInt = 0) : qYR us nr kr kd ws AT ho wd wi OW rt wk wl wm nu ro fo le ra pi kp ca cat cm at2 ow2 ag2 AG to o2 st o0 i (aRo c 0) := ⟨c, h, by rw [show i = 0 from Int32.toInt_inj.mp (by rw [hi]; rfl)]⟩
theorem YR_rt (h : qYB us nr kr kd ws AT ho wd wi OW rt wk wl wm nu ro fo le ra pi kp ca cat cm at2 ow2 ag2 AG to o2 st o0 c) (hi : 0 ≤ i.toInt) (h6 : i.toInt < 16) (hx : x = rt i.toNatClampNeg) : qU us x ∧ aRo c i = aRo (aCm c (qNo nr x)) (i + 1) := by
  have t := tn_cast hi
  have q := h.1.2.2.1 i.toNatClampNeg (by omega)
  rw [aRo_go h6, q.2, hx]
  exact ⟨q.1, rfl⟩
theorem YX_wl (h : qYB us nr kr kd ws AT ho wd wi OW rt wk wl wm nu ro fo le ra pi kp ca cat cm at2 ow2 ag2 AG to o2 st o0 c) (hi : 0 ≤ i.toInt) (h6 : i.toInt < wm.toInt) (hx : x = wl i.toNatClampNeg) : (0 ≤ x.toInt ∧ qU us x) ∧ aWi c i = aWi (aCm c (qNo nr x)) (i + 1) := by
  have t := tn_cast hi
  have q := h.1.2.2.2.2.1
  have g := q.2 i.toNatClampNeg (by omega)
  rw [hx]
  refine ⟨⟨g.1.1, Or.inr ⟨g.1.2.1, g.1.2.2⟩⟩, ?_⟩
  rw [aWi_go (by rw [q.1]; exact h6), g.2, No_y g.1.1]
theorem YR_end (h : qYR us nr kr kd ws AT ho wd wi OW rt wk wl wm nu ro fo le ra pi kp ca cat cm at2 ow2 ag2 AG to o2 st o0 i T) (h6 : ¬ i.toInt < 16) (hx : x.toInt = 0) : qYX us nr kr kd ws AT ho wd wi OW rt wk wl wm nu ro fo le ra pi kp ca cat cm at2 ow2 ag2 AG to o2 st o0 x T := by
  obtain ⟨c, hB, hT⟩ := h
  rw [aRo_st h6] at hT
  exact ⟨c, hB, by rw [show x = 0 from Int32.toInt_inj.mp (by rw [hx]; rfl)]; exact hT⟩
theorem yHo_0 : ∀ (f : Nat) (n : Int32) (c : Nat → Nat → Int32), (∀ x, xAl c x → c 133 x = 0 ∨ (c 130 x).toInt < (c 75 5).toInt) → aHf f n c = c := by
  intro f
  induction f with
  | zero => intro n c h; rfl
  | succ f ih =>
    intro n c h
    have e : (if 0 ≤ n.toInt ∧ n.toInt < 512 ∧ c 126 n.toNatClampNeg ≠ 0 ∧ 0 < (c 133 n.toNatClampNeg).toInt then aCm c n else c) = c := by
      by_cases z : 0 ≤ n.toInt ∧ n.toInt < 512 ∧ c 126 n.toNatClampNeg ≠ 0 ∧ 0 < (c 133 n.toNatClampNeg).toInt
      · rw [if_pos z]
        have t := tn_cast z.1
        refine aCm_n (fun w => ?_)
        rcases h n.toNatClampNeg ⟨by omega, z.2.2.1⟩ with q | q
        · have z4 := z.2.2.2
          rw [q] at z4
          exact absurd z4 (by decide)
        · have := w.2.2.2.1
          omega
      · exact if_neg z
    show aHf f (n + 1) _ = c
    rw [e]
    exact ih _ _ h
theorem YX_end (h : qYX us nr kr kd ws AT ho wd wi OW rt wk wl wm nu ro fo le ra pi kp ca cat cm at2 ow2 ag2 AG to o2 st o0 i T) (h6 : ¬ i.toInt < wm.toInt) : qYB us nr kr kd ws AT ho wd wi OW rt wk wl wm nu ro fo le ra pi kp ca cat cm at2 ow2 ag2 AG to o2 st o0 T := by
  obtain ⟨c, hB, hT⟩ := h
  rw [aWi_st (by rw [hB.1.2.2.2.2.1.1]; exact h6)] at hT
  have e : aHo c 0 = c := yHo_0 _ _ _ (fun x hx => by
    have hA := hB.2.2.2.2.2.2.2.1
    have f5 := hB.2.2.2.2.2.2.2.2.2.1
    have a1 := hA.2.2.2.2.2.2 x hx
    rw [f5]
    by_cases w : (c 130 x).toInt < (c 87 9).toInt
    · exact Or.inr w
    · exact Or.inl (a1.2.2 (by omega)).2.2)
  rw [← hT, e]
  exact hB
/-! dirty cards -/
theorem Dt_cm (h : qDt dt c) : qDt dt (aCm c y) := fun k hk => by
  rw [aCm_o ⟨by decide, by decide, by decide⟩]
  exact h k hk
theorem Gd_of (h : qGd c p) (o : zOf c d) : qGd d p := fun n hn => by
  rw [of_r o (k := 130) (by decide) (by decide) (by decide), of_r o (k := 128) (by decide) (by decide) (by decide)]
  exact h n ((Of_al o).mp hn)
/-- those that lie in OLD below o0 have not moved -/
theorem YB_lo (h : qYB us nr kr kd ws AT ho wd wi OW rt wk wl wm nu ro fo le ra pi kp ca cat cm at2 ow2 ag2 AG to o2 st o0 c) (hk : k < 3100) (hu : us k ≠ 0) : ((at2 k).toInt < o0 → at2 k = AT k) ∧ ((AT k).toInt < o0 → at2 k = AT k) := by
  have hQ := h.2.1
  obtain ⟨p1, ⟨p2, p2₉⟩, p3, p4, p5, hA, hF, f5, es, eo⟩ := h.2.2
  have bd := YP_bd hQ hA f5
  have a3 := hA.2.2.1
  have a4 := hA.2.2.2.1
  have a6 := hA.2.2.2.2.2.1
  have z1 : zsg (gPf c) 0 = 0 := rfl
  have z2 : zsg (gNf c) 0 = 0 := rfl
  have c0 : 0 ≤ cm.toInt := by
    have := YB_b h
    omega
  have gP := sg_le (F := gPf c) (m := cm.toInt.toNat) (fun i hi => (bd.1 i (by omega)).1)
  have gN := sg_le (F := gNf c) (m := cm.toInt.toNat) (fun i hi => (bd.1 i (by omega)).2.1)
  by_cases w : c 77 (nr k).toNatClampNeg = 0
  · have e := (p3 k hk hu w).1
    exact ⟨fun _ => e, fun _ => e⟩
  · obtain ⟨j, hj, et, ej⟩ := YQ_j hQ h.1.1 hk hu w
    have pj := p1 j hj
    rw [et] at pj
    have rt := h.1.1.1 k hk hu
    have n5 := tn_cast rt.1.1
    have fl := hQ.2.1.2 _ (by have := rt.1.2; omega) w
    rw [f5, rt.2.2.2.1] at fl
    refine ⟨fun v => ?_, fun v => absurd v (by omega)⟩
    by_cases g : qYg c (c 76 j).toNatClampNeg
    · have e := pj.1 g
      have l0 := gP j (by omega) 0 (by omega)
      omega
    · have e := pj.2.1 g
      have l0 := gN j (by omega) 0 (by omega)
      omega
theorem YD_0 (h : qYB us nr kr kd ws AT ho wd wi OW rt wk wl wm nu ro fo le ra pi kp ca cat cm at2 ow2 ag2 AG to o2 st o0 c) (hd : qDt dt c) : qYD us nr kr kd ws AT ho wd wi OW rt wk wl wm nu ro fo le ra pi kp ca cat cm at2 ow2 ag2 AG to o2 st o0 dt 0 (gDp c o0 0) := ⟨c, h, hd, ⟨Gd_0 h.2.2.2.2.2.2.2.1.1, by omega⟩, rfl⟩
theorem YD_p (h : qYD us nr kr kd ws AT ho wd wi OW rt wk wl wm nu ro fo le ra pi kp ca cat cm at2 ow2 ag2 AG to o2 st o0 dt p T) : 0 ≤ p ∧ 0 ≤ o0 ∧ o0 ≤ 1500 := by
  obtain ⟨c, hB, _, ⟨_, h0⟩, _⟩ := h
  obtain ⟨p1, ⟨p2, p2₉⟩, p3, p4, p5, hA, hF, f5, es, eo⟩ := hB.2.2
  have a3 := hA.2.2.1
  have a6 := hA.2.2.2.2.2.1
  omega
theorem YD_fr (h : qYD us nr kr kd ws AT ho wd wi OW rt wk wl wm nu ro fo le ra pi kp ca cat cm at2 ow2 ag2 AG to o2 st o0 dt x.toInt T) (hl : x.toInt < o0) (hn : (ow2 x.toNatClampNeg).toInt < 0) (hx : x2.toInt = x.toInt + 1) : qYD us nr kr kd ws AT ho wd wi OW rt wk wl wm nu ro fo le ra pi kp ca cat cm at2 ow2 ag2 AG to o2 st o0 dt x2.toInt T := by
  have bb := YD_p h
  obtain ⟨c, hB, hd, ⟨hG, h0⟩, hT⟩ := h
  have hI := hB.2.2.2.2.2.2.2.1.1
  have o : (zOb c x.toInt).toInt < 0 := by
    refine OB_n (ow := fun p => if (p : Int) < o0 then ow2 p else OW p) hI hB.1.1 (fun s hs hu => ?_) hG h0 (by omega) ?_
    · have q := hB.1.1.1 s hs hu
      have t := tn_cast (x := AT s) q.2.2.2.2.2.2
      show (if ((AT s).toNatClampNeg : Int) < o0 then ow2 (AT s).toNatClampNeg else OW (AT s).toNatClampNeg) = Int32.ofNat s
      by_cases w : ((AT s).toNatClampNeg : Int) < o0
      · rw [if_pos w, ← (YB_lo hB hs hu).2 (by omega)]
        exact hB.2.2.2.2.2.1 s hs hu
      · rw [if_neg w]
        exact hB.1.2.2.2.2.2.2.1 s hs hu
    · have t := tn_cast h0
      show (if ((x.toInt.toNat : Nat) : Int) < o0 then ow2 x.toInt.toNat else OW x.toInt.toNat).toInt < 0
      rw [if_pos (by omega)]
      exact hn
  rw [hx]
  exact ⟨c, hB, hd, ⟨Gd_s hI hG o h0 (by omega), by omega⟩, (Dp_fr hl o).symm.trans hT⟩
theorem YD_go (h : qYD us nr kr kd ws AT ho wd wi OW rt wk wl wm nu ro fo le ra pi kp ca cat cm at2 ow2 ag2 AG to o2 st o0 dt x.toInt T) (hO : zOw us at2 ow2) (hl : x.toInt < o0) (hs : s = ow2 x.toNatClampNeg) (hs0 : 0 ≤ s.toInt) (hs3 : s.toInt ≤ 3099) (hi : i.toInt = 0) : qYE us nr kr kd ws AT ho wd wi OW rt wk wl wm nu ro fo le ra pi kp ca cat cm at2 ow2 ag2 AG to o2 st o0 dt x.toInt s i T := by
  have bb := YD_p h
  obtain ⟨c, hB, hd, ⟨hG, h0⟩, hT⟩ := h
  have hI := hB.2.2.2.2.2.2.2.1.1
  have t := tn_cast h0
  have ho := hO x.toNatClampNeg (by omega) (by rw [← hs]; exact hs0)
  rw [← hs] at ho
  have sl := tn_lt hs0 (by omega : s.toInt < 3100)
  have ea := (YB_lo hB sl ho.1).1 (by omega)
  have r := hB.1.1.1 _ sl ho.1
  have al := R1_al hB.1.1 sl ho.1
  have e71 : c 71 x.toInt.toNat = nr s.toNatClampNeg := by
    have z := (hI.1 _ al).2.2.2
    rw [r.2.2.2.1, R1_of_nr hB.1.1 sl ho.1] at z
    rw [show (AT s.toNatClampNeg).toNatClampNeg = x.toInt.toNat from by
      show (AT s.toNatClampNeg).toInt.toNat = x.toInt.toNat
      rw [← ea]
      omega] at z
    exact z
  have ob : zOb c x.toInt = nr s.toNatClampNeg := by
    unfold zOb
    rw [e71, if_pos ⟨h0, by omega, r.1.1, r.1.2, r.2.1⟩]
  have g := Dp_go (e := o0) (S1_I hI) hl (by rw [ob]; exact r.1.1)
  rw [ob, hT] at g
  have i0 : i = 0 := Int32.toInt_inj.mp (by rw [hi]; rfl)
  rw [i0]
  exact ⟨c, hB, hd, ⟨hs0, hs3, ho.1⟩, ⟨by rw [r.2.2.2.1, ← ea]; omega, h0, hl, hG⟩, g.symm⟩
theorem YE_p (h : qYE us nr kr kd ws AT ho wd wi OW rt wk wl wm nu ro fo le ra pi kp ca cat cm at2 ow2 ag2 AG to o2 st o0 dt p s i T) : 0 ≤ s.toInt ∧ s.toInt ≤ 3099 ∧ 0 ≤ p ∧ p < o0 ∧ o0 ≤ 1500 := by
  obtain ⟨c, hB, _, ⟨h0, h3, _⟩, ⟨_, hp, hl, _⟩, _⟩ := h
  obtain ⟨p1, ⟨p2, p2₉⟩, p3, p4, p5, hA, hF, f5, es, eo⟩ := hB.2.2
  have a3 := hA.2.2.1
  have a6 := hA.2.2.2.2.2.1
  omega
theorem YE_k (h : qYB us nr kr kd ws AT ho wd wi OW rt wk wl wm nu ro fo le ra pi kp ca cat cm at2 ow2 ag2 AG to o2 st o0 c) (h0 : 0 ≤ s.toInt) (h3 : s.toInt ≤ 3099) (hu : us s.toNatClampNeg ≠ 0) (he : (c 130 (nr s.toNatClampNeg).toNatClampNeg).toInt < (c 87 9).toInt) (hi : 0 ≤ i.toInt) (hw : i.toInt < (ws s.toNatClampNeg).toInt) : 0 < (c 87 12).toInt ∧ 0 ≤ gCx c (nr s.toNatClampNeg).toNatClampNeg i.toInt ∧ gCx c (nr s.toNatClampNeg).toNatClampNeg i.toInt < 375 := by
  have sl := tn_lt h0 (by omega : s.toInt < 3100)
  have r := h.1.1.1 _ sl hu
  have al := R1_al h.1.1 sl hu
  have hA := h.2.2.2.2.2.2.2.1
  have t := tn_cast hi
  have sz : (c 128 (nr s.toNatClampNeg).toNatClampNeg).toInt = (ws s.toNatClampNeg).toInt + 1 := by
    rw [r.2.2.1]
    exact i_addk rfl (by have := r.2.2.2.2.2.1; omega) (by have := r.2.2.2.2.2.1; omega)
  have g := cx_lt (i := i.toNatClampNeg) hA al he (by omega)
  rw [t] at g
  have a3 := hA.2.2.1
  exact ⟨by omega, g.1, g.2⟩
/-- a word on a dirty card comes, another does not -/
theorem YE_y (hB : qYB us nr kr kd ws AT ho wd wi OW rt wk wl wm nu ro fo le ra pi kp ca cat cm at2 ow2 ag2 AG to o2 st o0 c) (hd : qDt dt c) (h0 : 0 ≤ s.toInt) (h3 : s.toInt ≤ 3099) (hu : us s.toNatClampNeg ≠ 0) (he : (c 130 (nr s.toNatClampNeg).toNatClampNeg).toInt < (c 87 9).toInt) (hi : 0 ≤ i.toInt) (hw : i.toInt < (ws s.toNatClampNeg).toInt) (hk : (k : Int) = gCx c (nr s.toNatClampNeg).toNatClampNeg i.toInt) (hdt : dt k ≠ 0) (hx : zrf kr kd wd s.toNatClampNeg i.toNatClampNeg = x) : qU us x ∧ gDw c (nr s.toNatClampNeg).toNatClampNeg i = gDw (aCm c (qNo nr x)) (nr s.toNatClampNeg).toNatClampNeg (i + 1) := by
  have g := YE_k hB h0 h3 hu he hi hw
  have sl := tn_lt h0 (by omega : s.toInt < 3100)
  have t := tn_cast hi
  have q := hB.1.2.1 _ sl hu i.toNatClampNeg (by omega)
  have r := hB.1.1.1 _ sl hu
  have sz : (c 128 (nr s.toNatClampNeg).toNatClampNeg).toInt = (ws s.toNatClampNeg).toInt + 1 := by
    rw [r.2.2.1]
    exact i_addk rfl (by have := r.2.2.2.2.2.1; omega) (by have := r.2.2.2.2.2.1; omega)
  rw [hx] at q
  have b := r.2.2.2.2.2.1
  have e1 : (i + 1).toInt = i.toInt + 1 := i_p1 (by omega)
  refine ⟨q.1, ?_⟩
  have ek : (gCx c (nr s.toNatClampNeg).toNatClampNeg i.toInt).toNat = k := by omega
  have z := gDw_y (a := c) (n := (nr s.toNatClampNeg).toNatClampNeg) (i := i) (by omega) e1 ⟨g.1, g.2.2, by rw [ek]; exact (hd k (by omega)).mp hdt⟩
  rw [z, ← q.2.1, ofN_tn hi]
theorem YE_n (hB : qYB us nr kr kd ws AT ho wd wi OW rt wk wl wm nu ro fo le ra pi kp ca cat cm at2 ow2 ag2 AG to o2 st o0 c) (hd : qDt dt c) (h0 : 0 ≤ s.toInt) (h3 : s.toInt ≤ 3099) (hu : us s.toNatClampNeg ≠ 0) (he : (c 130 (nr s.toNatClampNeg).toNatClampNeg).toInt < (c 87 9).toInt) (hi : 0 ≤ i.toInt) (hw : i.toInt < (ws s.toNatClampNeg).toInt) (hk : (k : Int) = gCx c (nr s.toNatClampNeg).toNatClampNeg i.toInt) (hdt : dt k = 0) : gDw c (nr s.toNatClampNeg).toNatClampNeg i = gDw c (nr s.toNatClampNeg).toNatClampNeg (i + 1) := by
  have g := YE_k hB h0 h3 hu he hi hw
  have sl := tn_lt h0 (by omega : s.toInt < 3100)
  have r := hB.1.1.1 _ sl hu
  have sz : (c 128 (nr s.toNatClampNeg).toNatClampNeg).toInt = (ws s.toNatClampNeg).toInt + 1 := by
    rw [r.2.2.1]
    exact i_addk rfl (by have := r.2.2.2.2.2.1; omega) (by have := r.2.2.2.2.2.1; omega)
  have b := r.2.2.2.2.2.1
  have e1 : (i + 1).toInt = i.toInt + 1 := i_p1 (by omega)
  have ek : (gCx c (nr s.toNatClampNeg).toNatClampNeg i.toInt).toNat = k := by omega
  refine gDw_n (by omega) e1 (fun z => ?_)
  have z2 := z.2.2
  rw [ek] at z2
  exact (hd k (by omega)).mpr z2 hdt
theorem YE_end (h : qYE us nr kr kd ws AT ho wd wi OW rt wk wl wm nu ro fo le ra pi kp ca cat cm at2 ow2 ag2 AG to o2 st o0 dt p s i T) (hi : 0 ≤ i.toInt) (hw : ¬ i.toInt < (ws s.toNatClampNeg).toInt) (hp2 : p2 = p + ((ws s.toNatClampNeg).toInt + 1)) : qYD us nr kr kd ws AT ho wd wi OW rt wk wl wm nu ro fo le ra pi kp ca cat cm at2 ow2 ag2 AG to o2 st o0 dt p2 T := by
  obtain ⟨c, hB, hd, ⟨h0, h3, hu⟩, ⟨e, hp, hl, hG⟩, hT⟩ := h
  have sl := tn_lt h0 (by omega : s.toInt < 3100)
  have r := hB.1.1.1 _ sl hu
  have al := R1_al hB.1.1 sl hu
  have hI := hB.2.2.2.2.2.2.2.1.1
  have sz : (c 128 (nr s.toNatClampNeg).toNatClampNeg).toInt = (ws s.toNatClampNeg).toInt + 1 := by
    rw [r.2.2.1]
    exact i_addk rfl (by have := r.2.2.2.2.2.1; omega) (by have := r.2.2.2.2.2.1; omega)
  rw [gDw_st (by omega), sz, ← hp2] at hT
  have b := r.2.2.2.2.2.1
  have e71 : c 71 p.toNat = nr s.toNatClampNeg := by
    have z := (hI.1 _ al).2.2.2
    rw [R1_of_nr hB.1.1 sl hu] at z
    rw [show (c 130 (nr s.toNatClampNeg).toNatClampNeg).toNatClampNeg = p.toNat from by
      show (c 130 (nr s.toNatClampNeg).toNatClampNeg).toInt.toNat = p.toNat
      rw [e]] at z
    exact z
  have bb : o0 ≤ 1500 := by
    have a3 := hB.2.2.2.2.2.2.2.1.2.2.1
    have a6 := hB.2.2.2.2.2.2.2.1.2.2.2.2.2.1
    have eo := hB.2.2.2.2.2.2.2.2.2.2.2
    omega
  have ob : zOb c p = nr s.toNatClampNeg := by
    unfold zOb
    rw [e71, if_pos ⟨hp, by omega, r.1.1, r.1.2, r.2.1⟩]
  have g := (Gd_nx hI hG (by rw [ob]; exact r.1.1)).1
  rw [ob, sz, ← hp2] at g
  exact ⟨c, hB, hd, ⟨g, by omega⟩, hT⟩
theorem YD_end (h : qYD us nr kr kd ws AT ho wd wi OW rt wk wl wm nu ro fo le ra pi kp ca cat cm at2 ow2 ag2 AG to o2 st o0 dt p T) (hl : ¬ p < o0) : qYB us nr kr kd ws AT ho wd wi OW rt wk wl wm nu ro fo le ra pi kp ca cat cm at2 ow2 ag2 AG to o2 st o0 T ∧ qDt dt T := by
  obtain ⟨c, hB, hd, _, hT⟩ := h
  rw [Dp_e hl] at hT
  rw [← hT]
  exact ⟨hB, hd⟩
/-! wishers -/
theorem KB_yq (h : qYQ kp ca us nr cat cm c) (hR : qR1 us nr ws AT ho c) : qKB kp us nr (aPc c) := ⟨h.2.2.2.1, fun s hs hu => by
  have q := hR.1 s hs hu
  have n5 := tn_cast q.1.1
  have n6 := q.1.2
  refine (h.2.2.2.2.1 s hs hu).trans ⟨fun z => ⟨by omega, ?_⟩, fun z => ?_⟩
  · by_cases w : (c 130 (nr s).toNatClampNeg).toInt < (c 75 5).toInt
    · rw [Pc_7o (by omega) q.2.1 w]
      decide
    · rw [Pc_7y (fun y => w y.2.2)]
      exact z.elim (fun y => absurd y w) id
  · by_cases w : (c 130 (nr s).toNatClampNeg).toInt < (c 75 5).toInt
    · exact Or.inl w
    · have z2 := z.2
      rw [Pc_7y (fun y => w y.2.2)] at z2
      exact Or.inr z2⟩
theorem YB_0f (h : qYB us nr kr kd ws AT ho wd wi OW rt wk wl wm nu ro fo le ra pi kp ca cat cm at2 ow2 ag2 AG to o2 st o0 c) : 0 ≤ (c 75 5).toInt := by
  have f5 := h.2.2.2.2.2.2.2.2.2.1
  have a3 := h.2.2.2.2.2.2.2.1.2.2.1
  rw [f5]
  omega
theorem YL_no (h : qYB us nr kr kd ws AT ho wd wi OW rt wk wl wm nu ro fo le ra pi kp ca cat cm at2 ow2 ag2 AG to o2 st o0 b) {v : Int} {z : Int32} (hm : ∀ t : Nat, t < 3100 → qCw us kp wi nr l t → v ≤ (nr t).toInt) (h1 : l.toInt < z.toInt) (h2 : z.toInt < v) : ¬ aGc b z := fun w => GL_no (RB_of h.1 (fun c₉ k q1 _ q3 => (Pc_o q1 q3).symm) : qRB us nr kr kd ws AT ho wd wi OW rt wk wl wm nu ro fo le ra pi (aPc b)) (KB_yq h.2.1 h.1.1) hm h1 h2 ((Pc_gc (YB_0f h)).mpr w)
theorem YL_end (h : qYB us nr kr kd ws AT ho wd wi OW rt wk wl wm nu ro fo le ra pi kp ca cat cm at2 ow2 ag2 AG to o2 st o0 b) (h1 : -1 ≤ l.toInt) (h2 : l.toInt + 1 ≤ (b 69 6).toInt) (hm : qMin (qCw us kp wi nr l) nr x 3100) (hx : x.toInt < 0) (hT : aGw b (l + 1) = T) : b = T := by
  have hI := h.2.2.2.2.2.2.2.1.1
  have i4 := hI.2.2.2.1.1
  have e1 := i_p1 (i := l) (by omega)
  rw [← hT, aGw_to (b := b) ((b 69 6).toInt - (l + 1).toInt).toNat (l + 1) (b 69 6) (by omega) (by omega) (by omega) (fun z z1 z2 => YL_no h (v := 600) (fun t ht hc => by
      rcases hm with q | q
      · exact absurd hc (q.2 t (by omega))
      · omega) (by omega) (by omega)), aGw_st (by omega)]
theorem YL_nx (h : qYB us nr kr kd ws AT ho wd wi OW rt wk wl wm nu ro fo le ra pi kp ca cat cm at2 ow2 ag2 AG to o2 st o0 b) (h1 : -1 ≤ l.toInt) (h2 : l.toInt + 1 ≤ (b 69 6).toInt) (hm : qMin (qCw us kp wi nr l) nr x 3100) (hx : 0 ≤ x.toInt) (hT : aGw b (l + 1) = T) : aGw (aSp 512 (aCm (aGr b (nr x.toNatClampNeg)) (nr x.toNatClampNeg))) (nr x.toNatClampNeg + 1) = T ∧ (nr x.toNatClampNeg).toInt + 1 ≤ (b 69 6).toInt ∧ -1 ≤ (nr x.toNatClampNeg).toInt := by
  have hI := h.2.2.2.2.2.2.2.1.1
  rcases hm with q | q
  · omega
  · have i4 := hI.2.2.2.1.1
    have e1 := i_p1 (i := l) (by omega)
    have hs := tn_lt hx q.2.1
    have t := h.1.1.1 _ hs q.2.2.1.1
    have al := R1_al h.1.1 hs q.2.2.1.1
    have l6 := (hI.1 _ al).1
    have ct := tn_cast t.1.1
    have l3 := q.2.2.1.2.2.2
    have wt := h.1.2.2.2.2.2.1 _ hs q.2.2.1.1
    refine ⟨?_, by omega, by omega⟩
    rw [← hT, aGw_to (b := b) ((nr x.toNatClampNeg).toInt - (l + 1).toInt).toNat (l + 1) (nr x.toNatClampNeg) (by omega) (by omega) (by omega) (fun z z1 z2 => YL_no h (fun t ht hc => q.2.2.2 t (by omega) hc) (by omega) z2)]
    have kk : ¬ ((b 130 (nr x.toNatClampNeg).toNatClampNeg).toInt < (b 75 5).toInt ∨ b 77 (nr x.toNatClampNeg).toNatClampNeg ≠ 0) := fun z => absurd ((h.2.1.2.2.2.2.1 _ hs q.2.2.1.1).mpr z) (fun w => w q.2.2.1.2.1)
    refine (aGw_y (by omega) ⟨t.1.1, t.1.2, t.2.1, ?_, ?_, ?_⟩).symm
    · rw [wt]
      exact q.2.2.1.2.2.1
    · by_cases w : (b 130 (nr x.toNatClampNeg).toNatClampNeg).toInt < (b 75 5).toInt
      · exact absurd (Or.inl w) kk
      · omega
    · by_cases w : b 77 (nr x.toNatClampNeg).toNatClampNeg = 0
      · exact w
      · exact absurd (Or.inr w) kk
theorem YG_0 (h : qYB us nr kr kd ws AT ho wd wi OW rt wk wl wm nu ro fo le ra pi kp ca cat cm at2 ow2 ag2 AG to o2 st o0 c) (hE : qE0 (aPc c)) (hC : qCl (aPc c)) (hM : qMin (qCw us kp wi nr (-1)) nr x 3100) : qYG us nr kr kd ws AT ho wd wi OW rt wk wl wm nu ro fo le ra pi kp ca cat cm at2 ow2 ag2 AG to o2 st o0 x (aGw c 0) := ⟨c, -1, h, hE, hC, ⟨by decide, by have := h.2.2.2.2.2.2.2.1.1.2.2.2.1.1.1; have e1 : (-1 : Int32).toInt = -1 := rfl; omega⟩, hM, rfl⟩
theorem YG_end (h : qYG us nr kr kd ws AT ho wd wi OW rt wk wl wm nu ro fo le ra pi kp ca cat cm at2 ow2 ag2 AG to o2 st o0 x T) (hx : x.toInt < 0) : qYB us nr kr kd ws AT ho wd wi OW rt wk wl wm nu ro fo le ra pi kp ca cat cm at2 ow2 ag2 AG to o2 st o0 T ∧ qE0 (aPc T) ∧ qCl (aPc T) := by
  obtain ⟨b, l, hB, hE, hC, hl, hM, hT⟩ := h
  have e := YL_end hB hl.1 hl.2 hM hx hT
  rw [← e]
  exact ⟨hB, hE, hC⟩
theorem YB_gr (hR : qRB us nr kr kd ws AT ho wd wi₉ OW rt wk₉ wl₉ wm₉ nu ro fo le ra pi (aGr b y)) (hI : qI (aGr b y)) (h : qYB us nr kr kd ws AT ho wd wi OW rt wk wl wm nu ro fo le ra pi kp ca cat cm at2 ow2 ag2 AG to o2 st o0 b) : qYB us nr kr kd ws AT ho wd wi₉ OW rt wk₉ wl₉ wm₉ nu ro fo le ra pi kp ca cat cm at2 ow2 ag2 AG to o2 st o0 (aGr b y) := by
  have g : ∀ c, c ≠ 73 → c ≠ 134 → c ≠ 74 → c ≠ 69 → aGr b y c = b c := fun c h1 h2 h3 h4 => gr_r h1 h2 h3 h4
  have e75 := g 75 (by decide) (by decide) (by decide) (by decide)
  have e76 := g 76 (by decide) (by decide) (by decide) (by decide)
  have e77 := g 77 (by decide) (by decide) (by decide) (by decide)
  have e26 := g 126 (by decide) (by decide) (by decide) (by decide)
  have e28 := g 128 (by decide) (by decide) (by decide) (by decide)
  have e30 := g 130 (by decide) (by decide) (by decide) (by decide)
  have e31 := g 131 (by decide) (by decide) (by decide) (by decide)
  have e33 := g 133 (by decide) (by decide) (by decide) (by decide)
  have e87 := g 87 (by decide) (by decide) (by decide) (by decide)
  obtain ⟨_, ⟨q1, q3, q4, q5, q6, q7⟩, p1, p2, p3, p4, p5, hA, hF, f5, es, eo⟩ := h
  have gP : gPf (aGr b y) = gPf b := funext (fun j => by unfold gPf; rw [e76, e28, e31, e87])
  have gN : gNf (aGr b y) = gNf b := funext (fun j => by unfold gNf; rw [e76, e28, e31, e87])
  have yg : ∀ n, qYg (aGr b y) n ↔ qYg b n := fun n => yg_r e87 e31
  refine ⟨hR, ⟨by rw [e75]; exact q1, FY_gr q3, by rw [e75, e77]; exact q4, q5, by rw [e30, e75, e77]; exact q6, by rw [e76]; exact q7⟩, fun j hj => ?_, by rw [gP, gN]; exact p2, by rw [e77]; exact p3, p4, by rw [e31]; exact p5, A0_cg hA hI e26 e87 e30 e28 e31 e33, Fu_cg hF e26 e87 e30 e28 e31, by rw [e75, e87]; exact f5, by rw [e87]; exact es, by rw [e87]; exact eo⟩
  rw [yg, e76, gP, gN]
  exact p1 j hj
/-- the next of the wishers came, and all behind it -/
theorem YG_nx (hB : qYB us nr kr kd ws AT ho wd wi OW rt wk wl wm nu ro fo le ra pi kp ca cat cm at2 ow2 ag2 AG to o2 st o0 b) (hE : qE0 (aPc b)) (hC : qCl (aPc b)) (hl : -1 ≤ l.toInt ∧ l.toInt + 1 ≤ (b 69 6).toInt) (hM : qMin (qCw us kp wi nr l) nr x 3100) (hT : aGw b (l + 1) = T) (hx : 0 ≤ x.toInt) (hu : us x.toNatClampNeg ≠ 0) (hx3 : x.toInt ≤ 3099) (hm : wm.toInt < 512)
    (hB2 : qYB us nr kr kd ws AT ho wd wi₉ OW rt wk₉ wl₉ wm₉ nu ro fo le ra pi kp₉ ca₉ cat₉ cm₉ at3 ow3 ag3 AG to₉ o2₉ st o0 (aSp 512 (aCm (aGr b (nr x.toNatClampNeg)) (qNo nr x)))) (hM2 : qMin (qCw us kp₉ wi₉ nr (nr x.toNatClampNeg)) nr y 3100) : qYG us nr kr kd ws AT ho wd wi₉ OW rt wk₉ wl₉ wm₉ nu ro fo le ra pi kp₉ ca₉ cat₉ cm₉ at3 ow3 ag3 AG to₉ o2₉ st o0 y T := by
  have nx := YL_nx hB hl.1 hl.2 hM hx hT
  have f0 := YB_0f hB
  have sp := E0_sp (gr_cm (y := nr x.toNatClampNeg) (E0_gr (y := nr x.toNatClampNeg) hE).1).1
  rw [No_y hx] at hB2
  have ep : aPc (aSp 512 (aCm (aGr b (nr x.toNatClampNeg)) (nr x.toNatClampNeg))) = aSp 512 (aCm (aGr (aPc b) (nr x.toNatClampNeg)) (nr x.toNatClampNeg)) := by
    rw [Pc_sp _ _ (by rw [cm_5, gr_5c]; exact f0), Pc_cm (by rw [gr_5c]; exact f0), Pc_gr]
  have o69 : aPc b 69 = b 69 := Pc_r (by decide) (by decide)
  have r5 := hB.1.2.2.2.2.1.1
  refine ⟨_, nr x.toNatClampNeg, hB2, by rw [ep]; exact sp.1, by rw [ep]; exact Cl_nx hC hE (by rw [o69, r5]; exact hm) (by rw [o69]; exact hB.2.2.2.2.2.2.2.1.1.2.2.2.1.2.1.1) (Pc_al.mpr (R1_al hB.1.1 (tn_lt hx (by omega)) hu)) (hB.1.1.1 _ (tn_lt hx (by omega)) hu).1.1, ⟨nx.2.2, by rw [sp_6]; exact nx.2.1⟩, hM2, nx.1⟩
/-- OLD ones are kept -/
theorem YB_ko (h : qYB us nr kr kd ws AT ho wd wi OW rt wk wl wm nu ro fo le ra pi kp ca cat cm at2 ow2 ag2 AG to o2 st o0 c) (hk : k < 3100) (hu : us k ≠ 0) (h0 : kp k = 0) : (c 87 9).toInt ≤ (at2 k).toInt := by
  have g : ¬ ((c 130 (nr k).toNatClampNeg).toInt < (c 75 5).toInt ∨ c 77 (nr k).toNatClampNeg ≠ 0) := fun z => absurd ((h.2.1.2.2.2.2.1 _ hk hu).mpr z) (fun w => w h0)
  have f5 := h.2.2.2.2.2.2.2.2.2.1
  have w : c 77 (nr k).toNatClampNeg = 0 := by
    by_cases z : c 77 (nr k).toNatClampNeg = 0
    · exact z
    · exact absurd (Or.inr z) g
  have e := (h.2.2.2.2.1 k hk hu w).1
  have r := h.1.1.1 k hk hu
  rw [f5] at g
  by_cases z : (c 130 (nr k).toNatClampNeg).toInt < (c 87 9).toInt
  · exact absurd (Or.inl z) g
  · rw [e, ← r.2.2.2.1]
    omega
end F32

/-! from 95.v02 -/
/-! AGES, the reference (written by wip/tools/gen15v.py) -/
/-! AGES, the reference: the end of a minor cleaning -/
section F33
variable {a b c d aa T : Nat → Nat → Int32} {us us₉ nr kr kd ws AT AG at2 at3 ag2 ag3 ho wd wi wi₉ OW ow2 ow3 rt wk wk₉ wl wl₉ kp kp₉ ca ca₉ dt : Nat → Int32} {wm wm₉ nu ro fo le ra pi cat cm cm₉ to to₉ o2 o2₉ tg s x x2 y i l cd : Int32} {st o0 p p2 ot : Int} {j k n f : Nat} {P N : Nat → Int}
theorem gMf_pl : ∀ (f j : Nat) (a : Nat → Nat → Int32), qJg a st ot o0 P N j → (j : Int) + f = (a 75 4).toInt → (∀ k : Nat, j ≤ k → k < j + f → (qYg a (a 76 k).toNatClampNeg → gMf f j a 130 (a 76 k).toNatClampNeg = Int32.ofInt (o0 + zsg P k)) ∧ (¬ qYg a (a 76 k).toNatClampNeg → gMf f j a 130 (a 76 k).toNatClampNeg = Int32.ofInt (st + zsg N k)) ∧ gMf f j a 131 (a 76 k).toNatClampNeg = a 131 (a 76 k).toNatClampNeg + 1) ∧ (∀ n, (∀ k, j ≤ k → k < j + f → (a 76 k).toNatClampNeg ≠ n) → gMf f j a 130 n = a 130 n ∧ gMf f j a 131 n = a 131 n) ∧ (∀ (m : Nat) (i : Int32), xAl a m → 0 ≤ i.toInt → i.toInt < (a 128 m).toInt - 1 → aRef (gMf f j a) m i = aRef a m i) ∧ (∀ c, c ≠ 71 → c ≠ 130 → c ≠ 131 → c ≠ 87 → gMf f j a c = a c) := by
  intro f
  induction f with
  | zero =>
    intro j a h e
    exact ⟨fun k h1 h2 => by omega, fun n _ => ⟨rfl, rfl⟩, fun _ _ _ _ _ => rfl, fun _ _ _ _ _ => rfl⟩
  | succ f ih =>
    intro j a h e
    have nx := Jg_nx h (by omega)
    have hF := h.2.1
    have r76 : gM1 a (a 76 j).toNatClampNeg 76 = a 76 := gM1_r (by decide) (by decide) (by decide) (by decide)
    have r75 : gM1 a (a 76 j).toNatClampNeg 75 = a 75 := gM1_r (by decide) (by decide) (by decide) (by decide)
    have r26 : gM1 a (a 76 j).toNatClampNeg 126 = a 126 := gM1_r (by decide) (by decide) (by decide) (by decide)
    have r28 : gM1 a (a 76 j).toNatClampNeg 128 = a 128 := gM1_r (by decide) (by decide) (by decide) (by decide)
    have r11 : gM1 a (a 76 j).toNatClampNeg 87 11 = a 87 11 := gM1_7 (by decide) (by decide)
    have pp := gM1_p (a := a) (n := (a 76 j).toNatClampNeg)
    have rf : ∀ (m : Nat) (i : Int32), xAl a m → 0 ≤ i.toInt → i.toInt < (a 128 m).toInt - 1 → aRef (gM1 a (a 76 j).toNatClampNeg) m i = aRef a m i := fun m i hm i0 i1 => gM1_rf h.1 nx.2.2.2.2.1 nx.2.2.2.1.1 nx.2.2.2.1.2 nx.2.2.1 hm i0 i1
    have go := Jg_go h (by omega)
    have gr : ∀ c, c ≠ 71 → c ≠ 130 → c ≠ 131 → c ≠ 87 → gM1 a (a 76 j).toNatClampNeg c = a c := fun c h1 h2 h3 h4 => gM1_r h1 h2 h3 h4
    have dis : ∀ k, j < k → (k : Int) < (a 75 4).toInt → (a 76 k).toNatClampNeg ≠ (a 76 j).toNatClampNeg := fun k h1 h2 z => by
      have d := hF.2.1 j k h1 h2
      have g1 := tn_cast (hF.1 j (by omega)).1
      have g2 := tn_cast (hF.1 k h2).1
      exact d (Int32.toInt_inj.mp (by omega))
    rw [gMf_y nx.1]
    obtain ⟨i1, i2, i3, i4⟩ := ih (j + 1) (gM1 a (a 76 j).toNatClampNeg) go (by rw [r75]; omega)
    generalize gM1 a (a 76 j).toNatClampNeg = a1 at *
    rw [r76] at i1 i2
    refine ⟨fun k h1 h2 => ?_, fun n hn => ?_, fun m i hm i0 i9 => ?_, fun c h1 h2 h3 h4 => (i4 c h1 h2 h3 h4).trans (gr c h1 h2 h3 h4)⟩
    · by_cases z : k = j
      · rw [z]
        have q := i2 (a 76 j).toNatClampNeg (fun k h1 h2 => dis k (by omega) (by omega))
        rw [q.1, q.2, pp.1, pp.2.2.1]
        have eO : (a 87 10).toInt = o0 + zsg P j := h.2.2.2.2.2.1.1
        have eT : (a 87 4).toInt = st + zsg N j := h.2.2.2.2.2.2.1.1
        rcases nx.2.2.2.2.2.2.2.2 with w | w
        · refine ⟨fun _ => ?_, fun g => absurd w.1 g, rfl⟩
          rw [w.2.2.2.2, ← eO, Int32.ofInt_toInt]
        · refine ⟨fun g => absurd g w.1, fun _ => ?_, rfl⟩
          rw [w.2.2.2.2.2, ← eT, Int32.ofInt_toInt]
      · have q := i1 k (by omega) (by omega)
        have d := dis k (by omega) (by omega)
        have yg : qYg a1 (a 76 k).toNatClampNeg ↔ qYg a (a 76 k).toNatClampNeg := by
          unfold qYg
          rw [r11, pp.2.2.2 _ d]
        rw [yg, pp.2.2.2 _ d] at q
        exact q
    · have d : n ≠ (a 76 j).toNatClampNeg := fun z => hn j (by omega) (by omega) z.symm
      have q := i2 n (fun k h1 h2 => hn k (by omega) (by omega))
      rw [q.1, q.2, pp.2.1 n d, pp.2.2.2 n d]
      exact ⟨rfl, rfl⟩
    · rw [i3 m i (by unfold xAl; rw [r26]; exact hm) i0 (by rw [r28]; exact i9)]
      exact rf m i hm i0 i9
theorem YB_fin (hB : qYB us nr kr kd ws AT ho wd wi OW rt wk wl wm nu ro fo le ra pi kp ca cat cm at2 ow2 ag2 AG to o2 (2 * (aa 87 9).toInt + (aa 87 5).toInt - (aa 87 3).toInt) (aa 87 10).toInt (gKp aa)) (hC : qCl (aPc (gKp aa))) (hv : qAv aa) (hf : ¬ gFu aa) (hu : qUr wk wk₉ kp 16) (hm : zrm us us₉ kp 3100) (ho₉ : zowr ow2 ow3 us kp at2) : qRB us₉ nr kr kd ws at2 ho wd wi ow3 rt wk₉ wl wm nu ro fo le ra pi (gMf (gMk1 aa 75 4).toInt.toNat 0 (gMk1 aa)) ∧ to = gMf (gMk1 aa 75 4).toInt.toNat 0 (gMk1 aa) 87 4 ∧ o2 = gMf (gMk1 aa 75 4).toInt.toNat 0 (gMk1 aa) 87 10 ∧ ∀ s, s < 3100 → us₉ s ≠ 0 → ag2 s = gMf (gMk1 aa 75 4).toInt.toNat 0 (gMk1 aa) 131 (nr s).toNatClampNeg := by
  have hK := KB_yq hB.2.1 hB.1.1
  have RBp : qRB us nr kr kd ws AT ho wd wi OW rt wk wl wm nu ro fo le ra pi (aPc (gKp aa)) := RB_of hB.1 (fun c₉ k q1 _ q3 => (Pc_o q1 q3).symm)
  have R0 := RB_mv RBp (Kp_I hv).1 hK (CK_of hC RBp hK) (by rw [Pc_5]; decide) hu hm (fun p _ => Or.inl rfl : zowr OW OW us kp AT)
  rw [← Mi_b hv] at R0
  have R1 := RB_of R0 oPc
  have R : qRB us₉ nr kr kd ws AT ho wd wi OW rt wk₉ wl wm nu ro fo le ra pi (gMk1 aa) := RB_87k (RB_87k R1 (by decide) (by decide) (by decide) (by decide) (by decide)) (by decide) (by decide) (by decide) (by decide) (by decide)
  have J := Jg_0 hv hf
  have r87 : ∀ k, k ≠ 3 → k ≠ 4 → gMk1 aa 87 k = aa 87 k := fun k h3 h4 => by
    show ma_u (ma_u (gMk0 aa) 87 3 _) 87 4 _ 87 k = _
    rw [xu_o (fun z => h4 z.2), xu_o (fun z => h3 z.2), Mi_8 ⟨by decide, by decide⟩]
  have rr : ∀ c, c ≠ 87 → gMk1 aa c = gMk0 aa c := fun c hc => by
    show ma_u (ma_u (gMk0 aa) 87 3 _) 87 4 _ c = _
    rw [ma_u_ne _ _ _ hc, ma_u_ne _ _ _ hc]
  have w75 : gMk1 aa 75 = gKp aa 75 := (rr 75 (by decide)).trans (Mi_w (Or.inl rfl))
  have w76 : gMk1 aa 76 = gKp aa 76 := (rr 76 (by decide)).trans (Mi_w (Or.inr (Or.inl rfl)))
  have w77 : gMk0 aa 77 = gKp aa 77 := Mi_w (Or.inr (Or.inr rfl))
  have k87 : gKp aa 87 = aa 87 := Kp_r (by decide) (by decide) (by decide) (by decide) (by decide) (by decide) (by decide)
  have k28 : gKp aa 128 = aa 128 := Kp_r (by decide) (by decide) (by decide) (by decide) (by decide) (by decide) (by decide)
  have k30 : gKp aa 130 = aa 130 := Kp_r (by decide) (by decide) (by decide) (by decide) (by decide) (by decide) (by decide)
  have k31 : gKp aa 131 = aa 131 := Kp_r (by decide) (by decide) (by decide) (by decide) (by decide) (by decide) (by decide)
  have fy := Mi_FY hv
  have hcm : gMk1 aa 75 4 = cm := by rw [w75, hB.2.1.1.2]
  have c0 := YB_b hB
  have fld : ∀ n, xAl (gMk0 aa) n → gMk1 aa 128 n = gKp aa 128 n ∧ gMk1 aa 130 n = gKp aa 130 n ∧ gMk1 aa 131 n = gKp aa 131 n := fun n hn => by
    have q := (Mi_f hv hn).1
    rw [rr 128 (by decide), rr 130 (by decide), rr 131 (by decide), k28, k30, k31]
    exact ⟨q 128 (by decide) (by decide) (by decide), q 130 (by decide) (by decide) (by decide), q 131 (by decide) (by decide) (by decide)⟩
  have qal : ∀ j : Nat, (j : Int) < cm.toInt → xAl (gMk0 aa) (gKp aa 76 j).toNatClampNeg := fun j hj => by
    have g := hB.2.1.2.1.1.1 j (by rw [hB.2.1.1.2]; exact hj)
    have t := tn_cast g.1
    exact (fy.2.1 _ (by omega) (by rw [w77]; exact g.2.2.1)).1
  have gP : ∀ j : Nat, (j : Int) < cm.toInt → gPf (gMk1 aa) j = gPf (gKp aa) j ∧ gNf (gMk1 aa) j = gNf (gKp aa) j ∧ (qYg (gMk1 aa) (gKp aa 76 j).toNatClampNeg ↔ qYg (gKp aa) (gKp aa 76 j).toNatClampNeg) := fun j hj => by
    have q := fld _ (qal j hj)
    unfold gPf gNf qYg
    rw [w76, q.1, q.2.2, r87 11 (by decide) (by decide), k87]
    exact ⟨rfl, rfl, Iff.rfl⟩
  have sP : ∀ j : Nat, (j : Int) ≤ cm.toInt → zsg (gPf (gMk1 aa)) j = zsg (gPf (gKp aa)) j ∧ zsg (gNf (gMk1 aa)) j = zsg (gNf (gKp aa)) j := fun j hj => ⟨sg_cgN j (fun k hk => (gP k (by omega)).1), sg_cgN j (fun k hk => (gP k (by omega)).2.1)⟩
  rw [hcm]
  have F := gMf_pl cm.toInt.toNat 0 (gMk1 aa) J (by rw [hcm]; omega)
  have JJ := gMf_J cm.toInt.toNat 0 (gMk1 aa) J (by rw [hcm]; omega)
  have f7 : ∀ k, k ≠ 4 → k ≠ 10 → gMf cm.toInt.toNat 0 (gMk1 aa) 87 k = gMk1 aa 87 k := fun k h1 h2 => gMf_7 h1 h2 _ _ _
  generalize gMf cm.toInt.toNat 0 (gMk1 aa) = G at *
  obtain ⟨F1, F2, F3, F4⟩ := F
  have nes := fun k ht hut => YP_ne hB.2.2 hB.2.1 hB.1.1 (k := k) ht hut
  have hQ := hB.2.1
  obtain ⟨p1, ⟨p2, p2₉⟩, p3, p4, p5, hA, hF, f5, es, eo⟩ := hB.2.2
  have pos : ∀ s, s < 3100 → us₉ s ≠ 0 → (us s ≠ 0 ∧ kp s ≠ 0) ∧ G 130 (nr s).toNatClampNeg = at2 s ∧ G 131 (nr s).toNatClampNeg = ag2 s := fun s hs hu₉ => by
    have z := ((hm s hs).1 hs).mp hu₉
    refine ⟨z, ?_⟩
    by_cases w : gKp aa 77 (nr s).toNatClampNeg = 0
    · have al := R1_al R1.1 hs hu₉
      have q := F2 (nr s).toNatClampNeg (fun k _ h2 e => by
        have g := hQ.2.1.1.1 k (by rw [hQ.1.2]; omega)
        rw [← w76, e, w] at g
        exact g.2.2.1 rfl)
      have fl := fld _ al
      have e3 := p3 s hs z.1 w
      rw [q.1, q.2, fl.2.1, fl.2.2, e3.1, e3.2, p5 s hs z.1, (hB.1.1.1 s hs z.1).2.2.2.1]
      exact ⟨rfl, rfl⟩
    · obtain ⟨j, hj, et, ej⟩ := YQ_j hQ hB.1.1 hs z.1 w
      have pj := p1 j hj
      have fj := F1 j (by omega) (by omega)
      have gj := gP j hj
      have sj := sP j (by omega)
      have fl := fld _ (qal j hj)
      rw [et] at pj
      rw [w76, gj.2.2, sj.1, sj.2, fl.2.2, ej] at fj
      rw [ej] at pj
      rw [fj.2.2, pj.2.2, p5 s hs z.1]
      refine ⟨?_, rfl⟩
      by_cases g : qYg (gKp aa) (nr s).toNatClampNeg
      · rw [fj.1 g, ← pj.1 g, Int32.ofInt_toInt]
      · rw [fj.2.1 g, ← pj.2.1 g, Int32.ofInt_toInt]
  refine ⟨⟨⟨fun s hs hu₉ => ?_, R.1.2.1, fun n hn h1 => ?_⟩, fun s hs hu₉ i hi => ?_, ?_, ?_, ?_, ?_, fun s hs hu₉ => ?_, ?_⟩, ?_, ?_, fun s hs hu₉ => (pos s hs hu₉).2.2.symm⟩
  · have q := R.1.1 s hs hu₉
    have w := pos s hs hu₉
    rw [F4 126 (by decide) (by decide) (by decide) (by decide), F4 128 (by decide) (by decide) (by decide) (by decide), F4 133 (by decide) (by decide) (by decide) (by decide)]
    exact ⟨q.1, q.2.1, q.2.2.1, w.2.1, q.2.2.2.2.1, q.2.2.2.2.2.1, (nes s hs w.1.1).1⟩
  · rw [F4 126 (by decide) (by decide) (by decide) (by decide)] at h1
    exact R.1.2.2 n hn h1
  · have q := R.2.1 s hs hu₉ i hi
    have g := R.1.1 s hs hu₉
    have sz2 : (gMk1 aa 128 (nr s).toNatClampNeg).toInt = (ws s).toInt + 1 := by
      rw [g.2.2.1]
      exact i_addk rfl (by have := g.2.2.2.2.2.1; omega) (by have := g.2.2.2.2.2.1; omega)
    have ei : (Int32.ofNat i).toInt = (i : Int) := ofN_s (by have := g.2.2.2.2.2.1; omega)
    rw [F3 _ _ (R1_al R.1 hs hu₉) (by omega) (by omega), F4 (1000 + (nr s).toNatClampNeg) (by omega) (by omega) (by omega) (by omega)]
    exact q
  · unfold qR3
    rw [F4 72 (by decide) (by decide) (by decide) (by decide)]
    exact R.2.2.1
  · unfold qR3
    rw [F4 73 (by decide) (by decide) (by decide) (by decide)]
    exact R.2.2.2.1
  · unfold qR5
    rw [F4 69 (by decide) (by decide) (by decide) (by decide), F4 74 (by decide) (by decide) (by decide) (by decide)]
    exact R.2.2.2.2.1
  · unfold qR6
    rw [F4 134 (by decide) (by decide) (by decide) (by decide)]
    exact R.2.2.2.2.2.1
  · have w := pos s hs hu₉
    have o2 := p4 s hs w.1.1
    have nb := nes s hs w.1.1
    have t := tn_cast (x := at2 s) nb.1
    rcases ho₉ (at2 s).toNatClampNeg (by omega) with g | ⟨_, t, ht, hut, hkt, hat⟩
    · rw [g]
      exact o2
    · have o3 := p4 t ht hut
      have e3 : (at2 t).toNatClampNeg = (at2 s).toNatClampNeg := by
        have t2 := tn_cast (x := at2 t) (by omega)
        omega
      rw [e3, o2] at o3
      have e4 := congrArg Int32.toInt o3
      rw [ofN_s hs, ofN_s ht] at e4
      exact absurd hkt (by rw [show t = s from by omega]; exact w.1.2)
  · unfold qR8
    rw [F4 69 (by decide) (by decide) (by decide) (by decide), f7 0 (by decide) (by decide), f7 1 (by decide) (by decide), f7 2 (by decide) (by decide), f7 6 (by decide) (by decide), f7 7 (by decide) (by decide)]
    exact R.2.2.2.2.2.2.2
  · have e := JJ.2.2.2.2.2.2.1.1
    rw [Nat.zero_add, (sP _ (by omega)).2] at e
    exact Int32.toInt_inj.mp (by rw [e, p2])
  · have e := JJ.2.2.2.2.2.1.1
    rw [Nat.zero_add, (sP _ (by omega)).1] at e
    exact Int32.toInt_inj.mp (by rw [e, p2₉])
end F33

