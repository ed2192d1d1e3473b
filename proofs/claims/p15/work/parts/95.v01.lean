/-! AGES, the reference (written by wip/tools/gen15v.py) -/
/-! AGES, the reference: all that came, ROOTS, WISHES, dirty cards, wishers -/
def qYS (us nr kr kd ws AT ho wd wi OW rt wk wl : Nat → Int32) (wm nu ro fo le ra pi : Int32) (kp ca : Nat → Int32) (cat cm : Int32) (at2 ow2 ag2 AG : Nat → Int32) (to o2 : Int32) (st o0 : Int) (T : Nat → Nat → Int32) : Prop := ∃ (c : Nat → Nat → Int32) (f : Nat), qYB us nr kr kd ws AT ho wd wi OW rt wk wl wm nu ro fo le ra pi kp ca cat cm at2 ow2 ag2 AG to o2 st o0 c ∧ aSp f c = T ∧ 512 ≤ (f : Int) + cat.toInt
def qYW (us nr kr kd ws AT ho wd wi OW rt wk wl : Nat → Int32) (wm nu ro fo le ra pi : Int32) (kp ca : Nat → Int32) (cat cm : Int32) (at2 ow2 ag2 AG : Nat → Int32) (to o2 : Int32) (st o0 : Int) (s i : Int32) (T : Nat → Nat → Int32) : Prop := ∃ (c : Nat → Nat → Int32) (f : Nat), (qYB us nr kr kd ws AT ho wd wi OW rt wk wl wm nu ro fo le ra pi kp ca cat cm at2 ow2 ag2 AG to o2 st o0 c ∧ aSp f (aCw c (nr s.toNatClampNeg).toNatClampNeg i) = T ∧ 512 ≤ (f : Int) + cat.toInt) ∧ 0 ≤ s.toInt ∧ s.toInt ≤ 3099 ∧ us s.toNatClampNeg ≠ 0
def qYR (us nr kr kd ws AT ho wd wi OW rt wk wl : Nat → Int32) (wm nu ro fo le ra pi : Int32) (kp ca : Nat → Int32) (cat cm : Int32) (at2 ow2 ag2 AG : Nat → Int32) (to o2 : Int32) (st o0 : Int) (i : Int32) (T : Nat → Nat → Int32) : Prop := ∃ c, qYB us nr kr kd ws AT ho wd wi OW rt wk wl wm nu ro fo le ra pi kp ca cat cm at2 ow2 ag2 AG to o2 st o0 c ∧ aRo c i = T
def qYX (us nr kr kd ws AT ho wd wi OW rt wk wl : Nat → Int32) (wm nu ro fo le ra pi : Int32) (kp ca : Nat → Int32) (cat cm : Int32) (at2 ow2 ag2 AG : Nat → Int32) (to o2 : Int32) (st o0 : Int) (i : Int32) (T : Nat → Nat → Int32) : Prop := ∃ c, qYB us nr kr kd ws AT ho wd wi OW rt wk wl wm nu ro fo le ra pi kp ca cat cm at2 ow2 ag2 AG to o2 st o0 c ∧ aWi c i = T
/-- the reference's dirty cards -/
def qDt (dt : Nat → Int32) (c : Nat → Nat → Int32) : Prop := ∀ k, k < 375 → (dt k ≠ 0 ↔ c 83 k ≠ 0)
def qYD (us nr kr kd ws AT ho wd wi OW rt wk wl : Nat → Int32) (wm nu ro fo le ra pi : Int32) (kp ca : Nat → Int32) (cat cm : Int32) (at2 ow2 ag2 AG : Nat → Int32) (to o2 : Int32) (st o0 : Int) (dt : Nat → Int32) (p : Int) (T : Nat → Nat → Int32) : Prop := ∃ c, qYB us nr kr kd ws AT ho wd wi OW rt wk wl wm nu ro fo le ra pi kp ca cat cm at2 ow2 ag2 AG to o2 st o0 c ∧ qDt dt c ∧ (qGd c p ∧ 0 ≤ p) ∧ gDp c o0 p = T
def qYE (us nr kr kd ws AT ho wd wi OW rt wk wl : Nat → Int32) (wm nu ro fo le ra pi : Int32) (kp ca : Nat → Int32) (cat cm : Int32) (at2 ow2 ag2 AG : Nat → Int32) (to o2 : Int32) (st o0 : Int) (dt : Nat → Int32) (p : Int) (s i : Int32) (T : Nat → Nat → Int32) : Prop := ∃ c, qYB us nr kr kd ws AT ho wd wi OW rt wk wl wm nu ro fo le ra pi kp ca cat cm at2 ow2 ag2 AG to o2 st o0 c ∧ qDt dt c ∧ (0 ≤ s.toInt ∧ s.toInt ≤ 3099 ∧ us s.toNatClampNeg ≠ 0) ∧ ((c 130 (nr s.toNatClampNeg).toNatClampNeg).toInt = p ∧ 0 ≤ p ∧ p < o0 ∧ qGd c p) ∧ gDp (gDw c (nr s.toNatClampNeg).toNatClampNeg i) o0 (p + (c 128 (nr s.toNatClampNeg).toNatClampNeg).toInt) = T
def qYG (us nr kr kd ws AT ho wd wi OW rt wk wl : Nat → Int32) (wm nu ro fo le ra pi : Int32) (kp ca : Nat → Int32) (cat cm : Int32) (at2 ow2 ag2 AG : Nat → Int32) (to o2 : Int32) (st o0 : Int) (x : Int32) (T : Nat → Nat → Int32) : Prop := ∃ (b : Nat → Nat → Int32) (l : Int32), qYB us nr kr kd ws AT ho wd wi OW rt wk wl wm nu ro fo le ra pi kp ca cat cm at2 ow2 ag2 AG to o2 st o0 b ∧ qE0 (aPc b) ∧ qCl (aPc b) ∧ (-1 ≤ l.toInt ∧ l.toInt + 1 ≤ (b 69 6).toInt) ∧ qMin (qCw us kp wi nr l) nr x 3100 ∧ aGw b (l + 1) = T
section F32
variable {cat' : Int32} {a b c d aa T : Nat → Nat → Int32} {us us' nr kr kd ws AT AG at2 at3 ag2 ag3 ho wd wi wi' OW ow2 ow3 rt wk wk' wl wl' kp kp' ca ca' dt : Nat → Int32} {wm wm' nu ro fo le ra pi cat cm cm' to to' o2 o2' tg s x x2 y i l cd : Int32} {st o0 p p2 : Int} {j k n f : Nat} {P N : Nat → Int} {ot : Int}
theorem YS_0 (h : qYB us nr kr kd ws AT ho wd wi OW rt wk wl wm nu ro fo le ra pi kp ca cat cm at2 ow2 ag2 AG to o2 st o0 c) : qYS us nr kr kd ws AT ho wd wi OW rt wk wl wm nu ro fo le ra pi kp ca cat cm at2 ow2 ag2 AG to o2 st o0 (aSp 512 c) := ⟨c, 512, h, rfl, by have := YB_b h; omega⟩
theorem YS_b (h : qYS us nr kr kd ws AT ho wd wi OW rt wk wl wm nu ro fo le ra pi kp ca cat cm at2 ow2 ag2 AG to o2 st o0 d) : 0 ≤ cat.toInt ∧ cat.toInt ≤ cm.toInt ∧ cm.toInt ≤ 512 := by
  obtain ⟨c, f, hB, _, _⟩ := h
  exact YB_b hB
theorem YS_end (h : qYS us nr kr kd ws AT ho wd wi OW rt wk wl wm nu ro fo le ra pi kp ca cat cm at2 ow2 ag2 AG to o2 st o0 d) (hl : ¬ cat.toInt < cm.toInt) : qYB us nr kr kd ws AT ho wd wi OW rt wk wl wm nu ro fo le ra pi kp ca cat cm at2 ow2 ag2 AG to o2 st o0 d := by
  obtain ⟨c, f, hB, hT, _⟩ := h
  have e : aSp f c = c := by
    cases f with
    | zero => rfl
    | succ f =>
      show (if (c 75 3).toInt < (c 75 4).toInt then _ else c) = c
      rw [hB.2.1.1.1, hB.2.1.1.2, if_neg hl]
  rw [← hT, e]
  exact hB
theorem YB_hd (h : qYB us nr kr kd ws AT ho wd wi OW rt wk wl wm nu ro fo le ra pi kp ca cat cm at2 ow2 ag2 AG to o2 st o0 c) (hl : cat.toInt < cm.toInt) : qYB us nr kr kd ws AT ho wd wi OW rt wk wl wm nu ro fo le ra pi kp ca (cat + 1) cm at2 ow2 ag2 AG to o2 st o0 (ma_u (ma_u c 75 3 (c 75 3 + 1)) 77 (c 76 (c 75 3).toNatClampNeg).toNatClampNeg 2) := by
  obtain ⟨hR, ⟨⟨q1, q2⟩, q3, q4, q5, q6, q7⟩, p1, p2, p3, p4, p5, hA, hF, f5, es, eo⟩ := h
  have q44 := q3.1.2.2.2
  have e1 : (c 75 3 + 1).toInt = (c 75 3).toInt + 1 := i_p1 (by omega)
  have t := tn_cast (x := c 75 3) q44.1
  have hq := q3.1.1 (c 75 3).toNatClampNeg (by rw [q2, t, q1]; exact hl)
  generalize hz : (c 76 (c 75 3).toNatClampNeg).toNatClampNeg = z at *
  have of : zOf c (ma_u (ma_u c 75 3 (c 75 3 + 1)) 77 z 2) := fun c' k h1 h2 h3 => by rw [xu_o (fun w => h3 w.1), xu_o (fun w => h1 w.1)]
  have r3 : (ma_u (ma_u c 75 3 (c 75 3 + 1)) 77 z 2) 75 3 = c 75 3 + 1 := by rw [xu_o (by omega), xu_s]
  have r4 : (ma_u (ma_u c 75 3 (c 75 3 + 1)) 77 z 2) 75 4 = c 75 4 := by rw [xu_o (by omega), xu_o (by omega)]
  have r5 : (ma_u (ma_u c 75 3 (c 75 3 + 1)) 77 z 2) 75 5 = c 75 5 := by rw [xu_o (by omega), xu_o (by omega)]
  have r6 : (ma_u (ma_u c 75 3 (c 75 3 + 1)) 77 z 2) 76 = c 76 := by rw [ma_u_ne _ _ _ (by decide), ma_u_ne _ _ _ (by decide)]
  have rc : (ma_u (ma_u c 75 3 (c 75 3 + 1)) 77 z 2) 77 = ma_u c 77 z 2 77 := by
    funext k
    show (if (77 : Nat) = 77 ∧ k = z then (2 : Int32) else ma_u c 75 3 _ 77 k) = (if (77 : Nat) = 77 ∧ k = z then (2 : Int32) else c 77 k)
    rw [xu_o (by omega)]
  have r7 : ∀ x, (ma_u (ma_u c 75 3 (c 75 3 + 1)) 77 z 2) 77 x ≠ 0 ↔ c 77 x ≠ 0 := fun x => by
    rw [rc]
    by_cases w : x = z
    · rw [w, xu_s]
      exact ⟨fun _ => hq.2.2.1, fun _ => by decide⟩
    · rw [xu_o (fun y => w y.2)]
  generalize ma_u (ma_u c 75 3 (c 75 3 + 1)) 77 z 2 = B at *
  have r26 := of_r of (k := 126) (by decide) (by decide) (by decide)
  have r28 := of_r of (k := 128) (by decide) (by decide) (by decide)
  have r30 := of_r of (k := 130) (by decide) (by decide) (by decide)
  have r31 := of_r of (k := 131) (by decide) (by decide) (by decide)
  have r87 := of_r of (k := 87) (by decide) (by decide) (by decide)
  have gP : gPf B = gPf c := funext (fun j => by unfold gPf; rw [r6, r28, r31, r87])
  have gN : gNf B = gNf c := funext (fun j => by unfold gNf; rw [r6, r28, r31, r87])
  have yg : ∀ n, qYg B n ↔ qYg c n := fun n => yg_r r87 r31
  refine ⟨RB_of hR of, ⟨⟨by rw [r3, q1], r4.trans q2⟩, ⟨⟨?_, ?_, ?_, ?_⟩, ?_⟩, ?_, q5, fun t ht hu => ?_, fun j hj => by rw [r6]; exact q7 j hj⟩, fun j hj => ?_, ?_, fun s hs hu w => ?_, p4, fun s hs hu => by rw [r31]; exact p5 s hs hu, A0_of hA of, Fu_of hF of, by rw [r5, r87]; exact f5, by rw [r87]; exact es, by rw [r87]; exact eo⟩
  · intro j hj
    rw [r4] at hj
    have g := q3.1.1 j hj
    rw [r6, r26]
    exact ⟨g.1, g.2.1, (r7 _).mpr g.2.2.1, g.2.2.2⟩
  · intro j j' h1 h2
    rw [r4] at h2
    rw [r6]
    exact q3.1.2.1 j j' h1 h2
  · intro x hx w
    rw [r4, r6]
    exact q3.1.2.2.1 x hx ((r7 x).mp w)
  · rw [r3, r4, e1]
    rw [q1, q2] at *
    omega
  · intro x hx w
    rw [r5, r30]
    exact q3.2 x hx ((r7 x).mp w)
  · rw [r4, rc]
    have w := cnt_u1 (m := c) (c := 77) (k := z) (x := (2 : Int32)) (n := 512) (by decide)
    omega
  · rw [r30, r5]
    exact (q6 t ht hu).trans (or_congr Iff.rfl (r7 _).symm)
  · rw [yg, r6, gP, gN]
    exact p1 j hj
  · rw [gP, gN]
    exact p2
  · refine p3 s hs hu ?_
    by_cases v : c 77 (nr s).toNatClampNeg = 0
    · exact v
    · exact absurd w ((r7 _).mpr v)
theorem YS_go (h : qYS us nr kr kd ws AT ho wd wi OW rt wk wl wm nu ro fo le ra pi kp ca cat cm at2 ow2 ag2 AG to o2 st o0 d) (hl : cat.toInt < cm.toInt) (hs : s = ca cat.toNatClampNeg) (hx : x = cat + 1) : qYW us nr kr kd ws AT ho wd wi OW rt wk wl wm nu ro fo le ra pi kp ca x cm at2 ow2 ag2 AG to o2 st o0 s 0 d := by
  obtain ⟨c, f, hB, hT, hf⟩ := h
  have b := YB_b hB
  have t := tn_cast (x := cat) b.1
  have g := hB.2.1.2.2.2.2.2 cat.toNatClampNeg (by omega)
  have e1 : (cat + 1).toInt = cat.toInt + 1 := i_p1 (by omega)
  have q := hB.1.1.1 _ (tn_lt g.1.1 g.1.2.1) g.1.2.2
  have hd := YB_hd hB hl
  cases f with
  | zero => omega
  | succ f =>
    have e2 : aSp (f + 1) c = aSp f (aPop c) := by
      show (if (c 75 3).toInt < (c 75 4).toInt then aSp f (aPop c) else c) = _
      rw [hB.2.1.1.1, hB.2.1.1.2, if_pos hl]
    have e3 : c 76 (c 75 3).toNatClampNeg = nr s.toNatClampNeg := by
      rw [hB.2.1.1.1, g.2, hs]
    rw [← hs] at g q
    have e4 := aPop_y e3 q.1.1 q.1.2 q.2.1
    rw [e3] at hd
    rw [hx]
    exact ⟨_, f, ⟨hd, by rw [← e4, ← e2]; exact hT, by omega⟩, g.1.1, by have := g.1.2.1; omega, g.1.2.2⟩
theorem YW_rf (h : qYB us nr kr kd ws AT ho wd wi OW rt wk wl wm nu ro fo le ra pi kp ca cat cm at2 ow2 ag2 AG to o2 st o0 c) (h0 : 0 ≤ s.toInt) (h3 : s.toInt ≤ 3099) (hu : us s.toNatClampNeg ≠ 0) (hi : 0 ≤ i.toInt) (hw : i.toInt < (ws s.toNatClampNeg).toInt) (hx : zrf kr kd wd s.toNatClampNeg i.toNatClampNeg = x) : qU us x ∧ aCw c (nr s.toNatClampNeg).toNatClampNeg i = aCw (aCm c (qNo nr x)) (nr s.toNatClampNeg).toNatClampNeg (i + 1) := by
  have t := tn_cast hi
  have q := h.1.2.1 _ (tn_lt h0 (by omega)) hu i.toNatClampNeg (by omega)
  have r := h.1.1.1 _ (tn_lt h0 (by omega)) hu
  have sz : (c 128 (nr s.toNatClampNeg).toNatClampNeg).toInt = (ws s.toNatClampNeg).toInt + 1 := by
    rw [r.2.2.1]
    exact i_addk rfl (by have := r.2.2.2.2.2.1; omega) (by have := r.2.2.2.2.2.1; omega)
  rw [hx] at q
  refine ⟨q.1, ?_⟩
  rw [aCw_go (by omega), ← q.2.1, ofN_tn hi]
theorem YW_end (h : qYW us nr kr kd ws AT ho wd wi OW rt wk wl wm nu ro fo le ra pi kp ca cat cm at2 ow2 ag2 AG to o2 st o0 s i d) (hi : 0 ≤ i.toInt) (hw : ¬ i.toInt < (ws s.toNatClampNeg).toInt) : qYS us nr kr kd ws AT ho wd wi OW rt wk wl wm nu ro fo le ra pi kp ca cat cm at2 ow2 ag2 AG to o2 st o0 d := by
  obtain ⟨c, f, ⟨hB, hT, hf⟩, h0, h3, hu⟩ := h
  have r := hB.1.1.1 _ (tn_lt h0 (by omega)) hu
  have sz : (c 128 (nr s.toNatClampNeg).toNatClampNeg).toInt = (ws s.toNatClampNeg).toInt + 1 := by
    rw [r.2.2.1]
    exact i_addk rfl (by have := r.2.2.2.2.2.1; omega) (by have := r.2.2.2.2.2.1; omega)
  rw [aCw_st (by omega)] at hT
  exact ⟨c, f, hB, hT, hf⟩
/-! ROOTS, WISHES -/
theorem YB_wh (hR : qRB us nr kr kd ws AT ho wd wi OW rt wk wl wm nu ro fo le ra pi a) (hv : qAv a) (hf : ¬ gFu a) (hg : ∀ s, s < 3100 → us s ≠ 0 → AG s = a 131 (nr s).toNatClampNeg) (hk : ∀ s, s < 3100 → (kp s ≠ 0 ↔ us s ≠ 0 ∧ (AT s).toInt < (a 87 9).toInt)) (h1 : cat.toInt = 0) (h2 : cm.toInt = 0) (ht : to.toInt = 2 * (a 87 9).toInt + (a 87 5).toInt - (a 87 3).toInt) (h10 : o2 = a 87 10) : qYB us nr kr kd ws AT ho wd wi OW rt wk wl wm nu ro fo le ra pi kp ca cat cm AT OW AG AG to o2 (2 * (a 87 9).toInt + (a 87 5).toInt - (a 87 3).toInt) (a 87 10).toInt (aWh a (a 87 9)) := by
  have o := wh_of (a := a) (x := a 87 9)
  have c0 : cat = 0 := Int32.toInt_inj.mp (by rw [h1]; rfl)
  have m0 : cm = 0 := Int32.toInt_inj.mp (by rw [h2]; rfl)
  have r3 : aWh a (a 87 9) 75 3 = 0 := by
    unfold aWh
    rw [xu_o (by omega), xu_o (by omega), xu_s]
  have r4 : aWh a (a 87 9) 75 4 = 0 := by
    unfold aWh
    rw [xu_o (by omega), xu_s]
  have r30 := of_r o (k := 130) (by decide) (by decide) (by decide)
  have r31 := of_r o (k := 131) (by decide) (by decide) (by decide)
  have r87 := of_r o (k := 87) (by decide) (by decide) (by decide)
  have z4 : (0 : Int32).toInt = 0 := rfl
  refine ⟨RB_of hR o, ⟨⟨by rw [r3, c0], by rw [r4, m0]⟩, FY_wh, by rw [r4, z4]; omega, fun s hs z => ((hk s hs).mp z).1, fun s hs hu => ?_, fun j hj => absurd hj (by omega)⟩, fun j hj => absurd hj (by omega), ⟨?_, ?_⟩, fun _ _ _ _ => ⟨rfl, rfl⟩, hR.2.2.2.2.2.2.1, fun s hs hu => by rw [r31]; exact hg s hs hu, A0_of (Av_0 hv) o, Fu_of hf o, by rw [wh_5, r87], by rw [r87], by rw [r87]⟩
  · have q := hR.1.1 s hs hu
    have n5 := tn_cast q.1.1
    have n6 := q.1.2
    rw [r30, wh_5, wh_7 (by omega), q.2.2.2.1]
    exact (hk s hs).trans ⟨fun z => Or.inl z.2, fun z => z.elim (fun w => ⟨hu, w⟩) (fun w => absurd rfl w)⟩
  · rw [ht, h2]
    show _ = _ + (0 : Int)
    omega
  · rw [h10, h2]
    show _ = _ + (0 : Int)
    omega
theorem YR_0 (h : qYB us nr kr kd ws AT ho wd wi OW rt wk wl wm nu ro fo le ra pi kp ca cat cm at2 ow2 ag2 AG to o2 st o0 c) (hi : i.toInt = 0) : qYR us nr kr kd ws AT ho wd wi OW rt wk wl wm nu ro fo le ra pi kp ca cat cm at2 ow2 ag2 AG to o2 st o0 i (aRo c 0) := ⟨c, h, by rw [show i = 0 from Int32.toInt_inj.mp (by rw [hi]; rfl)]⟩
theorem YR_rt (h : qYB us nr kr kd ws AT ho wd wi OW rt wk wl wm nu ro fo le ra pi kp ca cat cm at2 ow2 ag2 AG to o2 st o0 c) (hi : 0 ≤ i.toInt) (h6 : i.toInt < 16) (hx : x = rt i.toNatClampNeg) : qU us x ∧ aRo c i = aRo (aCm c (qNo nr x)) (i + 1) := by
  have t := tn_cast hi
  have q := h.1.2.2.1 i.toNatClampNeg (by omega)
  rw [aRo_go h6, q.2, hx]
  exact ⟨q.1, rfl⟩
theorem YX_wl (h : qYB us nr kr kd ws AT ho wd wi OW rt wk wl wm nu ro fo le ra pi kp ca cat cm at2 ow2 ag2 AG to o2 st o0 c) (hi : 0 ≤ i.toInt) (h6 : i.toInt < wm.toInt) (hx : x = wl i.toNatClampNeg) : (0 ≤ x.toInt ∧ qU us x) ∧ aWi c i = aWi (aCm c (qNo nr x)) (i + 1) := by
  have t := tn_cast hi
  have q := h.1.2.2.2.2.1
  have g := q.2 i.toNatClampNeg (by omega)
  rw [hx]
  refine ⟨⟨g.1.1, Or.inr ⟨g.1.2.1, g.1.2.2⟩⟩, ?_⟩
  rw [aWi_go (by rw [q.1]; exact h6), g.2, No_y g.1.1]
theorem YR_end (h : qYR us nr kr kd ws AT ho wd wi OW rt wk wl wm nu ro fo le ra pi kp ca cat cm at2 ow2 ag2 AG to o2 st o0 i T) (h6 : ¬ i.toInt < 16) (hx : x.toInt = 0) : qYX us nr kr kd ws AT ho wd wi OW rt wk wl wm nu ro fo le ra pi kp ca cat cm at2 ow2 ag2 AG to o2 st o0 x T := by
  obtain ⟨c, hB, hT⟩ := h
  rw [aRo_st h6] at hT
  exact ⟨c, hB, by rw [show x = 0 from Int32.toInt_inj.mp (by rw [hx]; rfl)]; exact hT⟩
theorem yHo_0 : ∀ (f : Nat) (n : Int32) (c : Nat → Nat → Int32), (∀ x, xAl c x → c 133 x = 0 ∨ (c 130 x).toInt < (c 75 5).toInt) → aHf f n c = c := by
  intro f
  induction f with
  | zero => intro n c h; rfl
  | succ f ih =>
    intro n c h
    have e : (if 0 ≤ n.toInt ∧ n.toInt < 512 ∧ c 126 n.toNatClampNeg ≠ 0 ∧ 0 < (c 133 n.toNatClampNeg).toInt then aCm c n else c) = c := by
      by_cases z : 0 ≤ n.toInt ∧ n.toInt < 512 ∧ c 126 n.toNatClampNeg ≠ 0 ∧ 0 < (c 133 n.toNatClampNeg).toInt
      · rw [if_pos z]
        have t := tn_cast z.1
        refine aCm_n (fun w => ?_)
        rcases h n.toNatClampNeg ⟨by omega, z.2.2.1⟩ with q | q
        · have z4 := z.2.2.2
          rw [q] at z4
          exact absurd z4 (by decide)
        · have := w.2.2.2.1
          omega
      · exact if_neg z
    show aHf f (n + 1) _ = c
    rw [e]
    exact ih _ _ h
theorem YX_end (h : qYX us nr kr kd ws AT ho wd wi OW rt wk wl wm nu ro fo le ra pi kp ca cat cm at2 ow2 ag2 AG to o2 st o0 i T) (h6 : ¬ i.toInt < wm.toInt) : qYB us nr kr kd ws AT ho wd wi OW rt wk wl wm nu ro fo le ra pi kp ca cat cm at2 ow2 ag2 AG to o2 st o0 T := by
  obtain ⟨c, hB, hT⟩ := h
  rw [aWi_st (by rw [hB.1.2.2.2.2.1.1]; exact h6)] at hT
  have e : aHo c 0 = c := yHo_0 _ _ _ (fun x hx => by
    have hA := hB.2.2.2.2.2.2.2.1
    have f5 := hB.2.2.2.2.2.2.2.2.2.1
    have a1 := hA.2.2.2.2.2.2 x hx
    rw [f5]
    by_cases w : (c 130 x).toInt < (c 87 9).toInt
    · exact Or.inr w
    · exact Or.inl (a1.2.2 (by omega)).2.2)
  rw [← hT, e]
  exact hB
/-! dirty cards -/
theorem Dt_cm (h : qDt dt c) : qDt dt (aCm c y) := fun k hk => by
  rw [aCm_o ⟨by decide, by decide, by decide⟩]
  exact h k hk
theorem Gd_of (h : qGd c p) (o : zOf c d) : qGd d p := fun n hn => by
  rw [of_r o (k := 130) (by decide) (by decide) (by decide), of_r o (k := 128) (by decide) (by decide) (by decide)]
  exact h n ((Of_al o).mp hn)
/-- those that lie in OLD below o0 have not moved -/
theorem YB_lo (h : qYB us nr kr kd ws AT ho wd wi OW rt wk wl wm nu ro fo le ra pi kp ca cat cm at2 ow2 ag2 AG to o2 st o0 c) (hk : k < 3100) (hu : us k ≠ 0) : ((at2 k).toInt < o0 → at2 k = AT k) ∧ ((AT k).toInt < o0 → at2 k = AT k) := by
  have hQ := h.2.1
  obtain ⟨p1, ⟨p2, p2'⟩, p3, p4, p5, hA, hF, f5, es, eo⟩ := h.2.2
  have bd := YP_bd hQ hA f5
  have a3 := hA.2.2.1
  have a4 := hA.2.2.2.1
  have a6 := hA.2.2.2.2.2.1
  have z1 : zsg (gPf c) 0 = 0 := rfl
  have z2 : zsg (gNf c) 0 = 0 := rfl
  have c0 : 0 ≤ cm.toInt := by
    have := YB_b h
    omega
  have gP := sg_le (F := gPf c) (m := cm.toInt.toNat) (fun i hi => (bd.1 i (by omega)).1)
  have gN := sg_le (F := gNf c) (m := cm.toInt.toNat) (fun i hi => (bd.1 i (by omega)).2.1)
  by_cases w : c 77 (nr k).toNatClampNeg = 0
  · have e := (p3 k hk hu w).1
    exact ⟨fun _ => e, fun _ => e⟩
  · obtain ⟨j, hj, et, ej⟩ := YQ_j hQ h.1.1 hk hu w
    have pj := p1 j hj
    rw [et] at pj
    have rt := h.1.1.1 k hk hu
    have n5 := tn_cast rt.1.1
    have fl := hQ.2.1.2 _ (by have := rt.1.2; omega) w
    rw [f5, rt.2.2.2.1] at fl
    refine ⟨fun v => ?_, fun v => absurd v (by omega)⟩
    by_cases g : qYg c (c 76 j).toNatClampNeg
    · have e := pj.1 g
      have l0 := gP j (by omega) 0 (by omega)
      omega
    · have e := pj.2.1 g
      have l0 := gN j (by omega) 0 (by omega)
      omega
theorem YD_0 (h : qYB us nr kr kd ws AT ho wd wi OW rt wk wl wm nu ro fo le ra pi kp ca cat cm at2 ow2 ag2 AG to o2 st o0 c) (hd : qDt dt c) : qYD us nr kr kd ws AT ho wd wi OW rt wk wl wm nu ro fo le ra pi kp ca cat cm at2 ow2 ag2 AG to o2 st o0 dt 0 (gDp c o0 0) := ⟨c, h, hd, ⟨Gd_0 h.2.2.2.2.2.2.2.1.1, by omega⟩, rfl⟩
theorem YD_p (h : qYD us nr kr kd ws AT ho wd wi OW rt wk wl wm nu ro fo le ra pi kp ca cat cm at2 ow2 ag2 AG to o2 st o0 dt p T) : 0 ≤ p ∧ 0 ≤ o0 ∧ o0 ≤ 1500 := by
  obtain ⟨c, hB, _, ⟨_, h0⟩, _⟩ := h
  obtain ⟨p1, ⟨p2, p2'⟩, p3, p4, p5, hA, hF, f5, es, eo⟩ := hB.2.2
  have a3 := hA.2.2.1
  have a6 := hA.2.2.2.2.2.1
  omega
theorem YD_fr (h : qYD us nr kr kd ws AT ho wd wi OW rt wk wl wm nu ro fo le ra pi kp ca cat cm at2 ow2 ag2 AG to o2 st o0 dt x.toInt T) (hl : x.toInt < o0) (hn : (ow2 x.toNatClampNeg).toInt < 0) (hx : x2.toInt = x.toInt + 1) : qYD us nr kr kd ws AT ho wd wi OW rt wk wl wm nu ro fo le ra pi kp ca cat cm at2 ow2 ag2 AG to o2 st o0 dt x2.toInt T := by
  have bb := YD_p h
  obtain ⟨c, hB, hd, ⟨hG, h0⟩, hT⟩ := h
  have hI := hB.2.2.2.2.2.2.2.1.1
  have o : (zOb c x.toInt).toInt < 0 := by
    refine OB_n (ow := fun p => if (p : Int) < o0 then ow2 p else OW p) hI hB.1.1 (fun s hs hu => ?_) hG h0 (by omega) ?_
    · have q := hB.1.1.1 s hs hu
      have t := tn_cast (x := AT s) q.2.2.2.2.2.2
      show (if ((AT s).toNatClampNeg : Int) < o0 then ow2 (AT s).toNatClampNeg else OW (AT s).toNatClampNeg) = Int32.ofNat s
      by_cases w : ((AT s).toNatClampNeg : Int) < o0
      · rw [if_pos w, ← (YB_lo hB hs hu).2 (by omega)]
        exact hB.2.2.2.2.2.1 s hs hu
      · rw [if_neg w]
        exact hB.1.2.2.2.2.2.2.1 s hs hu
    · have t := tn_cast h0
      show (if ((x.toInt.toNat : Nat) : Int) < o0 then ow2 x.toInt.toNat else OW x.toInt.toNat).toInt < 0
      rw [if_pos (by omega)]
      exact hn
  rw [hx]
  exact ⟨c, hB, hd, ⟨Gd_s hI hG o h0 (by omega), by omega⟩, (Dp_fr hl o).symm.trans hT⟩
theorem YD_go (h : qYD us nr kr kd ws AT ho wd wi OW rt wk wl wm nu ro fo le ra pi kp ca cat cm at2 ow2 ag2 AG to o2 st o0 dt x.toInt T) (hO : zOw us at2 ow2) (hl : x.toInt < o0) (hs : s = ow2 x.toNatClampNeg) (hs0 : 0 ≤ s.toInt) (hs3 : s.toInt ≤ 3099) (hi : i.toInt = 0) : qYE us nr kr kd ws AT ho wd wi OW rt wk wl wm nu ro fo le ra pi kp ca cat cm at2 ow2 ag2 AG to o2 st o0 dt x.toInt s i T := by
  have bb := YD_p h
  obtain ⟨c, hB, hd, ⟨hG, h0⟩, hT⟩ := h
  have hI := hB.2.2.2.2.2.2.2.1.1
  have t := tn_cast h0
  have ho := hO x.toNatClampNeg (by omega) (by rw [← hs]; exact hs0)
  rw [← hs] at ho
  have sl := tn_lt hs0 (by omega : s.toInt < 3100)
  have ea := (YB_lo hB sl ho.1).1 (by omega)
  have r := hB.1.1.1 _ sl ho.1
  have al := R1_al hB.1.1 sl ho.1
  have e71 : c 71 x.toInt.toNat = nr s.toNatClampNeg := by
    have z := (hI.1 _ al).2.2.2
    rw [r.2.2.2.1, R1_of_nr hB.1.1 sl ho.1] at z
    rw [show (AT s.toNatClampNeg).toNatClampNeg = x.toInt.toNat from by
      show (AT s.toNatClampNeg).toInt.toNat = x.toInt.toNat
      rw [← ea]
      omega] at z
    exact z
  have ob : zOb c x.toInt = nr s.toNatClampNeg := by
    unfold zOb
    rw [e71, if_pos ⟨h0, by omega, r.1.1, r.1.2, r.2.1⟩]
  have g := Dp_go (e := o0) (S1_I hI) hl (by rw [ob]; exact r.1.1)
  rw [ob, hT] at g
  have i0 : i = 0 := Int32.toInt_inj.mp (by rw [hi]; rfl)
  rw [i0]
  exact ⟨c, hB, hd, ⟨hs0, hs3, ho.1⟩, ⟨by rw [r.2.2.2.1, ← ea]; omega, h0, hl, hG⟩, g.symm⟩
theorem YE_p (h : qYE us nr kr kd ws AT ho wd wi OW rt wk wl wm nu ro fo le ra pi kp ca cat cm at2 ow2 ag2 AG to o2 st o0 dt p s i T) : 0 ≤ s.toInt ∧ s.toInt ≤ 3099 ∧ 0 ≤ p ∧ p < o0 ∧ o0 ≤ 1500 := by
  obtain ⟨c, hB, _, ⟨h0, h3, _⟩, ⟨_, hp, hl, _⟩, _⟩ := h
  obtain ⟨p1, ⟨p2, p2'⟩, p3, p4, p5, hA, hF, f5, es, eo⟩ := hB.2.2
  have a3 := hA.2.2.1
  have a6 := hA.2.2.2.2.2.1
  omega
theorem YE_k (h : qYB us nr kr kd ws AT ho wd wi OW rt wk wl wm nu ro fo le ra pi kp ca cat cm at2 ow2 ag2 AG to o2 st o0 c) (h0 : 0 ≤ s.toInt) (h3 : s.toInt ≤ 3099) (hu : us s.toNatClampNeg ≠ 0) (he : (c 130 (nr s.toNatClampNeg).toNatClampNeg).toInt < (c 87 9).toInt) (hi : 0 ≤ i.toInt) (hw : i.toInt < (ws s.toNatClampNeg).toInt) : 0 < (c 87 12).toInt ∧ 0 ≤ gCx c (nr s.toNatClampNeg).toNatClampNeg i.toInt ∧ gCx c (nr s.toNatClampNeg).toNatClampNeg i.toInt < 375 := by
  have sl := tn_lt h0 (by omega : s.toInt < 3100)
  have r := h.1.1.1 _ sl hu
  have al := R1_al h.1.1 sl hu
  have hA := h.2.2.2.2.2.2.2.1
  have t := tn_cast hi
  have sz : (c 128 (nr s.toNatClampNeg).toNatClampNeg).toInt = (ws s.toNatClampNeg).toInt + 1 := by
    rw [r.2.2.1]
    exact i_addk rfl (by have := r.2.2.2.2.2.1; omega) (by have := r.2.2.2.2.2.1; omega)
  have g := cx_lt (i := i.toNatClampNeg) hA al he (by omega)
  rw [t] at g
  have a3 := hA.2.2.1
  exact ⟨by omega, g.1, g.2⟩
/-- a word on a dirty card comes, another does not -/
theorem YE_y (hB : qYB us nr kr kd ws AT ho wd wi OW rt wk wl wm nu ro fo le ra pi kp ca cat cm at2 ow2 ag2 AG to o2 st o0 c) (hd : qDt dt c) (h0 : 0 ≤ s.toInt) (h3 : s.toInt ≤ 3099) (hu : us s.toNatClampNeg ≠ 0) (he : (c 130 (nr s.toNatClampNeg).toNatClampNeg).toInt < (c 87 9).toInt) (hi : 0 ≤ i.toInt) (hw : i.toInt < (ws s.toNatClampNeg).toInt) (hk : (k : Int) = gCx c (nr s.toNatClampNeg).toNatClampNeg i.toInt) (hdt : dt k ≠ 0) (hx : zrf kr kd wd s.toNatClampNeg i.toNatClampNeg = x) : qU us x ∧ gDw c (nr s.toNatClampNeg).toNatClampNeg i = gDw (aCm c (qNo nr x)) (nr s.toNatClampNeg).toNatClampNeg (i + 1) := by
  have g := YE_k hB h0 h3 hu he hi hw
  have sl := tn_lt h0 (by omega : s.toInt < 3100)
  have t := tn_cast hi
  have q := hB.1.2.1 _ sl hu i.toNatClampNeg (by omega)
  have r := hB.1.1.1 _ sl hu
  have sz : (c 128 (nr s.toNatClampNeg).toNatClampNeg).toInt = (ws s.toNatClampNeg).toInt + 1 := by
    rw [r.2.2.1]
    exact i_addk rfl (by have := r.2.2.2.2.2.1; omega) (by have := r.2.2.2.2.2.1; omega)
  rw [hx] at q
  have b := r.2.2.2.2.2.1
  have e1 : (i + 1).toInt = i.toInt + 1 := i_p1 (by omega)
  refine ⟨q.1, ?_⟩
  have ek : (gCx c (nr s.toNatClampNeg).toNatClampNeg i.toInt).toNat = k := by omega
  have z := gDw_y (a := c) (n := (nr s.toNatClampNeg).toNatClampNeg) (i := i) (by omega) e1 ⟨g.1, g.2.2, by rw [ek]; exact (hd k (by omega)).mp hdt⟩
  rw [z, ← q.2.1, ofN_tn hi]
theorem YE_n (hB : qYB us nr kr kd ws AT ho wd wi OW rt wk wl wm nu ro fo le ra pi kp ca cat cm at2 ow2 ag2 AG to o2 st o0 c) (hd : qDt dt c) (h0 : 0 ≤ s.toInt) (h3 : s.toInt ≤ 3099) (hu : us s.toNatClampNeg ≠ 0) (he : (c 130 (nr s.toNatClampNeg).toNatClampNeg).toInt < (c 87 9).toInt) (hi : 0 ≤ i.toInt) (hw : i.toInt < (ws s.toNatClampNeg).toInt) (hk : (k : Int) = gCx c (nr s.toNatClampNeg).toNatClampNeg i.toInt) (hdt : dt k = 0) : gDw c (nr s.toNatClampNeg).toNatClampNeg i = gDw c (nr s.toNatClampNeg).toNatClampNeg (i + 1) := by
  have g := YE_k hB h0 h3 hu he hi hw
  have sl := tn_lt h0 (by omega : s.toInt < 3100)
  have r := hB.1.1.1 _ sl hu
  have sz : (c 128 (nr s.toNatClampNeg).toNatClampNeg).toInt = (ws s.toNatClampNeg).toInt + 1 := by
    rw [r.2.2.1]
    exact i_addk rfl (by have := r.2.2.2.2.2.1; omega) (by have := r.2.2.2.2.2.1; omega)
  have b := r.2.2.2.2.2.1
  have e1 : (i + 1).toInt = i.toInt + 1 := i_p1 (by omega)
  have ek : (gCx c (nr s.toNatClampNeg).toNatClampNeg i.toInt).toNat = k := by omega
  refine gDw_n (by omega) e1 (fun z => ?_)
  have z2 := z.2.2
  rw [ek] at z2
  exact (hd k (by omega)).mpr z2 hdt
theorem YE_end (h : qYE us nr kr kd ws AT ho wd wi OW rt wk wl wm nu ro fo le ra pi kp ca cat cm at2 ow2 ag2 AG to o2 st o0 dt p s i T) (hi : 0 ≤ i.toInt) (hw : ¬ i.toInt < (ws s.toNatClampNeg).toInt) (hp2 : p2 = p + ((ws s.toNatClampNeg).toInt + 1)) : qYD us nr kr kd ws AT ho wd wi OW rt wk wl wm nu ro fo le ra pi kp ca cat cm at2 ow2 ag2 AG to o2 st o0 dt p2 T := by
  obtain ⟨c, hB, hd, ⟨h0, h3, hu⟩, ⟨e, hp, hl, hG⟩, hT⟩ := h
  have sl := tn_lt h0 (by omega : s.toInt < 3100)
  have r := hB.1.1.1 _ sl hu
  have al := R1_al hB.1.1 sl hu
  have hI := hB.2.2.2.2.2.2.2.1.1
  have sz : (c 128 (nr s.toNatClampNeg).toNatClampNeg).toInt = (ws s.toNatClampNeg).toInt + 1 := by
    rw [r.2.2.1]
    exact i_addk rfl (by have := r.2.2.2.2.2.1; omega) (by have := r.2.2.2.2.2.1; omega)
  rw [gDw_st (by omega), sz, ← hp2] at hT
  have b := r.2.2.2.2.2.1
  have e71 : c 71 p.toNat = nr s.toNatClampNeg := by
    have z := (hI.1 _ al).2.2.2
    rw [R1_of_nr hB.1.1 sl hu] at z
    rw [show (c 130 (nr s.toNatClampNeg).toNatClampNeg).toNatClampNeg = p.toNat from by
      show (c 130 (nr s.toNatClampNeg).toNatClampNeg).toInt.toNat = p.toNat
      rw [e]] at z
    exact z
  have bb : o0 ≤ 1500 := by
    have a3 := hB.2.2.2.2.2.2.2.1.2.2.1
    have a6 := hB.2.2.2.2.2.2.2.1.2.2.2.2.2.1
    have eo := hB.2.2.2.2.2.2.2.2.2.2.2
    omega
  have ob : zOb c p = nr s.toNatClampNeg := by
    unfold zOb
    rw [e71, if_pos ⟨hp, by omega, r.1.1, r.1.2, r.2.1⟩]
  have g := (Gd_nx hI hG (by rw [ob]; exact r.1.1)).1
  rw [ob, sz, ← hp2] at g
  exact ⟨c, hB, hd, ⟨g, by omega⟩, hT⟩
theorem YD_end (h : qYD us nr kr kd ws AT ho wd wi OW rt wk wl wm nu ro fo le ra pi kp ca cat cm at2 ow2 ag2 AG to o2 st o0 dt p T) (hl : ¬ p < o0) : qYB us nr kr kd ws AT ho wd wi OW rt wk wl wm nu ro fo le ra pi kp ca cat cm at2 ow2 ag2 AG to o2 st o0 T ∧ qDt dt T := by
  obtain ⟨c, hB, hd, _, hT⟩ := h
  rw [Dp_e hl] at hT
  rw [← hT]
  exact ⟨hB, hd⟩
/-! wishers -/
theorem KB_yq (h : qYQ kp ca us nr cat cm c) (hR : qR1 us nr ws AT ho c) : qKB kp us nr (aPc c) := ⟨h.2.2.2.1, fun s hs hu => by
  have q := hR.1 s hs hu
  have n5 := tn_cast q.1.1
  have n6 := q.1.2
  refine (h.2.2.2.2.1 s hs hu).trans ⟨fun z => ⟨by omega, ?_⟩, fun z => ?_⟩
  · by_cases w : (c 130 (nr s).toNatClampNeg).toInt < (c 75 5).toInt
    · rw [Pc_7o (by omega) q.2.1 w]
      decide
    · rw [Pc_7y (fun y => w y.2.2)]
      exact z.elim (fun y => absurd y w) id
  · by_cases w : (c 130 (nr s).toNatClampNeg).toInt < (c 75 5).toInt
    · exact Or.inl w
    · have z2 := z.2
      rw [Pc_7y (fun y => w y.2.2)] at z2
      exact Or.inr z2⟩
theorem YB_0f (h : qYB us nr kr kd ws AT ho wd wi OW rt wk wl wm nu ro fo le ra pi kp ca cat cm at2 ow2 ag2 AG to o2 st o0 c) : 0 ≤ (c 75 5).toInt := by
  have f5 := h.2.2.2.2.2.2.2.2.2.1
  have a3 := h.2.2.2.2.2.2.2.1.2.2.1
  rw [f5]
  omega
theorem YL_no (h : qYB us nr kr kd ws AT ho wd wi OW rt wk wl wm nu ro fo le ra pi kp ca cat cm at2 ow2 ag2 AG to o2 st o0 b) {v : Int} {z : Int32} (hm : ∀ t : Nat, t < 3100 → qCw us kp wi nr l t → v ≤ (nr t).toInt) (h1 : l.toInt < z.toInt) (h2 : z.toInt < v) : ¬ aGc b z := fun w => GL_no (RB_of h.1 (fun c' k q1 _ q3 => (Pc_o q1 q3).symm) : qRB us nr kr kd ws AT ho wd wi OW rt wk wl wm nu ro fo le ra pi (aPc b)) (KB_yq h.2.1 h.1.1) hm h1 h2 ((Pc_gc (YB_0f h)).mpr w)
theorem YL_end (h : qYB us nr kr kd ws AT ho wd wi OW rt wk wl wm nu ro fo le ra pi kp ca cat cm at2 ow2 ag2 AG to o2 st o0 b) (h1 : -1 ≤ l.toInt) (h2 : l.toInt + 1 ≤ (b 69 6).toInt) (hm : qMin (qCw us kp wi nr l) nr x 3100) (hx : x.toInt < 0) (hT : aGw b (l + 1) = T) : b = T := by
  have hI := h.2.2.2.2.2.2.2.1.1
  have i4 := hI.2.2.2.1.1
  have e1 := i_p1 (i := l) (by omega)
  rw [← hT, aGw_to (b := b) ((b 69 6).toInt - (l + 1).toInt).toNat (l + 1) (b 69 6) (by omega) (by omega) (by omega) (fun z z1 z2 => YL_no h (v := 600) (fun t ht hc => by
      rcases hm with q | q
      · exact absurd hc (q.2 t (by omega))
      · omega) (by omega) (by omega)), aGw_st (by omega)]
theorem YL_nx (h : qYB us nr kr kd ws AT ho wd wi OW rt wk wl wm nu ro fo le ra pi kp ca cat cm at2 ow2 ag2 AG to o2 st o0 b) (h1 : -1 ≤ l.toInt) (h2 : l.toInt + 1 ≤ (b 69 6).toInt) (hm : qMin (qCw us kp wi nr l) nr x 3100) (hx : 0 ≤ x.toInt) (hT : aGw b (l + 1) = T) : aGw (aSp 512 (aCm (aGr b (nr x.toNatClampNeg)) (nr x.toNatClampNeg))) (nr x.toNatClampNeg + 1) = T ∧ (nr x.toNatClampNeg).toInt + 1 ≤ (b 69 6).toInt ∧ -1 ≤ (nr x.toNatClampNeg).toInt := by
  have hI := h.2.2.2.2.2.2.2.1.1
  rcases hm with q | q
  · omega
  · have i4 := hI.2.2.2.1.1
    have e1 := i_p1 (i := l) (by omega)
    have hs := tn_lt hx q.2.1
    have t := h.1.1.1 _ hs q.2.2.1.1
    have al := R1_al h.1.1 hs q.2.2.1.1
    have l6 := (hI.1 _ al).1
    have ct := tn_cast t.1.1
    have l3 := q.2.2.1.2.2.2
    have wt := h.1.2.2.2.2.2.1 _ hs q.2.2.1.1
    refine ⟨?_, by omega, by omega⟩
    rw [← hT, aGw_to (b := b) ((nr x.toNatClampNeg).toInt - (l + 1).toInt).toNat (l + 1) (nr x.toNatClampNeg) (by omega) (by omega) (by omega) (fun z z1 z2 => YL_no h (fun t ht hc => q.2.2.2 t (by omega) hc) (by omega) z2)]
    have kk : ¬ ((b 130 (nr x.toNatClampNeg).toNatClampNeg).toInt < (b 75 5).toInt ∨ b 77 (nr x.toNatClampNeg).toNatClampNeg ≠ 0) := fun z => absurd ((h.2.1.2.2.2.2.1 _ hs q.2.2.1.1).mpr z) (fun w => w q.2.2.1.2.1)
    refine (aGw_y (by omega) ⟨t.1.1, t.1.2, t.2.1, ?_, ?_, ?_⟩).symm
    · rw [wt]
      exact q.2.2.1.2.2.1
    · by_cases w : (b 130 (nr x.toNatClampNeg).toNatClampNeg).toInt < (b 75 5).toInt
      · exact absurd (Or.inl w) kk
      · omega
    · by_cases w : b 77 (nr x.toNatClampNeg).toNatClampNeg = 0
      · exact w
      · exact absurd (Or.inr w) kk
theorem YG_0 (h : qYB us nr kr kd ws AT ho wd wi OW rt wk wl wm nu ro fo le ra pi kp ca cat cm at2 ow2 ag2 AG to o2 st o0 c) (hE : qE0 (aPc c)) (hC : qCl (aPc c)) (hM : qMin (qCw us kp wi nr (-1)) nr x 3100) : qYG us nr kr kd ws AT ho wd wi OW rt wk wl wm nu ro fo le ra pi kp ca cat cm at2 ow2 ag2 AG to o2 st o0 x (aGw c 0) := ⟨c, -1, h, hE, hC, ⟨by decide, by have := h.2.2.2.2.2.2.2.1.1.2.2.2.1.1.1; have e1 : (-1 : Int32).toInt = -1 := rfl; omega⟩, hM, rfl⟩
theorem YG_end (h : qYG us nr kr kd ws AT ho wd wi OW rt wk wl wm nu ro fo le ra pi kp ca cat cm at2 ow2 ag2 AG to o2 st o0 x T) (hx : x.toInt < 0) : qYB us nr kr kd ws AT ho wd wi OW rt wk wl wm nu ro fo le ra pi kp ca cat cm at2 ow2 ag2 AG to o2 st o0 T ∧ qE0 (aPc T) ∧ qCl (aPc T) := by
  obtain ⟨b, l, hB, hE, hC, hl, hM, hT⟩ := h
  have e := YL_end hB hl.1 hl.2 hM hx hT
  rw [← e]
  exact ⟨hB, hE, hC⟩
theorem YB_gr (hR : qRB us nr kr kd ws AT ho wd wi' OW rt wk' wl' wm' nu ro fo le ra pi (aGr b y)) (hI : qI (aGr b y)) (h : qYB us nr kr kd ws AT ho wd wi OW rt wk wl wm nu ro fo le ra pi kp ca cat cm at2 ow2 ag2 AG to o2 st o0 b) : qYB us nr kr kd ws AT ho wd wi' OW rt wk' wl' wm' nu ro fo le ra pi kp ca cat cm at2 ow2 ag2 AG to o2 st o0 (aGr b y) := by
  have g : ∀ c, c ≠ 73 → c ≠ 134 → c ≠ 74 → c ≠ 69 → aGr b y c = b c := fun c h1 h2 h3 h4 => gr_r h1 h2 h3 h4
  have e75 := g 75 (by decide) (by decide) (by decide) (by decide)
  have e76 := g 76 (by decide) (by decide) (by decide) (by decide)
  have e77 := g 77 (by decide) (by decide) (by decide) (by decide)
  have e26 := g 126 (by decide) (by decide) (by decide) (by decide)
  have e28 := g 128 (by decide) (by decide) (by decide) (by decide)
  have e30 := g 130 (by decide) (by decide) (by decide) (by decide)
  have e31 := g 131 (by decide) (by decide) (by decide) (by decide)
  have e33 := g 133 (by decide) (by decide) (by decide) (by decide)
  have e87 := g 87 (by decide) (by decide) (by decide) (by decide)
  obtain ⟨_, ⟨q1, q3, q4, q5, q6, q7⟩, p1, p2, p3, p4, p5, hA, hF, f5, es, eo⟩ := h
  have gP : gPf (aGr b y) = gPf b := funext (fun j => by unfold gPf; rw [e76, e28, e31, e87])
  have gN : gNf (aGr b y) = gNf b := funext (fun j => by unfold gNf; rw [e76, e28, e31, e87])
  have yg : ∀ n, qYg (aGr b y) n ↔ qYg b n := fun n => yg_r e87 e31
  refine ⟨hR, ⟨by rw [e75]; exact q1, FY_gr q3, by rw [e75, e77]; exact q4, q5, by rw [e30, e75, e77]; exact q6, by rw [e76]; exact q7⟩, fun j hj => ?_, by rw [gP, gN]; exact p2, by rw [e77]; exact p3, p4, by rw [e31]; exact p5, A0_cg hA hI e26 e87 e30 e28 e31 e33, Fu_cg hF e26 e87 e30 e28 e31, by rw [e75, e87]; exact f5, by rw [e87]; exact es, by rw [e87]; exact eo⟩
  rw [yg, e76, gP, gN]
  exact p1 j hj
/-- the next of the wishers came, and all behind it -/
theorem YG_nx (hB : qYB us nr kr kd ws AT ho wd wi OW rt wk wl wm nu ro fo le ra pi kp ca cat cm at2 ow2 ag2 AG to o2 st o0 b) (hE : qE0 (aPc b)) (hC : qCl (aPc b)) (hl : -1 ≤ l.toInt ∧ l.toInt + 1 ≤ (b 69 6).toInt) (hM : qMin (qCw us kp wi nr l) nr x 3100) (hT : aGw b (l + 1) = T) (hx : 0 ≤ x.toInt) (hu : us x.toNatClampNeg ≠ 0) (hx3 : x.toInt ≤ 3099) (hm : wm.toInt < 512)
    (hB2 : qYB us nr kr kd ws AT ho wd wi' OW rt wk' wl' wm' nu ro fo le ra pi kp' ca' cat' cm' at3 ow3 ag3 AG to' o2' st o0 (aSp 512 (aCm (aGr b (nr x.toNatClampNeg)) (qNo nr x)))) (hM2 : qMin (qCw us kp' wi' nr (nr x.toNatClampNeg)) nr y 3100) : qYG us nr kr kd ws AT ho wd wi' OW rt wk' wl' wm' nu ro fo le ra pi kp' ca' cat' cm' at3 ow3 ag3 AG to' o2' st o0 y T := by
  have nx := YL_nx hB hl.1 hl.2 hM hx hT
  have f0 := YB_0f hB
  have sp := E0_sp (gr_cm (y := nr x.toNatClampNeg) (E0_gr (y := nr x.toNatClampNeg) hE).1).1
  rw [No_y hx] at hB2
  have ep : aPc (aSp 512 (aCm (aGr b (nr x.toNatClampNeg)) (nr x.toNatClampNeg))) = aSp 512 (aCm (aGr (aPc b) (nr x.toNatClampNeg)) (nr x.toNatClampNeg)) := by
    rw [Pc_sp _ _ (by rw [cm_5, gr_5c]; exact f0), Pc_cm (by rw [gr_5c]; exact f0), Pc_gr]
  have o69 : aPc b 69 = b 69 := Pc_r (by decide) (by decide)
  have r5 := hB.1.2.2.2.2.1.1
  refine ⟨_, nr x.toNatClampNeg, hB2, by rw [ep]; exact sp.1, by rw [ep]; exact Cl_nx hC hE (by rw [o69, r5]; exact hm) (by rw [o69]; exact hB.2.2.2.2.2.2.2.1.1.2.2.2.1.2.1.1) (Pc_al.mpr (R1_al hB.1.1 (tn_lt hx (by omega)) hu)) (hB.1.1.1 _ (tn_lt hx (by omega)) hu).1.1, ⟨nx.2.2, by rw [sp_6]; exact nx.2.1⟩, hM2, nx.1⟩
/-- OLD ones are kept -/
theorem YB_ko (h : qYB us nr kr kd ws AT ho wd wi OW rt wk wl wm nu ro fo le ra pi kp ca cat cm at2 ow2 ag2 AG to o2 st o0 c) (hk : k < 3100) (hu : us k ≠ 0) (h0 : kp k = 0) : (c 87 9).toInt ≤ (at2 k).toInt := by
  have g : ¬ ((c 130 (nr k).toNatClampNeg).toInt < (c 75 5).toInt ∨ c 77 (nr k).toNatClampNeg ≠ 0) := fun z => absurd ((h.2.1.2.2.2.2.1 _ hk hu).mpr z) (fun w => w h0)
  have f5 := h.2.2.2.2.2.2.2.2.2.1
  have w : c 77 (nr k).toNatClampNeg = 0 := by
    by_cases z : c 77 (nr k).toNatClampNeg = 0
    · exact z
    · exact absurd (Or.inr z) g
  have e := (h.2.2.2.2.1 k hk hu w).1
  have r := h.1.1.1 k hk hu
  rw [f5] at g
  by_cases z : (c 130 (nr k).toNatClampNeg).toInt < (c 87 9).toInt
  · exact absurd (Or.inl z) g
  · rw [e, ← r.2.2.2.1]
    omega
end F32
