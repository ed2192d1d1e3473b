/-! from 95.v00 -/
/-! AGES, the reference (written by wip/tools/gen15v.py) -/
/-! AGES, the reference: who came (kp, the row ca, cat of cm done), where they are, how old they are, held against the class's walk with OLD as its floor -/
def qYQ (kp ca us nr : Nat → Int32) (cat cm : Int32) (c : Nat → Nat → Int32) : Prop := (c 75 3 = cat ∧ c 75 4 = cm) ∧ zFY c ∧ (c 75 4).toInt ≤ (cnt (c 77) 512 : Int) ∧ (∀ s, s < 3100 → kp s ≠ 0 → us s ≠ 0) ∧ (∀ s, s < 3100 → us s ≠ 0 → (kp s ≠ 0 ↔ ((c 130 (nr s).toNatClampNeg).toInt < (c 75 5).toInt ∨ c 77 (nr s).toNatClampNeg ≠ 0))) ∧ ∀ j : Nat, (j : Int) < cm.toInt → (0 ≤ (ca j).toInt ∧ (ca j).toInt < 3100 ∧ us (ca j).toNatClampNeg ≠ 0) ∧ c 76 j = nr (ca j).toNatClampNeg
/-- one that grows OLD when it comes -/
def qYg (c : Nat → Nat → Int32) (n : Nat) : Prop := (c 87 11).toInt ≤ (c 131 n).toInt + 1
/-- those that came lie one behind another: from o0 on those that grew OLD, from st on the others; ages -/
def qYP (us nr ca at2 ow2 ag2 AT AG : Nat → Int32) (cm to o2 : Int32) (st o0 : Int) (c : Nat → Nat → Int32) : Prop := (∀ j : Nat, (j : Int) < cm.toInt → (qYg c (c 76 j).toNatClampNeg → (at2 (ca j).toNatClampNeg).toInt = o0 + zsg (gPf c) j) ∧ (¬ qYg c (c 76 j).toNatClampNeg → (at2 (ca j).toNatClampNeg).toInt = st + zsg (gNf c) j) ∧ ag2 (ca j).toNatClampNeg = AG (ca j).toNatClampNeg + 1) ∧ (to.toInt = st + zsg (gNf c) cm.toInt.toNat ∧ o2.toInt = o0 + zsg (gPf c) cm.toInt.toNat) ∧ (∀ s, s < 3100 → us s ≠ 0 → c 77 (nr s).toNatClampNeg = 0 → at2 s = AT s ∧ ag2 s = AG s) ∧ qR7 us at2 ow2 ∧ (∀ s, s < 3100 → us s ≠ 0 → AG s = c 131 (nr s).toNatClampNeg) ∧ (qA0 c ∧ ¬ gFu c ∧ c 75 5 = c 87 9 ∧ st = 2 * (c 87 9).toInt + (c 87 5).toInt - (c 87 3).toInt ∧ o0 = (c 87 10).toInt)
def qYB (us nr kr kd ws AT ho wd wi OW rt wk wl : Nat → Int32) (wm nu ro fo le ra pi : Int32) (kp ca : Nat → Int32) (cat cm : Int32) (at2 ow2 ag2 AG : Nat → Int32) (to o2 : Int32) (st o0 : Int) (c : Nat → Nat → Int32) : Prop := qRB us nr kr kd ws AT ho wd wi OW rt wk wl wm nu ro fo le ra pi c ∧ qYQ kp ca us nr cat cm c ∧ qYP us nr ca at2 ow2 ag2 AT AG cm to o2 st o0 c
section F31
variable {a b c d : Nat → Nat → Int32} {us nr kr kd ws AT AG at2 at3 ag2 ag3 ho wd wi OW ow2 ow3 rt wk wl kp kp₉ ca ca₉ : Nat → Int32} {wm nu ro fo le ra pi cat cm cm₉ to to₉ o2 o2₉ tg s x y i l : Int32} {st o0 X : Int} {j k n f : Nat} {F G : Nat → Int}
theorem Sg_ext : ∀ N, (∀ k, k < N → F k ≤ G k) → n < N → F n + X ≤ G n → zsg F N + X ≤ zsg G N := by
  intro N
  induction N with
  | zero => intro _ h _; omega
  | succ N ih =>
    intro h hn hx
    have e1 : zsg F (N + 1) = zsg F N + F N := rfl
    have e2 : zsg G (N + 1) = zsg G N + G N := rfl
    by_cases w : n = N
    · have m := sg_mono (F := F) (G := G) N (fun k hk => h k (by omega))
      rw [w] at hx
      omega
    · have m := ih (fun k hk => h k (by omega)) (by omega) hx
      have := h N (by omega)
      omega
theorem Sy_cg (h1 : d 126 = c 126) (h2 : d 87 = c 87) (h3 : d 130 = c 130) (h4 : d 128 = c 128) : gSy d n = gSy c n := by
  rw [Sy_sg, Sy_sg, h1, h2, h3, h4]
theorem Gr_cg (h1 : d 126 = c 126) (h2 : d 87 = c 87) (h3 : d 130 = c 130) (h4 : d 128 = c 128) (h5 : d 131 = c 131) : gGr d n = gGr c n := by
  rw [Gr_sg, Gr_sg, h1, h2, h3, h4, h5]
theorem A0_cg (h : qA0 c) (hI : qI d) (h1 : d 126 = c 126) (h2 : d 87 = c 87) (h3 : d 130 = c 130) (h4 : d 128 = c 128) (h5 : d 131 = c 131) (h6 : d 133 = c 133) : qA0 d := by
  obtain ⟨_, g⟩ := h
  refine ⟨hI, ?_⟩
  unfold qA1 xAl at g ⊢
  rw [Sy_cg h1 h2 h3 h4, h1, h2, h3, h4, h5, h6]
  exact g
theorem Fu_cg (h : ¬ gFu c) (h1 : d 126 = c 126) (h2 : d 87 = c 87) (h3 : d 130 = c 130) (h4 : d 128 = c 128) (h5 : d 131 = c 131) : ¬ gFu d := by
  unfold gFu at h ⊢
  rw [Gr_cg h1 h2 h3 h4 h5, h2]
  exact h
theorem of_r (o : zOf c d) (h1 : k ≠ 75) (h2 : k ≠ 76) (h3 : k ≠ 77) : d k = c k := funext (fun j => (o k j h1 h2 h3).symm)
theorem A0_of (h : qA0 c) (o : zOf c d) : qA0 d := A0_cg h (qI_of h.1 o) (of_r o (by decide) (by decide) (by decide)) (of_r o (by decide) (by decide) (by decide)) (of_r o (by decide) (by decide) (by decide)) (of_r o (by decide) (by decide) (by decide)) (of_r o (by decide) (by decide) (by decide)) (of_r o (by decide) (by decide) (by decide))
theorem Fu_of (h : ¬ gFu c) (o : zOf c d) : ¬ gFu d := Fu_cg h (of_r o (by decide) (by decide) (by decide)) (of_r o (by decide) (by decide) (by decide)) (of_r o (by decide) (by decide) (by decide)) (of_r o (by decide) (by decide) (by decide)) (of_r o (by decide) (by decide) (by decide))
theorem YQ_cc (h : qYQ kp ca us nr cat cm c) (hR : qR1 us nr ws AT ho c) (h0 : 0 ≤ s.toInt) (h3 : s.toInt ≤ 3099) (hu : us s.toNatClampNeg ≠ 0) (hk : kp s.toNatClampNeg = 0) : aCc c (nr s.toNatClampNeg) ∧ c 77 (nr s.toNatClampNeg).toNatClampNeg = 0 ∧ (c 75 5).toInt ≤ (c 130 (nr s.toNatClampNeg).toNatClampNeg).toInt := by
  have q := hR.1 _ (tn_lt h0 (by omega)) hu
  have n5 := tn_cast q.1.1
  have hn : (nr s.toNatClampNeg).toNatClampNeg < 512 := by
    have := q.1.2
    omega
  have g : ¬ ((c 130 (nr s.toNatClampNeg).toNatClampNeg).toInt < (c 75 5).toInt ∨ c 77 (nr s.toNatClampNeg).toNatClampNeg ≠ 0) := fun z => absurd ((h.2.2.2.2.1 _ (tn_lt h0 (by omega)) hu).mpr z) (fun z => z hk)
  have w : c 77 (nr s.toNatClampNeg).toNatClampNeg = 0 := by
    by_cases z : c 77 (nr s.toNatClampNeg).toNatClampNeg = 0
    · exact z
    · exact absurd (Or.inr z) g
  have p : (c 75 5).toInt ≤ (c 130 (nr s.toNatClampNeg).toNatClampNeg).toInt := by
    by_cases z : (c 130 (nr s.toNatClampNeg).toNatClampNeg).toInt < (c 75 5).toInt
    · exact absurd (Or.inl z) g
    · omega
  have ct := cnt_lt (r := c 77) hn w
  have l := h.2.2.1
  exact ⟨⟨q.1.1, q.1.2, q.2.1, p, by omega, w⟩, w, p⟩
theorem Ct_cm (h : (c 75 4).toInt ≤ (cnt (c 77) 512 : Int)) : (aCm c y 75 4).toInt ≤ (cnt (aCm c y 77) 512 : Int) := by
  by_cases hc : aCc c y
  · have e7 : aCm c y 77 = ma_u c 77 y.toNatClampNeg 1 77 := by
      rw [aCm_y hc, ma_u_ne _ _ _ (by decide), ma_u_ne _ _ _ (by decide)]
    have e4 : aCm c y 75 4 = c 75 4 + 1 := by
      rw [aCm_y hc]
      exact xu_s
    have hn : y.toNatClampNeg < 512 := by
      have := tn_cast hc.1
      have := hc.2.1
      omega
    have u := cnt_up (m := c) (c := 77) (x := (1 : Int32)) hn hc.2.2.2.2.2 (by decide)
    have b := i_bd (c 75 4)
    have l := hc.2.2.2.2.1
    have e1 : (c 75 4 + 1).toInt = (c 75 4).toInt + 1 := i_p1 (by omega)
    rw [e7, e4, e1, u]
    omega
  · rw [aCm_n hc]
    exact h
theorem yQ_push (h : qYQ kp ca us nr cat cm c) (hR : qR1 us nr ws AT ho c) (h0 : 0 ≤ s.toInt) (h3 : s.toInt ≤ 3099) (hu : us s.toNatClampNeg ≠ 0) (hk : kp s.toNatClampNeg = 0) (e1 : ∀ t, kp₉ t = if t = s.toNatClampNeg then 1 else kp t) (e2 : ∀ t, ca₉ t = if t = cm.toNatClampNeg then s else ca t) (e3 : cm₉ = cm + 1) : qYQ kp₉ ca₉ us nr cat cm₉ (aCm c (nr s.toNatClampNeg)) := by
  have cc := YQ_cc h hR h0 h3 hu hk
  have r := cm_r cc.1
  obtain ⟨⟨q1, q2⟩, q3, q4, q5, q6, q7⟩ := h
  have q44 := q3.1.2.2.2
  rw [q2] at q44 r
  have sl := tn_lt h0 (by omega : s.toInt < 3100)
  have ecm : (cm + 1).toInt = cm.toInt + 1 := i_p1 (by omega)
  have tc := tn_cast (x := cm) (by omega)
  have o3 : aCm c (nr s.toNatClampNeg) 130 = c 130 := funext (fun k => aCm_o ⟨by decide, by decide, by decide⟩)
  refine ⟨⟨r.1.trans q1, by rw [r.2.1, e3]⟩, FY_cm q3, Ct_cm q4, fun t ht w => ?_, fun t ht hut => ?_, fun j hj => ?_⟩
  · by_cases z : t = s.toNatClampNeg
    · rw [z]
      exact hu
    · rw [e1 t, if_neg z] at w
      exact q5 t ht w
  · rw [o3, cm_5]
    by_cases z : t = s.toNatClampNeg
    · rw [e1 t, if_pos z, z, r.2.2.2.2.2]
      exact ⟨fun _ => Or.inr (by decide), fun _ => by decide⟩
    · have ne : (nr t).toNatClampNeg ≠ (nr s.toNatClampNeg).toNatClampNeg := fun w => z (R1_in hR ht sl hut hu w)
      rw [e1 t, if_neg z, r.2.2.2.2.1 _ ne]
      exact q6 t ht hut
  · rw [e3, ecm] at hj
    by_cases z : j = cm.toNatClampNeg
    · rw [e2 j, if_pos z, z, r.2.2.2.1]
      exact ⟨⟨h0, by omega, hu⟩, rfl⟩
    · rw [e2 j, if_neg z, r.2.2.1 j z]
      exact q7 j (by omega)
theorem yQ_skip (h : qYQ kp ca us nr cat cm c) (hs : s.toInt < 0 ∨ (0 ≤ s.toInt ∧ s.toInt ≤ 3099 ∧ us s.toNatClampNeg ≠ 0 ∧ kp s.toNatClampNeg ≠ 0)) : aCm c (qNo nr s) = c := by
  refine aCm_n (fun z => ?_)
  rcases hs with w | ⟨h0, h3, hu, hk⟩
  · have z1 := z.1
    rw [No_n w] at z1
    exact absurd z1 (by decide)
  · have z6 := z.2.2.2
    rw [No_y h0] at z6
    rcases (h.2.2.2.2.1 _ (tn_lt h0 (by omega)) hu).mp hk with w | w
    · have := z6.1
      omega
    · exact w z6.2.2
/-- in what came each counts once: with one more that has not come there is still room -/
theorem YP_bd (hQ : qYQ kp ca us nr cat cm c) (hA : qA0 c) (h5 : c 75 5 = c 87 9) : (∀ i : Nat, (i : Int) < cm.toInt → 0 ≤ gPf c i ∧ 0 ≤ gNf c i ∧ 1 ≤ (c 128 (c 76 i).toNatClampNeg).toInt) ∧ zsg (gPf c) cm.toInt.toNat ≤ gGr c 512 ∧ zsg (gNf c) cm.toInt.toNat ≤ gSy c 512 ∧ ∀ n, xAl c n → c 77 n = 0 → (c 87 9).toInt ≤ (c 130 n).toInt → (qYg c n → zsg (gPf c) cm.toInt.toNat + (c 128 n).toInt ≤ gGr c 512) ∧ (¬ qYg c n → zsg (gNf c) cm.toInt.toNat + (c 128 n).toInt ≤ gSy c 512) := by
  have FQ := hQ.2.1.1
  have hc := hQ.1.2
  have sz : ∀ n, xAl c n → 1 ≤ (c 128 n).toInt := fun n hn => (hA.1.1 n hn).2.1.1
  have al : ∀ k, k < 512 → c 77 k ≠ 0 → xAl c k ∧ (c 87 9).toInt ≤ (c 130 k).toInt := fun k hk w => by
    obtain ⟨j, hj, e⟩ := FQ.2.2.1 k hk w
    have g := FQ.1 j hj
    rw [e, tn_of hk] at g
    have p := hQ.2.1.2 k hk w
    rw [h5] at p
    exact ⟨⟨hk, g.2.2.2⟩, p⟩
  have eP : zsg (gPf c) cm.toInt.toNat = zsg (fun n => if c 77 n ≠ 0 then (if (c 87 11).toInt ≤ (c 131 n).toInt + 1 then (c 128 n).toInt else 0) else 0) 512 := by
    rw [← hc]
    exact Fq_sum FQ (fun n => if (c 87 11).toInt ≤ (c 131 n).toInt + 1 then (c 128 n).toInt else 0)
  have eN : zsg (gNf c) cm.toInt.toNat = zsg (fun n => if c 77 n ≠ 0 then (if (c 87 11).toInt ≤ (c 131 n).toInt + 1 then 0 else (c 128 n).toInt) else 0) 512 := by
    rw [← hc]
    exact Fq_sum FQ (fun n => if (c 87 11).toInt ≤ (c 131 n).toInt + 1 then 0 else (c 128 n).toInt)
  have mP : ∀ k, k < 512 → (if c 77 k ≠ 0 then (if (c 87 11).toInt ≤ (c 131 k).toInt + 1 then (c 128 k).toInt else 0) else 0) ≤ (if c 126 k ≠ 0 ∧ (c 87 9).toInt ≤ (c 130 k).toInt ∧ (c 87 11).toInt ≤ (c 131 k).toInt + 1 then (c 128 k).toInt else 0) := fun k hk => by
    by_cases w : c 77 k ≠ 0
    · have q := al k hk w
      rw [if_pos w]
      by_cases v : (c 87 11).toInt ≤ (c 131 k).toInt + 1
      · rw [if_pos v, if_pos ⟨q.1.2, q.2, v⟩]
        exact Int.le_refl _
      · rw [if_neg v, if_neg (fun z => v z.2.2)]
        exact Int.le_refl _
    · rw [if_neg w]
      by_cases v : c 126 k ≠ 0 ∧ (c 87 9).toInt ≤ (c 130 k).toInt ∧ (c 87 11).toInt ≤ (c 131 k).toInt + 1
      · rw [if_pos v]
        have := sz k ⟨hk, v.1⟩
        omega
      · rw [if_neg v]
        exact Int.le_refl _
  have mN : ∀ k, k < 512 → (if c 77 k ≠ 0 then (if (c 87 11).toInt ≤ (c 131 k).toInt + 1 then 0 else (c 128 k).toInt) else 0) ≤ (if c 126 k ≠ 0 ∧ (c 87 9).toInt ≤ (c 130 k).toInt then (c 128 k).toInt else 0) := fun k hk => by
    by_cases w : c 77 k ≠ 0
    · have q := al k hk w
      have s1 := sz k q.1
      rw [if_pos w, if_pos (show c 126 k ≠ 0 ∧ (c 87 9).toInt ≤ (c 130 k).toInt from ⟨q.1.2, q.2⟩)]
      by_cases v : (c 87 11).toInt ≤ (c 131 k).toInt + 1
      · rw [if_pos v]
        omega
      · rw [if_neg v]
        exact Int.le_refl _
    · rw [if_neg w]
      by_cases v : c 126 k ≠ 0 ∧ (c 87 9).toInt ≤ (c 130 k).toInt
      · rw [if_pos v]
        have := sz k ⟨hk, v.1⟩
        omega
      · rw [if_neg v]
        exact Int.le_refl _
  refine ⟨fun i hi => ?_, ?_, ?_, fun n hn w p => ⟨fun g => ?_, fun g => ?_⟩⟩
  · have q := FQ.1 i (by rw [hc]; exact hi)
    have t := tn_cast q.1
    have s1 := sz _ ⟨by omega, q.2.2.2⟩
    unfold gPf gNf
    by_cases v : (c 87 11).toInt ≤ (c 131 (c 76 i).toNatClampNeg).toInt + 1
    · rw [if_pos v, if_pos v]
      omega
    · rw [if_neg v, if_neg v]
      omega
  · rw [eP, Gr_sg]
    exact sg_mono _ mP
  · rw [eN, Sy_sg]
    exact sg_mono _ mN
  · rw [eP, Gr_sg]
    refine Sg_ext (n := n) 512 mP hn.1 ?_
    unfold qYg at g
    rw [if_neg (fun z => z w), if_pos ⟨hn.2, p, g⟩]
    omega
  · rw [eN, Sy_sg]
    refine Sg_ext (n := n) 512 mN hn.1 ?_
    rw [if_neg (fun z => z w), if_pos ⟨hn.2, p⟩]
    omega
/-- where the next one goes -/
theorem YP_to (h : qYP us nr ca at2 ow2 ag2 AT AG cm to o2 st o0 c) (hQ : qYQ kp ca us nr cat cm c) (hR : qR1 us nr ws AT ho c) (h0 : 0 ≤ s.toInt) (h3 : s.toInt ≤ 3099) (hu : us s.toNatClampNeg ≠ 0) (hk : kp s.toNatClampNeg = 0) : (c 128 (nr s.toNatClampNeg).toNatClampNeg).toInt = (ws s.toNatClampNeg).toInt + 1 ∧ (0 ≤ o0 ∧ o0 ≤ o2.toInt ∧ st ≤ to.toInt) ∧ (qYg c (nr s.toNatClampNeg).toNatClampNeg → o2.toInt + (ws s.toNatClampNeg).toInt + 1 ≤ (c 87 9).toInt) ∧ (¬ qYg c (nr s.toNatClampNeg).toNatClampNeg → to.toInt + (ws s.toNatClampNeg).toInt + 1 ≤ st + (c 87 5).toInt) := by
  have cc := YQ_cc hQ hR h0 h3 hu hk
  have q := hR.1 _ (tn_lt h0 (by omega)) hu
  obtain ⟨p1, ⟨p2, p2₉⟩, p3, p4, p5, hA, hF, f5, es, eo⟩ := h
  have bd := YP_bd hQ hA f5
  have pl := cc.2.2
  rw [f5] at pl
  have nx := bd.2.2.2 _ (R1_al hR (tn_lt h0 (by omega)) hu) cc.2.1 pl
  have sz : (c 128 (nr s.toNatClampNeg).toNatClampNeg).toInt = (ws s.toNatClampNeg).toInt + 1 := by
    rw [q.2.2.1]
    exact i_addk rfl (by have := q.2.2.2.2.2.1; omega) (by have := q.2.2.2.2.2.1; omega)
  have cl : (cm.toInt.toNat : Int) ≤ 512 := by
    have := hQ.2.1.1.2.2.2
    rw [hQ.1.2] at this
    omega
  have c0 : 0 ≤ cm.toInt := by
    have := hQ.2.1.1.2.2.2
    rw [hQ.1.2] at this
    omega
  have gP := sg_le (F := gPf c) (m := cm.toInt.toNat) (fun i hi => (bd.1 i (by omega)).1) cm.toInt.toNat (Nat.le_refl _) 0 (by omega)
  have gN := sg_le (F := gNf c) (m := cm.toInt.toNat) (fun i hi => (bd.1 i (by omega)).2.1) cm.toInt.toNat (Nat.le_refl _) 0 (by omega)
  have z1 : zsg (gPf c) 0 = 0 := rfl
  have z2 : zsg (gNf c) 0 = 0 := rfl
  unfold gFu at hF
  have a5 := hA.2.2.2.2.1
  have a6 := hA.2.2.2.2.2.1
  refine ⟨sz, ⟨by omega, by omega, by omega⟩, fun g => ?_, fun g => ?_⟩
  · have := nx.1 g
    omega
  · have := nx.2 g
    omega
theorem yg_r (h1 : d 87 = c 87) (h2 : d 131 = c 131) : qYg d n ↔ qYg c n := by
  unfold qYg
  rw [h1, h2]
theorem sg_cgN : ∀ N, (∀ k, k < N → F k = G k) → zsg F N = zsg G N := by
  intro N
  induction N with
  | zero => intro _; rfl
  | succ N ih =>
    intro h
    show zsg F N + F N = zsg G N + G N
    rw [ih (fun k hk => h k (by omega)), h N (by omega)]
/-- the one of number j in what came -/
theorem YQ_j (hQ : qYQ kp ca us nr cat cm c) (hR : qR1 us nr ws AT ho c) (ht : k < 3100) (hu : us k ≠ 0) (hw : c 77 (nr k).toNatClampNeg ≠ 0) : ∃ j : Nat, (j : Int) < cm.toInt ∧ (ca j).toNatClampNeg = k ∧ c 76 j = nr k := by
  obtain ⟨⟨q1, q2⟩, q3, q4, q5, q6, q7⟩ := hQ
  have rt := hR.1 k ht hu
  have n5 := tn_cast rt.1.1
  have n6 := rt.1.2
  obtain ⟨j, hj, e⟩ := q3.1.2.2.1 _ (by omega) hw
  rw [q2] at hj
  have ej := q7 j hj
  have et : (ca j).toNatClampNeg = k := by
    refine R1_in hR (by have := tn_cast ej.1.1; omega) ht ej.1.2.2 hu ?_
    rw [← ej.2, e]
    exact tn_of (by omega)
  exact ⟨j, hj, et, by rw [ej.2, et]⟩
/-- places of the others: never where the next one goes -/
theorem YP_ne (h : qYP us nr ca at2 ow2 ag2 AT AG cm to o2 st o0 c) (hQ : qYQ kp ca us nr cat cm c) (hR : qR1 us nr ws AT ho c) (ht : k < 3100) (hu : us k ≠ 0) : 0 ≤ (at2 k).toInt ∧ (at2 k).toInt < 4500 ∧ (o2.toInt < (c 87 9).toInt → (at2 k).toInt ≠ o2.toInt) ∧ (to.toInt < st + (c 87 5).toInt → (at2 k).toInt ≠ to.toInt) := by
  obtain ⟨p1, ⟨p2, p2₉⟩, p3, p4, p5, hA, hF, f5, es, eo⟩ := h
  have bd := YP_bd hQ hA f5
  have rt := hR.1 k ht hu
  have al := R1_al hR ht hu
  have a1 := hA.2.2.2.2.2.2 _ al
  have sz := (hA.1.1 _ al).2.1.1
  have a3 := hA.2.2.1
  have a4 := hA.2.2.2.1
  have a5 := hA.2.2.2.2.1
  have a6 := hA.2.2.2.2.2.1
  have c0 : 0 ≤ cm.toInt := by
    have := hQ.2.1.1.2.2.2
    rw [hQ.1.2] at this
    omega
  have z1 : zsg (gPf c) 0 = 0 := rfl
  have z2 : zsg (gNf c) 0 = 0 := rfl
  have gP := sg_le (F := gPf c) (m := cm.toInt.toNat) (fun i hi => (bd.1 i (by omega)).1)
  have gN := sg_le (F := gNf c) (m := cm.toInt.toNat) (fun i hi => (bd.1 i (by omega)).2.1)
  have gP0 := gP cm.toInt.toNat (Nat.le_refl _) 0 (by omega)
  have gN0 := gN cm.toInt.toNat (Nat.le_refl _) 0 (by omega)
  unfold gFu at hF
  by_cases w : c 77 (nr k).toNatClampNeg = 0
  · have e := (p3 k ht hu w).1
    have e4 := rt.2.2.2.1
    rw [e, ← e4]
    have e5 := rt.2.2.2.2.2.2
    rw [← e4] at e5
    unfold qA1 at a1
    by_cases o : (c 130 (nr k).toNatClampNeg).toInt < (c 87 9).toInt
    · have := a1.2.1 o
      exact ⟨by omega, by omega, fun _ => by omega, fun _ => by omega⟩
    · have := a1.2.2 (by omega)
      exact ⟨by omega, by omega, fun _ => by omega, fun _ => by omega⟩
  · obtain ⟨j, hj, et, ej⟩ := YQ_j hQ hR ht hu w
    have pj := p1 j hj
    rw [et] at pj
    have b1 := bd.1 j hj
    by_cases g : qYg c (c 76 j).toNatClampNeg
    · have e := pj.1 g
      have l := gP cm.toInt.toNat (Nat.le_refl _) (j + 1) (by omega)
      have l0 := gP j (by omega) 0 (by omega)
      have l2 : zsg (gPf c) (j + 1) = zsg (gPf c) j + gPf c j := rfl
      have l3 : gPf c j = (c 128 (c 76 j).toNatClampNeg).toInt := if_pos g
      have := bd.2.1
      exact ⟨by omega, by omega, fun _ => by omega, fun _ => by omega⟩
    · have e := pj.2.1 g
      have l := gN cm.toInt.toNat (Nat.le_refl _) (j + 1) (by omega)
      have l0 := gN j (by omega) 0 (by omega)
      have l2 : zsg (gNf c) (j + 1) = zsg (gNf c) j + gNf c j := rfl
      have l3 : gNf c j = (c 128 (c 76 j).toNatClampNeg).toInt := if_neg g
      have := bd.2.2.1
      have := bd.2.1
      exact ⟨by omega, by omega, fun _ => by omega, fun _ => by omega⟩
theorem yP_push (h : qYP us nr ca at2 ow2 ag2 AT AG cm to o2 st o0 c) (hQ : qYQ kp ca us nr cat cm c) (hR : qR1 us nr ws AT ho c) (h0 : 0 ≤ s.toInt) (h3 : s.toInt ≤ 3099) (hu : us s.toNatClampNeg ≠ 0) (hk : kp s.toNatClampNeg = 0) (e1 : ∀ t, ag3 t = if t = s.toNatClampNeg then ag2 s.toNatClampNeg + 1 else ag2 t) (e2 : ∀ t, ca₉ t = if t = cm.toNatClampNeg then s else ca t) (e3 : cm₉ = cm + 1) (hm : zmov s tg at2 ow2 at3 ow3) (hg : qYg c (nr s.toNatClampNeg).toNatClampNeg → tg = o2 ∧ to₉ = to ∧ o2₉.toInt = o2.toInt + ((ws s.toNatClampNeg).toInt + 1)) (hn : ¬ qYg c (nr s.toNatClampNeg).toNatClampNeg → tg = to ∧ o2₉ = o2 ∧ to₉.toInt = to.toInt + ((ws s.toNatClampNeg).toInt + 1)) : qYP us nr ca₉ at3 ow3 ag3 AT AG cm₉ to₉ o2₉ st o0 (aCm c (nr s.toNatClampNeg)) := by
  have bt := YP_to h hQ hR h0 h3 hu hk
  have cc := YQ_cc hQ hR h0 h3 hu hk
  have rr := cm_r cc.1
  have sl := tn_lt h0 (by omega : s.toInt < 3100)
  have nes := fun k ht hut => YP_ne h hQ hR (k := k) ht hut
  have w0 := (hR.1 _ sl hu).2.2.2.2.2.1
  obtain ⟨⟨q1, q2⟩, q3, q4, q5, q6, q7⟩ := hQ
  have q44 := q3.1.2.2.2
  rw [q2] at q44 rr
  have ecm : (cm + 1).toInt = cm.toInt + 1 := i_p1 (by omega)
  have tc := tn_cast (x := cm) (by omega)
  obtain ⟨p1, ⟨p2, p2₉⟩, p3, p4, p5, hA, hF, f5, es, eo⟩ := h
  have cn : cm.toInt.toNat = cm.toNatClampNeg := rfl
  rw [cn] at p2 p2₉
  have o : zOf c (aCm c (nr s.toNatClampNeg)) := cm_of
  have r87 := of_r o (k := 87) (by decide) (by decide) (by decide)
  have r131 := of_r o (k := 131) (by decide) (by decide) (by decide)
  have r128 := of_r o (k := 128) (by decide) (by decide) (by decide)
  have yg : ∀ n, qYg (aCm c (nr s.toNatClampNeg)) n ↔ qYg c n := fun n => yg_r r87 r131
  have fP : ∀ j, j ≠ cm.toNatClampNeg → gPf (aCm c (nr s.toNatClampNeg)) j = gPf c j := fun j hj => by
    unfold gPf
    rw [rr.2.2.1 j hj, r87, r131, r128]
  have fN : ∀ j, j ≠ cm.toNatClampNeg → gNf (aCm c (nr s.toNatClampNeg)) j = gNf c j := fun j hj => by
    unfold gNf
    rw [rr.2.2.1 j hj, r87, r131, r128]
  have sP : ∀ j, j ≤ cm.toNatClampNeg → zsg (gPf (aCm c (nr s.toNatClampNeg))) j = zsg (gPf c) j := fun j hj => sg_cgN j (fun k hk => fP k (by omega))
  have sN : ∀ j, j ≤ cm.toNatClampNeg → zsg (gNf (aCm c (nr s.toNatClampNeg))) j = zsg (gNf c) j := fun j hj => sg_cgN j (fun k hk => fN k (by omega))
  have a3 : (at3 s.toNatClampNeg).toInt = tg.toInt := mv_s hm
  have ao : ∀ t, t ≠ s.toNatClampNeg → at3 t = at2 t := fun t ht => by
    rcases hm with ⟨w, _, _⟩ | ⟨w, _, _⟩
    · rw [w]
    · rw [w t, if_neg ht]
  have ca_ne : ∀ j : Nat, (j : Int) < cm.toInt → (ca j).toNatClampNeg ≠ s.toNatClampNeg := fun j hj z => by
    have g := (q3.1.1 j (by rw [q2]; exact hj)).2.2.1
    rw [(q7 j hj).2, z] at g
    exact g cc.2.1
  have tgb : 0 ≤ tg.toInt ∧ ∀ k, k < 3100 → us k ≠ 0 → (at2 k).toInt ≠ tg.toInt := by
    have a4 := hA.2.2.2.1
    have a5 := hA.2.2.2.2.1
    have a30 := hA.2.2.1
    by_cases g : qYg c (nr s.toNatClampNeg).toNatClampNeg
    · rw [(hg g).1]
      have := bt.2.2.1 g
      exact ⟨by omega, fun k hk hku => (nes k hk hku).2.2.1 (by omega)⟩
    · rw [(hn g).1]
      have := bt.2.2.2 g
      exact ⟨by omega, fun k hk hku => (nes k hk hku).2.2.2 (by omega)⟩
  refine ⟨fun j hj => ?_, ⟨?_, ?_⟩, fun t ht hut hw => ?_, fun t ht hut => ?_, fun t ht hut => ?_, A0_of hA o, Fu_of hF o, ?_, ?_, ?_⟩
  · rw [e3, ecm] at hj
    rw [yg]
    by_cases z : j = cm.toNatClampNeg
    · rw [e2 j, if_pos z, a3, z, rr.2.2.2.1, sP _ (by omega), sN _ (by omega), e1, if_pos rfl, (p3 _ sl hu cc.2.1).2]
      exact ⟨fun g => by rw [(hg g).1]; exact p2₉, fun g => by rw [(hn g).1]; exact p2, rfl⟩
    · rw [e2 j, if_neg z, ao _ (ca_ne j (by omega)), e1, if_neg (ca_ne j (by omega)), rr.2.2.1 j z, sP j (by omega), sN j (by omega)]
      exact p1 j (by omega)
  · rw [e3, show (cm + 1).toInt.toNat = cm.toNatClampNeg + 1 from by omega]
    show _ = st + (zsg (gNf (aCm c (nr s.toNatClampNeg))) cm.toNatClampNeg + gNf (aCm c (nr s.toNatClampNeg)) cm.toNatClampNeg)
    rw [sN _ (by omega)]
    unfold gNf
    rw [rr.2.2.2.1, r87, r131, r128, bt.1]
    by_cases g : qYg c (nr s.toNatClampNeg).toNatClampNeg
    · rw [(hg g).2.1]
      unfold qYg at g
      rw [if_pos g]
      unfold gNf at p2
      omega
    · have h9 := (hn g).2.2
      unfold qYg at g
      rw [if_neg g]
      unfold gNf at p2
      omega
  · rw [e3, show (cm + 1).toInt.toNat = cm.toNatClampNeg + 1 from by omega]
    show _ = o0 + (zsg (gPf (aCm c (nr s.toNatClampNeg))) cm.toNatClampNeg + gPf (aCm c (nr s.toNatClampNeg)) cm.toNatClampNeg)
    rw [sP _ (by omega)]
    unfold gPf
    rw [rr.2.2.2.1, r87, r131, r128, bt.1]
    by_cases g : qYg c (nr s.toNatClampNeg).toNatClampNeg
    · have h9 := (hg g).2.2
      unfold qYg at g
      rw [if_pos g]
      unfold gPf at p2₉
      omega
    · rw [(hn g).2.1]
      unfold qYg at g
      rw [if_neg g]
      unfold gPf at p2₉
      omega
  · have z : t ≠ s.toNatClampNeg := fun z => by
      rw [z, rr.2.2.2.2.2] at hw
      exact absurd hw (by decide)
    have ne : (nr t).toNatClampNeg ≠ (nr s.toNatClampNeg).toNatClampNeg := fun w => z (R1_in hR ht sl hut hu w)
    rw [rr.2.2.2.2.1 _ ne] at hw
    rw [ao t z, e1, if_neg z]
    exact p3 t ht hut hw
  · rcases hm with ⟨w1, w2, _⟩ | ⟨w1, w2, w3⟩
    · rw [w1, w2]
      exact p4 t ht hut
    · by_cases z : t = s.toNatClampNeg
      · rw [w1 t, if_pos z, w2, z]
        exact (ofN_tn h0).symm
      · rw [w1 t, if_neg z]
        have ne := tgb.2 t ht hut
        have t0 := tn_cast (x := tg) tgb.1
        have t1 := tn_cast (x := at2 t) (nes t ht hut).1
        rcases w3 (at2 t).toNatClampNeg (fun z2 => ne (by omega)) with g | g
        · rw [g]
          exact p4 t ht hut
        · have g2 := p4 t ht hut
          rw [g.2.1] at g2
          have g3 := congrArg Int32.toInt g2
          rw [ofN_s ht] at g3
          exact absurd (by have := tn_cast h0; omega) z
  · rw [r131]
    exact p5 t ht hut
  · rw [cm_5, r87]
    exact f5
  · rw [r87]
    exact es
  · rw [r87]
    exact eo
theorem YB_push (h : qYB us nr kr kd ws AT ho wd wi OW rt wk wl wm nu ro fo le ra pi kp ca cat cm at2 ow2 ag2 AG to o2 st o0 c) (h0 : 0 ≤ s.toInt) (h3 : s.toInt ≤ 3099) (hu : us s.toNatClampNeg ≠ 0) (hk : kp s.toNatClampNeg = 0) (e0 : ∀ t, kp₉ t = if t = s.toNatClampNeg then 1 else kp t) (e1 : ∀ t, ag3 t = if t = s.toNatClampNeg then ag2 s.toNatClampNeg + 1 else ag2 t) (e2 : ∀ t, ca₉ t = if t = cm.toNatClampNeg then s else ca t) (e3 : cm₉ = cm + 1) (hm : zmov s tg at2 ow2 at3 ow3) (hg : qYg c (nr s.toNatClampNeg).toNatClampNeg → tg = o2 ∧ to₉ = to ∧ o2₉.toInt = o2.toInt + ((ws s.toNatClampNeg).toInt + 1)) (hn : ¬ qYg c (nr s.toNatClampNeg).toNatClampNeg → tg = to ∧ o2₉ = o2 ∧ to₉.toInt = to.toInt + ((ws s.toNatClampNeg).toInt + 1)) : qYB us nr kr kd ws AT ho wd wi OW rt wk wl wm nu ro fo le ra pi kp₉ ca₉ cat cm₉ at3 ow3 ag3 AG to₉ o2₉ st o0 (aCm c (qNo nr s)) := by
  rw [No_y h0]
  exact ⟨RB_of h.1 cm_of, yQ_push h.2.1 h.1.1 h0 h3 hu hk e0 e2 e3, yP_push h.2.2 h.2.1 h.1.1 h0 h3 hu hk e1 e2 e3 hm hg hn⟩
theorem YB_skip (h : qYB us nr kr kd ws AT ho wd wi OW rt wk wl wm nu ro fo le ra pi kp ca cat cm at2 ow2 ag2 AG to o2 st o0 c) (hs : s.toInt < 0 ∨ (0 ≤ s.toInt ∧ s.toInt ≤ 3099 ∧ us s.toNatClampNeg ≠ 0 ∧ kp s.toNatClampNeg ≠ 0)) : qYB us nr kr kd ws AT ho wd wi OW rt wk wl wm nu ro fo le ra pi kp ca cat cm at2 ow2 ag2 AG to o2 st o0 (aCm c (qNo nr s)) := by
  rw [yQ_skip h.2.1 hs]
  exact h
theorem YB_b (h : qYB us nr kr kd ws AT ho wd wi OW rt wk wl wm nu ro fo le ra pi kp ca cat cm at2 ow2 ag2 AG to o2 st o0 c) : 0 ≤ cat.toInt ∧ cat.toInt ≤ cm.toInt ∧ cm.toInt ≤ 512 := by
  have q := h.2.1.2.1.1.2.2.2
  rw [h.2.1.1.1, h.2.1.1.2] at q
  exact q
/-- what the code reads of the one that comes: its age, whether it grows OLD, where it goes -/
theorem YB_to (h : qYB us nr kr kd ws AT ho wd wi OW rt wk wl wm nu ro fo le ra pi kp ca cat cm at2 ow2 ag2 AG to o2 st o0 c) (h0 : 0 ≤ s.toInt) (h3 : s.toInt ≤ 3099) (hu : us s.toNatClampNeg ≠ 0) (hk : kp s.toNatClampNeg = 0) (ha : x = c 87 11) : (0 ≤ (ag2 s.toNatClampNeg).toInt ∧ (ag2 s.toNatClampNeg).toInt < x.toInt ∧ x.toInt ≤ 1000) ∧ (0 ≤ o2.toInt ∧ 0 ≤ to.toInt ∧ o2.toInt ≤ 1500 ∧ to.toInt ≤ 4500) ∧ (qYg c (nr s.toNatClampNeg).toNatClampNeg ↔ (ag2 s.toNatClampNeg).toInt + 1 = x.toInt) ∧ (qYg c (nr s.toNatClampNeg).toNatClampNeg → o2.toInt + (ws s.toNatClampNeg).toInt + 1 ≤ 1500) ∧ (¬ qYg c (nr s.toNatClampNeg).toNatClampNeg → to.toInt + (ws s.toNatClampNeg).toInt + 1 ≤ 4500) := by
  have bt := YP_to h.2.2 h.2.1 h.1.1 h0 h3 hu hk
  have cc := YQ_cc h.2.1 h.1.1 h0 h3 hu hk
  have sl := tn_lt h0 (by omega : s.toInt < 3100)
  obtain ⟨p1, ⟨p2, p2₉⟩, p3, p4, p5, hA, hF, f5, es, eo⟩ := h.2.2
  have e1 := (p3 _ sl hu cc.2.1).2
  have e2 := p5 _ sl hu
  have al := R1_al h.1.1 sl hu
  have a1 := hA.2.2.2.2.2.2 _ al
  have a3 := hA.2.2.1
  have a4 := hA.2.2.2.1
  have a5 := hA.2.2.2.2.1
  have a6 := hA.2.2.2.2.2.1
  have pl := cc.2.2
  rw [f5] at pl
  unfold qA1 at a1
  have a7 := a1.2.2 pl
  have bd := YP_bd h.2.1 hA f5
  have gr := bd.2.1
  have sy := bd.2.2.1
  unfold gFu at hF
  rw [e1, e2, ha]
  have yg : qYg c (nr s.toNatClampNeg).toNatClampNeg ↔ (c 131 (nr s.toNatClampNeg).toNatClampNeg).toInt + 1 = (c 87 11).toInt := by
    unfold qYg
    omega
  refine ⟨⟨a1.1.1, a7.2.1, a3.2.2.2.1.2⟩, ⟨by omega, by omega, ?_, ?_⟩, yg, fun g => ?_, fun g => ?_⟩
  · omega
  · omega
  · have := bt.2.2.1 g
    omega
  · have := bt.2.2.2 g
    omega
end F31

