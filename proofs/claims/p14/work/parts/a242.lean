/-! from 95.r16 -/
/-! the reference where it moves (written by wip/tools/gen15r.py) -/
/-! COPYING IN THE REFERENCE: who came (kp, the row ca, cat of cm done), held against a walk's queue -/
/-- no more in the queue than came -/
def zWk (c : Nat → Nat → Int32) : Prop := (c 75 4).toInt ≤ (cnt (c 77) 512 : Int) ∧ xFp c
def qCQ (kp ca us nr : Nat → Int32) (cat cm : Int32) (c : Nat → Nat → Int32) : Prop := (c 75 3 = cat ∧ c 75 4 = cm) ∧ zFQ c ∧ zWk c ∧ (∀ s, s < 3100 → kp s ≠ 0 → us s ≠ 0) ∧ (∀ s, s < 3100 → us s ≠ 0 → (kp s ≠ 0 ↔ c 77 (nr s).toNatClampNeg ≠ 0)) ∧ ∀ j : Nat, (j : Int) < cm.toInt → (0 ≤ (ca j).toInt ∧ (ca j).toInt < 3100 ∧ us (ca j).toNatClampNeg ≠ 0) ∧ c 76 j = nr (ca j).toNatClampNeg
/-- where they are: those that came one behind another from st on (to is next), the others where they were (AT), within ot and r words -/
def qCP (us kp ca at2 ow2 AT : Nat → Int32) (cm to : Int32) (st ot r : Int) (c : Nat → Nat → Int32) : Prop := (∀ j : Nat, (j : Int) < cm.toInt → (at2 (ca j).toNatClampNeg).toInt = zPs c st j) ∧ to.toInt = zPs c st cm.toInt.toNat ∧ (∀ s, s < 3100 → us s ≠ 0 → kp s = 0 → at2 s = AT s) ∧ qR7 us at2 ow2 ∧ (0 ≤ st ∧ 0 ≤ r ∧ st + r ≤ 3000 ∧ (ot + r ≤ st ∨ st + r ≤ ot)) ∧ (∀ n, xAl c n → ot ≤ (c 130 n).toInt ∧ (c 130 n).toInt + (c 128 n).toInt ≤ ot + r) ∧ qSu c 512 ≤ r
def qHB (us nr kr kd ws AT ho wd wi OW rt wk wl : Nat → Int32) (wm nu ro fo le ra pi : Int32) (kp ca : Nat → Int32) (cat cm : Int32) (at2 ow2 : Nat → Int32) (to : Int32) (st ot r : Int) (c : Nat → Nat → Int32) : Prop := qRB us nr kr kd ws AT ho wd wi OW rt wk wl wm nu ro fo le ra pi c ∧ qI c ∧ qCQ kp ca us nr cat cm c ∧ qCP us kp ca at2 ow2 AT cm to st ot r c
section F9
variable {a b c d : Nat → Nat → Int32} {us nr kr kd ws AT at2 at3 ho wd wi OW ow2 ow3 rt wk wl kp kp₉ ca ca₉ : Nat → Int32} {wm nu ro fo le ra pi cat cm cm₉ to to₉ s x y i l : Int32} {st ot r : Int} {j k n f : Nat}
theorem Sj_le (hI : qI c) (h : zFQ c) (hk : n < 512) (ha : c 126 n ≠ 0) (hn : c 77 n = 0) : zSj c (c 75 4).toInt.toNat 512 + (c 128 n).toInt ≤ qSu c 512 := by
  have g : ∀ N, N ≤ 512 → zSj c (c 75 4).toInt.toNat N + (if n < N then (c 128 n).toInt else 0) ≤ qSu c N := by
    intro N
    induction N with
    | zero =>
      intro _
      rw [if_neg (by omega)]
      exact Int.le_refl _
    | succ N ih =>
      intro hN
      have q := ih (by omega)
      show zSj c (c 75 4).toInt.toNat N + _ + _ ≤ qSu c N + (if c 126 N ≠ 0 then (c 128 N).toInt else 0)
      by_cases w : N = n
      · have no : ¬ zIn c (c 75 4).toInt.toNat N := by
          rintro ⟨i, hi, e⟩
          have z := h.1 i (by omega)
          have t := tn_of (x := N) (by omega)
          rw [e, t, w] at z
          exact z.2.2.1 hn
        rw [if_neg (by omega)] at q
        rw [if_neg (dc_n no), if_pos (by omega), if_pos (by rw [w]; exact ha), w]
        rw [w] at q
        omega
      · have e2 : (if n < N + 1 then (c 128 n).toInt else 0) = (if n < N then (c 128 n).toInt else 0) := by
          by_cases z : n < N
          · rw [if_pos z, if_pos (by omega)]
          · rw [if_neg z, if_neg (by omega)]
        rw [e2]
        by_cases z : zIn c (c 75 4).toInt.toNat N
        · have al : c 126 N ≠ 0 := by
            obtain ⟨i, hi, e⟩ := z
            have g := h.1 i (by omega)
            rw [e, tn_of (by omega)] at g
            exact g.2.2.2
          rw [if_pos (dc_y z), if_pos al]
          omega
        · rw [if_neg (dc_n z)]
          by_cases al : c 126 N ≠ 0
          · rw [if_pos al]
            have := (hI.1 N ⟨by omega, al⟩).2.1.1
            omega
          · rw [if_neg al]
            omega
  have q := g 512 (by omega)
  rw [if_pos hk] at q
  exact q
theorem cc_of2 (h : zWk c) (h0 : 0 ≤ y.toInt) (h1 : y.toInt < 512) (ha : c 126 y.toNatClampNeg ≠ 0) (hw : c 77 y.toNatClampNeg = 0) : aCc c y := by
  have hn : y.toNatClampNeg < 512 := by
    have := tn_cast h0
    omega
  have ct := cnt_lt (r := c 77) hn hw
  have p := h.2.2 _ ⟨hn, ha⟩
  have f := h.2.1
  have q := h.1
  exact ⟨h0, h1, ha, by omega, by omega, hw⟩
theorem Wk_cm (h : zWk c) : zWk (aCm c y) := by
  by_cases hc : aCc c y
  · have e7 : aCm c y 77 = ma_u c 77 y.toNatClampNeg 1 77 := by
      rw [aCm_y hc, ma_u_ne _ _ _ (by decide), ma_u_ne _ _ _ (by decide)]
    have e4 : aCm c y 75 4 = c 75 4 + 1 := by
      rw [aCm_y hc]
      exact xu_s
    have hn : y.toNatClampNeg < 512 := by
      have := tn_cast hc.1
      have := hc.2.1
      omega
    have u := cnt_up (m := c) (c := 77) (x := (1 : Int32)) hn hc.2.2.2.2.2 (by decide)
    have b := i_bd (c 75 4)
    have l := hc.2.2.2.2.1
    have e1 : (c 75 4 + 1).toInt = (c 75 4).toInt + 1 := i_p1 (by omega)
    refine ⟨?_, ?_, fun x hx => ?_⟩
    · rw [e7, e4, e1, u]
      have := h.1
      omega
    · rw [aCm_y hc, xu_o (by omega), xu_o (by omega), xu_o (by omega)]
      exact h.2.1
    · rw [aCm_o ⟨by decide, by decide, by decide⟩]
      exact h.2.2 x ((Of_al cm_of).mp hx)
  · rw [aCm_n hc]
    exact h
theorem Wk_of (h : zWQ c) : zWk c := ⟨h.1.2.2, h.2.2.2.2.2⟩
theorem cm_r (h : aCc c y) : aCm c y 75 3 = c 75 3 ∧ aCm c y 75 4 = c 75 4 + 1 ∧ (∀ j, j ≠ (c 75 4).toNatClampNeg → aCm c y 76 j = c 76 j) ∧ aCm c y 76 (c 75 4).toNatClampNeg = y ∧ (∀ x, x ≠ y.toNatClampNeg → aCm c y 77 x = c 77 x) ∧ aCm c y 77 y.toNatClampNeg = 1 := by
  rw [aCm_y h]
  exact ⟨by rw [xu_o (by omega), xu_o (by omega), xu_o (by omega)], xu_s, fun j w => by rw [xu_o (by omega), xu_o (fun z => w z.2), xu_o (by omega)], by rw [xu_o (by omega), xu_s], fun x w => by rw [xu_o (by omega), xu_o (by omega), xu_o (fun z => w z.2)], by rw [xu_o (by omega), xu_o (by omega), xu_s]⟩
theorem CQ_cc (h : qCQ kp ca us nr cat cm c) (hR : qR1 us nr ws AT ho c) (h0 : 0 ≤ s.toInt) (h3 : s.toInt ≤ 3099) (hu : us s.toNatClampNeg ≠ 0) (hk : kp s.toNatClampNeg = 0) : aCc c (nr s.toNatClampNeg) ∧ c 77 (nr s.toNatClampNeg).toNatClampNeg = 0 := by
  have q := hR.1 _ (tn_lt h0 (by omega)) hu
  have w : c 77 (nr s.toNatClampNeg).toNatClampNeg = 0 := by
    by_cases z : c 77 (nr s.toNatClampNeg).toNatClampNeg = 0
    · exact z
    · exact absurd ((h.2.2.2.2.1 _ (tn_lt h0 (by omega)) hu).mpr z) (fun z => z hk)
  exact ⟨cc_of2 h.2.2.1 q.1.1 q.1.2 q.2.1 w, w⟩
theorem kQ_push (h : qCQ kp ca us nr cat cm c) (hR : qR1 us nr ws AT ho c) (h0 : 0 ≤ s.toInt) (h3 : s.toInt ≤ 3099) (hu : us s.toNatClampNeg ≠ 0) (hk : kp s.toNatClampNeg = 0) (e1 : ∀ t, kp₉ t = if t = s.toNatClampNeg then 1 else kp t) (e2 : ∀ t, ca₉ t = if t = cm.toNatClampNeg then s else ca t) (e3 : cm₉ = cm + 1) : qCQ kp₉ ca₉ us nr cat cm₉ (aCm c (nr s.toNatClampNeg)) := by
  have cc := CQ_cc h hR h0 h3 hu hk
  have r := cm_r cc.1
  obtain ⟨⟨q1, q2⟩, q3, q4, q5, q6, q7⟩ := h
  have q44 := q3.2.2.2
  rw [q2] at q44 r
  have sl := tn_lt h0 (by omega : s.toInt < 3100)
  have ecm : (cm + 1).toInt = cm.toInt + 1 := i_p1 (by omega)
  have tc := tn_cast (x := cm) (by omega)
  have n5 := hR.1 _ sl hu
  refine ⟨⟨r.1.trans q1, by rw [r.2.1, e3]⟩, FQ_cm q3, Wk_cm q4, fun t ht w => ?_, fun t ht hut => ?_, fun j hj => ?_⟩
  · by_cases z : t = s.toNatClampNeg
    · rw [z]
      exact hu
    · rw [e1 t, if_neg z] at w
      exact q5 t ht w
  · by_cases z : t = s.toNatClampNeg
    · rw [e1 t, if_pos z, z, r.2.2.2.2.2]
    · have ne : (nr t).toNatClampNeg ≠ (nr s.toNatClampNeg).toNatClampNeg := fun w => z (R1_in hR ht sl hut hu w)
      rw [e1 t, if_neg z, r.2.2.2.2.1 _ ne]
      exact q6 t ht hut
  · rw [e3, ecm] at hj
    by_cases z : j = cm.toNatClampNeg
    · rw [e2 j, if_pos z, z, r.2.2.2.1]
      exact ⟨⟨h0, by omega, hu⟩, rfl⟩
    · rw [e2 j, if_neg z, r.2.2.1 j z]
      exact q7 j (by omega)
theorem kQ_skip (h : qCQ kp ca us nr cat cm c) (hR : qR1 us nr ws AT ho c) (hs : s.toInt < 0 ∨ (0 ≤ s.toInt ∧ s.toInt ≤ 3099 ∧ us s.toNatClampNeg ≠ 0 ∧ kp s.toNatClampNeg ≠ 0)) : aCm c (qNo nr s) = c := by
  refine aCm_n (fun z => ?_)
  rcases hs with w | ⟨h0, h3, hu, hk⟩
  · have z1 := z.1
    rw [No_n w] at z1
    exact absurd z1 (by decide)
  · have z6 := z.2.2.2.2.2
    rw [No_y h0] at z6
    exact (h.2.2.2.2.1 _ (tn_lt h0 (by omega)) hu).mp hk z6
theorem Ps_push (h : ∀ k, k < j → b 76 k = a 76 k) (e2 : b 128 = a 128) : ∀ i, i ≤ j → zPs b st i = zPs a st i := by
  intro i
  induction i with
  | zero => intro _; rfl
  | succ i ih =>
    intro hi
    unfold zPs
    rw [ih (by omega), h i (by omega), e2]
theorem CP_to (h : qCP us kp ca at2 ow2 AT cm to st ot r c) (hQ : qCQ kp ca us nr cat cm c) (hI : qI c) (hR : qR1 us nr ws AT ho c) (h0 : 0 ≤ s.toInt) (h3 : s.toInt ≤ 3099) (hu : us s.toNatClampNeg ≠ 0) (hk : kp s.toNatClampNeg = 0) : st ≤ to.toInt ∧ to.toInt + (ws s.toNatClampNeg).toInt + 1 ≤ st + r := by
  have cc := CQ_cc hQ hR h0 h3 hu hk
  have q := hR.1 _ (tn_lt h0 (by omega)) hu
  have n5 := tn_cast q.1.1
  have l := Sj_le hI hQ.2.1 (n := (nr s.toNatClampNeg).toNatClampNeg) (by omega) q.2.1 cc.2
  have sz : (c 128 (nr s.toNatClampNeg).toNatClampNeg).toInt = (ws s.toNatClampNeg).toInt + 1 := by
    rw [q.2.2.1]
    exact i_addk rfl (by have := q.2.2.2.2.2.1; omega) (by have := q.2.2.2.2.2.1; omega)
  have q44 := hQ.2.1.2.2.2
  have p := Ps_sj (st := st) hQ.2.1 (c 75 4).toInt.toNat (by omega)
  have g := Ps_le (st := st) hI hQ.2.1 (c 75 4).toInt.toNat (by omega) 0 (by omega)
  have g2 : st ≤ zPs c st (c 75 4).toInt.toNat := g
  have e := h.2.1
  rw [← hQ.1.2] at e
  have su := h.2.2.2.2.2.2
  omega
theorem kP_push (h : qCP us kp ca at2 ow2 AT cm to st ot r c) (hQ : qCQ kp ca us nr cat cm c) (hI : qI c) (hR : qR1 us nr ws AT ho c) (h0 : 0 ≤ s.toInt) (h3 : s.toInt ≤ 3099) (hu : us s.toNatClampNeg ≠ 0) (hk : kp s.toNatClampNeg = 0) (e1 : ∀ t, kp₉ t = if t = s.toNatClampNeg then 1 else kp t) (e2 : ∀ t, ca₉ t = if t = cm.toNatClampNeg then s else ca t) (e3 : cm₉ = cm + 1) (hm : zmov s to at2 ow2 at3 ow3) (e4 : to₉.toInt = to.toInt + ((ws s.toNatClampNeg).toInt + 1)) : qCP us kp₉ ca₉ at3 ow3 AT cm₉ to₉ st ot r (aCm c (nr s.toNatClampNeg)) := by
  have bt := CP_to h hQ hI hR h0 h3 hu hk
  have cc := CQ_cc hQ hR h0 h3 hu hk
  have rr := cm_r cc.1
  obtain ⟨⟨q1, q2⟩, q3, q4, q5, q6, q7⟩ := hQ
  have q44 := q3.2.2.2
  rw [q2] at q44 rr
  have sl := tn_lt h0 (by omega : s.toInt < 3100)
  have ecm : (cm + 1).toInt = cm.toInt + 1 := i_p1 (by omega)
  have tc := tn_cast (x := cm) (by omega)
  have rs := hR.1 _ sl hu
  have sz : (c 128 (nr s.toNatClampNeg).toNatClampNeg).toInt = (ws s.toNatClampNeg).toInt + 1 := by
    rw [rs.2.2.1]
    exact i_addk rfl (by have := rs.2.2.2.2.2.1; omega) (by have := rs.2.2.2.2.2.1; omega)
  obtain ⟨p1, p2, p3, p4, p5, p6, p7⟩ := h
  have q2i := congrArg Int32.toInt q2
  have p2c : to.toInt = zPs c st cm.toNatClampNeg := p2
  have o8 : aCm c (nr s.toNatClampNeg) 128 = c 128 := funext (fun k => aCm_o ⟨by decide, by decide, by decide⟩)
  have o6 : aCm c (nr s.toNatClampNeg) 126 = c 126 := funext (fun k => aCm_o ⟨by decide, by decide, by decide⟩)
  have o3 : aCm c (nr s.toNatClampNeg) 130 = c 130 := funext (fun k => aCm_o ⟨by decide, by decide, by decide⟩)
  have ps : ∀ i, i ≤ cm.toNatClampNeg → zPs (aCm c (nr s.toNatClampNeg)) st i = zPs c st i := Ps_push (fun k hk => rr.2.2.1 k (by omega)) o8
  have cn : cm.toInt.toNat = cm.toNatClampNeg := rfl
  have a3 : (at3 s.toNatClampNeg).toInt = to.toInt := mv_s hm
  have ao : ∀ t, t ≠ s.toNatClampNeg → at3 t = at2 t := fun t ht => by
    rcases hm with ⟨w, _, _⟩ | ⟨w, _, _⟩
    · rw [w]
    · rw [w t, if_neg ht]
  have ca_ne : ∀ j : Nat, (j : Int) < cm.toInt → (ca j).toNatClampNeg ≠ s.toNatClampNeg := fun j hj z => by
    have g := (q3.1 j (by rw [q2]; exact hj)).2.2.1
    rw [(q7 j hj).2, z] at g
    exact g cc.2
  have al := fun n => (Of_al (x := n) (cm_of (a := c) (y := nr s.toNatClampNeg)))
  refine ⟨fun j hj => ?_, ?_, fun t ht hut hkt => ?_, fun t ht hut => ?_, p5, fun n hn => ?_, ?_⟩
  · rw [e3, ecm] at hj
    by_cases z : j = cm.toNatClampNeg
    · rw [e2 j, if_pos z, a3, z, ps _ (by omega), p2, cn]
    · rw [e2 j, if_neg z, ao _ (ca_ne j (by omega)), ps j (by omega)]
      exact p1 j (by omega)
  · rw [e4, e3, show (cm + 1).toInt.toNat = cm.toNatClampNeg + 1 from by omega]
    show _ = zPs (aCm c (nr s.toNatClampNeg)) st cm.toNatClampNeg + _
    rw [ps _ (by omega), rr.2.2.2.1, o8, sz, p2, cn]
  · have z : t ≠ s.toNatClampNeg := fun z => by
      rw [e1 t, if_pos z] at hkt
      exact absurd hkt (by decide)
    rw [e1 t, if_neg z] at hkt
    rw [ao t z]
    exact p3 t ht hut hkt
  · rcases hm with ⟨w1, w2, _⟩ | ⟨w1, w2, w3⟩
    · rw [w1, w2]
      exact p4 t ht hut
    · by_cases z : t = s.toNatClampNeg
      · rw [w1 t, if_pos z, w2, z]
        exact (ofN_tn h0).symm
      · rw [w1 t, if_neg z]
        have rt := hR.1 t ht hut
        have ne : ((at2 t).toNatClampNeg : Int) ≠ (to.toNatClampNeg : Int) := by
          have t0 := tn_cast (x := to) (by omega)
          by_cases kk : kp t = 0
          · have g := p6 _ (R1_al hR ht hut)
            rw [rt.2.2.2.1] at g
            have sz2 := (hI.1 _ (R1_al hR ht hut)).2.1.1
            have e5 := p3 t ht hut kk
            rw [e5]
            have t1 := tn_cast (x := AT t) rt.2.2.2.2.2.2
            omega
          · obtain ⟨j, hj, e⟩ := q3.2.2.1 _ (by have := tn_cast rt.1.1; omega) ((q6 t ht hut).mp kk)
            rw [q2] at hj
            have ej := q7 j hj
            have et : (ca j).toNatClampNeg = t := by
              refine R1_in hR (by have := tn_cast ej.1.1; omega) ht ej.1.2.2 hut ?_
              rw [← ej.2, e]
              exact tn_of (by have := tn_cast rt.1.1; omega)
            have pj := p1 j hj
            rw [et] at pj
            have l1 := Ps_le (st := st) hI q3 cm.toNatClampNeg (by omega) (j + 1) (by omega)
            have l2 : zPs c st (j + 1) = zPs c st j + (c 128 (c 76 j).toNatClampNeg).toInt := rfl
            have l3 := (hI.1 _ (FQ_al q3 (j := j) (by rw [q2]; exact hj)).1).2.1.1
            have l4 := Ps_le (st := st) hI q3 j (by omega) 0 (by omega)
            have l5 : st ≤ zPs c st j := l4
            have t1 := tn_cast (x := at2 t) (by omega)
            omega
        rcases w3 (at2 t).toNatClampNeg (fun z2 => ne (by rw [z2])) with g | g
        · rw [g]
          exact p4 t ht hut
        · have g2 := p4 t ht hut
          rw [g.2.1] at g2
          have g3 := congrArg Int32.toInt g2
          rw [ofN_s ht] at g3
          exact absurd (by have := tn_cast h0; omega) z
  · rw [o3, o8]
    exact p6 n ((al n).mp hn)
  · rw [Su_cg o6 o8]
    exact p7
theorem HB_push (h : qHB us nr kr kd ws AT ho wd wi OW rt wk wl wm nu ro fo le ra pi kp ca cat cm at2 ow2 to st ot r c) (h0 : 0 ≤ s.toInt) (h3 : s.toInt ≤ 3099) (hu : us s.toNatClampNeg ≠ 0) (hk : kp s.toNatClampNeg = 0) (e1 : ∀ t, kp₉ t = if t = s.toNatClampNeg then 1 else kp t) (e2 : ∀ t, ca₉ t = if t = cm.toNatClampNeg then s else ca t) (e3 : cm₉ = cm + 1) (hm : zmov s to at2 ow2 at3 ow3) (e4 : to₉.toInt = to.toInt + ((ws s.toNatClampNeg).toInt + 1)) : qHB us nr kr kd ws AT ho wd wi OW rt wk wl wm nu ro fo le ra pi kp₉ ca₉ cat cm₉ at3 ow3 to₉ st ot r (aCm c (qNo nr s)) := by
  rw [No_y h0]
  exact ⟨RB_of h.1 cm_of, qI_of h.2.1 cm_of, kQ_push h.2.2.1 h.1.1 h0 h3 hu hk e1 e2 e3, kP_push h.2.2.2 h.2.2.1 h.2.1 h.1.1 h0 h3 hu hk e1 e2 e3 hm e4⟩
theorem HB_skip (h : qHB us nr kr kd ws AT ho wd wi OW rt wk wl wm nu ro fo le ra pi kp ca cat cm at2 ow2 to st ot r c) (hs : s.toInt < 0 ∨ (0 ≤ s.toInt ∧ s.toInt ≤ 3099 ∧ us s.toNatClampNeg ≠ 0 ∧ kp s.toNatClampNeg ≠ 0)) : qHB us nr kr kd ws AT ho wd wi OW rt wk wl wm nu ro fo le ra pi kp ca cat cm at2 ow2 to st ot r (aCm c (qNo nr s)) := by
  rw [kQ_skip h.2.2.1 h.1.1 hs]
  exact h
theorem HB_b (h : qHB us nr kr kd ws AT ho wd wi OW rt wk wl wm nu ro fo le ra pi kp ca cat cm at2 ow2 to st ot r c) : (0 ≤ cat.toInt ∧ cat.toInt ≤ cm.toInt ∧ cm.toInt ≤ 512) ∧ 0 ≤ st ∧ st ≤ to.toInt := by
  have q := h.2.2.1.2.1.2.2.2
  rw [h.2.2.1.1.1, h.2.2.1.1.2] at q
  have g := Ps_le (st := st) h.2.1 h.2.2.1.2.1 cm.toInt.toNat (by rw [h.2.2.1.1.2]; omega) 0 (by omega)
  have g2 : st ≤ zPs c st cm.toInt.toNat := g
  have e := h.2.2.2.2.1
  have p := h.2.2.2.2.2.2.2.1
  exact ⟨q, p.1, by omega⟩
theorem HB_to (h : qHB us nr kr kd ws AT ho wd wi OW rt wk wl wm nu ro fo le ra pi kp ca cat cm at2 ow2 to st ot r c) (h0 : 0 ≤ s.toInt) (h3 : s.toInt ≤ 3099) (hu : us s.toNatClampNeg ≠ 0) (hk : kp s.toNatClampNeg = 0) : 0 ≤ to.toInt ∧ to.toInt + (ws s.toNatClampNeg).toInt + 1 ≤ 3000 ∧ to.toInt ≤ 2999 := by
  have g := CP_to h.2.2.2 h.2.2.1 h.2.1 h.1.1 h0 h3 hu hk
  have w0 := (h.1.1.1 _ (tn_lt h0 (by omega)) hu).2.2.2.2.2.1
  have p := h.2.2.2.2.2.2.2.1
  omega
/-! all that came -/
def qHS (us nr kr kd ws AT ho wd wi OW rt wk wl : Nat → Int32) (wm nu ro fo le ra pi : Int32) (kp ca : Nat → Int32) (cat cm : Int32) (at2 ow2 : Nat → Int32) (to : Int32) (st ot r : Int) (T : Nat → Nat → Int32) : Prop := ∃ (c : Nat → Nat → Int32) (f : Nat), qHB us nr kr kd ws AT ho wd wi OW rt wk wl wm nu ro fo le ra pi kp ca cat cm at2 ow2 to st ot r c ∧ aSp f c = T ∧ 512 ≤ (f : Int) + cat.toInt
def qHW (us nr kr kd ws AT ho wd wi OW rt wk wl : Nat → Int32) (wm nu ro fo le ra pi : Int32) (kp ca : Nat → Int32) (cat cm : Int32) (at2 ow2 : Nat → Int32) (to : Int32) (st ot r : Int) (s i : Int32) (T : Nat → Nat → Int32) : Prop := ∃ (c : Nat → Nat → Int32) (f : Nat), (qHB us nr kr kd ws AT ho wd wi OW rt wk wl wm nu ro fo le ra pi kp ca cat cm at2 ow2 to st ot r c ∧ aSp f (aCw c (nr s.toNatClampNeg).toNatClampNeg i) = T ∧ 512 ≤ (f : Int) + cat.toInt) ∧ 0 ≤ s.toInt ∧ s.toInt ≤ 3099 ∧ us s.toNatClampNeg ≠ 0
theorem HS_0 (h : qHB us nr kr kd ws AT ho wd wi OW rt wk wl wm nu ro fo le ra pi kp ca cat cm at2 ow2 to st ot r c) : qHS us nr kr kd ws AT ho wd wi OW rt wk wl wm nu ro fo le ra pi kp ca cat cm at2 ow2 to st ot r (aSp 512 c) := ⟨c, 512, h, rfl, by have := (HB_b h).1; omega⟩
theorem HS_b (h : qHS us nr kr kd ws AT ho wd wi OW rt wk wl wm nu ro fo le ra pi kp ca cat cm at2 ow2 to st ot r d) : (0 ≤ cat.toInt ∧ cat.toInt ≤ cm.toInt ∧ cm.toInt ≤ 512) ∧ 0 ≤ st ∧ st ≤ to.toInt := by
  obtain ⟨c, f, hB, _, _⟩ := h
  exact HB_b hB
theorem HS_end (h : qHS us nr kr kd ws AT ho wd wi OW rt wk wl wm nu ro fo le ra pi kp ca cat cm at2 ow2 to st ot r d) (hl : ¬ cat.toInt < cm.toInt) : qHB us nr kr kd ws AT ho wd wi OW rt wk wl wm nu ro fo le ra pi kp ca cat cm at2 ow2 to st ot r d := by
  obtain ⟨c, f, hB, hT, _⟩ := h
  have e : aSp f c = c := by
    cases f with
    | zero => rfl
    | succ f =>
      show (if (c 75 3).toInt < (c 75 4).toInt then _ else c) = c
      rw [hB.2.2.1.1.1, hB.2.2.1.1.2, if_neg hl]
  rw [← hT, e]
  exact hB
theorem HB_hd (h : qHB us nr kr kd ws AT ho wd wi OW rt wk wl wm nu ro fo le ra pi kp ca cat cm at2 ow2 to st ot r c) (hl : cat.toInt < cm.toInt) : qHB us nr kr kd ws AT ho wd wi OW rt wk wl wm nu ro fo le ra pi kp ca (cat + 1) cm at2 ow2 to st ot r (ma_u (ma_u c 75 3 (c 75 3 + 1)) 77 (c 76 (c 75 3).toNatClampNeg).toNatClampNeg 2) := by
  obtain ⟨hR, hI, ⟨⟨q1, q2⟩, q3, q4, q5, q6, q7⟩, p1, p2, p3, p4, p5, p6, p7⟩ := h
  have q44 := q3.2.2.2
  have e1 : (c 75 3 + 1).toInt = (c 75 3).toInt + 1 := i_p1 (by omega)
  have t := tn_cast (x := c 75 3) q44.1
  have hq := q3.1 (c 75 3).toNatClampNeg (by rw [q2, t, q1]; exact hl)
  generalize hz : (c 76 (c 75 3).toNatClampNeg).toNatClampNeg = z at *
  have of : zOf c (ma_u (ma_u c 75 3 (c 75 3 + 1)) 77 z 2) := fun c₉ k h1 h2 h3 => by rw [xu_o (fun w => h3 w.1), xu_o (fun w => h1 w.1)]
  have r3 : (ma_u (ma_u c 75 3 (c 75 3 + 1)) 77 z 2) 75 3 = c 75 3 + 1 := by rw [xu_o (by omega), xu_s]
  have r4 : (ma_u (ma_u c 75 3 (c 75 3 + 1)) 77 z 2) 75 4 = c 75 4 := by rw [xu_o (by omega), xu_o (by omega)]
  have r5 : (ma_u (ma_u c 75 3 (c 75 3 + 1)) 77 z 2) 75 5 = c 75 5 := by rw [xu_o (by omega), xu_o (by omega)]
  have r6 : (ma_u (ma_u c 75 3 (c 75 3 + 1)) 77 z 2) 76 = c 76 := by rw [ma_u_ne _ _ _ (by decide), ma_u_ne _ _ _ (by decide)]
  have rc : (ma_u (ma_u c 75 3 (c 75 3 + 1)) 77 z 2) 77 = ma_u c 77 z 2 77 := by
    funext k
    show (if (77 : Nat) = 77 ∧ k = z then (2 : Int32) else ma_u c 75 3 _ 77 k) = (if (77 : Nat) = 77 ∧ k = z then (2 : Int32) else c 77 k)
    rw [xu_o (by omega)]
  have r7 : ∀ x, (ma_u (ma_u c 75 3 (c 75 3 + 1)) 77 z 2) 77 x ≠ 0 ↔ c 77 x ≠ 0 := fun x => by
    rw [rc]
    by_cases w : x = z
    · rw [w, xu_s]
      exact ⟨fun _ => hq.2.2.1, fun _ => by decide⟩
    · rw [xu_o (fun y => w y.2)]
  have r26 : (ma_u (ma_u c 75 3 (c 75 3 + 1)) 77 z 2) 126 = c 126 := by rw [ma_u_ne _ _ _ (by decide), ma_u_ne _ _ _ (by decide)]
  have r28 : (ma_u (ma_u c 75 3 (c 75 3 + 1)) 77 z 2) 128 = c 128 := by rw [ma_u_ne _ _ _ (by decide), ma_u_ne _ _ _ (by decide)]
  have r30 : (ma_u (ma_u c 75 3 (c 75 3 + 1)) 77 z 2) 130 = c 130 := by rw [ma_u_ne _ _ _ (by decide), ma_u_ne _ _ _ (by decide)]
  have ps := Ps_cg (st := st) r6 r28
  generalize ma_u (ma_u c 75 3 (c 75 3 + 1)) 77 z 2 = B at *
  have al : ∀ x, xAl B x ↔ xAl c x := fun x => Of_al of
  refine ⟨RB_of hR of, qI_of hI of, ⟨⟨by rw [r3, q1], r4.trans q2⟩, ⟨?_, ?_, ?_, ?_⟩, ⟨?_, ?_, ?_⟩, q5, fun t ht hu => (q6 t ht hu).trans (r7 _).symm, fun j hj => by rw [r6]; exact q7 j hj⟩, fun j hj => by rw [ps]; exact p1 j hj, by rw [ps]; exact p2, p3, p4, p5, fun n hn => by rw [r30, r28]; exact p6 n ((al n).mp hn), by rw [Su_cg r26 r28]; exact p7⟩
  · intro j hj
    rw [r4] at hj
    have g := q3.1 j hj
    rw [r6, r26]
    exact ⟨g.1, g.2.1, (r7 _).mpr g.2.2.1, g.2.2.2⟩
  · intro j j₉ h1 h2
    rw [r4] at h2
    rw [r6]
    exact q3.2.1 j j₉ h1 h2
  · intro x hx w
    rw [r4, r6]
    exact q3.2.2.1 x hx ((r7 x).mp w)
  · rw [r3, r4, e1]
    rw [q1, q2] at *
    omega
  · rw [r4, rc]
    have w := cnt_u1 (m := c) (c := 77) (k := z) (x := (2 : Int32)) (n := 512) (by decide)
    have := q4.1
    omega
  · rw [r5]
    exact q4.2.1
  · intro x hx
    rw [r30]
    exact q4.2.2 x ((al x).mp hx)
theorem HS_go (h : qHS us nr kr kd ws AT ho wd wi OW rt wk wl wm nu ro fo le ra pi kp ca cat cm at2 ow2 to st ot r d) (hl : cat.toInt < cm.toInt) (hs : s = ca cat.toNatClampNeg) (hx : x = cat + 1) : qHW us nr kr kd ws AT ho wd wi OW rt wk wl wm nu ro fo le ra pi kp ca x cm at2 ow2 to st ot r s 0 d := by
  obtain ⟨c, f, hB, hT, hf⟩ := h
  have b := (HB_b hB).1
  have t := tn_cast (x := cat) b.1
  have g := hB.2.2.1.2.2.2.2.2 cat.toNatClampNeg (by omega)
  have e1 : (cat + 1).toInt = cat.toInt + 1 := i_p1 (by omega)
  have q := hB.1.1.1 _ (tn_lt g.1.1 g.1.2.1) g.1.2.2
  have hd := HB_hd hB hl
  cases f with
  | zero => omega
  | succ f =>
    have e2 : aSp (f + 1) c = aSp f (aPop c) := by
      show (if (c 75 3).toInt < (c 75 4).toInt then aSp f (aPop c) else c) = _
      rw [hB.2.2.1.1.1, hB.2.2.1.1.2, if_pos hl]
    have e3 : c 76 (c 75 3).toNatClampNeg = nr s.toNatClampNeg := by
      rw [hB.2.2.1.1.1, g.2, hs]
    rw [← hs] at g q
    have e4 := aPop_y e3 q.1.1 q.1.2 q.2.1
    rw [e3] at hd
    rw [hx]
    exact ⟨_, f, ⟨hd, by rw [← e4, ← e2]; exact hT, by omega⟩, g.1.1, by have := g.1.2.1; omega, g.1.2.2⟩
/-- the word i of s comes -/
theorem HW_rf (h : qHB us nr kr kd ws AT ho wd wi OW rt wk wl wm nu ro fo le ra pi kp ca cat cm at2 ow2 to st ot r c) (h0 : 0 ≤ s.toInt) (h3 : s.toInt ≤ 3099) (hu : us s.toNatClampNeg ≠ 0) (hi : 0 ≤ i.toInt) (hw : i.toInt < (ws s.toNatClampNeg).toInt) (hx : zrf kr kd wd s.toNatClampNeg i.toNatClampNeg = x) : qU us x ∧ aCw c (nr s.toNatClampNeg).toNatClampNeg i = aCw (aCm c (qNo nr x)) (nr s.toNatClampNeg).toNatClampNeg (i + 1) := by
  have t := tn_cast hi
  have q := h.1.2.1 _ (tn_lt h0 (by omega)) hu i.toNatClampNeg (by omega)
  have r := h.1.1.1 _ (tn_lt h0 (by omega)) hu
  have sz : (c 128 (nr s.toNatClampNeg).toNatClampNeg).toInt = (ws s.toNatClampNeg).toInt + 1 := by
    rw [r.2.2.1]
    exact i_addk rfl (by have := r.2.2.2.2.2.1; omega) (by have := r.2.2.2.2.2.1; omega)
  rw [hx] at q
  refine ⟨q.1, ?_⟩
  rw [aCw_go (by omega), ← q.2.1, ofN_tn hi]
theorem HW_end (h : qHW us nr kr kd ws AT ho wd wi OW rt wk wl wm nu ro fo le ra pi kp ca cat cm at2 ow2 to st ot r s i d) (hi : 0 ≤ i.toInt) (hw : ¬ i.toInt < (ws s.toNatClampNeg).toInt) : qHS us nr kr kd ws AT ho wd wi OW rt wk wl wm nu ro fo le ra pi kp ca cat cm at2 ow2 to st ot r d := by
  obtain ⟨c, f, ⟨hB, hT, hf⟩, h0, h3, hu⟩ := h
  have r := hB.1.1.1 _ (tn_lt h0 (by omega)) hu
  have sz : (c 128 (nr s.toNatClampNeg).toNatClampNeg).toInt = (ws s.toNatClampNeg).toInt + 1 := by
    rw [r.2.2.1]
    exact i_addk rfl (by have := r.2.2.2.2.2.1; omega) (by have := r.2.2.2.2.2.1; omega)
  rw [aCw_st (by omega)] at hT
  exact ⟨c, f, hB, hT, hf⟩
end F9

/-! from 95.r17 -/
/-! the reference where it moves (written by wip/tools/gen15r.py) -/
/-! COPYING IN THE REFERENCE: ROOTS, WISHES, wishers, the end -/
def qHR (us nr kr kd ws AT ho wd wi OW rt wk wl : Nat → Int32) (wm nu ro fo le ra pi : Int32) (kp ca : Nat → Int32) (cat cm : Int32) (at2 ow2 : Nat → Int32) (to : Int32) (st ot r : Int) (i : Int32) (T : Nat → Nat → Int32) : Prop := ∃ c, qHB us nr kr kd ws AT ho wd wi OW rt wk wl wm nu ro fo le ra pi kp ca cat cm at2 ow2 to st ot r c ∧ aRo c i = T
def qHX (us nr kr kd ws AT ho wd wi OW rt wk wl : Nat → Int32) (wm nu ro fo le ra pi : Int32) (kp ca : Nat → Int32) (cat cm : Int32) (at2 ow2 : Nat → Int32) (to : Int32) (st ot r : Int) (i : Int32) (T : Nat → Nat → Int32) : Prop := ∃ c, qHB us nr kr kd ws AT ho wd wi OW rt wk wl wm nu ro fo le ra pi kp ca cat cm at2 ow2 to st ot r c ∧ aWi c i = T
def qHG (us nr kr kd ws AT ho wd wi OW rt wk wl : Nat → Int32) (wm nu ro fo le ra pi : Int32) (kp ca : Nat → Int32) (cat cm : Int32) (at2 ow2 : Nat → Int32) (to : Int32) (st ot r : Int) (x : Int32) (T : Nat → Nat → Int32) : Prop := ∃ (b : Nat → Nat → Int32) (l : Int32), qHB us nr kr kd ws AT ho wd wi OW rt wk wl wm nu ro fo le ra pi kp ca cat cm at2 ow2 to st ot r b ∧ qE0 b ∧ qCl b ∧ (-1 ≤ l.toInt ∧ l.toInt + 1 ≤ (b 69 6).toInt) ∧ qMin (qCw us kp wi nr l) nr x 3100 ∧ aGw b (l + 1) = T
section F10
variable {cat₉ : Int32} {a b c d aa T : Nat → Nat → Int32} {us us₉ nr kr kd ws AT at2 at3 ho wd wi wi₉ OW ow2 ow3 rt wk wk₉ wl wl₉ kp kp₉ ca ca₉ : Nat → Int32} {wm wm₉ nu ro fo le ra pi cat cm cm₉ to to₉ s x y i l : Int32} {st ot r : Int} {j k n f : Nat}

/-- all WHITE: nobody came -/
theorem HB_wh (hR : qRB us nr kr kd ws AT ho wd wi OW rt wk wl wm nu ro fo le ra pi a) (hv : qHv a) (hk : ∀ s, s < 3100 → kp s = 0) (h1 : cat.toInt = 0) (h2 : cm.toInt = 0) (ht : to.toInt = (a 87 5 - a 87 3).toInt) : qHB us nr kr kd ws AT ho wd wi OW rt wk wl wm nu ro fo le ra pi kp ca cat cm AT OW to (a 87 5 - a 87 3).toInt (a 87 3).toInt (a 87 5).toInt (aWh a 0) := by
  obtain ⟨hI, g2, ⟨g3, g4, g5⟩, g6, ⟨g7, g8⟩, g9, g10⟩ := hv
  have w := WQ_wh (fun x hx => (hI.1 x hx).1.2)
  have o := w.2.1
  have s : (a 87 5 - a 87 3).toInt = (a 87 5).toInt - (a 87 3).toInt := i_sub (by omega) (by omega)
  have c0 : cat = 0 := Int32.toInt_inj.mp (by rw [h1]; rfl)
  have m0 : cm = 0 := Int32.toInt_inj.mp (by rw [h2]; rfl)
  have r3 : aWh a 0 75 3 = 0 := by
    unfold aWh
    rw [xu_o (by omega), xu_o (by omega), xu_s]
  have r4 : aWh a 0 75 4 = 0 := by
    unfold aWh
    rw [xu_o (by omega), xu_s]
  refine ⟨RB_of hR o, qI_of hI o, ⟨⟨by rw [r3, c0], by rw [r4, m0]⟩, FQ_wh (by decide), Wk_of w.1, fun s hs z => absurd (hk s hs) z, fun s hs hu => ⟨fun z => absurd (hk s hs) z, fun z => ?_⟩, fun j hj => absurd hj (by omega)⟩, fun j hj => absurd hj (by omega), ?_, fun _ _ _ _ => rfl, hR.2.2.2.2.2.2.1, ⟨by omega, by omega, by omega, by omega⟩, fun n hn => ?_, ?_⟩
  · have q := hR.1.1 s hs hu
    exact absurd ⟨by have := tn_cast q.1.1; omega, z⟩ (w.2.2 (nr s).toNatClampNeg)
  · rw [ht, h2]
    rfl
  · rw [← o 130 n (by decide) (by decide) (by decide), ← o 128 n (by decide) (by decide) (by decide)]
    have := g9 n ((Of_al o).mp hn)
    omega
  · rw [← Su_of o]
    omega
theorem HR_0 (h : qHB us nr kr kd ws AT ho wd wi OW rt wk wl wm nu ro fo le ra pi kp ca cat cm at2 ow2 to st ot r c) (hi : i.toInt = 0) : qHR us nr kr kd ws AT ho wd wi OW rt wk wl wm nu ro fo le ra pi kp ca cat cm at2 ow2 to st ot r i (aRo c 0) := ⟨c, h, by rw [show i = 0 from Int32.toInt_inj.mp (by rw [hi]; rfl)]⟩
theorem HR_rt (h : qHB us nr kr kd ws AT ho wd wi OW rt wk wl wm nu ro fo le ra pi kp ca cat cm at2 ow2 to st ot r c) (hi : 0 ≤ i.toInt) (h6 : i.toInt < 16) (hx : x = rt i.toNatClampNeg) : qU us x ∧ aRo c i = aRo (aCm c (qNo nr x)) (i + 1) := by
  have t := tn_cast hi
  have q := h.1.2.2.1 i.toNatClampNeg (by omega)
  rw [aRo_go h6, q.2, hx]
  exact ⟨q.1, rfl⟩
theorem HX_wl (h : qHB us nr kr kd ws AT ho wd wi OW rt wk wl wm nu ro fo le ra pi kp ca cat cm at2 ow2 to st ot r c) (hi : 0 ≤ i.toInt) (h6 : i.toInt < wm.toInt) (hx : x = wl i.toNatClampNeg) : (0 ≤ x.toInt ∧ qU us x) ∧ aWi c i = aWi (aCm c (qNo nr x)) (i + 1) := by
  have t := tn_cast hi
  have q := h.1.2.2.2.2.1
  have g := q.2 i.toNatClampNeg (by omega)
  rw [hx]
  refine ⟨⟨g.1.1, Or.inr ⟨g.1.2.1, g.1.2.2⟩⟩, ?_⟩
  rw [aWi_go (by rw [q.1]; exact h6), g.2, No_y g.1.1]
theorem HR_end (h : qHR us nr kr kd ws AT ho wd wi OW rt wk wl wm nu ro fo le ra pi kp ca cat cm at2 ow2 to st ot r i T) (h6 : ¬ i.toInt < 16) (hx : x.toInt = 0) : qHX us nr kr kd ws AT ho wd wi OW rt wk wl wm nu ro fo le ra pi kp ca cat cm at2 ow2 to st ot r x T := by
  obtain ⟨c, hB, hT⟩ := h
  rw [aRo_st h6] at hT
  exact ⟨c, hB, by rw [show x = 0 from Int32.toInt_inj.mp (by rw [hx]; rfl)]; exact hT⟩
theorem Ho_0 : ∀ (f : Nat) (n : Int32) (c : Nat → Nat → Int32), (∀ x, xAl c x → c 133 x = 0) → aHf f n c = c := by
  intro f
  induction f with
  | zero => intro n c h; rfl
  | succ f ih =>
    intro n c h
    have e : (if 0 ≤ n.toInt ∧ n.toInt < 512 ∧ c 126 n.toNatClampNeg ≠ 0 ∧ 0 < (c 133 n.toNatClampNeg).toInt then aCm c n else c) = c := by
      refine if_neg (fun z => ?_)
      have t := tn_cast z.1
      have q := h n.toNatClampNeg ⟨by omega, z.2.2.1⟩
      have z4 := z.2.2.2
      rw [q] at z4
      exact absurd z4 (by decide)
    show aHf f (n + 1) _ = c
    rw [e]
    exact ih _ _ h
theorem HX_end (h : qHX us nr kr kd ws AT ho wd wi OW rt wk wl wm nu ro fo le ra pi kp ca cat cm at2 ow2 to st ot r i T) (h6 : ¬ i.toInt < wm.toInt) (hh : ∀ s, s < 3100 → us s ≠ 0 → ho s = 0) : qHB us nr kr kd ws AT ho wd wi OW rt wk wl wm nu ro fo le ra pi kp ca cat cm at2 ow2 to st ot r T := by
  obtain ⟨c, hB, hT⟩ := h
  rw [aWi_st (by rw [hB.1.2.2.2.2.1.1]; exact h6)] at hT
  have e : aHo c 0 = c := Ho_0 _ _ _ (fun x hx => by
    obtain ⟨s, hs, hu, e⟩ := hB.1.1.2.2 x hx.1 hx.2
    have q := (hB.1.1.1 s hs hu).2.2.2.2.1
    rw [e, tn_of hx.1] at q
    rw [q]
    exact hh s hs hu)
  rw [← hT, e]
  exact hB
theorem KB_cq (h : qCQ kp ca us nr cat cm c) (hR : qR1 us nr ws AT ho c) : qKB kp us nr c := ⟨h.2.2.2.1, fun s hs hu => (h.2.2.2.2.1 s hs hu).trans ⟨fun z => ⟨by have := tn_cast (hR.1 s hs hu).1.1; have := (hR.1 s hs hu).1.2; omega, z⟩, fun z => z.2⟩⟩
theorem HB_gr (hR : qRB us nr kr kd ws AT ho wd wi₉ OW rt wk₉ wl₉ wm₉ nu ro fo le ra pi (aGr b y)) (hI : qI (aGr b y)) (h : qHB us nr kr kd ws AT ho wd wi OW rt wk wl wm nu ro fo le ra pi kp ca cat cm at2 ow2 to st ot r b) : qHB us nr kr kd ws AT ho wd wi₉ OW rt wk₉ wl₉ wm₉ nu ro fo le ra pi kp ca cat cm at2 ow2 to st ot r (aGr b y) := by
  have g : ∀ c, c ≠ 73 → c ≠ 134 → c ≠ 74 → c ≠ 69 → aGr b y c = b c := fun c h1 h2 h3 h4 => gr_r h1 h2 h3 h4
  have e75 := g 75 (by decide) (by decide) (by decide) (by decide)
  have e76 := g 76 (by decide) (by decide) (by decide) (by decide)
  have e77 := g 77 (by decide) (by decide) (by decide) (by decide)
  have e26 := g 126 (by decide) (by decide) (by decide) (by decide)
  have e28 := g 128 (by decide) (by decide) (by decide) (by decide)
  have e30 := g 130 (by decide) (by decide) (by decide) (by decide)
  obtain ⟨_, _, ⟨q1, q3, q4, q5, q6, q7⟩, p1, p2, p3, p4, p5, p6, p7⟩ := h
  refine ⟨hR, hI, ⟨by rw [e75]; exact q1, FQ_gr q3, ?_, q5, by rw [e77]; exact q6, by rw [e76]; exact q7⟩, fun j hj => by rw [Ps_cg e76 e28]; exact p1 j hj, by rw [Ps_cg e76 e28]; exact p2, p3, p4, p5, ?_, by rw [Su_cg e26 e28]; exact p7⟩
  · unfold zWk xFp xAl at q4 ⊢
    rw [e75, e77, e26, e30]
    exact q4
  · unfold xAl at p6 ⊢
    rw [e26, e28, e30]
    exact p6
theorem HG_0 (h : qHB us nr kr kd ws AT ho wd wi OW rt wk wl wm nu ro fo le ra pi kp ca cat cm at2 ow2 to st ot r c) (hE : qE0 c) (hC : qCl c) (hM : qMin (qCw us kp wi nr (-1)) nr x 3100) : qHG us nr kr kd ws AT ho wd wi OW rt wk wl wm nu ro fo le ra pi kp ca cat cm at2 ow2 to st ot r x (aGw c 0) := ⟨c, -1, h, hE, hC, ⟨by decide, by have := h.2.1.2.2.2.1.1.1; have e1 : (-1 : Int32).toInt = -1 := rfl; omega⟩, hM, rfl⟩
theorem HG_end (h : qHG us nr kr kd ws AT ho wd wi OW rt wk wl wm nu ro fo le ra pi kp ca cat cm at2 ow2 to st ot r x T) (hx : x.toInt < 0) : qHB us nr kr kd ws AT ho wd wi OW rt wk wl wm nu ro fo le ra pi kp ca cat cm at2 ow2 to st ot r T ∧ qE0 T ∧ qCl T := by
  obtain ⟨b, l, hB, hE, hC, hl, hM, hT⟩ := h
  have e := GL_end hB.1 hB.2.1 (KB_cq hB.2.2.1 hB.1.1) hl.1 hl.2 hM hx hT
  rw [← e]
  exact ⟨hB, hE, hC⟩
/-- the next of the wishers came, and all behind it -/
theorem HG_nx (hB : qHB us nr kr kd ws AT ho wd wi OW rt wk wl wm nu ro fo le ra pi kp ca cat cm at2 ow2 to st ot r b) (hE : qE0 b) (hC : qCl b) (hl : -1 ≤ l.toInt ∧ l.toInt + 1 ≤ (b 69 6).toInt) (hM : qMin (qCw us kp wi nr l) nr x 3100) (hT : aGw b (l + 1) = T) (hx : 0 ≤ x.toInt) (hu : us x.toNatClampNeg ≠ 0) (hx3 : x.toInt ≤ 3099) (hm : wm.toInt < 512)
    (hB2 : qHB us nr kr kd ws AT ho wd wi₉ OW rt wk₉ wl₉ wm₉ nu ro fo le ra pi kp₉ ca₉ cat₉ cm₉ at3 ow3 to₉ st ot r (aSp 512 (aCm (aGr b (nr x.toNatClampNeg)) (qNo nr x)))) (hM2 : qMin (qCw us kp₉ wi₉ nr (nr x.toNatClampNeg)) nr y 3100) : qHG us nr kr kd ws AT ho wd wi₉ OW rt wk₉ wl₉ wm₉ nu ro fo le ra pi kp₉ ca₉ cat₉ cm₉ at3 ow3 to₉ st ot r y T := by
  have nx := GL_nx hB.1 hB.2.1 hE (KB_cq hB.2.2.1 hB.1.1) hl.1 hl.2 hM hx hT
  have sp := E0_sp (gr_cm (y := nr x.toNatClampNeg) (E0_gr (y := nr x.toNatClampNeg) hE).1).1
  rw [No_y hx] at hB2
  exact ⟨_, nr x.toNatClampNeg, hB2, sp.1, Cl_nx hC hE (by rw [hB.1.2.2.2.2.1.1]; exact hm) hB.2.1.2.2.2.1.2.1.1 (R1_al hB.1.1 (tn_lt hx (by omega)) hu) (hB.1.1.1 _ (tn_lt hx (by omega)) hu).1.1, ⟨nx.2.2, by rw [sp_6]; exact nx.2.1⟩, hM2, nx.1⟩
/-- those that did not come are gone; the rest is where it came to -/
theorem HB_fin (hB : qHB us nr kr kd ws AT ho wd wi OW rt wk wl wm nu ro fo le ra pi kp ca cat cm at2 ow2 to (aa 87 5 - aa 87 3).toInt ot r (aGw (aRA aa) 0)) (hE : qE0 (aGw (aRA aa) 0)) (hC : qCl (aGw (aRA aa) 0)) (hv : qHv aa) (hu : qUr wk wk₉ kp 16) (hm : zrm us us₉ kp 3100) (ho₉ : zowr ow2 ow3 us kp at2) : qRB us₉ nr kr kd ws at2 ho wd wi ow3 rt wk₉ wl wm nu ro fo le ra pi (hFo (aSw aa)).1 ∧ to.toInt = (hFo (aSw aa)).2 := by
  have hK := KB_cq hB.2.2.1 hB.1.1
  have R := RB_mv hB.1 hB.2.1 hK (CK_of hC hB.1 hK) hE.1.2.2.2.2.2.1 hu hm (fun p _ => Or.inl rfl : zowr OW OW us kp AT)
  have e : aMv (aGw (aRA aa) 0) 0 = aSw aa := rfl
  rw [e] at R
  have j := Jh_0 hv
  have q44 := j.2.1.2.2.2
  have md := Md_mv hB.2.1 hE.1.2.2.2.2.2.1
  rw [e] at md
  have r5 : aSw aa 75 = aGw (aRA aa) 0 75 := md.2.1.1 75 (by decide) (by decide) (by decide) (by decide)
  have r6 : aSw aa 76 = aGw (aRA aa) 0 76 := md.2.1.1 76 (by decide) (by decide) (by decide) (by decide)
  have hcm : aSw aa 75 4 = cm := by rw [r5, hB.2.2.1.1.2]
  have f := hMf_pl (aSw aa 75 4).toInt.toNat 0 (aSw aa) _ j (by omega)
  have eF : hMf (aSw aa 75 4).toInt.toNat 0 (aSw aa) (aa 87 5 - aa 87 3).toInt = hFo (aSw aa) := by
    unfold hFo
    rw [sw_87, sw_87]
  rw [eF, Nat.zero_add] at f
  obtain ⟨⟨q1, q2⟩, q3, q4, q5, q6, q7⟩ := hB.2.2.1
  obtain ⟨p1, p2, p3, p4, p5, p6, p7⟩ := hB.2.2.2
  have sz : ∀ j : Nat, (j : Int) < cm.toInt → aSw aa 128 (aSw aa 76 j).toNatClampNeg = aGw (aRA aa) 0 128 (aGw (aRA aa) 0 76 j).toNatClampNeg := fun j hj => by
    have g := q3.1 j (by rw [q2]; exact hj)
    have t := tn_cast g.1
    rw [r6]
    exact (Md_f md (by omega) g.2.2.1).1 128 (by decide) (by decide)
  have ps : ∀ i : Nat, (i : Int) ≤ cm.toInt → zPs (aSw aa) (aa 87 5 - aa 87 3).toInt i = zPs (aGw (aRA aa) 0) (aa 87 5 - aa 87 3).toInt i := by
    intro i
    induction i with
    | zero =>
      intro _
      unfold zPs
      rfl
    | succ i ih =>
      intro hi
      unfold zPs
      rw [ih (by omega), sz i (by omega)]
  rw [hcm] at f
  have rr : ∀ c, c ≠ 71 → c ≠ 130 → (hFo (aSw aa)).1 c = aSw aa c := fun c h1 h2 => funext (fun k => Fo_r h1 h2)
  have pos : ∀ s, s < 3100 → us₉ s ≠ 0 → (hFo (aSw aa)).1 130 (nr s).toNatClampNeg = at2 s ∧ us s ≠ 0 ∧ kp s ≠ 0 := fun s hs hu₉ => by
    have z := ((hm s hs).1 hs).mp hu₉
    have q := hB.1.1.1 s hs z.1
    have n5 := tn_cast q.1.1
    obtain ⟨k, hk, ek⟩ := q3.2.2.1 _ (by omega) ((q6 s hs z.1).mp z.2)
    rw [q2] at hk
    have g := q7 k hk
    have es : (ca k).toNatClampNeg = s := by
      refine R1_in hB.1.1 (tn_lt g.1.1 g.1.2.1) hs g.1.2.2 z.1 ?_
      rw [← g.2, ek]
      exact tn_of (by omega)
    have pk := p1 k hk
    rw [es] at pk
    have fk := f.2.1 k (by omega) (by omega)
    rw [r6, ek, tn_of (by omega), ps k (by omega), ← pk, Int32.ofInt_toInt] at fk
    exact ⟨fk, z⟩
  have cm0 : 0 ≤ cm.toInt := by
    rw [hcm] at q44
    omega
  refine ⟨⟨⟨fun s hs hu₉ => ?_, R.1.2.1, fun n hn h1 => ?_⟩, fun s hs hu₉ i hi => ?_, ?_, ?_, ?_, ?_, fun s hs hu₉ => ?_, ?_⟩, ?_⟩
  · have q := R.1.1 s hs hu₉
    rw [rr 126 (by decide) (by decide), rr 128 (by decide) (by decide), rr 133 (by decide) (by decide)]
    have w := pos s hs hu₉
    refine ⟨q.1, q.2.1, q.2.2.1, w.1, q.2.2.2.2.1, q.2.2.2.2.2.1, ?_⟩
    obtain ⟨k, hk, ek⟩ := q3.2.2.1 _ (by have := tn_cast q.1.1; omega) ((q6 s hs w.2.1).mp w.2.2)
    rw [q2] at hk
    have g := q7 k hk
    have es : (ca k).toNatClampNeg = s := by
      refine R1_in hB.1.1 (tn_lt g.1.1 g.1.2.1) hs g.1.2.2 w.2.1 ?_
      rw [← g.2, ek]
      exact tn_of (by have := tn_cast q.1.1; omega)
    have pk := p1 k hk
    rw [es] at pk
    have l := Ps_le (st := (aa 87 5 - aa 87 3).toInt) hB.2.1 q3 k (by rw [q2]; omega) 0 (by omega)
    have l2 : (aa 87 5 - aa 87 3).toInt ≤ zPs (aGw (aRA aa) 0) (aa 87 5 - aa 87 3).toInt k := l
    omega
  · rw [rr 126 (by decide) (by decide)] at h1
    exact R.1.2.2 n hn h1
  · have q := R.2.1 s hs hu₉ i hi
    have g := R.1.1 s hs hu₉
    have sz2 : (aSw aa 128 (nr s).toNatClampNeg).toInt = (ws s).toInt + 1 := by
      rw [g.2.2.1]
      exact i_addk rfl (by have := g.2.2.2.2.2.1; omega) (by have := g.2.2.2.2.2.1; omega)
    have ei : (Int32.ofNat i).toInt = (i : Int) := ofN_s (by have := g.2.2.2.2.2.1; omega)
    rw [f.2.2.2 _ _ (R1_al R.1 hs hu₉) (by omega) (by omega), rr (1000 + (nr s).toNatClampNeg) (by omega) (by omega)]
    exact q
  · unfold qR3
    rw [rr 72 (by decide) (by decide)]
    exact R.2.2.1
  · unfold qR3
    rw [rr 73 (by decide) (by decide)]
    exact R.2.2.2.1
  · unfold qR5
    rw [rr 69 (by decide) (by decide), rr 74 (by decide) (by decide)]
    exact R.2.2.2.2.1
  · unfold qR6
    rw [rr 134 (by decide) (by decide)]
    exact R.2.2.2.2.2.1
  · have w := pos s hs hu₉
    have o2 := p4 s hs w.2.1
    have b3 : (at2 s).toNatClampNeg < 4600 := by
      obtain ⟨k, hk, ek⟩ := q3.2.2.1 _ (by have := tn_cast (hB.1.1.1 s hs w.2.1).1.1; have := (hB.1.1.1 s hs w.2.1).1.2; omega) ((q6 s hs w.2.1).mp w.2.2)
      rw [q2] at hk
      have g := q7 k hk
      have es : (ca k).toNatClampNeg = s := by
        refine R1_in hB.1.1 (tn_lt g.1.1 g.1.2.1) hs g.1.2.2 w.2.1 ?_
        rw [← g.2, ek]
        exact tn_of (by have := tn_cast (hB.1.1.1 s hs w.2.1).1.1; have := (hB.1.1.1 s hs w.2.1).1.2; omega)
      have pk := p1 k hk
      rw [es] at pk
      have l := Ps_le (st := (aa 87 5 - aa 87 3).toInt) hB.2.1 q3 k (by rw [q2]; omega) 0 (by omega)
      have l2 : (aa 87 5 - aa 87 3).toInt ≤ zPs (aGw (aRA aa) 0) (aa 87 5 - aa 87 3).toInt k := l
      have l3 := Ps_le (st := (aa 87 5 - aa 87 3).toInt) hB.2.1 q3 cm.toInt.toNat (by rw [q2]; omega) k (by omega)
      have jt := j.2.2.2.2.1.2.2
      rw [hcm, ps _ (by omega)] at jt
      have vv := hv.2.2.1
      have v6 := hv.2.2.2.1
      have s5 : (aa 87 5 - aa 87 3).toInt = (aa 87 5).toInt - (aa 87 3).toInt := i_sub (by omega) (by omega)
      have t := tn_cast (x := at2 s) (by omega)
      omega
    rcases ho₉ _ b3 with g | ⟨_, t, ht, hut, hkt, hat⟩
    · rw [g]
      exact o2
    · have o3 := p4 t ht hut
      have e3 : (at2 t).toNatClampNeg = (at2 s).toNatClampNeg := by
        have t2 := tn_cast (x := at2 t) (by omega)
        omega
      rw [e3, o2] at o3
      have e4 := congrArg Int32.toInt o3
      rw [ofN_s hs, ofN_s ht] at e4
      exact absurd hkt (by rw [show t = s from by omega]; exact w.2.2)
  · unfold qR8
    rw [rr 69 (by decide) (by decide), rr 87 (by decide) (by decide)]
    exact R.2.2.2.2.2.2.2
  · rw [f.1, ps _ (by omega), p2]
/-- the reference's fields of HALVES: room, half, top -/
def qHL (a : Nat → Nat → Int32) (rm hf tp : Int32) : Prop := a 87 5 = rm ∧ (hf.toInt = 0 ∨ hf.toInt = 1) ∧ (hf.toInt = 0 → (a 87 3).toInt = 0) ∧ (hf.toInt = 1 → (a 87 3).toInt = rm.toInt) ∧ a 87 4 = tp
theorem RB_87k (h : qRB us nr kr kd ws AT ho wd wi OW rt wk wl wm nu ro fo le ra pi a) (k0 : k ≠ 0) (k1 : k ≠ 1) (k2 : k ≠ 2) (k6 : k ≠ 6) (k7 : k ≠ 7) : qRB us nr kr kd ws AT ho wd wi OW rt wk wl wm nu ro fo le ra pi (ma_u a 87 k x) := by
  have e : ∀ c, c ≠ 87 → ma_u a 87 k x c = a c := fun c hc => ma_u_ne _ _ _ hc
  have e2 : ∀ k₉, k₉ ≠ k → ma_u a 87 k x 87 k₉ = a 87 k₉ := fun k₉ hk => xu_o (fun z => hk z.2)
  have rf : ∀ n i, aRef (ma_u a 87 k x) n i = aRef a n i := fun n i => rf_cg (e _ (by omega)) (e _ (by decide)) (e _ (by decide))
  obtain ⟨h1, h2, h3, h4, h5, h6, h7, h8⟩ := h
  refine ⟨?_, fun s hs hu i hi => ?_, ?_, ?_, ?_, ?_, h7, ?_⟩
  · unfold qR1 at h1 ⊢
    rw [e 126 (by decide), e 128 (by decide), e 130 (by decide), e 133 (by decide)]
    exact h1
  · rw [rf, e (1000 + (nr s).toNatClampNeg) (by omega)]
    exact h2 s hs hu i hi
  · unfold qR3 at h3 ⊢
    rw [e 72 (by decide)]
    exact h3
  · unfold qR3 at h4 ⊢
    rw [e 73 (by decide)]
    exact h4
  · unfold qR5 at h5 ⊢
    rw [e 69 (by decide), e 74 (by decide)]
    exact h5
  · unfold qR6 at h6 ⊢
    rw [e 134 (by decide)]
    exact h6
  · unfold qR8 at h8 ⊢
    rw [e 69 (by decide), e2 0 (by omega), e2 1 (by omega), e2 2 (by omega), e2 6 (by omega), e2 7 (by omega)]
    exact h8
theorem RB_hcl (h : qRB us₉ nr kr kd ws at2 ho wd wi ow3 rt wk₉ wl wm nu ro fo le ra pi (hFo (aSw aa)).1 ∧ to.toInt = (hFo (aSw aa)).2) : qRB us₉ nr kr kd ws at2 ho wd wi ow3 rt wk₉ wl wm nu ro fo le ra pi (hCl aa) := RB_87k (RB_87k h.1 (by decide) (by decide) (by decide) (by decide) (by decide)) (by decide) (by decide) (by decide) (by decide) (by decide)
theorem HL_cl {rm hf hf₉ tp : Int32} (h : qHL aa rm hf tp) (hv : qHv aa) (ht : to.toInt = (hFo (aSw aa)).2) (hh : hf₉.toInt = 1 - hf.toInt) : qHL (hCl aa) rm hf₉ to := by
  obtain ⟨h1, h2, h3, h4, h5⟩ := h
  have g5 := hv.2.2.1
  have r3 : hCl aa 87 3 = aa 87 5 - aa 87 3 := by
    unfold hCl
    rw [xu_o (by decide), xu_s]
  have e5 := congrArg Int32.toInt h1
  have s : (aa 87 5 - aa 87 3).toInt = (aa 87 5).toInt - (aa 87 3).toInt := i_sub (by have := hv.2.2.2.1; omega) (by have := hv.2.2.2.1; omega)
  refine ⟨(cl_7 (by decide) (by decide)).trans h1, by omega, fun w => ?_, fun w => ?_, ?_⟩
  · rw [r3]
    omega
  · rw [r3]
    omega
  · show ma_u _ 87 4 (Int32.ofInt (hFo (aSw aa)).2) 87 4 = to
    rw [xu_s, ← ht, Int32.ofInt_toInt]
theorem HL_to {rm hf tp : Int32} (h : qHL aa rm hf tp) (hv : qHv aa) (ht : (hf.toInt = 0 → to.toInt = rm.toInt) ∧ (hf.toInt = 1 → to.toInt = 0)) : to.toInt = (aa 87 5 - aa 87 3).toInt := by
  obtain ⟨h1, h2, h3, h4, h5⟩ := h
  have g5 := hv.2.2.1
  have e5 := congrArg Int32.toInt h1
  have s : (aa 87 5 - aa 87 3).toInt = (aa 87 5).toInt - (aa 87 3).toInt := i_sub (by have := hv.2.2.2.1; omega) (by have := hv.2.2.2.1; omega)
  omega
theorem HL_tp {rm hf tp : Int32} (h : qHL a rm hf tp) : qHL a rm hf (a 87 4) := ⟨h.1, h.2.1, h.2.2.1, h.2.2.2.1, rfl⟩
theorem HV_ho (hv : qHv aa) (hR : qRB us nr kr kd ws AT ho wd wi OW rt wk wl wm nu ro fo le ra pi aa) : ∀ s, s < 3100 → us s ≠ 0 → ho s = 0 := fun s hs hu => by
  have q := hR.1.1 s hs hu
  rw [← q.2.2.2.2.1]
  exact hv.2.2.2.2.2.2 _ (R1_al hR.1 hs hu)
end F10
theorem sp_197rv {X : Nat × (Nat → Int32)} {P : Option ma_V → (Nat → Nat → Int32) → Prop} {T : Nat} {aa : Nat→Nat→Int32} {AT : Nat→Int32} {OW : Nat→Int32} {ro : Int32} {m : Nat → Nat → Int32} (s : Int32) (hV : zV m) (hpre0 : 0 ≤ s.toInt) (hpre1 : s.toInt ≤ 3099) (hpre2 : T ≤ 512) (hpre3 : (m 94 10).toInt ≠ 4) (r_WI : (m 109) s.toNatClampNeg ≠ 0) (r_USs : (m 99) s.toNatClampNeg ≠ 0) (r_GW : zGW T (m 94 55) (m 109)) (r_RB : qRB (m 99) (m 100) (m 98) (m 101) (m 102) AT (m 107) (m 108) (m 109) OW (m 112) (m 113) (m 114) (m 94 55) (m 94 46) ro 0 0 0 1 aa) (r_QI : qI aa) (KZ : ∀ m₉, zV (zov wr_197 m m₉) → (zGW T (m₉ 94 55) (m₉ 109)) → (zuw (m 113) (m₉ 113)) → (zwx (m 114) (m₉ 114) (m 94 55) s) → ((m₉ 94 55).toInt = (m 94 55).toInt + 1) → (qRB (m 99) (m 100) (m 98) (m 101) (m 102) AT (m 107) (m 108) (m₉ 109) OW (m 112) (m₉ 113) (m₉ 114) (m₉ 94 55) (m 94 46) ro 0 0 0 1 (aGr aa ((m 100) s.toNatClampNeg))) → (qI (aGr aa ((m 100) s.toNatClampNeg))) → P none (zov wr_197 m m₉)) : zm X 1 22 197 0 [(0, .inr (.inr (some 94))), (1, .inl s)] m P := by
  have K : ∀ m₉, zF wr_197 m m₉ → zV m₉ → (zGW T (m₉ 94 55) (m₉ 109)) → (zuw (m 113) (m₉ 113)) → (zwx (m 114) (m₉ 114) (m 94 55) s) → ((m₉ 94 55).toInt = (m 94 55).toInt + 1) → (qRB (m₉ 99) (m₉ 100) (m₉ 98) (m₉ 101) (m₉ 102) AT (m₉ 107) (m₉ 108) (m₉ 109) OW (m₉ 112) (m₉ 113) (m₉ 114) (m₉ 94 55) (m₉ 94 46) ro 0 0 0 1 (aGr aa ((m₉ 100) s.toNatClampNeg))) → (qI (aGr aa ((m₉ 100) s.toNatClampNeg))) → P none m₉ := by
    intro m₉ hf z q0 q1 q2 q3 q4 q5
    have e := zov_eq hf
    rw [e] at z ⊢
    try rw [e] at q0
    try rw [e] at q1
    try rw [e] at q2
    try rw [e] at q3
    try rw [e] at q4
    try rw [e] at q5
    exact KZ m₉ z q0 q1 q2 q3 q4 q5
  refine g_197_0 s ?_
  have f1 : 0 ≤ (m 94 10).toInt ∧ (m 94 10).toInt ≤ 6 := rs_94_10 (m := m) hV
  have b2 := i_bd s
  try have gwr := GW_512 r_GW r_WI (by omega) (by omega) (by omega)
  refine sp_198r (s) hV  (fun m1 hV_m1 p0_m1 p1_m1 => zmv_n ?_)
  have p0_m1 : zuw (m 113) (m1 113) := p0_m1
  have p1_m1 : qUn (m 113) (m1 113) s 16 := p1_m1
  try have gw := GW_room r_GW
  try have gwr := GW_512 r_GW r_WI (by omega) (by omega) (by omega)
  have hg3 : (0 ≤ s ∧ s.toNatClampNeg < 3100) := i_ix (by omega) (by omega)
  refine ⟨hg3, ?_⟩
  have f4 : 0 ≤ (m 94 55).toInt ∧ (m 94 55).toInt ≤ 3100 := rs_94_55 (m := m) hV
  try have gw := GW_room r_GW
  try have gwr := GW_512 r_GW r_WI (by omega) (by omega) (by omega)
  have hg5 : (0 ≤ (m 94 55) ∧ (m 94 55).toNatClampNeg < 3100) := i_ix (by omega) (by omega)
  refine ⟨hg5, ?_⟩
  have li6 : (4 : Int32).toInt = 4 := rfl
  refine zd (fun (h7 : (m 94 10) = (4 : Int32)) => ?_) (fun (h7 : ¬ (m 94 10) = (4 : Int32)) => ?_)
  · skip
    have g8 := i_eq h7
    have hg9 : (0 ≤ s ∧ s.toNatClampNeg < 3100) := i_ix (by omega) (by omega)
    refine ⟨hg9, ?_⟩
    have hg10 : (0 ≤ s ∧ s.toNatClampNeg < 3100) := i_ix (by omega) (by omega)
    refine ⟨hg10, ?_⟩
    try have gwr := GW_512 r_GW r_WI (by omega) (by omega) (by omega)
    have li12 : (0 : Int32).toInt = 0 := rfl
    have hV11 : zV (ma_u (zov wr_198 m m1) 109 s.toNatClampNeg (0 : Int32)) := ua_109 hV_m1 (by omega) (by omega)
    have hV13 : zV (ma_u (ma_u (zov wr_198 m m1) 109 s.toNatClampNeg (0 : Int32)) 114 (m 94 55).toNatClampNeg s) := ua_114 hV11 (by omega) (by omega)
    first | have e15 : ((m 94 55) + (1 : Int32)).toInt = (m 94 55).toInt + (1) := i_addk rfl (by omega) (by omega) | have b16 := i_bd ((m 94 55) + (1 : Int32))
    have hV14 : zV (ma_u (ma_u (ma_u (zov wr_198 m m1) 109 s.toNatClampNeg (0 : Int32)) 114 (m 94 55).toNatClampNeg s) 94 55 ((m 94 55) + (1 : Int32))) := us_94_55 hV13 (by omega) (by omega)
    have hV17 : zV (ma_u (ma_u (ma_u (ma_u (zov wr_198 m m1) 109 s.toNatClampNeg (0 : Int32)) 114 (m 94 55).toNatClampNeg s) 94 55 ((m 94 55) + (1 : Int32))) 105 s.toNatClampNeg ((m 105 s.toNatClampNeg) + (1 : Int32))) := ua_105 hV14
    exact K _ (zF_u (zF_u (zF_u (zF_u (zF_zov zF_rfl ws_198_197) rfl) rfl) rfl) rfl) hV17 (show zGW T ((m 94 55) + (1 : Int32)) ((ma_u m 109 s.toNatClampNeg (0 : Int32)) 109) from by first | (exact GW_take r_GW r_WI (by omega) (by omega)) | (exfalso; omega; done) | (exfalso; contradiction; done)) p0_m1 (show zwx (m 114) ((ma_u m 114 (m 94 55).toNatClampNeg s) 114) (m 94 55) s from by first | (exact ⟨fun k hk => mu_ne (by rw [tn_eq]; omega), mu_self⟩) | (exfalso; omega; done) | (exfalso; contradiction; done)) (show ((m 94 55) + (1 : Int32)).toInt = (m 94 55).toInt + 1 from by omega) (show qRB (m 99) (m 100) (m 98) (m 101) (m 102) AT (m 107) (m 108) ((ma_u m 109 s.toNatClampNeg (0 : Int32)) 109) OW (m 112) (m1 113) ((ma_u m 114 (m 94 55).toNatClampNeg s) 114) ((m 94 55) + (1 : Int32)) (m 94 46) ro 0 0 0 1 (aGr aa ((m 100) s.toNatClampNeg)) from by first | (exact RB_gr r_RB (by omega) (by omega) r_USs p1_m1 (by omega) (by omega)) | (exfalso; omega; done) | (exfalso; contradiction; done)) (show qI (aGr aa ((m 100) s.toNatClampNeg)) from by first | (exact I_gr r_QI (by rw [r_RB.2.2.2.2.1.1]; omega)) | (exfalso; omega; done) | (exfalso; contradiction; done))
  · skip
    have g18 := i_ne h7
    try have gwr := GW_512 r_GW r_WI (by omega) (by omega) (by omega)
    have li20 : (0 : Int32).toInt = 0 := rfl
    have hV19 : zV (ma_u (zov wr_198 m m1) 109 s.toNatClampNeg (0 : Int32)) := ua_109 hV_m1 (by omega) (by omega)
    have hV21 : zV (ma_u (ma_u (zov wr_198 m m1) 109 s.toNatClampNeg (0 : Int32)) 114 (m 94 55).toNatClampNeg s) := ua_114 hV19 (by omega) (by omega)
    first | have e23 : ((m 94 55) + (1 : Int32)).toInt = (m 94 55).toInt + (1) := i_addk rfl (by omega) (by omega) | have b24 := i_bd ((m 94 55) + (1 : Int32))
    have hV22 : zV (ma_u (ma_u (ma_u (zov wr_198 m m1) 109 s.toNatClampNeg (0 : Int32)) 114 (m 94 55).toNatClampNeg s) 94 55 ((m 94 55) + (1 : Int32))) := us_94_55 hV21 (by omega) (by omega)
    exact K _ (zF_u (zF_u (zF_u (zF_zov zF_rfl ws_198_197) rfl) rfl) rfl) hV22 (show zGW T ((m 94 55) + (1 : Int32)) ((ma_u m 109 s.toNatClampNeg (0 : Int32)) 109) from by first | (exact GW_take r_GW r_WI (by omega) (by omega)) | (exfalso; omega; done) | (exfalso; contradiction; done)) p0_m1 (show zwx (m 114) ((ma_u m 114 (m 94 55).toNatClampNeg s) 114) (m 94 55) s from by first | (exact ⟨fun k hk => mu_ne (by rw [tn_eq]; omega), mu_self⟩) | (exfalso; omega; done) | (exfalso; contradiction; done)) (show ((m 94 55) + (1 : Int32)).toInt = (m 94 55).toInt + 1 from by omega) (show qRB (m 99) (m 100) (m 98) (m 101) (m 102) AT (m 107) (m 108) ((ma_u m 109 s.toNatClampNeg (0 : Int32)) 109) OW (m 112) (m1 113) ((ma_u m 114 (m 94 55).toNatClampNeg s) 114) ((m 94 55) + (1 : Int32)) (m 94 46) ro 0 0 0 1 (aGr aa ((m 100) s.toNatClampNeg)) from by first | (exact RB_gr r_RB (by omega) (by omega) r_USs p1_m1 (by omega) (by omega)) | (exfalso; omega; done) | (exfalso; contradiction; done)) (show qI (aGr aa ((m 100) s.toNatClampNeg)) from by first | (exact I_gr r_QI (by rw [r_RB.2.2.2.2.1.1]; omega)) | (exfalso; omega; done) | (exfalso; contradiction; done))
theorem sp_207rv {X : Nat × (Nat → Int32)} {P : Option ma_V → (Nat → Nat → Int32) → Prop} {aa : Nat→Nat→Int32} {AT : Nat→Int32} {OW : Nat→Int32} {ro : Int32} {st : Int} {ot : Int} {rr : Int} {m : Nat → Nat → Int32} (s : Int32) (hV : zV m) (hpre0 : -1 ≤ s.toInt) (hpre1 : s.toInt ≤ 3099) (hpre2 : (m 94 10).toInt = 2) (r_UQ : qU (m 99) s) (r_OW : zOw (m 99) (m 103) (m 111)) (r_HB : qHB (m 99) (m 100) (m 98) (m 101) (m 102) AT (m 107) (m 108) (m 109) OW (m 112) (m 113) (m 114) (m 94 55) (m 94 46) ro 0 0 0 1 (m 110) (m 119) (m 94 76) (m 94 75) (m 103) (m 111) (m 94 77) st ot rr aa) (KZ : ∀ m₉, zV (zov wr_207 m m₉) → (zOw (m 99) (m₉ 103) (m₉ 111)) → (qHB (m 99) (m 100) (m 98) (m 101) (m 102) AT (m 107) (m 108) (m 109) OW (m 112) (m 113) (m 114) (m 94 55) (m 94 46) ro 0 0 0 1 (m₉ 110) (m₉ 119) (m 94 76) (m₉ 94 75) (m₉ 103) (m₉ 111) (m₉ 94 77) st ot rr (aCm aa (qNo (m 100) s))) → P none (zov wr_207 m m₉)) : zm X 2 43 207 0 [(0, .inr (.inr (some 94))), (1, .inl s)] m P := by
  have K : ∀ m₉, zF wr_207 m m₉ → zV m₉ → (zOw (m₉ 99) (m₉ 103) (m₉ 111)) → (qHB (m₉ 99) (m₉ 100) (m₉ 98) (m₉ 101) (m₉ 102) AT (m₉ 107) (m₉ 108) (m₉ 109) OW (m₉ 112) (m₉ 113) (m₉ 114) (m₉ 94 55) (m₉ 94 46) ro 0 0 0 1 (m₉ 110) (m₉ 119) (m₉ 94 76) (m₉ 94 75) (m₉ 103) (m₉ 111) (m₉ 94 77) st ot rr (aCm aa (qNo (m₉ 100) s))) → P none m₉ := by
    intro m₉ hf z q0 q1
    have e := zov_eq hf
    rw [e] at z ⊢
    try rw [e] at q0
    try rw [e] at q1
    exact KZ m₉ z q0 q1
  refine g_207_0 s ?_
  have f1 : 0 ≤ (m 94 10).toInt ∧ (m 94 10).toInt ≤ 6 := rs_94_10 (m := m) hV
  have b2 := i_bd s
  have li3 : (0 : Int32).toInt = 0 := rfl
  refine zd (fun (h4 : s < (0 : Int32)) => ?_) (fun (h4 : ¬ s < (0 : Int32)) => ?_)
  · skip
    have g5 := i_lt h4
    try have hto := HB_to r_HB (by omega) (by omega) hus (by assumption)
    exact K _ zF_rfl hV r_OW (show qHB (m 99) (m 100) (m 98) (m 101) (m 102) AT (m 107) (m 108) (m 109) OW (m 112) (m 113) (m 114) (m 94 55) (m 94 46) ro 0 0 0 1 (m 110) (m 119) (m 94 76) (m 94 75) (m 103) (m 111) (m 94 77) st ot rr (aCm aa (qNo (m 100) s)) from by first | (exact HB_skip r_HB (Or.inl (by omega))) | (exact HB_skip r_HB (Or.inr ⟨by omega, by omega, (U_y r_UQ (by omega)).2, by assumption⟩)) | (exact r_HB) | (exfalso; omega; done) | (exfalso; contradiction; done))
  · skip
    have g6 := i_nlt h4
    try have hus := (U_y r_UQ (by omega)).2
    have hg7 : (0 ≤ s ∧ s.toNatClampNeg < 3100) := i_ix (by omega) (by omega)
    refine ⟨hg7, ?_⟩
    first | have f8 : 0 ≤ (m 110 s.toNatClampNeg).toInt ∧ (m 110 s.toNatClampNeg).toInt ≤ 1 := ra_110 (m := m) hV (k := s.toNatClampNeg) (i_ix (n := 3100) (by omega) (by omega)).2 | have b9 := i_bd (m 110 s.toNatClampNeg)
    refine zd (fun (h10 : (m 110 s.toNatClampNeg) = (0 : Int32)) => ?_) (fun (h10 : ¬ (m 110 s.toNatClampNeg) = (0 : Int32)) => ?_)
    · skip
      have g11 := i_eq h10
      try have hus := (U_y r_UQ (by omega)).2
      have hg12 : (0 ≤ s ∧ s.toNatClampNeg < 3100) := i_ix (by omega) (by omega)
      refine ⟨hg12, ?_⟩
      have f13 : 0 ≤ (m 94 75).toInt ∧ (m 94 75).toInt ≤ 3100 := rs_94_75 (m := m) hV
      try have hb := (HB_b r_HB).1
      have hg14 : (0 ≤ (m 94 75) ∧ (m 94 75).toNatClampNeg < 3100) := i_ix (by omega) (by omega)
      refine ⟨hg14, ?_⟩
      have li15 : (3 : Int32).toInt = 3 := rfl
      refine zd (fun (h16 : (m 94 10) = (3 : Int32)) => ?_) (fun (h16 : ¬ (m 94 10) = (3 : Int32)) => ?_)
      · skip
        have g17 := i_eq h16
        exfalso; omega
      · skip
        have g18 := i_ne h16
        have f19 : 0 ≤ (m 94 77).toInt ∧ (m 94 77).toInt ≤ 4600 := rs_94_77 (m := m) hV
        have li21 : (1 : Int32).toInt = 1 := rfl
        have hV20 : zV (ma_u m 110 s.toNatClampNeg (1 : Int32)) := ua_110 hV (by omega) (by omega)
        have hV22 : zV (ma_u (ma_u m 110 s.toNatClampNeg (1 : Int32)) 119 (m 94 75).toNatClampNeg s) := ua_119 hV20 (by omega) (by omega)
        first | have e24 : ((m 94 75) + (1 : Int32)).toInt = (m 94 75).toInt + (1) := i_addk rfl (by omega) (by omega) | have b25 := i_bd ((m 94 75) + (1 : Int32))
        have hV23 : zV (ma_u (ma_u (ma_u m 110 s.toNatClampNeg (1 : Int32)) 119 (m 94 75).toNatClampNeg s) 94 75 ((m 94 75) + (1 : Int32))) := us_94_75 hV22 (by omega) (by omega)
        try have hus := (U_y r_UQ (by omega)).2
        try have hto := HB_to r_HB (by omega) (by omega) hus (by assumption)
        refine sp_205 (s) ((m 94 77)) hV23 (by omega) (by omega) (by omega) (by omega) (show (m 99) s.toNatClampNeg ≠ 0 from by first | (exact hus) | (assumption; done) | (exact ow5.1) | (exact ow3.1) | (exfalso; omega; done) | (exfalso; contradiction; done)) r_OW (fun m1 hV_m1 p0_m1 p1_m1 => zmv_n ?_)
        have p0_m1 : zOw (m 99) (m1 103) (m1 111) := p0_m1
        have p1_m1 : zmov s (m 94 77) (m 103) (m 111) (m1 103) (m1 111) := p1_m1
        try have mvs := mv_s p1_m1
        have hg26 : (0 ≤ s ∧ s.toNatClampNeg < 3100) := i_ix (by omega) (by omega)
        refine ⟨hg26, ?_⟩
        try have hto := HB_to r_HB (by omega) (by omega) hus (by assumption)
        first | have f28 : 0 ≤ (m 102 s.toNatClampNeg).toInt ∧ (m 102 s.toNatClampNeg).toInt ≤ 60 := ra_102 (m := m) hV (k := s.toNatClampNeg) (i_ix (n := 3100) (by omega) (by omega)).2 | have b29 := i_bd (m 102 s.toNatClampNeg)
        first | have e30 : ((m 102 s.toNatClampNeg) + (1 : Int32)).toInt = (m 102 s.toNatClampNeg).toInt + (1) := i_addk rfl (by omega) (by omega) | have b31 := i_bd ((m 102 s.toNatClampNeg) + (1 : Int32))
        first | have e32 : ((m 94 77) + ((m 102 s.toNatClampNeg) + (1 : Int32))).toInt = (m 94 77).toInt + ((m 102 s.toNatClampNeg) + (1 : Int32)).toInt := i_add (by omega) (by omega) | have b33 := i_bd ((m 94 77) + ((m 102 s.toNatClampNeg) + (1 : Int32)))
        have hV27 : zV (ma_u (zov wr_205 (ma_u (ma_u (ma_u m 110 s.toNatClampNeg (1 : Int32)) 119 (m 94 75).toNatClampNeg s) 94 75 ((m 94 75) + (1 : Int32))) m1) 94 77 ((m 94 77) + ((m 102 s.toNatClampNeg) + (1 : Int32)))) := us_94_77 hV_m1 (by omega) (by omega)
        exact K _ (zF_u (zF_zov (zF_u (zF_u (zF_u zF_rfl rfl) rfl) rfl) ws_205_207) rfl) hV27 p0_m1 (show qHB (m 99) (m 100) (m 98) (m 101) (m 102) AT (m 107) (m 108) (m 109) OW (m 112) (m 113) (m 114) (m 94 55) (m 94 46) ro 0 0 0 1 ((ma_u m 110 s.toNatClampNeg (1 : Int32)) 110) ((ma_u m 119 (m 94 75).toNatClampNeg s) 119) (m 94 76) ((m 94 75) + (1 : Int32)) (m1 103) (m1 111) ((m 94 77) + ((m 102 s.toNatClampNeg) + (1 : Int32))) st ot rr (aCm aa (qNo (m 100) s)) from by first | (exact HB_push r_HB (by omega) (by omega) hus (by assumption) (fun t => mu_at t) (fun t => mu_at t) rfl p1_m1 (by omega)) | (exact r_HB) | (exfalso; omega; done) | (exfalso; contradiction; done))
    · skip
      have g34 := i_ne h10
      try have hto := HB_to r_HB (by omega) (by omega) hus (by assumption)
      exact K _ zF_rfl hV r_OW (show qHB (m 99) (m 100) (m 98) (m 101) (m 102) AT (m 107) (m 108) (m 109) OW (m 112) (m 113) (m 114) (m 94 55) (m 94 46) ro 0 0 0 1 (m 110) (m 119) (m 94 76) (m 94 75) (m 103) (m 111) (m 94 77) st ot rr (aCm aa (qNo (m 100) s)) from by first | (exact HB_skip r_HB (Or.inl (by omega))) | (exact HB_skip r_HB (Or.inr ⟨by omega, by omega, (U_y r_UQ (by omega)).2, by assumption⟩)) | (exact r_HB) | (exfalso; omega; done) | (exfalso; contradiction; done))

