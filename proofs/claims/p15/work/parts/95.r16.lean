/-! the reference where it moves (written by wip/tools/gen15r.py) -/
/-! COPYING IN THE REFERENCE: who came (kp, the row ca, cat of cm done), held against a walk's queue -/
/-- no more in the queue than came -/
def zWk (c : Nat → Nat → Int32) : Prop := (c 75 4).toInt ≤ (cnt (c 77) 512 : Int) ∧ xFp c
def qCQ (kp ca us nr : Nat → Int32) (cat cm : Int32) (c : Nat → Nat → Int32) : Prop := (c 75 3 = cat ∧ c 75 4 = cm) ∧ zFQ c ∧ zWk c ∧ (∀ s, s < 3100 → kp s ≠ 0 → us s ≠ 0) ∧ (∀ s, s < 3100 → us s ≠ 0 → (kp s ≠ 0 ↔ c 77 (nr s).toNatClampNeg ≠ 0)) ∧ ∀ j : Nat, (j : Int) < cm.toInt → (0 ≤ (ca j).toInt ∧ (ca j).toInt < 3100 ∧ us (ca j).toNatClampNeg ≠ 0) ∧ c 76 j = nr (ca j).toNatClampNeg
/-- where they are: those that came one behind another from st on (to is next), the others where they were (AT), within ot and r words -/
def qCP (us kp ca at2 ow2 AT : Nat → Int32) (cm to : Int32) (st ot r : Int) (c : Nat → Nat → Int32) : Prop := (∀ j : Nat, (j : Int) < cm.toInt → (at2 (ca j).toNatClampNeg).toInt = zPs c st j) ∧ to.toInt = zPs c st cm.toInt.toNat ∧ (∀ s, s < 3100 → us s ≠ 0 → kp s = 0 → at2 s = AT s) ∧ qR7 us at2 ow2 ∧ (0 ≤ st ∧ 0 ≤ r ∧ st + r ≤ 3000 ∧ (ot + r ≤ st ∨ st + r ≤ ot)) ∧ (∀ n, xAl c n → ot ≤ (c 130 n).toInt ∧ (c 130 n).toInt + (c 128 n).toInt ≤ ot + r) ∧ qSu c 512 ≤ r
def qHB (us nr kr kd ws AT ho wd wi OW rt wk wl : Nat → Int32) (wm nu ro fo le ra pi : Int32) (kp ca : Nat → Int32) (cat cm : Int32) (at2 ow2 : Nat → Int32) (to : Int32) (st ot r : Int) (c : Nat → Nat → Int32) : Prop := qRB us nr kr kd ws AT ho wd wi OW rt wk wl wm nu ro fo le ra pi c ∧ qI c ∧ qCQ kp ca us nr cat cm c ∧ qCP us kp ca at2 ow2 AT cm to st ot r c
section F9
variable {a b c d : Nat → Nat → Int32} {us nr kr kd ws AT at2 at3 ho wd wi OW ow2 ow3 rt wk wl kp kp' ca ca' : Nat → Int32} {wm nu ro fo le ra pi cat cm cm' to to' s x y i l : Int32} {st ot r : Int} {j k n f : Nat}
theorem Sj_le (hI : qI c) (h : zFQ c) (hk : n < 512) (ha : c 126 n ≠ 0) (hn : c 77 n = 0) : zSj c (c 75 4).toInt.toNat 512 + (c 128 n).toInt ≤ qSu c 512 := by
  have g : ∀ N, N ≤ 512 → zSj c (c 75 4).toInt.toNat N + (if n < N then (c 128 n).toInt else 0) ≤ qSu c N := by
    intro N
    induction N with
    | zero =>
      intro _
      rw [if_neg (by omega)]
      exact Int.le_refl _
    | succ N ih =>
      intro hN
      have q := ih (by omega)
      show zSj c (c 75 4).toInt.toNat N + _ + _ ≤ qSu c N + (if c 126 N ≠ 0 then (c 128 N).toInt else 0)
      by_cases w : N = n
      · have no : ¬ zIn c (c 75 4).toInt.toNat N := by
          rintro ⟨i, hi, e⟩
          have z := h.1 i (by omega)
          have t := tn_of (x := N) (by omega)
          rw [e, t, w] at z
          exact z.2.2.1 hn
        rw [if_neg (by omega)] at q
        rw [if_neg (dc_n no), if_pos (by omega), if_pos (by rw [w]; exact ha), w]
        rw [w] at q
        omega
      · have e2 : (if n < N + 1 then (c 128 n).toInt else 0) = (if n < N then (c 128 n).toInt else 0) := by
          by_cases z : n < N
          · rw [if_pos z, if_pos (by omega)]
          · rw [if_neg z, if_neg (by omega)]
        rw [e2]
        by_cases z : zIn c (c 75 4).toInt.toNat N
        · have al : c 126 N ≠ 0 := by
            obtain ⟨i, hi, e⟩ := z
            have g := h.1 i (by omega)
            rw [e, tn_of (by omega)] at g
            exact g.2.2.2
          rw [if_pos (dc_y z), if_pos al]
          omega
        · rw [if_neg (dc_n z)]
          by_cases al : c 126 N ≠ 0
          · rw [if_pos al]
            have := (hI.1 N ⟨by omega, al⟩).2.1.1
            omega
          · rw [if_neg al]
            omega
  have q := g 512 (by omega)
  rw [if_pos hk] at q
  exact q
theorem cc_of2 (h : zWk c) (h0 : 0 ≤ y.toInt) (h1 : y.toInt < 512) (ha : c 126 y.toNatClampNeg ≠ 0) (hw : c 77 y.toNatClampNeg = 0) : aCc c y := by
  have hn : y.toNatClampNeg < 512 := by
    have := tn_cast h0
    omega
  have ct := cnt_lt (r := c 77) hn hw
  have p := h.2.2 _ ⟨hn, ha⟩
  have f := h.2.1
  have q := h.1
  exact ⟨h0, h1, ha, by omega, by omega, hw⟩
theorem Wk_cm (h : zWk c) : zWk (aCm c y) := by
  by_cases hc : aCc c y
  · have e7 : aCm c y 77 = ma_u c 77 y.toNatClampNeg 1 77 := by
      rw [aCm_y hc, ma_u_ne _ _ _ (by decide), ma_u_ne _ _ _ (by decide)]
    have e4 : aCm c y 75 4 = c 75 4 + 1 := by
      rw [aCm_y hc]
      exact xu_s
    have hn : y.toNatClampNeg < 512 := by
      have := tn_cast hc.1
      have := hc.2.1
      omega
    have u := cnt_up (m := c) (c := 77) (x := (1 : Int32)) hn hc.2.2.2.2.2 (by decide)
    have b := i_bd (c 75 4)
    have l := hc.2.2.2.2.1
    have e1 : (c 75 4 + 1).toInt = (c 75 4).toInt + 1 := i_p1 (by omega)
    refine ⟨?_, ?_, fun x hx => ?_⟩
    · rw [e7, e4, e1, u]
      have := h.1
      omega
    · rw [aCm_y hc, xu_o (by omega), xu_o (by omega), xu_o (by omega)]
      exact h.2.1
    · rw [aCm_o ⟨by decide, by decide, by decide⟩]
      exact h.2.2 x ((Of_al cm_of).mp hx)
  · rw [aCm_n hc]
    exact h
theorem Wk_of (h : zWQ c) : zWk c := ⟨h.1.2.2, h.2.2.2.2.2⟩
theorem cm_r (h : aCc c y) : aCm c y 75 3 = c 75 3 ∧ aCm c y 75 4 = c 75 4 + 1 ∧ (∀ j, j ≠ (c 75 4).toNatClampNeg → aCm c y 76 j = c 76 j) ∧ aCm c y 76 (c 75 4).toNatClampNeg = y ∧ (∀ x, x ≠ y.toNatClampNeg → aCm c y 77 x = c 77 x) ∧ aCm c y 77 y.toNatClampNeg = 1 := by
  rw [aCm_y h]
  exact ⟨by rw [xu_o (by omega), xu_o (by omega), xu_o (by omega)], xu_s, fun j w => by rw [xu_o (by omega), xu_o (fun z => w z.2), xu_o (by omega)], by rw [xu_o (by omega), xu_s], fun x w => by rw [xu_o (by omega), xu_o (by omega), xu_o (fun z => w z.2)], by rw [xu_o (by omega), xu_o (by omega), xu_s]⟩
theorem CQ_cc (h : qCQ kp ca us nr cat cm c) (hR : qR1 us nr ws AT ho c) (h0 : 0 ≤ s.toInt) (h3 : s.toInt ≤ 3099) (hu : us s.toNatClampNeg ≠ 0) (hk : kp s.toNatClampNeg = 0) : aCc c (nr s.toNatClampNeg) ∧ c 77 (nr s.toNatClampNeg).toNatClampNeg = 0 := by
  have q := hR.1 _ (tn_lt h0 (by omega)) hu
  have w : c 77 (nr s.toNatClampNeg).toNatClampNeg = 0 := by
    by_cases z : c 77 (nr s.toNatClampNeg).toNatClampNeg = 0
    · exact z
    · exact absurd ((h.2.2.2.2.1 _ (tn_lt h0 (by omega)) hu).mpr z) (fun z => z hk)
  exact ⟨cc_of2 h.2.2.1 q.1.1 q.1.2 q.2.1 w, w⟩
theorem kQ_push (h : qCQ kp ca us nr cat cm c) (hR : qR1 us nr ws AT ho c) (h0 : 0 ≤ s.toInt) (h3 : s.toInt ≤ 3099) (hu : us s.toNatClampNeg ≠ 0) (hk : kp s.toNatClampNeg = 0) (e1 : ∀ t, kp' t = if t = s.toNatClampNeg then 1 else kp t) (e2 : ∀ t, ca' t = if t = cm.toNatClampNeg then s else ca t) (e3 : cm' = cm + 1) : qCQ kp' ca' us nr cat cm' (aCm c (nr s.toNatClampNeg)) := by
  have cc := CQ_cc h hR h0 h3 hu hk
  have r := cm_r cc.1
  obtain ⟨⟨q1, q2⟩, q3, q4, q5, q6, q7⟩ := h
  have q44 := q3.2.2.2
  rw [q2] at q44 r
  have sl := tn_lt h0 (by omega : s.toInt < 3100)
  have ecm : (cm + 1).toInt = cm.toInt + 1 := i_p1 (by omega)
  have tc := tn_cast (x := cm) (by omega)
  have n5 := hR.1 _ sl hu
  refine ⟨⟨r.1.trans q1, by rw [r.2.1, e3]⟩, FQ_cm q3, Wk_cm q4, fun t ht w => ?_, fun t ht hut => ?_, fun j hj => ?_⟩
  · by_cases z : t = s.toNatClampNeg
    · rw [z]
      exact hu
    · rw [e1 t, if_neg z] at w
      exact q5 t ht w
  · by_cases z : t = s.toNatClampNeg
    · rw [e1 t, if_pos z, z, r.2.2.2.2.2]
    · have ne : (nr t).toNatClampNeg ≠ (nr s.toNatClampNeg).toNatClampNeg := fun w => z (R1_in hR ht sl hut hu w)
      rw [e1 t, if_neg z, r.2.2.2.2.1 _ ne]
      exact q6 t ht hut
  · rw [e3, ecm] at hj
    by_cases z : j = cm.toNatClampNeg
    · rw [e2 j, if_pos z, z, r.2.2.2.1]
      exact ⟨⟨h0, by omega, hu⟩, rfl⟩
    · rw [e2 j, if_neg z, r.2.2.1 j z]
      exact q7 j (by omega)
theorem kQ_skip (h : qCQ kp ca us nr cat cm c) (hR : qR1 us nr ws AT ho c) (hs : s.toInt < 0 ∨ (0 ≤ s.toInt ∧ s.toInt ≤ 3099 ∧ us s.toNatClampNeg ≠ 0 ∧ kp s.toNatClampNeg ≠ 0)) : aCm c (qNo nr s) = c := by
  refine aCm_n (fun z => ?_)
  rcases hs with w | ⟨h0, h3, hu, hk⟩
  · have z1 := z.1
    rw [No_n w] at z1
    exact absurd z1 (by decide)
  · have z6 := z.2.2.2.2.2
    rw [No_y h0] at z6
    exact (h.2.2.2.2.1 _ (tn_lt h0 (by omega)) hu).mp hk z6
theorem Ps_push (h : ∀ k, k < j → b 76 k = a 76 k) (e2 : b 128 = a 128) : ∀ i, i ≤ j → zPs b st i = zPs a st i := by
  intro i
  induction i with
  | zero => intro _; rfl
  | succ i ih =>
    intro hi
    unfold zPs
    rw [ih (by omega), h i (by omega), e2]
theorem CP_to (h : qCP us kp ca at2 ow2 AT cm to st ot r c) (hQ : qCQ kp ca us nr cat cm c) (hI : qI c) (hR : qR1 us nr ws AT ho c) (h0 : 0 ≤ s.toInt) (h3 : s.toInt ≤ 3099) (hu : us s.toNatClampNeg ≠ 0) (hk : kp s.toNatClampNeg = 0) : st ≤ to.toInt ∧ to.toInt + (ws s.toNatClampNeg).toInt + 1 ≤ st + r := by
  have cc := CQ_cc hQ hR h0 h3 hu hk
  have q := hR.1 _ (tn_lt h0 (by omega)) hu
  have n5 := tn_cast q.1.1
  have l := Sj_le hI hQ.2.1 (n := (nr s.toNatClampNeg).toNatClampNeg) (by omega) q.2.1 cc.2
  have sz : (c 128 (nr s.toNatClampNeg).toNatClampNeg).toInt = (ws s.toNatClampNeg).toInt + 1 := by
    rw [q.2.2.1]
    exact i_addk rfl (by have := q.2.2.2.2.2.1; omega) (by have := q.2.2.2.2.2.1; omega)
  have q44 := hQ.2.1.2.2.2
  have p := Ps_sj (st := st) hQ.2.1 (c 75 4).toInt.toNat (by omega)
  have g := Ps_le (st := st) hI hQ.2.1 (c 75 4).toInt.toNat (by omega) 0 (by omega)
  have g2 : st ≤ zPs c st (c 75 4).toInt.toNat := g
  have e := h.2.1
  rw [← hQ.1.2] at e
  have su := h.2.2.2.2.2.2
  omega
theorem kP_push (h : qCP us kp ca at2 ow2 AT cm to st ot r c) (hQ : qCQ kp ca us nr cat cm c) (hI : qI c) (hR : qR1 us nr ws AT ho c) (h0 : 0 ≤ s.toInt) (h3 : s.toInt ≤ 3099) (hu : us s.toNatClampNeg ≠ 0) (hk : kp s.toNatClampNeg = 0) (e1 : ∀ t, kp' t = if t = s.toNatClampNeg then 1 else kp t) (e2 : ∀ t, ca' t = if t = cm.toNatClampNeg then s else ca t) (e3 : cm' = cm + 1) (hm : zmov s to at2 ow2 at3 ow3) (e4 : to'.toInt = to.toInt + ((ws s.toNatClampNeg).toInt + 1)) : qCP us kp' ca' at3 ow3 AT cm' to' st ot r (aCm c (nr s.toNatClampNeg)) := by
  have bt := CP_to h hQ hI hR h0 h3 hu hk
  have cc := CQ_cc hQ hR h0 h3 hu hk
  have rr := cm_r cc.1
  obtain ⟨⟨q1, q2⟩, q3, q4, q5, q6, q7⟩ := hQ
  have q44 := q3.2.2.2
  rw [q2] at q44 rr
  have sl := tn_lt h0 (by omega : s.toInt < 3100)
  have ecm : (cm + 1).toInt = cm.toInt + 1 := i_p1 (by omega)
  have tc := tn_cast (x := cm) (by omega)
  have rs := hR.1 _ sl hu
  have sz : (c 128 (nr s.toNatClampNeg).toNatClampNeg).toInt = (ws s.toNatClampNeg).toInt + 1 := by
    rw [rs.2.2.1]
    exact i_addk rfl (by have := rs.2.2.2.2.2.1; omega) (by have := rs.2.2.2.2.2.1; omega)
  obtain ⟨p1, p2, p3, p4, p5, p6, p7⟩ := h
  have q2i := congrArg Int32.toInt q2
  have p2c : to.toInt = zPs c st cm.toNatClampNeg := p2
  have o8 : aCm c (nr s.toNatClampNeg) 128 = c 128 := funext (fun k => aCm_o ⟨by decide, by decide, by decide⟩)
  have o6 : aCm c (nr s.toNatClampNeg) 126 = c 126 := funext (fun k => aCm_o ⟨by decide, by decide, by decide⟩)
  have o3 : aCm c (nr s.toNatClampNeg) 130 = c 130 := funext (fun k => aCm_o ⟨by decide, by decide, by decide⟩)
  have ps : ∀ i, i ≤ cm.toNatClampNeg → zPs (aCm c (nr s.toNatClampNeg)) st i = zPs c st i := Ps_push (fun k hk => rr.2.2.1 k (by omega)) o8
  have cn : cm.toInt.toNat = cm.toNatClampNeg := rfl
  have a3 : (at3 s.toNatClampNeg).toInt = to.toInt := mv_s hm
  have ao : ∀ t, t ≠ s.toNatClampNeg → at3 t = at2 t := fun t ht => by
    rcases hm with ⟨w, _, _⟩ | ⟨w, _, _⟩
    · rw [w]
    · rw [w t, if_neg ht]
  have ca_ne : ∀ j : Nat, (j : Int) < cm.toInt → (ca j).toNatClampNeg ≠ s.toNatClampNeg := fun j hj z => by
    have g := (q3.1 j (by rw [q2]; exact hj)).2.2.1
    rw [(q7 j hj).2, z] at g
    exact g cc.2
  have al := fun n => (Of_al (x := n) (cm_of (a := c) (y := nr s.toNatClampNeg)))
  refine ⟨fun j hj => ?_, ?_, fun t ht hut hkt => ?_, fun t ht hut => ?_, p5, fun n hn => ?_, ?_⟩
  · rw [e3, ecm] at hj
    by_cases z : j = cm.toNatClampNeg
    · rw [e2 j, if_pos z, a3, z, ps _ (by omega), p2, cn]
    · rw [e2 j, if_neg z, ao _ (ca_ne j (by omega)), ps j (by omega)]
      exact p1 j (by omega)
  · rw [e4, e3, show (cm + 1).toInt.toNat = cm.toNatClampNeg + 1 from by omega]
    show _ = zPs (aCm c (nr s.toNatClampNeg)) st cm.toNatClampNeg + _
    rw [ps _ (by omega), rr.2.2.2.1, o8, sz, p2, cn]
  · have z : t ≠ s.toNatClampNeg := fun z => by
      rw [e1 t, if_pos z] at hkt
      exact absurd hkt (by decide)
    rw [e1 t, if_neg z] at hkt
    rw [ao t z]
    exact p3 t ht hut hkt
  · rcases hm with ⟨w1, w2, _⟩ | ⟨w1, w2, w3⟩
    · rw [w1, w2]
      exact p4 t ht hut
    · by_cases z : t = s.toNatClampNeg
      · rw [w1 t, if_pos z, w2, z]
        exact (ofN_tn h0).symm
      · rw [w1 t, if_neg z]
        have rt := hR.1 t ht hut
        have ne : ((at2 t).toNatClampNeg : Int) ≠ (to.toNatClampNeg : Int) := by
          have t0 := tn_cast (x := to) (by omega)
          by_cases kk : kp t = 0
          · have g := p6 _ (R1_al hR ht hut)
            rw [rt.2.2.2.1] at g
            have sz2 := (hI.1 _ (R1_al hR ht hut)).2.1.1
            have e5 := p3 t ht hut kk
            rw [e5]
            have t1 := tn_cast (x := AT t) rt.2.2.2.2.2.2
            omega
          · obtain ⟨j, hj, e⟩ := q3.2.2.1 _ (by have := tn_cast rt.1.1; omega) ((q6 t ht hut).mp kk)
            rw [q2] at hj
            have ej := q7 j hj
            have et : (ca j).toNatClampNeg = t := by
              refine R1_in hR (by have := tn_cast ej.1.1; omega) ht ej.1.2.2 hut ?_
              rw [← ej.2, e]
              exact tn_of (by have := tn_cast rt.1.1; omega)
            have pj := p1 j hj
            rw [et] at pj
            have l1 := Ps_le (st := st) hI q3 cm.toNatClampNeg (by omega) (j + 1) (by omega)
            have l2 : zPs c st (j + 1) = zPs c st j + (c 128 (c 76 j).toNatClampNeg).toInt := rfl
            have l3 := (hI.1 _ (FQ_al q3 (j := j) (by rw [q2]; exact hj)).1).2.1.1
            have l4 := Ps_le (st := st) hI q3 j (by omega) 0 (by omega)
            have l5 : st ≤ zPs c st j := l4
            have t1 := tn_cast (x := at2 t) (by omega)
            omega
        rcases w3 (at2 t).toNatClampNeg (fun z2 => ne (by rw [z2])) with g | g
        · rw [g]
          exact p4 t ht hut
        · have g2 := p4 t ht hut
          rw [g.2.1] at g2
          have g3 := congrArg Int32.toInt g2
          rw [ofN_s ht] at g3
          exact absurd (by have := tn_cast h0; omega) z
  · rw [o3, o8]
    exact p6 n ((al n).mp hn)
  · rw [Su_cg o6 o8]
    exact p7
theorem HB_push (h : qHB us nr kr kd ws AT ho wd wi OW rt wk wl wm nu ro fo le ra pi kp ca cat cm at2 ow2 to st ot r c) (h0 : 0 ≤ s.toInt) (h3 : s.toInt ≤ 3099) (hu : us s.toNatClampNeg ≠ 0) (hk : kp s.toNatClampNeg = 0) (e1 : ∀ t, kp' t = if t = s.toNatClampNeg then 1 else kp t) (e2 : ∀ t, ca' t = if t = cm.toNatClampNeg then s else ca t) (e3 : cm' = cm + 1) (hm : zmov s to at2 ow2 at3 ow3) (e4 : to'.toInt = to.toInt + ((ws s.toNatClampNeg).toInt + 1)) : qHB us nr kr kd ws AT ho wd wi OW rt wk wl wm nu ro fo le ra pi kp' ca' cat cm' at3 ow3 to' st ot r (aCm c (qNo nr s)) := by
  rw [No_y h0]
  exact ⟨RB_of h.1 cm_of, qI_of h.2.1 cm_of, kQ_push h.2.2.1 h.1.1 h0 h3 hu hk e1 e2 e3, kP_push h.2.2.2 h.2.2.1 h.2.1 h.1.1 h0 h3 hu hk e1 e2 e3 hm e4⟩
theorem HB_skip (h : qHB us nr kr kd ws AT ho wd wi OW rt wk wl wm nu ro fo le ra pi kp ca cat cm at2 ow2 to st ot r c) (hs : s.toInt < 0 ∨ (0 ≤ s.toInt ∧ s.toInt ≤ 3099 ∧ us s.toNatClampNeg ≠ 0 ∧ kp s.toNatClampNeg ≠ 0)) : qHB us nr kr kd ws AT ho wd wi OW rt wk wl wm nu ro fo le ra pi kp ca cat cm at2 ow2 to st ot r (aCm c (qNo nr s)) := by
  rw [kQ_skip h.2.2.1 h.1.1 hs]
  exact h
theorem HB_b (h : qHB us nr kr kd ws AT ho wd wi OW rt wk wl wm nu ro fo le ra pi kp ca cat cm at2 ow2 to st ot r c) : (0 ≤ cat.toInt ∧ cat.toInt ≤ cm.toInt ∧ cm.toInt ≤ 512) ∧ 0 ≤ st ∧ st ≤ to.toInt := by
  have q := h.2.2.1.2.1.2.2.2
  rw [h.2.2.1.1.1, h.2.2.1.1.2] at q
  have g := Ps_le (st := st) h.2.1 h.2.2.1.2.1 cm.toInt.toNat (by rw [h.2.2.1.1.2]; omega) 0 (by omega)
  have g2 : st ≤ zPs c st cm.toInt.toNat := g
  have e := h.2.2.2.2.1
  have p := h.2.2.2.2.2.2.2.1
  exact ⟨q, p.1, by omega⟩
theorem HB_to (h : qHB us nr kr kd ws AT ho wd wi OW rt wk wl wm nu ro fo le ra pi kp ca cat cm at2 ow2 to st ot r c) (h0 : 0 ≤ s.toInt) (h3 : s.toInt ≤ 3099) (hu : us s.toNatClampNeg ≠ 0) (hk : kp s.toNatClampNeg = 0) : 0 ≤ to.toInt ∧ to.toInt + (ws s.toNatClampNeg).toInt + 1 ≤ 3000 ∧ to.toInt ≤ 2999 := by
  have g := CP_to h.2.2.2 h.2.2.1 h.2.1 h.1.1 h0 h3 hu hk
  have w0 := (h.1.1.1 _ (tn_lt h0 (by omega)) hu).2.2.2.2.2.1
  have p := h.2.2.2.2.2.2.2.1
  omega
/-! all that came -/
def qHS (us nr kr kd ws AT ho wd wi OW rt wk wl : Nat → Int32) (wm nu ro fo le ra pi : Int32) (kp ca : Nat → Int32) (cat cm : Int32) (at2 ow2 : Nat → Int32) (to : Int32) (st ot r : Int) (T : Nat → Nat → Int32) : Prop := ∃ (c : Nat → Nat → Int32) (f : Nat), qHB us nr kr kd ws AT ho wd wi OW rt wk wl wm nu ro fo le ra pi kp ca cat cm at2 ow2 to st ot r c ∧ aSp f c = T ∧ 512 ≤ (f : Int) + cat.toInt
def qHW (us nr kr kd ws AT ho wd wi OW rt wk wl : Nat → Int32) (wm nu ro fo le ra pi : Int32) (kp ca : Nat → Int32) (cat cm : Int32) (at2 ow2 : Nat → Int32) (to : Int32) (st ot r : Int) (s i : Int32) (T : Nat → Nat → Int32) : Prop := ∃ (c : Nat → Nat → Int32) (f : Nat), (qHB us nr kr kd ws AT ho wd wi OW rt wk wl wm nu ro fo le ra pi kp ca cat cm at2 ow2 to st ot r c ∧ aSp f (aCw c (nr s.toNatClampNeg).toNatClampNeg i) = T ∧ 512 ≤ (f : Int) + cat.toInt) ∧ 0 ≤ s.toInt ∧ s.toInt ≤ 3099 ∧ us s.toNatClampNeg ≠ 0
theorem HS_0 (h : qHB us nr kr kd ws AT ho wd wi OW rt wk wl wm nu ro fo le ra pi kp ca cat cm at2 ow2 to st ot r c) : qHS us nr kr kd ws AT ho wd wi OW rt wk wl wm nu ro fo le ra pi kp ca cat cm at2 ow2 to st ot r (aSp 512 c) := ⟨c, 512, h, rfl, by have := (HB_b h).1; omega⟩
theorem HS_b (h : qHS us nr kr kd ws AT ho wd wi OW rt wk wl wm nu ro fo le ra pi kp ca cat cm at2 ow2 to st ot r d) : (0 ≤ cat.toInt ∧ cat.toInt ≤ cm.toInt ∧ cm.toInt ≤ 512) ∧ 0 ≤ st ∧ st ≤ to.toInt := by
  obtain ⟨c, f, hB, _, _⟩ := h
  exact HB_b hB
theorem HS_end (h : qHS us nr kr kd ws AT ho wd wi OW rt wk wl wm nu ro fo le ra pi kp ca cat cm at2 ow2 to st ot r d) (hl : ¬ cat.toInt < cm.toInt) : qHB us nr kr kd ws AT ho wd wi OW rt wk wl wm nu ro fo le ra pi kp ca cat cm at2 ow2 to st ot r d := by
  obtain ⟨c, f, hB, hT, _⟩ := h
  have e : aSp f c = c := by
    cases f with
    | zero => rfl
    | succ f =>
      show (if (c 75 3).toInt < (c 75 4).toInt then _ else c) = c
      rw [hB.2.2.1.1.1, hB.2.2.1.1.2, if_neg hl]
  rw [← hT, e]
  exact hB
theorem HB_hd (h : qHB us nr kr kd ws AT ho wd wi OW rt wk wl wm nu ro fo le ra pi kp ca cat cm at2 ow2 to st ot r c) (hl : cat.toInt < cm.toInt) : qHB us nr kr kd ws AT ho wd wi OW rt wk wl wm nu ro fo le ra pi kp ca (cat + 1) cm at2 ow2 to st ot r (ma_u (ma_u c 75 3 (c 75 3 + 1)) 77 (c 76 (c 75 3).toNatClampNeg).toNatClampNeg 2) := by
  obtain ⟨hR, hI, ⟨⟨q1, q2⟩, q3, q4, q5, q6, q7⟩, p1, p2, p3, p4, p5, p6, p7⟩ := h
  have q44 := q3.2.2.2
  have e1 : (c 75 3 + 1).toInt = (c 75 3).toInt + 1 := i_p1 (by omega)
  have t := tn_cast (x := c 75 3) q44.1
  have hq := q3.1 (c 75 3).toNatClampNeg (by rw [q2, t, q1]; exact hl)
  generalize hz : (c 76 (c 75 3).toNatClampNeg).toNatClampNeg = z at *
  have of : zOf c (ma_u (ma_u c 75 3 (c 75 3 + 1)) 77 z 2) := fun c' k h1 h2 h3 => by rw [xu_o (fun w => h3 w.1), xu_o (fun w => h1 w.1)]
  have r3 : (ma_u (ma_u c 75 3 (c 75 3 + 1)) 77 z 2) 75 3 = c 75 3 + 1 := by rw [xu_o (by omega), xu_s]
  have r4 : (ma_u (ma_u c 75 3 (c 75 3 + 1)) 77 z 2) 75 4 = c 75 4 := by rw [xu_o (by omega), xu_o (by omega)]
  have r5 : (ma_u (ma_u c 75 3 (c 75 3 + 1)) 77 z 2) 75 5 = c 75 5 := by rw [xu_o (by omega), xu_o (by omega)]
  have r6 : (ma_u (ma_u c 75 3 (c 75 3 + 1)) 77 z 2) 76 = c 76 := by rw [ma_u_ne _ _ _ (by decide), ma_u_ne _ _ _ (by decide)]
  have rc : (ma_u (ma_u c 75 3 (c 75 3 + 1)) 77 z 2) 77 = ma_u c 77 z 2 77 := by
    funext k
    show (if (77 : Nat) = 77 ∧ k = z then (2 : Int32) else ma_u c 75 3 _ 77 k) = (if (77 : Nat) = 77 ∧ k = z then (2 : Int32) else c 77 k)
    rw [xu_o (by omega)]
  have r7 : ∀ x, (ma_u (ma_u c 75 3 (c 75 3 + 1)) 77 z 2) 77 x ≠ 0 ↔ c 77 x ≠ 0 := fun x => by
    rw [rc]
    by_cases w : x = z
    · rw [w, xu_s]
      exact ⟨fun _ => hq.2.2.1, fun _ => by decide⟩
    · rw [xu_o (fun y => w y.2)]
  have r26 : (ma_u (ma_u c 75 3 (c 75 3 + 1)) 77 z 2) 126 = c 126 := by rw [ma_u_ne _ _ _ (by decide), ma_u_ne _ _ _ (by decide)]
  have r28 : (ma_u (ma_u c 75 3 (c 75 3 + 1)) 77 z 2) 128 = c 128 := by rw [ma_u_ne _ _ _ (by decide), ma_u_ne _ _ _ (by decide)]
  have r30 : (ma_u (ma_u c 75 3 (c 75 3 + 1)) 77 z 2) 130 = c 130 := by rw [ma_u_ne _ _ _ (by decide), ma_u_ne _ _ _ (by decide)]
  have ps := Ps_cg (st := st) r6 r28
  generalize ma_u (ma_u c 75 3 (c 75 3 + 1)) 77 z 2 = B at *
  have al : ∀ x, xAl B x ↔ xAl c x := fun x => Of_al of
  refine ⟨RB_of hR of, qI_of hI of, ⟨⟨by rw [r3, q1], r4.trans q2⟩, ⟨?_, ?_, ?_, ?_⟩, ⟨?_, ?_, ?_⟩, q5, fun t ht hu => (q6 t ht hu).trans (r7 _).symm, fun j hj => by rw [r6]; exact q7 j hj⟩, fun j hj => by rw [ps]; exact p1 j hj, by rw [ps]; exact p2, p3, p4, p5, fun n hn => by rw [r30, r28]; exact p6 n ((al n).mp hn), by rw [Su_cg r26 r28]; exact p7⟩
  · intro j hj
    rw [r4] at hj
    have g := q3.1 j hj
    rw [r6, r26]
    exact ⟨g.1, g.2.1, (r7 _).mpr g.2.2.1, g.2.2.2⟩
  · intro j j' h1 h2
    rw [r4] at h2
    rw [r6]
    exact q3.2.1 j j' h1 h2
  · intro x hx w
    rw [r4, r6]
    exact q3.2.2.1 x hx ((r7 x).mp w)
  · rw [r3, r4, e1]
    rw [q1, q2] at *
    omega
  · rw [r4, rc]
    have w := cnt_u1 (m := c) (c := 77) (k := z) (x := (2 : Int32)) (n := 512) (by decide)
    have := q4.1
    omega
  · rw [r5]
    exact q4.2.1
  · intro x hx
    rw [r30]
    exact q4.2.2 x ((al x).mp hx)
theorem HS_go (h : qHS us nr kr kd ws AT ho wd wi OW rt wk wl wm nu ro fo le ra pi kp ca cat cm at2 ow2 to st ot r d) (hl : cat.toInt < cm.toInt) (hs : s = ca cat.toNatClampNeg) (hx : x = cat + 1) : qHW us nr kr kd ws AT ho wd wi OW rt wk wl wm nu ro fo le ra pi kp ca x cm at2 ow2 to st ot r s 0 d := by
  obtain ⟨c, f, hB, hT, hf⟩ := h
  have b := (HB_b hB).1
  have t := tn_cast (x := cat) b.1
  have g := hB.2.2.1.2.2.2.2.2 cat.toNatClampNeg (by omega)
  have e1 : (cat + 1).toInt = cat.toInt + 1 := i_p1 (by omega)
  have q := hB.1.1.1 _ (tn_lt g.1.1 g.1.2.1) g.1.2.2
  have hd := HB_hd hB hl
  cases f with
  | zero => omega
  | succ f =>
    have e2 : aSp (f + 1) c = aSp f (aPop c) := by
      show (if (c 75 3).toInt < (c 75 4).toInt then aSp f (aPop c) else c) = _
      rw [hB.2.2.1.1.1, hB.2.2.1.1.2, if_pos hl]
    have e3 : c 76 (c 75 3).toNatClampNeg = nr s.toNatClampNeg := by
      rw [hB.2.2.1.1.1, g.2, hs]
    rw [← hs] at g q
    have e4 := aPop_y e3 q.1.1 q.1.2 q.2.1
    rw [e3] at hd
    rw [hx]
    exact ⟨_, f, ⟨hd, by rw [← e4, ← e2]; exact hT, by omega⟩, g.1.1, by have := g.1.2.1; omega, g.1.2.2⟩
theorem HW_p (h : qHW us nr kr kd ws AT ho wd wi OW rt wk wl wm nu ro fo le ra pi kp ca cat cm at2 ow2 to st ot r s i d) : (0 ≤ cat.toInt ∧ cat.toInt ≤ cm.toInt ∧ cm.toInt ≤ 512) ∧ 0 ≤ s.toInt ∧ s.toInt ≤ 3099 := by
  obtain ⟨c, f, ⟨hB, _, _⟩, h0, h3, _⟩ := h
  exact ⟨(HB_b hB).1, h0, h3⟩
/-- the word i of s comes -/
theorem HW_rf (h : qHB us nr kr kd ws AT ho wd wi OW rt wk wl wm nu ro fo le ra pi kp ca cat cm at2 ow2 to st ot r c) (h0 : 0 ≤ s.toInt) (h3 : s.toInt ≤ 3099) (hu : us s.toNatClampNeg ≠ 0) (hi : 0 ≤ i.toInt) (hw : i.toInt < (ws s.toNatClampNeg).toInt) (hx : zrf kr kd wd s.toNatClampNeg i.toNatClampNeg = x) : qU us x ∧ aCw c (nr s.toNatClampNeg).toNatClampNeg i = aCw (aCm c (qNo nr x)) (nr s.toNatClampNeg).toNatClampNeg (i + 1) := by
  have t := tn_cast hi
  have q := h.1.2.1 _ (tn_lt h0 (by omega)) hu i.toNatClampNeg (by omega)
  have r := h.1.1.1 _ (tn_lt h0 (by omega)) hu
  have sz : (c 128 (nr s.toNatClampNeg).toNatClampNeg).toInt = (ws s.toNatClampNeg).toInt + 1 := by
    rw [r.2.2.1]
    exact i_addk rfl (by have := r.2.2.2.2.2.1; omega) (by have := r.2.2.2.2.2.1; omega)
  rw [hx] at q
  refine ⟨q.1, ?_⟩
  rw [aCw_go (by omega), ← q.2.1, ofN_tn hi]
theorem HW_end (h : qHW us nr kr kd ws AT ho wd wi OW rt wk wl wm nu ro fo le ra pi kp ca cat cm at2 ow2 to st ot r s i d) (hi : 0 ≤ i.toInt) (hw : ¬ i.toInt < (ws s.toNatClampNeg).toInt) : qHS us nr kr kd ws AT ho wd wi OW rt wk wl wm nu ro fo le ra pi kp ca cat cm at2 ow2 to st ot r d := by
  obtain ⟨c, f, ⟨hB, hT, hf⟩, h0, h3, hu⟩ := h
  have r := hB.1.1.1 _ (tn_lt h0 (by omega)) hu
  have sz : (c 128 (nr s.toNatClampNeg).toNatClampNeg).toInt = (ws s.toNatClampNeg).toInt + 1 := by
    rw [r.2.2.1]
    exact i_addk rfl (by have := r.2.2.2.2.2.1; omega) (by have := r.2.2.2.2.2.1; omega)
  rw [aCw_st (by omega)] at hT
  exact ⟨c, f, hB, hT, hf⟩
end F9
