/-! from 95.o12 -/
/-! the reference under COUNTS (written by wip/tools/gen20s.py) -/
/-! COUNTS, the reference: what is not kept goes -/
def qGL4 (us nr kr kd ws at₉ ho wd wi ow rt wk wl : Nat → Int32) (wm nu ro fo le ra pi : Int32) (kp : Nat → Int32) (x : Int32) (ct : Nat → Int32) (T : Nat → Nat → Int32) : Prop := ∃ (b : Nat → Nat → Int32) (l : Int32), qRB us nr kr kd ws at₉ ho wd wi ow rt wk wl wm nu ro fo le ra pi b ∧ qKB kp us nr b ∧ qE0 b ∧ qI b ∧ qCl b ∧ (-1 ≤ l.toInt ∧ l.toInt + 1 ≤ (b 69 6).toInt) ∧ qMin (qCw us kp wi nr l) nr x 3100 ∧ aGw b (l + 1) = T ∧ qCt ct us nr b [] (-1) (-1)
/-- b without those of the slots below l that are not kept -/
def qDd (b d : Nat → Nat → Int32) (us nr kp : Nat → Int32) (l : Nat) : Prop := cQI d ∧ (∀ n, xAl d n ↔ xAl b n ∧ ¬ ∃ s, s < l ∧ us s ≠ 0 ∧ kp s = 0 ∧ nr s = Int32.ofNat n) ∧ (∀ n, xAl d n → d 128 n = b 128 n ∧ d 133 n = b 133 n ∧ ∀ i : Int32, qWp b n i → aRef d n i = aRef b n i) ∧ d 72 = b 72 ∧ d 74 = b 74 ∧ d 69 5 = b 69 5
def qCD (b : Nat → Nat → Int32) (ct us nr kp : Nat → Int32) (l : Nat) : Prop := ∃ d, qDd b d us nr kp l ∧ ∀ t, t < 3100 → us t ≠ 0 → kp t ≠ 0 → ct t = Int32.ofInt (cRf d (nr t).toNatClampNeg)
def qCI (b : Nat → Nat → Int32) (ct us nr kp : Nat → Int32) (l j : Nat) : Prop := ∃ d, qDd b d us nr kp l ∧ ∀ t, t < 3100 → us t ≠ 0 → kp t ≠ 0 → ct t = Int32.ofInt (cRf d (nr t).toNatClampNeg - (cSu (fun i => cIs (aRef d (nr l).toNatClampNeg (Int32.ofNat i)) (nr t).toNatClampNeg) j : Int))
section D4
variable {a b d e : Nat → Nat → Int32} {us us₉ nr kr kd ws at₉ ho wd wi ow rt wk wl kp ct ct₉ : Nat → Int32} {wm nu ro fo le ra pi x y z r : Int32} {n k l j : Nat} {st : List (List Int32)} {B : Int}
theorem Ct_o8 (o : zO8 a b) (h : qCt ct us nr a st x z) : qCt ct us nr b st x z := fun s hs hu => by
  rw [h s hs hu, Rf_o8 o]
theorem V_sw4 (hI : qI a) (hV : cV a [] B) : cV (aSw a) [] B := by
  have i := I_swn hI hV.2.1
  exact V_0 (C_sw (K₉ := fun n => Int32.ofInt (cRf (aSw a) n)) hI (C_ofV hV) ⟨cQ_I i, i.2.2.2.1.2.1, fun _ _ => rfl⟩)
theorem rm_eq (h : zrm us us₉ kp l) (hs : l < 3100) : us₉ l = us l := (h l hs).2 (Nat.le_refl _)
theorem CD_0 (hI : qI b) (h1 : qR1 us nr ws at₉ ho b) (h : qCt ct us nr b [] (-1) (-1)) (hl : l = 0) : qCD b ct us nr kp l := by
  rw [hl]
  refine ⟨b, ⟨cQ_I hI, fun n => ⟨fun w => ⟨w, fun ⟨s, hs, _⟩ => by omega⟩, fun w => w.1⟩, fun n _ => ⟨rfl, rfl, fun _ _ => rfl⟩, rfl, rfl, rfl⟩, fun t ht hv _ => ?_⟩
  have o : cOc ([] : List (List Int32)) (nr t).toNatClampNeg = 0 := rfl
  rw [h t ht hv, is_m1 (nr_lt h1 ht hv), o]
  exact congrArg Int32.ofInt (by omega)
theorem Dd_s (h : qDd b d us nr kp l) (hl : us l = 0 ∨ kp l ≠ 0) : qDd b d us nr kp (l + 1) := by
  obtain ⟨h1, h2, h3, h4⟩ := h
  refine ⟨h1, fun n => (h2 n).trans ⟨fun w => ⟨w.1, fun ⟨s, hs, g1, g2, g3⟩ => ?_⟩, fun w => ⟨w.1, fun ⟨s, hs, g⟩ => w.2 ⟨s, by omega, g⟩⟩⟩, h3, h4⟩
  by_cases z : s = l
  · rw [z] at g1 g2
    exact hl.elim (fun q => g1 q) (fun q => q g2)
  · exact w.2 ⟨s, by omega, g1, g2, g3⟩
theorem CD_s {l₉ : Nat} (h : qCD b ct us nr kp l) (hl : us l = 0 ∨ kp l ≠ 0) (el : l₉ = l + 1) : qCD b ct us nr kp l₉ := by
  rw [el]
  obtain ⟨d, h1, h2⟩ := h
  exact ⟨d, Dd_s h1 hl, h2⟩
theorem CI_0 (h : qCD b ct us nr kp l) (hj : j = 0) : qCI b ct us nr kp l j := by
  rw [hj]
  obtain ⟨d, h1, h2⟩ := h
  refine ⟨d, h1, fun t ht hv hk => ?_⟩
  rw [h2 t ht hv hk]
  exact congrArg Int32.ofInt (by show cRf d (nr t).toNatClampNeg = cRf d (nr t).toNatClampNeg - ((0 : Nat) : Int); omega)
theorem Dd_al (h : qDd b d us nr kp l) (h1 : qR1 us nr ws at₉ ho b) (hl : l < 3100) (hu : us l ≠ 0) : xAl d (nr l).toNatClampNeg := by
  refine (h.2.1 _).mpr ⟨R1_al h1 hl hu, fun ⟨s, hs, g1, g2, g3⟩ => ?_⟩
  rw [R1_of_nr h1 hl hu] at g3
  have := h1.2.1 s l (by omega) hl g1 hu g3
  omega
theorem CI_r (hR : qRB us nr kr kd ws at₉ ho wd wi ow rt wk wl wm nu ro fo le ra pi b) (h : qDd b d us nr kp l) (hl : l < 3100) (hu : us l ≠ 0) (hj : (j : Int) < (ws l).toInt) : aRef d (nr l).toNatClampNeg (Int32.ofNat j) = qNo nr (zrf kr kd wd l j) := ((h.2.2.1 _ (Dd_al h hR.1 hl hu)).2.2 _ (wp_sl hR hl hu hj)).trans (hR.2.1 l hl hu j hj).2.1
theorem CI_n (h : qCI b ct us nr kp l j) (hR : qRB us nr kr kd ws at₉ ho wd wi ow rt wk wl wm nu ro fo le ra pi b) (hl : l < 3100) (hu : us l ≠ 0) (hj : (j : Int) < (ws l).toInt) (hr : r = zrf kr kd wd l j) (hk : r.toInt < 0 ∨ kp r.toNatClampNeg = 0) {j₉ : Nat} (ej : j₉ = j + 1) : qCI b ct us nr kp l j₉ := by
  rw [ej]
  obtain ⟨d, h1, h2⟩ := h
  refine ⟨d, h1, fun t ht hv hkt => ?_⟩
  have e := CI_r hR h1 hl hu hj
  have u := (hR.2.1 l hl hu j hj).1
  rw [← hr] at e u
  have z : cIs (qNo nr r) (nr t).toNatClampNeg = 0 := by
    by_cases w : r.toInt < 0
    · rw [No_n w]
      exact is_m1 (nr_lt hR.1 ht hv)
    · have v := U_y u (by omega)
      rw [No_y (by omega), nr_eq hR.1 (tn_lt (by omega) v.1) v.2 ht hv]
      refine if_neg (fun e2 => hkt ?_)
      rw [e2]
      exact hk.elim (fun q => absurd q w) id
  rw [h2 t ht hv hkt]
  show Int32.ofInt _ = Int32.ofInt (_ - ((cSu (fun i => cIs (aRef d (nr l).toNatClampNeg (Int32.ofNat i)) (nr t).toNatClampNeg) j + cIs (aRef d (nr l).toNatClampNeg (Int32.ofNat j)) (nr t).toNatClampNeg : Nat) : Int))
  rw [e, z, Nat.add_zero]
theorem CI_y (h : qCI b ct us nr kp l j) (hR : qRB us nr kr kd ws at₉ ho wd wi ow rt wk wl wm nu ro fo le ra pi b) (hl : l < 3100) (hu : us l ≠ 0) (hj : (j : Int) < (ws l).toInt) (hr : r = zrf kr kd wd l j) (h0 : 0 ≤ r.toInt) (e1 : ct₉ = zUp ct r.toNatClampNeg (ct r.toNatClampNeg - 1)) {j₉ : Nat} (ej : j₉ = j + 1) : qCI b ct₉ us nr kp l j₉ := by
  rw [ej]
  obtain ⟨d, h1, h2⟩ := h
  refine ⟨d, h1, fun t ht hv hkt => ?_⟩
  have e := CI_r hR h1 hl hu hj
  have u := (hR.2.1 l hl hu j hj).1
  rw [← hr] at e u
  have v := U_y u h0
  have w := nr_eq hR.1 (tn_lt h0 v.1) v.2 ht hv
  have q := h2 t ht hv hkt
  rw [e1]
  show (if t = r.toNatClampNeg then ct r.toNatClampNeg - 1 else ct t) = Int32.ofInt (_ - ((cSu (fun i => cIs (aRef d (nr l).toNatClampNeg (Int32.ofNat i)) (nr t).toNatClampNeg) j + cIs (aRef d (nr l).toNatClampNeg (Int32.ofNat j)) (nr t).toNatClampNeg : Nat) : Int))
  rw [e, No_y h0, w]
  by_cases z : t = r.toNatClampNeg
  · rw [if_pos z, if_pos z, ← z, q]
    have o1 : (1 : Int32) = Int32.ofInt 1 := rfl
    rw [o1, ← Int32.ofInt_sub]
    exact congrArg Int32.ofInt (by omega)
  · rw [if_neg z, if_neg z, q, Nat.add_zero]
theorem Dd_r (h : qDd b d us nr kp l) (h1 : qR1 us nr ws at₉ ho b) (hl : l < 3100) (hu : us l ≠ 0) (hk : kp l = 0) : qDd b (aRm d (nr l)) us nr kp (l + 1) := by
  have al := Dd_al h h1 hl hu
  have y0 := (h1.1 l hl hu).1.1
  obtain ⟨g1, g2, g3, g4, g5, g6⟩ := h
  have ne : ∀ n, xAl (aRm d (nr l)) n → xAl d n ∧ n ≠ (nr l).toNatClampNeg := fun n w => (rm_al y0).mp w
  refine ⟨cQ_rm y0 g1, fun n => ⟨fun w => ?_, fun w => ?_⟩, fun n hn => ?_, ?_, ?_, ?_⟩
  · have w2 := ne n w
    have w3 := (g2 n).mp w2.1
    refine ⟨w3.1, fun ⟨s, hs, q1, q2, q3⟩ => ?_⟩
    by_cases z : s = l
    · rw [z] at q3
      apply w2.2
      rw [q3, tn_of w3.1.1]
    · exact w3.2 ⟨s, by omega, q1, q2, q3⟩
  · refine (rm_al y0).mpr ⟨(g2 n).mpr ⟨w.1, fun ⟨s, hs, q⟩ => w.2 ⟨s, by omega, q⟩⟩, fun z => w.2 ⟨l, by omega, hu, hk, ?_⟩⟩
    rw [z]
    exact (R1_of_nr h1 hl hu).symm
  · have w := ne n hn
    have q := g3 n w.1
    refine ⟨(rm_rw (by decide) (by decide) w.2).trans q.1, (rm_rw (by decide) (by decide) w.2).trans q.2.1, fun i hi => ?_⟩
    have wd1 : qWp d n i := ⟨w.1, hi.2.1, by rw [q.1]; exact hi.2.2⟩
    exact (crf_rm g1 y0 al w.2 wd1).trans (q.2.2 i hi)
  · exact (funext (fun k => rm_co (by decide) (by decide) (by decide) (by decide))).trans g4
  · exact (funext (fun k => rm_co (by decide) (by decide) (by decide) (by decide))).trans g5
  · exact (aRm_o (by decide) ⟨by decide, by decide, by decide, by decide⟩).trans g6
theorem CI_e (h : qCI b ct us nr kp l j) (hR : qRB us nr kr kd ws at₉ ho wd wi ow rt wk wl wm nu ro fo le ra pi b) (hl : l < 3100) (hu : us l ≠ 0) (hk : kp l = 0) (hj : (j : Int) = (ws l).toInt) {l₉ : Nat} (el : l₉ = l + 1) : qCD b ct us nr kp l₉ := by
  rw [el]
  obtain ⟨d, h1, h2⟩ := h
  have al := Dd_al h1 hR.1 hl hu
  have t0 := hR.1.1 l hl hu
  refine ⟨aRm d (nr l), Dd_r h1 hR.1 hl hu hk, fun t ht hv hkt => ?_⟩
  have ne : (nr t).toNatClampNeg ≠ (nr l).toNatClampNeg := fun e => by
    have e2 := hR.1.2.1 t l ht hl hv hu (by rw [← R1_of_nr hR.1 ht hv, ← R1_of_nr hR.1 hl hu, e])
    rw [e2] at hkt
    exact hkt hk
  have f := Rf_rm h1.1 t0.1.1 al ne
  have o : cOb d (nr l).toNatClampNeg (nr t).toNatClampNeg = cSu (fun i => cIs (aRef d (nr l).toNatClampNeg (Int32.ofNat i)) (nr t).toNatClampNeg) j := by
    unfold cOb
    rw [(h1.2.2.1 _ al).1, t0.2.2.1, i_p1 (by have := t0.2.2.2.2.2.1; omega), show ((ws l).toInt + 1 - 1).toNat = j from by omega]
  rw [h2 t ht hv hkt, ← o]
  exact congrArg Int32.ofInt (by omega)
theorem CD_e (h : qCD b ct us nr kp 3100) (hR : qRB us nr kr kd ws at₉ ho wd wi ow rt wk wl wm nu ro fo le ra pi b) (hI : qI b) (hK : qKB kp us nr b) (hw : (b 75 5).toInt ≤ 0) (hm : zrm us us₉ kp 3100) : qCt ct us₉ nr (aMv b 0) [] (-1) (-1) := by
  have M := Md_mv hI hw
  have hIe := I_mv hI hw
  generalize aMv b 0 = e at *
  obtain ⟨d, ⟨g1, g2, g3, g4, g5, g6⟩, h2⟩ := h
  have al : ∀ n, xAl e n ↔ xAl d n := fun n => by
    rw [Md_al hI M, g2 n]
    refine ⟨fun w => ⟨w.1, fun ⟨s, hs, q1, q2, q3⟩ => ?_⟩, fun w => ⟨w.1, fun z => ?_⟩⟩
    · have k := (hK.2 s hs q1).mpr
      apply k
      · rw [q3, tn_of w.1.1]
        exact ⟨w.1.1, w.2⟩
      · exact q2
    · obtain ⟨s, hs, hu, en⟩ := hR.1.2.2 n w.1.1 w.1.2
      refine w.2 ⟨s, hs, hu, Classical.byContradiction (fun kz => ?_), en⟩
      have k := ((hK.2 s hs hu).mp kz).2
      rw [en, tn_of w.1.1] at k
      exact k z
  have fe : ∀ n, xAl e n → (∀ f, 126 ≤ f → f < 1000 → e f n = b f n) ∧ e (1000 + n) = b (1000 + n) := fun n hn => by
    have q := (Md_al hI M).mp hn
    exact Md_f M q.1.1 q.2
  have rf : ∀ n (i : Int32), xAl e n → qWp b n i → aRef e n i = aRef b n i := fun n i hn wb => by
    have q0 := (Md_al hI M).mp hn
    have f := fe n hn
    have we : qWp e n i := ⟨hn, wb.2.1, by rw [f.1 128 (by decide) (by decide)]; exact wb.2.2⟩
    have q := cwp_i (cQ_I hI) wb
    have cq := tn_cast q.2.1
    have wj := wb.2
    rw [wp_rf hIe we, wp_rf hI wb, f.2, f.1 130 (by decide) (by decide), Md_w hI M q0.1 q0.2 (p := (b 130 n + 1 + i).toNatClampNeg) (by omega) (by omega)]
  have rc : ∀ n, xAl e n → cRf e n = cRf d n := fun n hn => by
    refine Rf_cg (Ro_cg ?_) (Wi_cg ?_ ?_) ?_ (Th_cg (fun m hm => ?_))
    · rw [g4]
      exact M.2.1.1 72 (by decide) (by decide) (by decide) (by decide)
    · rw [g6]
      exact M.2.1.2.1
    · rw [g5]
      exact M.2.1.1 74 (by decide) (by decide) (by decide) (by decide)
    · rw [(g3 n ((al n).mp hn)).2.1]
      exact (fe n hn).1 133 (by decide) (by decide)
    · by_cases w : xAl e m
      · have wd := (al m).mp w
        have wb := ((Md_al hI M).mp w).1
        have f := fe m w
        have s := g3 m wd
        have nz : ¬ e 126 m = 0 := w.2
        have nz2 : ¬ d 126 m = 0 := wd.2
        unfold cTm
        rw [if_neg nz, if_neg nz2]
        refine Ob_cg ?_ (fun i hi => ?_)
        · rw [f.1 128 (by decide) (by decide), s.1]
        · rw [s.1] at hi
          have W := wp_N (cQ_I hI) wb hi
          rw [rf m _ w W, s.2.2 _ W]
      · have wd : ¬ xAl d m := fun q => w ((al m).mpr q)
        have z1 : e 126 m = 0 := Classical.byContradiction (fun q => w ⟨hm, q⟩)
        have z2 : d 126 m = 0 := Classical.byContradiction (fun q => wd ⟨hm, q⟩)
        unfold cTm
        rw [if_pos z1, if_pos z2]
  intro t ht hv
  have u := ((hm t ht).1 ht).mp hv
  have an := R1_al hR.1 ht u.1
  have ae : xAl e (nr t).toNatClampNeg := (Md_al hI M).mpr ⟨an, ((hK.2 t ht u.1).mp u.2).2⟩
  have o : cOc ([] : List (List Int32)) (nr t).toNatClampNeg = 0 := rfl
  rw [h2 t ht u.1 u.2, rc _ ae, is_m1 an.1, o]
  exact congrArg Int32.ofInt (by omega)
end D4
set_option maxHeartbeats 8000000 in
theorem lp_194r4_9 {X : Nat × (Nat → Int32)} {P : Option ma_V → (Nat → Nat → Int32) → Prop} {T : Nat} {aa : Nat→Nat→Int32} {m0 : Nat → Nat → Int32} (h0 : zV m0) (K : ∀ m₉, zF wr_194 m0 m₉ → zV m₉ → ((m₉ 94 73).toInt = 0) → (zGW T (m₉ 94 55) (m₉ 109)) → (zuw (m0 113) (m₉ 113)) → (qRB (m₉ 99) (m₉ 100) (m₉ 98) (m₉ 101) (m₉ 102) (m₉ 103) (m₉ 107) (m₉ 108) (m₉ 109) (m₉ 111) (m₉ 112) (m₉ 113) (m₉ 114) (m₉ 94 55) (m₉ 94 46) (m₉ 94 11) (m₉ 94 12) (m₉ 94 62) (m₉ 94 17) (m₉ 94 9) (aGw aa 0)) → (qI (aGw aa 0)) → (qKB (m₉ 110) (m₉ 99) (m₉ 100) (aGw aa 0)) → (qE0 (aGw aa 0)) → (qCl (aGw aa 0)) → (qCt (m₉ 105) (m₉ 99) (m₉ 100) (aGw aa 0) [] (-1) (-1)) → P none m₉) : ∀ (n : Nat) (m : Nat → Nat → Int32) (l2 : Int32), ((zmg (m 100) l2 : Int)).toNat = n → zF wr_194 m0 m → zV m → (T ≤ 512) → ((m 94 10).toInt = 4 ∧ (m 94 58).toInt = 0) → ((m 94 73).toInt = 0) → (zWS (m 100) (m 99) (m 110) (m 109) (-1 : Int32) l2) → (zW (m 94 7) (m 98) (m 101) (m 102) (m 108)) → (zGW T (m 94 55) (m 109)) → (zuw (m0 113) (m 113)) → (qGL4 (m 99) (m 100) (m 98) (m 101) (m 102) (m 103) (m 107) (m 108) (m 109) (m 111) (m 112) (m 113) (m 114) (m 94 55) (m 94 46) (m 94 11) (m 94 12) (m 94 62) (m 94 17) (m 94 9) (m 110) l2 (m 105) (aGw aa 0)) → zm X 3 66 194 9 [(0, .inr (.inr (some 94))), (2, .inl l2)] m P := by
  intro n
  induction n using Nat.strongRecOn with
  | _ n IH =>
    intro m l2 hmu hF hV hi0 hi1 hi2 r_WS r_W r_GW r_UW r_GL
    refine g_194_9 l2 ?_
    have f1 : 0 ≤ (m 94 10).toInt ∧ (m 94 10).toInt ≤ 6 := rs_94_10 (m := m) hV
    have f2 : 0 ≤ (m 94 58).toInt ∧ (m 94 58).toInt ≤ 1 := rs_94_58 (m := m) hV
    have f3 : 0 ≤ (m 94 73).toInt ∧ (m 94 73).toInt ≤ 3100 := rs_94_73 (m := m) hV
    obtain ⟨b, lst, gRB, gKB, gE0, gQI, gCL, gl, gMn, gT, gCT⟩ := r_GL
    have gb6 := gQI.2.2.2.1.1
    have b4 := i_bd l2
    have li5 : (0 : Int32).toInt = 0 := rfl
    refine zd (fun (h6 : l2 < (0 : Int32)) => ?_) (fun (h6 : ¬ l2 < (0 : Int32)) => ?_)
    · skip
      have g7 := i_lt h6
      try have gw := GW_room r_GW
      try have ws0 := WS_ge r_WS (by omega)
      exact K _ hF hV (show (m 94 73).toInt = 0 from by omega) r_GW r_UW (show qRB (m 99) (m 100) (m 98) (m 101) (m 102) (m 103) (m 107) (m 108) (m 109) (m 111) (m 112) (m 113) (m 114) (m 94 55) (m 94 46) (m 94 11) (m 94 12) (m 94 62) (m 94 17) (m 94 9) (aGw aa 0) from by first | (have e0 := GL_end gRB gQI gKB gl.1 gl.2 gMn (by omega) gT; rw [← e0]; exact gRB; done) | (exfalso; omega; done) | (exfalso; contradiction; done)) (show qI (aGw aa 0) from by first | (have e0 := GL_end gRB gQI gKB gl.1 gl.2 gMn (by omega) gT; rw [← e0]; exact gQI; done) | (exfalso; omega; done) | (exfalso; contradiction; done)) (show qKB (m 110) (m 99) (m 100) (aGw aa 0) from by first | (have e0 := GL_end gRB gQI gKB gl.1 gl.2 gMn (by omega) gT; rw [← e0]; exact gKB; done) | (exfalso; omega; done) | (exfalso; contradiction; done)) (show qE0 (aGw aa 0) from by first | (have e0 := GL_end gRB gQI gKB gl.1 gl.2 gMn (by omega) gT; rw [← e0]; exact gE0; done) | (exfalso; omega; done) | (exfalso; contradiction; done)) (show qCl (aGw aa 0) from by first | (have e0 := GL_end gRB gQI gKB gl.1 gl.2 gMn (by omega) gT; rw [← e0]; exact gCL; done) | (exfalso; omega; done) | (exfalso; contradiction; done)) (show qCt (m 105) (m 99) (m 100) (aGw aa 0) [] (-1) (-1) from by first | (have e0 := GL_end gRB gQI gKB gl.1 gl.2 gMn (by omega) gT; rw [← e0]; exact gCT; done) | (exfalso; omega; done) | (exfalso; contradiction; done))
    · skip
      have g8 := i_nlt h6
      try obtain ⟨ws1, ws2, ws3, ws4, ws5, ws6⟩ := WS_ge r_WS (by omega)
      have hg9 : (0 ≤ l2 ∧ l2.toNatClampNeg < 3100) := i_ix (by omega) (by omega)
      refine ⟨hg9, ?_⟩
      try have ws0 := WS_ge r_WS (by omega)
      refine sp_197r4 (aa := b) (l2) hV (by omega) (by omega) (by omega) (show (m 94 10).toInt = 4 ∧ (m 94 58).toInt = 0 from by omega) (show (m 109) l2.toNatClampNeg ≠ 0 from by first | (exact ws5) | (exact ws0.2.2.2.2.1) | (assumption; done) | (exfalso; omega; done) | (exfalso; contradiction; done)) (show (m 99) l2.toNatClampNeg ≠ 0 from by first | (exact ws3) | (exact ws0.2.2.1) | (assumption; done) | (exact ws3) | (exfalso; omega; done) | (exfalso; contradiction; done)) r_GW gRB gQI (fun m1 hV_m1 p0_m1 p1_m1 p2_m1 p3_m1 p4_m1 p5_m1 p6_m1 => zmv_n ?_)
      have p0_m1 : zGW T (m1 94 55) (m1 109) := p0_m1
      have p1_m1 : zuw (m 113) (m1 113) := p1_m1
      have p2_m1 : zwx (m 114) (m1 114) (m 94 55) l2 := p2_m1
      have p3_m1 : (m1 94 55).toInt = (m 94 55).toInt + 1 := p3_m1
      have p4_m1 : qRB (m 99) (m 100) (m 98) (m 101) (m 102) (m 103) (m 107) (m 108) (m1 109) (m 111) (m 112) (m1 113) (m1 114) (m1 94 55) (m 94 46) (m 94 11) (m 94 12) (m 94 62) (m 94 17) (m 94 9) (aGr b ((m 100) l2.toNatClampNeg)) := p4_m1
      have p5_m1 : qI (aGr b ((m 100) l2.toNatClampNeg)) := p5_m1
      have p6_m1 : (m1 105) = zUp (m 105) l2.toNatClampNeg ((m 105) l2.toNatClampNeg + 1) := p6_m1
      have f10 : 0 ≤ (m1 94 55).toInt ∧ (m1 94 55).toInt ≤ 3100 := rs_94_55 (m := (zov wr_197 m m1)) hV_m1
      have f11 : 0 ≤ (m 94 55).toInt ∧ (m 94 55).toInt ≤ 3100 := rs_94_55 (m := m) hV
      refine zd (fun (h12 : l2 < (0 : Int32)) => ?_) (fun (h12 : ¬ l2 < (0 : Int32)) => ?_)
      · skip
        have g13 := i_lt h12
        try have ws0 := WS_ge r_WS (by omega)
        refine sp_191r (aa := (aGr b (m 100 l2.toNatClampNeg))) (QQ := (qQ (aGr b (m 100 l2.toNatClampNeg)) (m 100 l2.toNatClampNeg))) (DD := (zNn (aGr b (m 100 l2.toNatClampNeg))))  hV_m1 (show zKS (m 110) (m 94 73) from by first | (exact KS_0 (by omega)) | (exfalso; omega; done) | (exfalso; contradiction; done)) r_W (show qRB (m 99) (m 100) (m 98) (m 101) (m 102) (m 103) (m 107) (m 108) (m1 109) (m 111) (m 112) (m1 113) (m1 114) (m1 94 55) (m 94 46) (m 94 11) (m 94 12) (m 94 62) (m 94 17) (m 94 9) (aGr b (m 100 l2.toNatClampNeg)) from by first | (exact p4_m1) | (exfalso; omega; done) | (exfalso; contradiction; done)) (show qQC (m 99) (m 100) (m 98) (m 101) (m 102) (m 108) (qQ (aGr b (m 100 l2.toNatClampNeg)) (m 100 l2.toNatClampNeg)) (zNn (aGr b (m 100 l2.toNatClampNeg))) from by first | (exact QC_M p4_m1) | (exfalso; omega; done) | (exfalso; contradiction; done)) (show qKA (m 110) (m 99) (m 100) (m 98) (m 101) (m 102) (m 108) (m 118) (m 94 73) (qQ (aGr b (m 100 l2.toNatClampNeg)) (m 100 l2.toNatClampNeg)) (zNn (aGr b (m 100 l2.toNatClampNeg))) 3100 0 from by first | (exact absurd ws0.2.2.2.1 (by assumption)) | (exact KA_push (KA_b (KB_gr gKB) (by omega)) (by omega) (by omega) ws0.2.2.1 (zM_in (Or.inr rfl)) (by assumption) (by omega) (by omega) (by decide)) | (exfalso; omega; done) | (exfalso; contradiction; done)) (fun m3 hV_m3 p0_m3 p1_m3 p2_m3 => zmv_n ?_)
        have p0_m3 : (m3 94 73).toInt = 0 := p0_m3
        have p1_m3 : zle (m 110) (m3 110) := p1_m3
        have p2_m3 : qKA (m3 110) (m 99) (m 100) (m 98) (m 101) (m 102) (m 108) (m3 118) (m3 94 73) (qQ (aGr b (m 100 l2.toNatClampNeg)) (m 100 l2.toNatClampNeg)) (zNn (aGr b (m 100 l2.toNatClampNeg))) 3100 0 := p2_m3
        have f14 : 0 ≤ (m3 94 73).toInt ∧ (m3 94 73).toInt ≤ 3100 := rs_94_73 (m := (zov wr_191 (zov wr_197 m m1) m3)) hV_m3
        first | have f15 : 0 ≤ (m 100 l2.toNatClampNeg).toInt ∧ (m 100 l2.toNatClampNeg).toInt ≤ 100000 := ra_100 (m := m) hV (k := l2.toNatClampNeg) (i_ix (n := 3100) (by omega) (by omega)).2 | have b16 := i_bd (m 100 l2.toNatClampNeg)
        try have ws0 := WS_ge r_WS (by omega)
        refine sp_195r ((m 100 l2.toNatClampNeg)) ((0 : Int32)) hV_m3 (by omega) (fun v6 m5 hV_m5 p0_m5 p1_m5 => zmi_n ?_)
        have p0_m5 : zWS (m 100) (m 99) (m3 110) (m1 109) (m 100 l2.toNatClampNeg) v6 := p0_m5
        have p1_m5 : qMin (qCw (m 99) (m3 110) (m1 109) (m 100) (m 100 l2.toNatClampNeg)) (m 100) v6 3100 := p1_m5
        try have gw := GW_room p0_m1
        try have ws0 := WS_ge r_WS (by omega)
        have b17 := i_bd v6
        exact IH ((zmg (m 100) v6 : Int)).toNat (by have zq := zmg_lt (s := l2) (by omega) p0_m5 rfl (by omega) (by omega); omega) _ (v6) rfl (zF_zov (zF_zov (zF_zov hF ws_197_194) ws_191_194) ws_195_194) hV_m5 (by omega) (show (m 94 10).toInt = 4 ∧ (m 94 58).toInt = 0 from by omega) (show (m3 94 73).toInt = 0 from by omega) (show zWS (m 100) (m 99) (m3 110) (m1 109) (-1 : Int32) v6 from by first | (exact WS_weak p0_m5 (by omega)) | (exact p0_m5) | (exact Or.inl (by decide)) | (exact Or.inr ⟨by omega, by omega, by assumption, by assumption, by assumption, by omega⟩) | (exfalso; omega; done) | (exfalso; contradiction; done)) r_W p0_m1 (show zuw (m0 113) (m1 113) from by first | (exact zuw_tr r_UW p1_m1) | (exact zuw_rfl) | (exfalso; omega; done) | (exfalso; contradiction; done)) (show qGL4 (m 99) (m 100) (m 98) (m 101) (m 102) (m 103) (m 107) (m 108) (m1 109) (m 111) (m 112) (m1 113) (m1 114) (m1 94 55) (m 94 46) (m 94 11) (m 94 12) (m 94 62) (m 94 17) (m 94 9) (m3 110) v6 (m1 105) (aGw aa 0) from by first | (exact absurd ws0.2.2.2.1 (by assumption)) | (have nx := GL_nx gRB gQI gE0 gKB gl.1 gl.2 gMn (by omega) gT; have b5 : (b 69 5).toInt < 512 := (by rw [gRB.2.2.2.2.1.1]; exact GW_512 r_GW ws0.2.2.2.2.1 (by omega) (by omega) (by omega)); exact ⟨(aSp 512 (aCm (aGr b (m 100 l2.toNatClampNeg)) (m 100 l2.toNatClampNeg))), (m 100 l2.toNatClampNeg), RB_of p4_m1 (Of_tr (gr_cm (y := (m 100 l2.toNatClampNeg)) (E0_gr (y := (m 100 l2.toNatClampNeg)) gE0).1).2.1 (E0_sp (gr_cm (y := (m 100 l2.toNatClampNeg)) (E0_gr (y := (m 100 l2.toNatClampNeg)) gE0).1).1).2), KB_nx p4_m1 (KB_gr gKB) (E0_gr gE0) (by omega) (by omega) ws0.2.2.1 p2_m3 (by omega) p1_m3 (by decide), (E0_sp (gr_cm (y := (m 100 l2.toNatClampNeg)) (E0_gr (y := (m 100 l2.toNatClampNeg)) gE0).1).1).1, qI_of p5_m1 (Of_tr (gr_cm (y := (m 100 l2.toNatClampNeg)) (E0_gr (y := (m 100 l2.toNatClampNeg)) gE0).1).2.1 (E0_sp (gr_cm (y := (m 100 l2.toNatClampNeg)) (E0_gr (y := (m 100 l2.toNatClampNeg)) gE0).1).1).2), Cl_nx gCL gE0 b5 gQI.2.2.2.1.2.1.1 (R1_al gRB.1 (by omega) ws0.2.2.1) (by omega), ⟨nx.2.2, by rw [sp_6]; exact nx.2.1⟩, p1_m5, nx.1, Ct_o8 (Of_8 (Of_tr (gr_cm (y := (m 100 l2.toNatClampNeg)) (E0_gr (y := (m 100 l2.toNatClampNeg)) gE0).1).2.1 (E0_sp (gr_cm (y := (m 100 l2.toNatClampNeg)) (E0_gr (y := (m 100 l2.toNatClampNeg)) gE0).1).1).2)) (Ct_gr gRB.1 gCT gQI.2.2.2.1.2.1.1 b5 (tn_lt (by omega) (by omega)) ws0.2.2.1 p6_m1)⟩; done) | (exfalso; omega; done) | (exfalso; contradiction; done))
      · skip
        have g18 := i_nlt h12
        have hg19 : (0 ≤ l2 ∧ l2.toNatClampNeg < 3100) := i_ix (by omega) (by omega)
        refine ⟨hg19, ?_⟩
        first | have f20 : 0 ≤ (m 110 l2.toNatClampNeg).toInt ∧ (m 110 l2.toNatClampNeg).toInt ≤ 1 := ra_110 (m := m) hV (k := l2.toNatClampNeg) (i_ix (n := 3100) (by omega) (by omega)).2 | have b21 := i_bd (m 110 l2.toNatClampNeg)
        refine zd (fun (h22 : (m 110 l2.toNatClampNeg) = (0 : Int32)) => ?_) (fun (h22 : ¬ (m 110 l2.toNatClampNeg) = (0 : Int32)) => ?_)
        · skip
          have g23 := i_eq h22
          have hg24 : (0 ≤ l2 ∧ l2.toNatClampNeg < 3100) := i_ix (by omega) (by omega)
          refine ⟨hg24, ?_⟩
          have hg25 : (0 ≤ (m 94 73) ∧ (m 94 73).toNatClampNeg < 3100) := i_ix (by omega) (by omega)
          refine ⟨hg25, ?_⟩
          have li27 : (1 : Int32).toInt = 1 := rfl
          have hV26 : zV (ma_u (zov wr_197 m m1) 110 l2.toNatClampNeg (1 : Int32)) := ua_110 hV_m1 (by omega) (by omega)
          have hV28 : zV (ma_u (ma_u (zov wr_197 m m1) 110 l2.toNatClampNeg (1 : Int32)) 118 (m 94 73).toNatClampNeg l2) := ua_118 hV26 (by omega) (by omega)
          first | have e30 : ((m 94 73) + (1 : Int32)).toInt = (m 94 73).toInt + (1) := i_addk rfl (by omega) (by omega) | have b31 := i_bd ((m 94 73) + (1 : Int32))
          have hV29 : zV (ma_u (ma_u (ma_u (zov wr_197 m m1) 110 l2.toNatClampNeg (1 : Int32)) 118 (m 94 73).toNatClampNeg l2) 94 73 ((m 94 73) + (1 : Int32))) := us_94_73 hV28 (by omega) (by omega)
          try have ws0 := WS_ge r_WS (by omega)
          refine sp_191r (aa := (aGr b (m 100 l2.toNatClampNeg))) (QQ := (qQ (aGr b (m 100 l2.toNatClampNeg)) (m 100 l2.toNatClampNeg))) (DD := (zNn (aGr b (m 100 l2.toNatClampNeg))))  hV29 (show zKS ((ma_u m 110 l2.toNatClampNeg (1 : Int32)) 110) ((m 94 73) + (1 : Int32)) from by first | (exact KS_push (KS_0 (r := m 110) (y := m 94 73) (by omega)) (by assumption) (by omega) (by decide) (by assumption)) | (exfalso; omega; done) | (exfalso; contradiction; done)) r_W (show qRB (m 99) (m 100) (m 98) (m 101) (m 102) (m 103) (m 107) (m 108) (m1 109) (m 111) (m 112) (m1 113) (m1 114) (m1 94 55) (m 94 46) (m 94 11) (m 94 12) (m 94 62) (m 94 17) (m 94 9) (aGr b (m 100 l2.toNatClampNeg)) from by first | (exact p4_m1) | (exfalso; omega; done) | (exfalso; contradiction; done)) (show qQC (m 99) (m 100) (m 98) (m 101) (m 102) (m 108) (qQ (aGr b (m 100 l2.toNatClampNeg)) (m 100 l2.toNatClampNeg)) (zNn (aGr b (m 100 l2.toNatClampNeg))) from by first | (exact QC_M p4_m1) | (exfalso; omega; done) | (exfalso; contradiction; done)) (show qKA ((ma_u m 110 l2.toNatClampNeg (1 : Int32)) 110) (m 99) (m 100) (m 98) (m 101) (m 102) (m 108) ((ma_u m 118 (m 94 73).toNatClampNeg l2) 118) ((m 94 73) + (1 : Int32)) (qQ (aGr b (m 100 l2.toNatClampNeg)) (m 100 l2.toNatClampNeg)) (zNn (aGr b (m 100 l2.toNatClampNeg))) 3100 0 from by first | (exact absurd ws0.2.2.2.1 (by assumption)) | (exact KA_push (KA_b (KB_gr gKB) (by omega)) (by omega) (by omega) ws0.2.2.1 (zM_in (Or.inr rfl)) (by assumption) (by omega) (by omega) (by decide)) | (exfalso; omega; done) | (exfalso; contradiction; done)) (fun m7 hV_m7 p0_m7 p1_m7 p2_m7 => zmv_n ?_)
          have p0_m7 : (m7 94 73).toInt = 0 := p0_m7
          have p1_m7 : zle ((ma_u m 110 l2.toNatClampNeg (1 : Int32)) 110) (m7 110) := p1_m7
          have p2_m7 : qKA (m7 110) (m 99) (m 100) (m 98) (m 101) (m 102) (m 108) (m7 118) (m7 94 73) (qQ (aGr b (m 100 l2.toNatClampNeg)) (m 100 l2.toNatClampNeg)) (zNn (aGr b (m 100 l2.toNatClampNeg))) 3100 0 := p2_m7
          have f32 : 0 ≤ (m7 94 73).toInt ∧ (m7 94 73).toInt ≤ 3100 := rs_94_73 (m := (zov wr_191 (ma_u (ma_u (ma_u (zov wr_197 m m1) 110 l2.toNatClampNeg (1 : Int32)) 118 (m 94 73).toNatClampNeg l2) 94 73 ((m 94 73) + (1 : Int32))) m7)) hV_m7
          first | have f33 : 0 ≤ (m 100 l2.toNatClampNeg).toInt ∧ (m 100 l2.toNatClampNeg).toInt ≤ 100000 := ra_100 (m := m) hV (k := l2.toNatClampNeg) (i_ix (n := 3100) (by omega) (by omega)).2 | have b34 := i_bd (m 100 l2.toNatClampNeg)
          try have ws0 := WS_ge r_WS (by omega)
          refine sp_195r ((m 100 l2.toNatClampNeg)) ((0 : Int32)) hV_m7 (by omega) (fun v10 m9 hV_m9 p0_m9 p1_m9 => zmi_n ?_)
          have p0_m9 : zWS (m 100) (m 99) (m7 110) (m1 109) (m 100 l2.toNatClampNeg) v10 := p0_m9
          have p1_m9 : qMin (qCw (m 99) (m7 110) (m1 109) (m 100) (m 100 l2.toNatClampNeg)) (m 100) v10 3100 := p1_m9
          try have gw := GW_room p0_m1
          try have ws0 := WS_ge r_WS (by omega)
          have b35 := i_bd v10
          exact IH ((zmg (m 100) v10 : Int)).toNat (by have zq := zmg_lt (s := l2) (by omega) p0_m9 rfl (by omega) (by omega); omega) _ (v10) rfl (zF_zov (zF_zov (zF_u (zF_u (zF_u (zF_zov hF ws_197_194) rfl) rfl) rfl) ws_191_194) ws_195_194) hV_m9 (by omega) (show (m 94 10).toInt = 4 ∧ (m 94 58).toInt = 0 from by omega) (show (m7 94 73).toInt = 0 from by omega) (show zWS (m 100) (m 99) (m7 110) (m1 109) (-1 : Int32) v10 from by first | (exact WS_weak p0_m9 (by omega)) | (exact p0_m9) | (exact Or.inl (by decide)) | (exact Or.inr ⟨by omega, by omega, by assumption, by assumption, by assumption, by omega⟩) | (exfalso; omega; done) | (exfalso; contradiction; done)) r_W p0_m1 (show zuw (m0 113) (m1 113) from by first | (exact zuw_tr r_UW p1_m1) | (exact zuw_rfl) | (exfalso; omega; done) | (exfalso; contradiction; done)) (show qGL4 (m 99) (m 100) (m 98) (m 101) (m 102) (m 103) (m 107) (m 108) (m1 109) (m 111) (m 112) (m1 113) (m1 114) (m1 94 55) (m 94 46) (m 94 11) (m 94 12) (m 94 62) (m 94 17) (m 94 9) (m7 110) v10 (m1 105) (aGw aa 0) from by first | (exact absurd ws0.2.2.2.1 (by assumption)) | (have nx := GL_nx gRB gQI gE0 gKB gl.1 gl.2 gMn (by omega) gT; have b5 : (b 69 5).toInt < 512 := (by rw [gRB.2.2.2.2.1.1]; exact GW_512 r_GW ws0.2.2.2.2.1 (by omega) (by omega) (by omega)); exact ⟨(aSp 512 (aCm (aGr b (m 100 l2.toNatClampNeg)) (m 100 l2.toNatClampNeg))), (m 100 l2.toNatClampNeg), RB_of p4_m1 (Of_tr (gr_cm (y := (m 100 l2.toNatClampNeg)) (E0_gr (y := (m 100 l2.toNatClampNeg)) gE0).1).2.1 (E0_sp (gr_cm (y := (m 100 l2.toNatClampNeg)) (E0_gr (y := (m 100 l2.toNatClampNeg)) gE0).1).1).2), KB_nx p4_m1 (KB_gr gKB) (E0_gr gE0) (by omega) (by omega) ws0.2.2.1 p2_m7 (by omega) p1_m7 (by decide), (E0_sp (gr_cm (y := (m 100 l2.toNatClampNeg)) (E0_gr (y := (m 100 l2.toNatClampNeg)) gE0).1).1).1, qI_of p5_m1 (Of_tr (gr_cm (y := (m 100 l2.toNatClampNeg)) (E0_gr (y := (m 100 l2.toNatClampNeg)) gE0).1).2.1 (E0_sp (gr_cm (y := (m 100 l2.toNatClampNeg)) (E0_gr (y := (m 100 l2.toNatClampNeg)) gE0).1).1).2), Cl_nx gCL gE0 b5 gQI.2.2.2.1.2.1.1 (R1_al gRB.1 (by omega) ws0.2.2.1) (by omega), ⟨nx.2.2, by rw [sp_6]; exact nx.2.1⟩, p1_m9, nx.1, Ct_o8 (Of_8 (Of_tr (gr_cm (y := (m 100 l2.toNatClampNeg)) (E0_gr (y := (m 100 l2.toNatClampNeg)) gE0).1).2.1 (E0_sp (gr_cm (y := (m 100 l2.toNatClampNeg)) (E0_gr (y := (m 100 l2.toNatClampNeg)) gE0).1).1).2)) (Ct_gr gRB.1 gCT gQI.2.2.2.1.2.1.1 b5 (tn_lt (by omega) (by omega)) ws0.2.2.1 p6_m1)⟩; done) | (exfalso; omega; done) | (exfalso; contradiction; done))
        · skip
          have g36 := i_ne h22
          try have ws0 := WS_ge r_WS (by omega)
          refine sp_191r (aa := (aGr b (m 100 l2.toNatClampNeg))) (QQ := (qQ (aGr b (m 100 l2.toNatClampNeg)) (m 100 l2.toNatClampNeg))) (DD := (zNn (aGr b (m 100 l2.toNatClampNeg))))  hV_m1 (show zKS (m 110) (m 94 73) from by first | (exact KS_0 (by omega)) | (exfalso; omega; done) | (exfalso; contradiction; done)) r_W (show qRB (m 99) (m 100) (m 98) (m 101) (m 102) (m 103) (m 107) (m 108) (m1 109) (m 111) (m 112) (m1 113) (m1 114) (m1 94 55) (m 94 46) (m 94 11) (m 94 12) (m 94 62) (m 94 17) (m 94 9) (aGr b (m 100 l2.toNatClampNeg)) from by first | (exact p4_m1) | (exfalso; omega; done) | (exfalso; contradiction; done)) (show qQC (m 99) (m 100) (m 98) (m 101) (m 102) (m 108) (qQ (aGr b (m 100 l2.toNatClampNeg)) (m 100 l2.toNatClampNeg)) (zNn (aGr b (m 100 l2.toNatClampNeg))) from by first | (exact QC_M p4_m1) | (exfalso; omega; done) | (exfalso; contradiction; done)) (show qKA (m 110) (m 99) (m 100) (m 98) (m 101) (m 102) (m 108) (m 118) (m 94 73) (qQ (aGr b (m 100 l2.toNatClampNeg)) (m 100 l2.toNatClampNeg)) (zNn (aGr b (m 100 l2.toNatClampNeg))) 3100 0 from by first | (exact absurd ws0.2.2.2.1 (by assumption)) | (exact KA_push (KA_b (KB_gr gKB) (by omega)) (by omega) (by omega) ws0.2.2.1 (zM_in (Or.inr rfl)) (by assumption) (by omega) (by omega) (by decide)) | (exfalso; omega; done) | (exfalso; contradiction; done)) (fun m11 hV_m11 p0_m11 p1_m11 p2_m11 => zmv_n ?_)
          have p0_m11 : (m11 94 73).toInt = 0 := p0_m11
          have p1_m11 : zle (m 110) (m11 110) := p1_m11
          have p2_m11 : qKA (m11 110) (m 99) (m 100) (m 98) (m 101) (m 102) (m 108) (m11 118) (m11 94 73) (qQ (aGr b (m 100 l2.toNatClampNeg)) (m 100 l2.toNatClampNeg)) (zNn (aGr b (m 100 l2.toNatClampNeg))) 3100 0 := p2_m11
          have f37 : 0 ≤ (m11 94 73).toInt ∧ (m11 94 73).toInt ≤ 3100 := rs_94_73 (m := (zov wr_191 (zov wr_197 m m1) m11)) hV_m11
          first | have f38 : 0 ≤ (m 100 l2.toNatClampNeg).toInt ∧ (m 100 l2.toNatClampNeg).toInt ≤ 100000 := ra_100 (m := m) hV (k := l2.toNatClampNeg) (i_ix (n := 3100) (by omega) (by omega)).2 | have b39 := i_bd (m 100 l2.toNatClampNeg)
          try have ws0 := WS_ge r_WS (by omega)
          refine sp_195r ((m 100 l2.toNatClampNeg)) ((0 : Int32)) hV_m11 (by omega) (fun v14 m13 hV_m13 p0_m13 p1_m13 => zmi_n ?_)
          have p0_m13 : zWS (m 100) (m 99) (m11 110) (m1 109) (m 100 l2.toNatClampNeg) v14 := p0_m13
          have p1_m13 : qMin (qCw (m 99) (m11 110) (m1 109) (m 100) (m 100 l2.toNatClampNeg)) (m 100) v14 3100 := p1_m13
          try have gw := GW_room p0_m1
          try have ws0 := WS_ge r_WS (by omega)
          have b40 := i_bd v14
          exact IH ((zmg (m 100) v14 : Int)).toNat (by have zq := zmg_lt (s := l2) (by omega) p0_m13 rfl (by omega) (by omega); omega) _ (v14) rfl (zF_zov (zF_zov (zF_zov hF ws_197_194) ws_191_194) ws_195_194) hV_m13 (by omega) (show (m 94 10).toInt = 4 ∧ (m 94 58).toInt = 0 from by omega) (show (m11 94 73).toInt = 0 from by omega) (show zWS (m 100) (m 99) (m11 110) (m1 109) (-1 : Int32) v14 from by first | (exact WS_weak p0_m13 (by omega)) | (exact p0_m13) | (exact Or.inl (by decide)) | (exact Or.inr ⟨by omega, by omega, by assumption, by assumption, by assumption, by omega⟩) | (exfalso; omega; done) | (exfalso; contradiction; done)) r_W p0_m1 (show zuw (m0 113) (m1 113) from by first | (exact zuw_tr r_UW p1_m1) | (exact zuw_rfl) | (exfalso; omega; done) | (exfalso; contradiction; done)) (show qGL4 (m 99) (m 100) (m 98) (m 101) (m 102) (m 103) (m 107) (m 108) (m1 109) (m 111) (m 112) (m1 113) (m1 114) (m1 94 55) (m 94 46) (m 94 11) (m 94 12) (m 94 62) (m 94 17) (m 94 9) (m11 110) v14 (m1 105) (aGw aa 0) from by first | (exact absurd ws0.2.2.2.1 (by assumption)) | (have nx := GL_nx gRB gQI gE0 gKB gl.1 gl.2 gMn (by omega) gT; have b5 : (b 69 5).toInt < 512 := (by rw [gRB.2.2.2.2.1.1]; exact GW_512 r_GW ws0.2.2.2.2.1 (by omega) (by omega) (by omega)); exact ⟨(aSp 512 (aCm (aGr b (m 100 l2.toNatClampNeg)) (m 100 l2.toNatClampNeg))), (m 100 l2.toNatClampNeg), RB_of p4_m1 (Of_tr (gr_cm (y := (m 100 l2.toNatClampNeg)) (E0_gr (y := (m 100 l2.toNatClampNeg)) gE0).1).2.1 (E0_sp (gr_cm (y := (m 100 l2.toNatClampNeg)) (E0_gr (y := (m 100 l2.toNatClampNeg)) gE0).1).1).2), KB_nx p4_m1 (KB_gr gKB) (E0_gr gE0) (by omega) (by omega) ws0.2.2.1 p2_m11 (by omega) p1_m11 (by decide), (E0_sp (gr_cm (y := (m 100 l2.toNatClampNeg)) (E0_gr (y := (m 100 l2.toNatClampNeg)) gE0).1).1).1, qI_of p5_m1 (Of_tr (gr_cm (y := (m 100 l2.toNatClampNeg)) (E0_gr (y := (m 100 l2.toNatClampNeg)) gE0).1).2.1 (E0_sp (gr_cm (y := (m 100 l2.toNatClampNeg)) (E0_gr (y := (m 100 l2.toNatClampNeg)) gE0).1).1).2), Cl_nx gCL gE0 b5 gQI.2.2.2.1.2.1.1 (R1_al gRB.1 (by omega) ws0.2.2.1) (by omega), ⟨nx.2.2, by rw [sp_6]; exact nx.2.1⟩, p1_m13, nx.1, Ct_o8 (Of_8 (Of_tr (gr_cm (y := (m 100 l2.toNatClampNeg)) (E0_gr (y := (m 100 l2.toNatClampNeg)) gE0).1).2.1 (E0_sp (gr_cm (y := (m 100 l2.toNatClampNeg)) (E0_gr (y := (m 100 l2.toNatClampNeg)) gE0).1).1).2)) (Ct_gr gRB.1 gCT gQI.2.2.2.1.2.1.1 b5 (tn_lt (by omega) (by omega)) ws0.2.2.1 p6_m1)⟩; done) | (exfalso; omega; done) | (exfalso; contradiction; done))
set_option maxHeartbeats 8000000 in
theorem sp_194r4 {X : Nat × (Nat → Int32)} {P : Option ma_V → (Nat → Nat → Int32) → Prop} {T : Nat} {aa : Nat→Nat→Int32} {m : Nat → Nat → Int32}  (hV : zV m) (hpre0 : T ≤ 512) (hpre1 : (m 94 10).toInt = 4 ∧ (m 94 58).toInt = 0) (hpre2 : (m 94 73).toInt = 0) (r_W : zW (m 94 7) (m 98) (m 101) (m 102) (m 108)) (r_GW : zGW T (m 94 55) (m 109)) (r_RB : qRB (m 99) (m 100) (m 98) (m 101) (m 102) (m 103) (m 107) (m 108) (m 109) (m 111) (m 112) (m 113) (m 114) (m 94 55) (m 94 46) (m 94 11) (m 94 12) (m 94 62) (m 94 17) (m 94 9) aa) (r_QI : qI aa) (r_KB : qKB (m 110) (m 99) (m 100) aa) (r_E0 : qE0 aa) (r_CLr : qCl aa) (r_CT : qCt (m 105) (m 99) (m 100) aa [] (-1) (-1)) (KZ : ∀ m₉, zV (zov wr_194 m m₉) → ((m₉ 94 73).toInt = 0) → (zGW T (m₉ 94 55) (m₉ 109)) → (zuw (m 113) (m₉ 113)) → (qRB (m 99) (m 100) (m 98) (m 101) (m 102) (m 103) (m 107) (m 108) (m₉ 109) (m 111) (m 112) (m₉ 113) (m₉ 114) (m₉ 94 55) (m 94 46) (m 94 11) (m 94 12) (m 94 62) (m 94 17) (m 94 9) (aGw aa 0)) → (qI (aGw aa 0)) → (qKB (m₉ 110) (m 99) (m 100) (aGw aa 0)) → (qE0 (aGw aa 0)) → (qCl (aGw aa 0)) → (qCt (m₉ 105) (m 99) (m 100) (aGw aa 0) [] (-1) (-1)) → P none (zov wr_194 m m₉)) : zm X 3 66 194 0 [(0, .inr (.inr (some 94)))] m P := by
  have K : ∀ m₉, zF wr_194 m m₉ → zV m₉ → ((m₉ 94 73).toInt = 0) → (zGW T (m₉ 94 55) (m₉ 109)) → (zuw (m 113) (m₉ 113)) → (qRB (m₉ 99) (m₉ 100) (m₉ 98) (m₉ 101) (m₉ 102) (m₉ 103) (m₉ 107) (m₉ 108) (m₉ 109) (m₉ 111) (m₉ 112) (m₉ 113) (m₉ 114) (m₉ 94 55) (m₉ 94 46) (m₉ 94 11) (m₉ 94 12) (m₉ 94 62) (m₉ 94 17) (m₉ 94 9) (aGw aa 0)) → (qI (aGw aa 0)) → (qKB (m₉ 110) (m₉ 99) (m₉ 100) (aGw aa 0)) → (qE0 (aGw aa 0)) → (qCl (aGw aa 0)) → (qCt (m₉ 105) (m₉ 99) (m₉ 100) (aGw aa 0) [] (-1) (-1)) → P none m₉ := by
    intro m₉ hf z q0 q1 q2 q3 q4 q5 q6 q7 q8
    have e := zov_eq hf
    rw [e] at z ⊢
    try rw [e] at q0
    try rw [e] at q1
    try rw [e] at q2
    try rw [e] at q3
    try rw [e] at q4
    try rw [e] at q5
    try rw [e] at q6
    try rw [e] at q7
    try rw [e] at q8
    exact KZ m₉ z q0 q1 q2 q3 q4 q5 q6 q7 q8
  refine g_194_0  ?_
  have f1 : 0 ≤ (m 94 10).toInt ∧ (m 94 10).toInt ≤ 6 := rs_94_10 (m := m) hV
  have f2 : 0 ≤ (m 94 58).toInt ∧ (m 94 58).toInt ≤ 1 := rs_94_58 (m := m) hV
  have f3 : 0 ≤ (m 94 73).toInt ∧ (m 94 73).toInt ≤ 3100 := rs_94_73 (m := m) hV
  have li4 : (-1 : Int32).toInt = -1 := rfl
  have li5 : (0 : Int32).toInt = 0 := rfl
  try have ws0 := WS_ge r_WS (by omega)
  refine sp_195r ((-1 : Int32)) ((0 : Int32)) hV (by omega) (fun v2 m1 hV_m1 p0_m1 p1_m1 => zmi_n ?_)
  have p0_m1 : zWS (m 100) (m 99) (m 110) (m 109) (-1 : Int32) v2 := p0_m1
  have p1_m1 : qMin (qCw (m 99) (m 110) (m 109) (m 100) (-1 : Int32)) (m 100) v2 3100 := p1_m1
  try have gw := GW_room r_GW
  try have ws0 := WS_ge r_WS (by omega)
  have b6 := i_bd v2
  exact lp_194r4_9 hV K _ _ (v2) rfl (zF_zov zF_rfl ws_195_194) hV_m1 (by omega) (show (m 94 10).toInt = 4 ∧ (m 94 58).toInt = 0 from by omega) (show (m 94 73).toInt = 0 from by omega) p0_m1 r_W r_GW (show zuw (m 113) (m 113) from by first | (exact zuw_rfl) | (exact zuw_rfl) | (exfalso; omega; done) | (exfalso; contradiction; done)) (show qGL4 (m 99) (m 100) (m 98) (m 101) (m 102) (m 103) (m 107) (m 108) (m 109) (m 111) (m 112) (m 113) (m 114) (m 94 55) (m 94 46) (m 94 11) (m 94 12) (m 94 62) (m 94 17) (m 94 9) (m 110) v2 (m 105) (aGw aa 0) from by first | (exact ⟨aa, -1, r_RB, r_KB, r_E0, r_QI, r_CLr, ⟨by decide, by have := r_QI.2.2.2.1.1.1; have e1 : (-1 : Int32).toInt = -1 := rfl; omega⟩, p1_m1, rfl, r_CT⟩) | (exfalso; omega; done) | (exfalso; contradiction; done))

