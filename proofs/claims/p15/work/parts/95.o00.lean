/-! the reference under COUNTS (written by wip/tools/gen20s.py) -/
/-! COUNTS, the reference: one goes -/
section D0
variable {aa a b c e : Nat → Nat → Int32} {us us' nr kr kd ws at' ho wd wi ow ow' rt wk wk0 wk' wl kp : Nat → Int32} {wm nu ro fo le ra pi y x i : Int32} {n k t s : Nat} {m : Nat → Nat → Int32}
theorem I_md (hI : qI b) (h : qMd b e (b 69 6).toInt) : qI e := by
  have r87 := h.2.1.1 87 (by decide) (by decide) (by decide) (by decide)
  have fl : ∀ n, xAl e n → xAl b n ∧ b 77 n ≠ 0 ∧ e 130 n = b 130 n ∧ e 128 n = b 128 n := fun n hn => by
    have q := (Md_al hI h).mp hn
    have f := (Md_f h q.1.1 q.2).1
    exact ⟨q.1, q.2, f 130 (by decide) (by decide), f 128 (by decide) (by decide)⟩
  refine ⟨fun n hn => ?_, fun n n' hn hn' hne => ?_, fun p hp hc => ?_, ⟨?_, ?_, ?_, ?_, ?_, ?_⟩, h.2.2.2.2.1, fun n hn k => ?_⟩
  · have f := fl n hn
    have i := hI.1 n f.1
    have c := tn_cast i.1.2
    rw [f.2.2.1, f.2.2.2, h.2.1.2.2, r87, Md_w hI h f.1 f.2.1 (p := (b 130 n).toNatClampNeg) (by omega) (by have := i.2.1.1; omega)]
    exact i
  · have f := fl n hn
    have f' := fl n' hn'
    rw [f.2.2.1, f.2.2.2, f'.2.2.1, f'.2.2.2]
    exact hI.2.1 n n' f.1 f'.1 hne
  · by_cases z : ∃ x : Nat, (x : Int) < (b 69 6).toInt ∧ qWh b x ∧ (b 130 x).toInt ≤ (p : Int) ∧ (p : Int) < (b 130 x).toInt + (b 128 x).toInt
    · exact (h.2.2.2.1 p).1 z
    · rw [(h.2.2.2.1 p).2 z]
      refine hI.2.2.1 p hp (fun n hn w => ?_)
      by_cases k0 : b 77 n = 0
      · exact z ⟨n, (hI.1 n hn).1.1, ⟨hn, k0⟩, w⟩
      · have al := (Md_al hI h).mpr ⟨hn, k0⟩
        have f := fl n al
        have q := hc n al
        rw [f.2.2.1, f.2.2.2] at q
        exact q w
  · rw [h.2.1.2.2]
    exact hI.2.2.2.1.1
  · rw [h.2.1.2.1]
    exact hI.2.2.2.1.2.1
  · rw [r87]
    exact hI.2.2.2.1.2.2.1
  · rw [r87]
    exact hI.2.2.2.1.2.2.2.1
  · intro n hn
    have f := fl n hn
    rw [f.2.2.1, f.2.2.2, r87]
    exact hI.2.2.2.1.2.2.2.2.1 n f.1
  · rw [r87]
    exact hI.2.2.2.1.2.2.2.2.2
  · exact h.2.2.2.2.2 n hn (fun n' w => hI.2.2.2.2.2 n' w) k
theorem RB_md (hR : qRB us nr kr kd ws at' ho wd wi ow rt wk wl wm nu ro fo le ra pi b) (hI : qI b) (hK : qKB kp us nr b) (hC : qCK kp us rt wl wm kr kd ws wd) (h : qMd b e (b 69 6).toInt) (hu : qUr wk wk' kp 16) (hm : zrm us us' kp 3100) (ho' : zowr ow ow' us kp at') : qRB us' nr kr kd ws at' ho wd wi ow' rt wk' wl wm nu ro fo le ra pi e := by
  obtain ⟨q1, q2, q3, q4, q5, q6, q7, q8⟩ := hR
  have us1 : ∀ s, s < 3100 → us' s ≠ 0 → us s ≠ 0 ∧ kp s ≠ 0 ∧ xAl b (nr s).toNatClampNeg ∧ b 77 (nr s).toNatClampNeg ≠ 0 := fun s hs hv => by
    have z := ((hm s hs).1 hs).mp hv
    exact ⟨z.1, z.2, R1_al q1 hs z.1, ((hK.2 s hs z.1).mp z.2).2⟩
  have us2 : ∀ s, s < 3100 → us s ≠ 0 → kp s ≠ 0 → us' s ≠ 0 := fun s hs hv hk => ((hm s hs).1 hs).mpr ⟨hv, hk⟩
  have fl : ∀ s, s < 3100 → us' s ≠ 0 → ∀ f, 126 ≤ f → f < 1000 → e f (nr s).toNatClampNeg = b f (nr s).toNatClampNeg := fun s hs hv => (Md_f h (us1 s hs hv).2.2.1.1 (us1 s hs hv).2.2.2).1
  have lo := h.2.1.1
  have kU : ∀ x : Int32, qU us x → (x.toInt < 0 ∨ kp x.toNatClampNeg ≠ 0) → qU us' x := fun x hx hk => by
    by_cases z : x.toInt < 0
    · exact Or.inl z
    · have u := U_y hx (by omega)
      exact Or.inr ⟨u.1, us2 _ (tn_lt (by omega) u.1) u.2 (hk.elim (fun w => absurd w z) id)⟩
  refine ⟨⟨fun s hs hv => ?_, fun s t hs ht hv hv2 en => q1.2.1 s t hs ht (us1 s hs hv).1 (us1 t ht hv2).1 en, fun n hn ha => ?_⟩, fun s hs hv i hi => ?_, fun k hk => ?_, fun k hk => ?_, ⟨?_, fun k hk => ?_⟩, fun s hs hv => ?_, fun s hs hv => ?_, ?_⟩
  · have u := us1 s hs hv
    have f := fl s hs hv
    rw [f 126 (by decide) (by decide), f 128 (by decide) (by decide), f 130 (by decide) (by decide), f 133 (by decide) (by decide)]
    exact q1.1 s hs u.1
  · have al := (Md_al hI h).mp (show xAl e n from ⟨hn, ha⟩)
    obtain ⟨s, hs, hv, en⟩ := q1.2.2 n hn al.1.2
    refine ⟨s, hs, us2 s hs hv ((hK.2 s hs hv).mpr ?_), en⟩
    rw [en, tn_of hn]
    exact ⟨hn, al.2⟩
  · have u := us1 s hs hv
    have q := q2 s hs u.1 i hi
    have t := q1.1 s hs u.1
    have ib := hI.1 _ u.2.2.1
    have rf : aRef e (nr s).toNatClampNeg (Int32.ofNat i) = aRef b (nr s).toNatClampNeg (Int32.ofNat i) := by
      have ei : (Int32.ofNat i).toInt = (i : Int) := Int32.toInt_ofNat_of_lt (by have := t.2.2.2.2.2.1; omega)
      have b4 := hI.2.2.2.1.2.2.1
      have ep : (b 130 (nr s).toNatClampNeg + 1).toInt = (b 130 (nr s).toNatClampNeg).toInt + 1 := i_p1 (by omega)
      have sz : (b 128 (nr s).toNatClampNeg).toInt = (ws s).toInt + 1 := by
        rw [t.2.2.1]
        exact i_p1 (by have := t.2.2.2.2.2.1; omega)
      have ex : (b 130 (nr s).toNatClampNeg + 1 + Int32.ofNat i).toInt = (b 130 (nr s).toNatClampNeg).toInt + 1 + (i : Int) := by
        rw [i_add (by omega) (by omega)]
        omega
      have cx := tn_cast (x := b 130 (nr s).toNatClampNeg + 1 + Int32.ofNat i) (by omega)
      unfold aRef
      rw [(Md_f h u.2.2.1.1 u.2.2.2).2, fl s hs hv 130 (by decide) (by decide), Md_w hI h u.2.2.1 u.2.2.2 (p := (b 130 (nr s).toNatClampNeg + 1 + Int32.ofNat i).toNatClampNeg) (by omega) (by omega)]
    rw [rf, (Md_f h u.2.2.1.1 u.2.2.2).2]
    exact ⟨kU _ q.1 (hC.2.2 s hs u.1 u.2.1 i hi), q.2⟩
  · have q := q3 k hk
    rw [lo 72 (by decide) (by decide) (by decide) (by decide)]
    exact ⟨kU _ q.1 (hC.1 k (by omega)), q.2⟩
  · have q := q4 k hk
    have g := hu k
    have w := h.2.2.1 k hk
    by_cases z : (wk k).toInt < 0
    · rw [g.2 (by omega)]
      rw [No_n z] at q ⊢
      refine ⟨Or.inl z, ?_⟩
      by_cases z2 : ∃ x : Nat, (x : Int) < (b 69 6).toInt ∧ qWh b x ∧ b 73 k = Int32.ofNat x
      · exact w.1 z2
      · rw [w.2 z2]
        exact q.2
    · have u := U_y q.1 (by omega)
      have hs := tn_lt (by omega) u.1
      rw [No_y (by omega)] at q
      by_cases kz : kp (wk k).toNatClampNeg = 0
      · rw [g.1 ⟨by omega, by omega, kz⟩]
        refine ⟨Or.inl (by decide), ?_⟩
        have al := R1_al q1 hs u.2
        refine w.1 ⟨(nr (wk k).toNatClampNeg).toNatClampNeg, (hI.1 _ al).1.1, ⟨al, ?_⟩, ?_⟩
        · by_cases z3 : b 77 (nr (wk k).toNatClampNeg).toNatClampNeg = 0
          · exact z3
          · exact absurd kz ((hK.2 _ hs u.2).mpr ⟨al.1, z3⟩)
        · rw [q.2, R1_of_nr q1 hs u.2]
      · rw [g.2 (fun z2 => kz z2.2.2), No_y (by omega)]
        refine ⟨Or.inr ⟨u.1, us2 _ hs u.2 kz⟩, ?_⟩
        rw [w.2]
        · exact q.2
        · rintro ⟨x, x1, x2, x3⟩
          rw [q.2] at x3
          have k7 := ((hK.2 _ hs u.2).mp kz).2
          rw [x3, tn_of x2.1.1] at k7
          exact k7 x2.2
  · rw [h.2.1.2.1]
    exact q5.1
  · have q := q5.2 k hk
    rw [lo 74 (by decide) (by decide) (by decide) (by decide)]
    exact ⟨⟨q.1.1, q.1.2.1, us2 _ (tn_lt q.1.1 q.1.2.1) q.1.2.2 ((hC.2.1 k hk).elim (fun z => absurd z (by have := q.1.1; omega)) id)⟩, q.2⟩
  · rw [fl s hs hv 134 (by decide) (by decide)]
    exact q6 s hs (us1 s hs hv).1
  · have u := us1 s hs hv
    have t := q1.1 s hs u.1
    have ib := hI.1 _ u.2.2.1
    have b4 := hI.2.2.2.1.2.2.1
    have ca := tn_cast t.2.2.2.2.2.2
    have pl : (at' s).toNatClampNeg < 4600 := by
      have e4 := congrArg Int32.toInt t.2.2.2.1
      omega
    have o := q7 s hs u.1
    rcases ho' (at' s).toNatClampNeg pl with z | ⟨z1, r, r1, r2, r3, r4⟩
    · rw [z]
      exact o
    · have o2 := q7 r r1 r2
      have e : (at' r).toNatClampNeg = (at' s).toNatClampNeg := by
        have c2 := tn_cast (q1.1 r r1 r2).2.2.2.2.2.2
        omega
      rw [e, o] at o2
      have e3 := congrArg Int32.toInt o2
      rw [ofN_s hs, ofN_s r1] at e3
      have : s = r := by omega
      rw [this] at u
      exact absurd r3 u.2.1
  · have g := q8
    unfold qR8 at g ⊢
    rw [h.2.1.2.2, lo 87 (by decide) (by decide) (by decide) (by decide)]
    exact g
theorem Md_ne {p q : Int} (h : qMd b c p) (hpq : p ≤ q) (ne : ∀ x : Nat, (x : Int) < q → qWh b x → (x : Int) < p) : qMd b c q := by
  obtain ⟨h1, h2, h3, h4, h6, h7⟩ := h
  refine ⟨fun x hx => ⟨fun w => (h1 x hx).1 ⟨ne x w.1 w.2, w.2⟩, fun w => (h1 x hx).2 (fun w2 => w ⟨by omega, w2.2⟩)⟩, h2, fun k hk => ⟨fun ⟨x, x1, x2, x3⟩ => (h3 k hk).1 ⟨x, ne x x1 x2, x2, x3⟩, fun w => (h3 k hk).2 (fun ⟨x, x1, x2, x3⟩ => w ⟨x, by omega, x2, x3⟩)⟩, fun p => ⟨fun ⟨x, x1, x2, x3⟩ => (h4 p).1 ⟨x, ne x x1 x2, x2, x3⟩, fun w => (h4 p).2 (fun ⟨x, x1, x2, x3⟩ => w ⟨x, by omega, x2, x3⟩)⟩, h6, h7⟩
def zW1 (a : Nat → Nat → Int32) (n : Nat) : Nat → Nat → Int32 := fun c k => if c = 77 then (if k = n then 0 else 1) else a c k
theorem W1_of : zOf a (zW1 a n) := fun _ _ _ _ h3 => (if_neg h3).symm
theorem W1_fo : zOf (zW1 a n) a := fun _ _ _ _ h3 => if_neg h3
theorem W1_md (hI : qI a) (h0 : 0 ≤ y.toInt) (hy : xAl a y.toNatClampNeg) : qMd (zW1 a y.toNatClampNeg) (aRm (zW1 a y.toNatClampNeg) y) (zW1 a y.toNatClampNeg 69 6).toInt := by
  have hI1 : qI (zW1 a y.toNatClampNeg) := qI_of hI W1_of
  have wh : ∀ x, qWh (zW1 a y.toNatClampNeg) x → x = y.toNatClampNeg := fun x h => by
    have h2 : (if x = y.toNatClampNeg then (0 : Int32) else 1) = 0 := h.2
    by_cases z : x = y.toNatClampNeg
    · exact z
    · rw [if_neg z] at h2
      exact absurd h2 (by decide)
  have al1 : xAl (zW1 a y.toNatClampNeg) y.toNatClampNeg := hy
  have hn : qWh (zW1 a y.toNatClampNeg) y.toNatClampNeg := ⟨al1, (show (if y.toNatClampNeg = y.toNatClampNeg then (0 : Int32) else 1) = 0 from if_pos rfl)⟩
  have cy := tn_cast h0
  have i1 := (hI1.1 _ al1).1.1
  have h5 : y.toInt < 512 := by have := hy.1; omega
  have b0 : qMd (zW1 a y.toNatClampNeg) (zW1 a y.toNatClampNeg) y.toInt := Md_ne (Md_0 hI1.2.2.2.2.1) h0 (fun x hx h => by have := wh x h; omega)
  exact Md_ne (Md_y hI1 b0 h0 h5 hn) (by omega) (fun x _ h => by have := wh x h; omega)
theorem I_rm (hI : qI a) (h0 : 0 ≤ y.toInt) (hy : xAl a y.toNatClampNeg) : qI (aRm a y) := qI_of (I_md (qI_of hI W1_of) (W1_md hI h0 hy)) (rm_of W1_fo)
theorem RB_r1 (hR : qRB us nr kr kd ws at' ho wd wi ow rt wk wl wm nu ro fo le ra pi a) (hI : qI a) (hs : s < 3100) (hu : us s ≠ 0) (hc : qCK (zmk us s) us rt wl wm kr kd ws wd) (hw : qUn wk wk' (Int32.ofNat s) 16) (hm : ∀ t, us' t = zmk us s t) (ho' : ∀ p, ow' p = if p = (at' s).toNatClampNeg then -1 else ow p) : qRB us' nr kr kd ws at' ho wd wi ow' rt wk' wl wm nu ro fo le ra pi (aRm a (nr s)) := by
  have y0 := (hR.1.1 s hs hu).1
  have a0 := (hR.1.1 s hs hu).2.2.2.2.2.2
  have al := R1_al hR.1 hs hu
  have q4 := hR.2.2.2.1
  refine RB_of (RB_md (kp := zmk us s) (RB_of hR W1_of) (qI_of hI W1_of) ?_ hc (W1_md hI y0.1 al) ?_ ?_ ?_) (rm_of W1_fo)
  · refine ⟨fun t ht h z => h ?_, fun t ht hut => ⟨fun h => ?_, fun h z => ?_⟩⟩
    · show (if t = s then (0 : Int32) else us t) = 0
      split
      · rfl
      · exact z
    · refine ⟨(R1_al hR.1 ht hut).1, ?_⟩
      show (if (nr t).toNatClampNeg = (nr s).toNatClampNeg then (0 : Int32) else 1) ≠ 0
      rw [if_neg (fun e => h (if_pos (hR.1.2.1 t s ht hs hut hu (by rw [← R1_of_nr hR.1 ht hut, ← R1_of_nr hR.1 hs hu, e]))))]
      decide
    · have h2 : (if (nr t).toNatClampNeg = (nr s).toNatClampNeg then (0 : Int32) else 1) ≠ 0 := h.2
      have z2 : (if t = s then (0 : Int32) else us t) = 0 := z
      by_cases ts : t = s
      · rw [ts, if_pos rfl] at h2
        exact h2 rfl
      · rw [if_neg ts] at z2
        exact hut z2
  · intro k
    have g := hw k
    refine ⟨fun w => ?_, fun w => ?_⟩
    · have u := U_y (q4 k (by omega)).1 w.2.1
      have z2 : (if (wk k).toNatClampNeg = s then (0 : Int32) else us (wk k).toNatClampNeg) = 0 := w.2.2
      have e : (wk k).toNatClampNeg = s := by
        by_cases ts : (wk k).toNatClampNeg = s
        · exact ts
        · rw [if_neg ts] at z2
          exact absurd z2 u.2
      rw [g, if_pos ⟨w.1, by rw [← e]; exact (ofN_tn w.2.1).symm⟩]
    · rw [g, if_neg (fun z => w ⟨z.1, ?_, ?_⟩)]
      · rw [z.2, ofN_s hs]
        omega
      · have e : (wk k).toNatClampNeg = s := by
          have c := tn_cast (x := wk k) (by rw [z.2, ofN_s hs]; omega)
          rw [z.2, ofN_s hs] at c
          rw [z.2]
          omega
        rw [e]
        exact if_pos rfl
  · intro t ht
    refine ⟨fun _ => ?_, fun z => absurd ht (by omega)⟩
    rw [hm t]
    constructor
    · intro h
      refine ⟨fun z => h ?_, h⟩
      show (if t = s then (0 : Int32) else us t) = 0
      split
      · rfl
      · exact z
    · intro h
      exact h.2
  · intro p _
    rw [ho' p]
    by_cases e : p = (at' s).toNatClampNeg
    · rw [if_pos e]
      exact Or.inr ⟨by decide, s, hs, hu, if_pos rfl, by rw [e]; exact (tn_cast a0).symm⟩
    · rw [if_neg e]
      exact Or.inl rfl
end D0
