/-! from 95.v03 -/
/-! AGES, the reference (written by wip/tools/gen15v.py) -/
/-! AGES, the reference: its fields, ages, what grows OLD, dirty cards found, the major cleaning -/
def qAL (a : Nat → Nat → Int32) (yo ol ag cd tp ot hf : Int32) : Prop := (a 87 5 = yo ∧ a 87 9 = ol ∧ a 87 11 = ag ∧ a 87 12 = cd) ∧ a 87 4 = tp ∧ a 87 10 = ot ∧ (hf.toInt = 0 ∨ hf.toInt = 1) ∧ (hf.toInt = 0 → (a 87 3).toInt = ol.toInt) ∧ (hf.toInt = 1 → (a 87 3).toInt = ol.toInt + yo.toInt)
def qAg (us nr gs : Nat → Int32) (a : Nat → Nat → Int32) : Prop := ∀ s, s < 3100 → us s ≠ 0 → gs s = a 131 (nr s).toNatClampNeg
/-- the word i of s, an OLD one's, refers to a YOUNG one and lies on card k -/
def qDs (us ws at₉ kr kd wd : Nat → Int32) (ol cd : Int32) (s i k : Nat) : Prop := us s ≠ 0 ∧ (at₉ s).toInt < ol.toInt ∧ (i : Int) < (ws s).toInt ∧ 0 ≤ (zrf kr kd wd s i).toInt ∧ ol.toInt ≤ (at₉ (zrf kr kd wd s i).toNatClampNeg).toInt ∧ ((at₉ s).toInt + 1 + (i : Int)) / cd.toInt = (k : Int)
def qDo (us ws at₉ kr kd wd : Nat → Int32) (ol cd : Int32) (dt : Nat → Int32) (l : Nat) : Prop := ∀ k, k < 512 → (dt k ≠ 0 ↔ ∃ s i, s < l ∧ qDs us ws at₉ kr kd wd ol cd s i k)
def qDj (us ws at₉ kr kd wd : Nat → Int32) (ol cd : Int32) (dt : Nat → Int32) (l j : Nat) : Prop := ∀ k, k < 512 → (dt k ≠ 0 ↔ (∃ s i, s < l ∧ qDs us ws at₉ kr kd wd ol cd s i k) ∨ ∃ i, i < j ∧ qDs us ws at₉ kr kd wd ol cd l i k)
section F34
variable {a b c d aa : Nat → Nat → Int32} {us us₉ nr kr kd ws at₉ at2 gs ho wd wi ow ow2 rt wk wl dt dt2 : Nat → Int32} {wm nu ro fo le ra pi yo ol ag cd tp ot ot2 hf x x2 v : Int32} {F G : Nat → Int} {j j2 k n l l2 : Nat}
theorem Sl_sum (h : qR1 us nr ws at₉ ho a) (F : Nat → Int) : ∀ N : Nat, N ≤ 512 → zsg (fun s => if us s ≠ 0 ∧ (nr s).toInt < (N : Int) then F (nr s).toNatClampNeg else 0) 3100 = zsg (fun n => if a 126 n ≠ 0 then F n else 0) N := by
  intro N
  induction N with
  | zero =>
    intro _
    refine sg_0 _ (fun k hk => if_neg (fun z => ?_))
    have q := (h.1 k hk z.1).1
    omega
  | succ N ih =>
    intro hN
    have e : zsg (fun s => if us s ≠ 0 ∧ (nr s).toInt < ((N + 1 : Nat) : Int) then F (nr s).toNatClampNeg else 0) 3100 = zsg (fun s => (if us s ≠ 0 ∧ (nr s).toInt < (N : Int) then F (nr s).toNatClampNeg else 0) + (if us s ≠ 0 ∧ (nr s).toInt = (N : Int) then F (nr s).toNatClampNeg else 0)) 3100 := by
      refine sg_cg _ (fun k hk => ?_)
      by_cases c1 : us k ≠ 0 ∧ (nr k).toInt < (N : Int)
      · rw [if_pos ⟨c1.1, by omega⟩, if_pos c1, if_neg (fun z => by omega), Int.add_zero]
      · rw [if_neg c1, Int.zero_add]
        by_cases c2 : us k ≠ 0 ∧ (nr k).toInt = (N : Int)
        · rw [if_pos ⟨c2.1, by omega⟩, if_pos c2]
        · rw [if_neg (fun z => ?_), if_neg c2]
          by_cases c3 : (nr k).toInt = (N : Int)
          · exact c2 ⟨z.1, c3⟩
          · exact c1 ⟨z.1, by omega⟩
    have key : zsg (fun s => if us s ≠ 0 ∧ (nr s).toInt = (N : Int) then F (nr s).toNatClampNeg else 0) 3100 = if a 126 N ≠ 0 then F N else 0 := by
      by_cases w : a 126 N ≠ 0
      · obtain ⟨s, h1, h2, h3⟩ := h.2.2 N (by omega) w
        have nn : (nr s).toInt = (N : Int) := by
          rw [h3]
          exact Int32.toInt_ofNat_of_lt (by omega)
        have tn : (nr s).toNatClampNeg = N := by
          have := tn_cast (x := nr s) (by omega)
          omega
        rw [if_pos w, sg_1 3100 s h1 (fun j hj hne => if_neg (fun z => ?_)), if_pos ⟨h2, nn⟩, tn]
        exact hne (h.2.1 j s hj h1 z.1 h2 (Int32.toInt_inj.mp (by rw [z.2, nn])))
      · rw [if_neg w]
        refine sg_0 _ (fun s hk => if_neg (fun z => w ?_))
        have q := h.1 s hk z.1
        have tn : (nr s).toNatClampNeg = N := by
          have := tn_cast (x := nr s) (by omega)
          omega
        rw [tn] at q
        exact q.2.1
    have e9 : zsg (fun n => if a 126 n ≠ 0 then F n else 0) (N + 1) = zsg (fun n => if a 126 n ≠ 0 then F n else 0) N + (if a 126 N ≠ 0 then F N else 0) := rfl
    rw [e, sg_ad, key, ih (by omega), e9]
theorem sm_sg {bb : Nat → Bool} : ∀ n, sm bb ws n = zsg (fun s => if bb s = true then (ws s).toInt + 1 else 0) n := by
  intro n
  induction n with
  | zero => rfl
  | succ n ih =>
    show sm bb ws n + _ = zsg _ n + _
    rw [ih]
theorem OF_e (hR : qR1 us nr ws at₉ ho a) (hv : qAv a) (hL : qAL a yo ol ag cd tp ot hf) (hg : qAg us nr gs a) : sm (zbG us at₉ ol gs ag) ws 3100 = gGr a 512 := by
  have s := Sl_sum hR (fun n => if (a 87 9).toInt ≤ (a 130 n).toInt ∧ (a 87 11).toInt ≤ (a 131 n).toInt + 1 then (a 128 n).toInt else 0) 512 (Nat.le_refl _)
  have e1 : gGr a 512 = zsg (fun n => if a 126 n ≠ 0 then (if (a 87 9).toInt ≤ (a 130 n).toInt ∧ (a 87 11).toInt ≤ (a 131 n).toInt + 1 then (a 128 n).toInt else 0) else 0) 512 := by
    rw [Gr_sg]
    refine sg_cg _ (fun n hn => ?_)
    by_cases w : a 126 n ≠ 0
    · rw [if_pos w]
      by_cases v : (a 87 9).toInt ≤ (a 130 n).toInt ∧ (a 87 11).toInt ≤ (a 131 n).toInt + 1
      · rw [if_pos v, if_pos ⟨w, v⟩]
      · rw [if_neg v, if_neg (fun z => v z.2)]
    · rw [if_neg w, if_neg (fun z => w z.1)]
  rw [e1, ← s, sm_sg]
  refine sg_cg _ (fun k hk => ?_)
  by_cases u : us k ≠ 0
  · have q := hR.1 k hk u
    have al := R1_al hR hk u
    have a1 := (Av_0 hv).2.2.2.2.2.2 _ al
    have a3 := (Av_0 hv).2.2.1
    have g := hg k hk u
    have n5 := q.1.2
    rw [if_pos (show us k ≠ 0 ∧ (nr k).toInt < ((512 : Nat) : Int) from ⟨u, by omega⟩)]
    have sz : (a 128 (nr k).toNatClampNeg).toInt = (ws k).toInt + 1 := by
      rw [q.2.2.1]
      exact i_addk rfl (by have := q.2.2.2.2.2.1; omega) (by have := q.2.2.2.2.2.1; omega)
    have e2 : (a 131 (nr k).toNatClampNeg + (1 : Int32)).toInt = (a 131 (nr k).toNatClampNeg).toInt + 1 := i_p1 (by have := a1.1; omega)
    have iff : zbG us at₉ ol gs ag k = true ↔ (a 87 9).toInt ≤ (a 130 (nr k).toNatClampNeg).toInt ∧ (a 87 11).toInt ≤ (a 131 (nr k).toNatClampNeg).toInt + 1 := by
      unfold zbG
      rw [decide_eq_true_iff, ← hL.1.2.1, ← hL.1.2.2.1, g, ← q.2.2.2.1]
      refine ⟨fun z => ⟨z.2.1, ?_⟩, fun z => ⟨u, z.1, ?_⟩⟩
      · have := congrArg Int32.toInt z.2.2
        omega
      · have := (a1.2.2 z.1).2.1
        exact Int32.toInt_inj.mp (by omega)
    by_cases w : zbG us at₉ ol gs ag k = true
    · rw [if_pos w, if_pos (iff.mp w), sz]
    · rw [if_neg w, if_neg (fun z => w (iff.mpr z))]
  · rw [if_neg (show ¬ zbG us at₉ ol gs ag k = true from fun z => by
      unfold zbG at z
      rw [decide_eq_true_iff] at z
      exact u z.1), if_neg (fun z => u z.1)]
theorem OF_y (hR : qR1 us nr ws at₉ ho a) (hv : qAv a) (hL : qAL a yo ol ag cd tp ot hf) (hg : qAg us nr gs a) {y : Int} (h : y = sm (zbG us at₉ ol gs ag) ws 3100) : gFu a ↔ ol.toInt - ot.toInt < y := by
  unfold gFu
  rw [h, OF_e hR hv hL hg, hL.1.2.1, hL.2.2.1]
  omega
/-! dirty cards -/
theorem gWk_i : ∀ m : Nat, gWk a k n m ≠ 0 ↔ ∃ i : Nat, i < m ∧ gRw a n (Int32.ofNat i) ∧ 0 < (a 87 12).toInt ∧ gCx a n (i : Int) = (k : Int) := by
  intro m
  induction m with
  | zero => exact ⟨fun z => absurd rfl z, fun z => by obtain ⟨i, hi, _⟩ := z; omega⟩
  | succ m ih =>
    show (if _ then (1 : Int32) else gWk a k n m) ≠ 0 ↔ _
    by_cases w : (0 ≤ (aRef a n (Int32.ofNat m)).toInt ∧ (aRef a n (Int32.ofNat m)).toInt < 512 ∧ a 126 (aRef a n (Int32.ofNat m)).toNatClampNeg ≠ 0 ∧ (a 87 9).toInt ≤ (a 130 (aRef a n (Int32.ofNat m)).toNatClampNeg).toInt) ∧ 0 < (a 87 12).toInt ∧ gCx a n (m : Int) = (k : Int)
    · rw [if_pos w]
      exact ⟨fun _ => ⟨m, by omega, w.1, w.2⟩, fun _ => by decide⟩
    · rw [if_neg w, ih]
      refine ⟨fun ⟨i, h1, h2⟩ => ⟨i, by omega, h2⟩, fun ⟨i, h1, h2⟩ => ⟨i, ?_, h2⟩⟩
      by_cases z : i = m
      · rw [z] at h2
        exact absurd h2 w
      · omega
theorem gNk_i : ∀ N : Nat, gNk a k N ≠ 0 ↔ ∃ n : Nat, n < N ∧ (a 126 n ≠ 0 ∧ (a 130 n).toInt < (a 87 9).toInt) ∧ ∃ i : Nat, i < ((a 128 n).toInt - 1).toNat ∧ gRw a n (Int32.ofNat i) ∧ 0 < (a 87 12).toInt ∧ gCx a n (i : Int) = (k : Int) := by
  intro N
  induction N with
  | zero => exact ⟨fun z => absurd rfl z, fun z => by obtain ⟨i, hi, _⟩ := z; omega⟩
  | succ N ih =>
    show (if (a 126 N ≠ 0 ∧ (a 130 N).toInt < (a 87 9).toInt) ∧ gWk a k N ((a 128 N).toInt - 1).toNat ≠ 0 then (1 : Int32) else gNk a k N) ≠ 0 ↔ _
    by_cases w : (a 126 N ≠ 0 ∧ (a 130 N).toInt < (a 87 9).toInt) ∧ gWk a k N ((a 128 N).toInt - 1).toNat ≠ 0
    · rw [if_pos w]
      exact ⟨fun _ => ⟨N, by omega, w.1, (gWk_i _).mp w.2⟩, fun _ => by decide⟩
    · rw [if_neg w, ih]
      refine ⟨fun ⟨i, h1, h2⟩ => ⟨i, by omega, h2⟩, fun ⟨i, h1, h2⟩ => ⟨i, ?_, h2⟩⟩
      by_cases z : i = N
      · rw [z] at h2
        exact absurd ⟨h2.1, (gWk_i _).mpr h2.2⟩ w
      · omega
theorem Do_0 (h : ∀ k, k < 512 → dt k = 0) : qDo us ws at₉ kr kd wd ol cd dt 0 := fun k hk => ⟨fun z => absurd (h k hk) z, fun ⟨_, _, z, _⟩ => by omega⟩
theorem Do_sk (h : qDo us ws at₉ kr kd wd ol cd dt l) (hn : us l = 0 ∨ ol.toInt ≤ (at₉ l).toInt) (e : l2 = l + 1) : qDo us ws at₉ kr kd wd ol cd dt l2 := fun k hk => by
  rw [h k hk, e]
  refine ⟨fun ⟨s, i, h1, h2⟩ => ⟨s, i, by omega, h2⟩, fun ⟨s, i, h1, h2⟩ => ⟨s, i, ?_, h2⟩⟩
  by_cases z : s = l
  · rw [z] at h2
    rcases hn with w | w
    · exact absurd w h2.1
    · have := h2.2.1
      omega
  · omega
theorem Dj_0 (h : qDo us ws at₉ kr kd wd ol cd dt l) : qDj us ws at₉ kr kd wd ol cd dt l 0 := fun k hk => (h k hk).trans ⟨Or.inl, fun z => z.elim id (fun ⟨_, w, _⟩ => by omega)⟩
theorem Dj_no (h : qDj us ws at₉ kr kd wd ol cd dt l j) (hn : (zrf kr kd wd l j).toInt < 0 ∨ (at₉ (zrf kr kd wd l j).toNatClampNeg).toInt < ol.toInt) (e : j2 = j + 1) : qDj us ws at₉ kr kd wd ol cd dt l j2 := fun k hk => by
  rw [h k hk, e]
  refine or_congr Iff.rfl ⟨fun ⟨i, h1, h2⟩ => ⟨i, by omega, h2⟩, fun ⟨i, h1, h2⟩ => ⟨i, ?_, h2⟩⟩
  by_cases z : i = j
  · rw [z] at h2
    have h3 := h2.2.2.2.1
    have h4 := h2.2.2.2.2.1
    omega
  · omega
theorem Dj_ye (h : qDj us ws at₉ kr kd wd ol cd dt l j) (h1 : us l ≠ 0) (h2 : (at₉ l).toInt < ol.toInt) (h3 : (j : Int) < (ws l).toInt) (h4 : 0 ≤ (zrf kr kd wd l j).toInt) (h5 : ol.toInt ≤ (at₉ (zrf kr kd wd l j).toNatClampNeg).toInt) (h6 : ((at₉ l).toInt + 1 + (j : Int)) / cd.toInt = (n : Int)) (hd : ∀ k, dt2 k = if k = n then 1 else dt k) (e : j2 = j + 1) : qDj us ws at₉ kr kd wd ol cd dt2 l j2 := fun k hk => by
  have ds : qDs us ws at₉ kr kd wd ol cd l j n := ⟨h1, h2, h3, h4, h5, h6⟩
  rw [hd k, e]
  by_cases w : k = n
  · rw [if_pos w, w]
    exact ⟨fun _ => Or.inr ⟨j, by omega, ds⟩, fun _ => by decide⟩
  · rw [if_neg w, h k hk]
    refine or_congr Iff.rfl ⟨fun ⟨i, h1, h2⟩ => ⟨i, by omega, h2⟩, fun ⟨i, h7, h8⟩ => ⟨i, ?_, h8⟩⟩
    by_cases z : i = j
    · rw [z] at h8
      have h9 := h8.2.2.2.2.2
      omega
    · omega
theorem Dj_e (h : qDj us ws at₉ kr kd wd ol cd dt l j) (hj : ¬ (j : Int) < (ws l).toInt) (e : l2 = l + 1) : qDo us ws at₉ kr kd wd ol cd dt l2 := fun k hk => by
  rw [h k hk, e]
  refine ⟨fun z => ?_, fun ⟨s, i, h1, h2⟩ => ?_⟩
  · rcases z with ⟨s, i, h1, h2⟩ | ⟨i, h1, h2⟩
    · exact ⟨s, i, by omega, h2⟩
    · exact ⟨l, i, by omega, h2⟩
  · by_cases z : s = l
    · rw [z] at h2
      exact Or.inr ⟨i, by have := h2.2.2.1; omega, h2⟩
    · exact Or.inl ⟨s, i, by omega, h2⟩
theorem Do_end (h : qDo us ws at₉ kr kd wd ol cd dt 3100) (hR : qRB us nr kr kd ws at₉ ho wd wi ow rt wk wl wm nu ro fo le ra pi a) (h9 : a 87 9 = ol) (h12 : a 87 12 = cd) (hc : 4 ≤ cd.toInt) : qDt dt (gFd a) := fun k hk => by
  have e : gFd a 83 k = gNk a k 512 := if_pos ⟨rfl, hk⟩
  rw [e, h k (by omega), gNk_i]
  constructor
  · rintro ⟨s, i, hs, u, o, iw, r0, ry, cx⟩
    have q := hR.1.1 s hs u
    have al := R1_al hR.1 hs u
    have rr := hR.2.1 s hs u i iw
    have sz : (a 128 (nr s).toNatClampNeg).toInt = (ws s).toInt + 1 := by
      rw [q.2.2.1]
      exact i_addk rfl (by have := q.2.2.2.2.2.1; omega) (by have := q.2.2.2.2.2.1; omega)
    have ut := U_y rr.1 r0
    have tl := tn_lt r0 ut.1
    have t := hR.1.1 _ tl ut.2
    have e2 := rr.2.1
    rw [No_y r0] at e2
    refine ⟨(nr s).toNatClampNeg, al.1, ⟨al.2, by rw [q.2.2.2.1, h9]; exact o⟩, i, by omega, ?_, by rw [h12]; omega, ?_⟩
    · unfold gRw
      rw [e2]
      exact ⟨t.1.1, t.1.2, t.2.1, by rw [t.2.2.2.1, h9]; exact ry⟩
    · unfold gCx
      rw [q.2.2.2.1, h12]
      exact cx
  · rintro ⟨n, hn, ⟨a1, a2⟩, i, iw, rw1, c0, cx⟩
    obtain ⟨s, hs, u, e1⟩ := R1_ex hR.1 ⟨hn, a1⟩
    have q := hR.1.1 s hs u
    rw [e1] at q
    have sz : (a 128 n).toInt = (ws s).toInt + 1 := by
      rw [q.2.2.1]
      exact i_addk rfl (by have := q.2.2.2.2.2.1; omega) (by have := q.2.2.2.2.2.1; omega)
    have rr := hR.2.1 s hs u i (by omega)
    rw [e1] at rr
    have r0 : 0 ≤ (zrf kr kd wd s i).toInt := by
      by_cases z : (zrf kr kd wd s i).toInt < 0
      · have e2 := rr.2.1
        rw [No_n z] at e2
        have w := rw1.1
        rw [e2] at w
        exact absurd w (by decide)
      · omega
    have ut := U_y rr.1 r0
    have tl := tn_lt r0 ut.1
    have t := hR.1.1 _ tl ut.2
    have e2 := rr.2.1
    rw [No_y r0] at e2
    refine ⟨s, i, hs, u, by rw [← q.2.2.2.1, ← h9]; exact a2, by omega, r0, ?_, ?_⟩
    · have w := rw1.2.2.2
      rw [e2, t.2.2.2.1, h9] at w
      exact w
    · unfold gCx at cx
      rw [q.2.2.2.1, h12] at cx
      exact cx
/-! rows -/
theorem RB_83 (h : qRB us nr kr kd ws at₉ ho wd wi ow rt wk wl wm nu ro fo le ra pi a) (e : ∀ c, c ≠ 83 → b c = a c) : qRB us nr kr kd ws at₉ ho wd wi ow rt wk wl wm nu ro fo le ra pi b := by
  have rf : ∀ n i, aRef b n i = aRef a n i := fun n i => rf_cg (e _ (by omega)) (e _ (by decide)) (e _ (by decide))
  obtain ⟨h1, h2, h3, h4, h5, h6, h7, h8⟩ := h
  refine ⟨?_, fun s hs hu i hi => ?_, ?_, ?_, ?_, ?_, h7, ?_⟩
  · unfold qR1 at h1 ⊢
    rw [e 126 (by decide), e 128 (by decide), e 130 (by decide), e 133 (by decide)]
    exact h1
  · rw [rf, e (1000 + (nr s).toNatClampNeg) (by omega)]
    exact h2 s hs hu i hi
  · unfold qR3 at h3 ⊢
    rw [e 72 (by decide)]
    exact h3
  · unfold qR3 at h4 ⊢
    rw [e 73 (by decide)]
    exact h4
  · unfold qR5 at h5 ⊢
    rw [e 69 (by decide), e 74 (by decide)]
    exact h5
  · unfold qR6 at h6 ⊢
    rw [e 134 (by decide)]
    exact h6
  · unfold qR8 at h8 ⊢
    rw [e 69 (by decide), e 87 (by decide)]
    exact h8
theorem RB_fd (h : qRB us nr kr kd ws at₉ ho wd wi ow rt wk wl wm nu ro fo le ra pi a) : qRB us nr kr kd ws at₉ ho wd wi ow rt wk wl wm nu ro fo le ra pi (gFd a) := RB_83 h (fun c hc => Fd_r hc)
theorem Ma_rw (h1 : n ≠ 83) (h2 : n ≠ 71) (h3 : n ≠ 130) (h4 : n ≠ 87) : gMa a n = aSw a n := funext (fun k => by
  show gFd _ n k = _
  rw [Fd_r h1, ma_u_ne _ _ _ h4]
  exact Sf_r h2 h3 _ _ _ _)
theorem Ma_87 (h : k ≠ 10) : gMa a 87 k = a 87 k := by
  show gFd _ 87 k = _
  rw [Fd_r (by decide), xu_o (fun z => h z.2)]
  exact (Sf_r (by decide) (by decide) _ _ _ _).trans sw_87
theorem Ag_ma (hg : qAg us nr gs a) (hv : qAv a) (hR : qR1 us₉ nr ws at₉ ho (gMa a)) (hu : ∀ s, s < 3100 → us₉ s ≠ 0 → us s ≠ 0) : qAg us₉ nr gs (gMa a) := fun s hs u => by
  have al := R1_al hR hs u
  have al2 : xAl (aSw a) (nr s).toNatClampNeg := by
    unfold xAl at al ⊢
    rw [Ma_rw (by decide) (by decide) (by decide) (by decide)] at al
    exact al
  rw [Ma_rw (by decide) (by decide) (by decide) (by decide), sw_f hv.1 al2 (by decide) (by decide) (by decide)]
  exact hg s hs (hu s hs u)
theorem AL_ma (h : qAL a yo ol ag cd tp ot hf) (hv : qAv a) (ho : v.toInt = (gSd a).2) : qAL (gMa a) yo ol ag cd tp v hf := by
  obtain ⟨⟨h1, h2, h3, h4⟩, h5, h6, h7⟩ := h
  have e10 : gMa a 87 10 = v := by
    show gFd _ 87 10 = _
    rw [Fd_r (by decide), xu_s, ← ho, Int32.ofInt_toInt]
  exact ⟨⟨(Ma_87 (by decide)).trans h1, (Ma_87 (by decide)).trans h2, (Ma_87 (by decide)).trans h3, (Ma_87 (by decide)).trans h4⟩, (Ma_87 (by decide)).trans h5, e10, by rw [Ma_87 (by decide)]; exact h7⟩
theorem AL_b (h : qAL a yo ol ag cd tp ot hf) (hv : qAv a) : (0 ≤ yo.toInt ∧ yo.toInt ≤ 1500) ∧ (0 ≤ ol.toInt ∧ ol.toInt ≤ 1500) ∧ (1 ≤ ag.toInt ∧ ag.toInt ≤ 1000) ∧ 4 ≤ cd.toInt ∧ (0 ≤ ot.toInt ∧ ot.toInt ≤ ol.toInt) ∧ (0 ≤ tp.toInt ∧ tp.toInt ≤ 4500) := by
  obtain ⟨⟨h1, h2, h3, h4⟩, h5, h6, h7⟩ := h
  obtain ⟨hI, g2, nm, hs, ht, hO, ha⟩ := Av_0 hv
  rw [← h1, ← h2, ← h3, ← h4, ← h5, ← h6]
  omega
theorem Ma_h (hl : x.toInt = (a 87 9).toInt) (hv : qEq v.toInt (zSd (aSw a) x.toInt 0 0).2) : ma_u (zSd (aSw a) x.toInt 0 0).1 87 10 v = ma_u (gSd a).1 87 10 (Int32.ofInt (gSd a).2) ∧ v.toInt = (gSd a).2 := by
  have e : zSd (aSw a) x.toInt 0 0 = gSd a := by
    unfold gSd
    rw [hl]
  have ve := qE hv
  rw [e] at ve ⊢
  rw [← ve, Int32.ofInt_toInt]
  exact ⟨rfl, rfl⟩
end F34

/-! from 95.v04 -/
/-! AGES, the reference (written by wip/tools/gen15v.py) -/
/-! AGES, the reference: the fields through a walk -/
def qAX (a : Nat → Nat → Int32) (yo ol ag cd : Int32) : Prop := a 87 5 = yo ∧ a 87 9 = ol ∧ a 87 11 = ag ∧ a 87 12 = cd
section F35
variable {a b c d aa T : Nat → Nat → Int32} {yo ol ag cd x y i l : Int32} {n m k f : Nat} {e p : Int}
theorem AX_cg (h : qAX a yo ol ag cd) (e : b 87 = a 87) : qAX b yo ol ag cd := by
  unfold qAX at h ⊢
  rw [e]
  exact h
theorem cwf_o (h : n ≠ 75 ∧ n ≠ 76 ∧ n ≠ 77) : ∀ (f : Nat) (i : Int32) (a : Nat → Nat → Int32), aCwf m f i a n k = a n k := by
  intro f
  induction f with
  | zero => intro i a; rfl
  | succ f ih =>
    intro i a
    show aCwf m f (i + 1) (aCm a _) n k = a n k
    rw [ih, aCm_o h]
theorem AX_sw (h : qAX aa yo ol ag cd) (hT : aSp f (aCw c m i) = aSp 512 aa) : qAX c yo ol ag cd := by
  have e1 : aSp f (aCw c m i) 87 = c 87 := funext (fun k => (aSp_o ⟨by decide, by decide, by decide⟩ _ _).trans (cwf_o ⟨by decide, by decide, by decide⟩ _ _ _))
  have e2 : aSp 512 aa 87 = aa 87 := funext (fun k => aSp_o ⟨by decide, by decide, by decide⟩ _ _)
  exact AX_cg h (by rw [← e1, hT, e2])
theorem AX_ro (h : qAX aa yo ol ag cd) (hT : aRo c i = aRo (aWh aa x) 0) : qAX c yo ol ag cd := by
  have e1 : aRo c i 87 = c 87 := funext (fun k => aRo_o ⟨by decide, by decide, by decide⟩)
  have e2 : aRo (aWh aa x) 0 87 = aa 87 := funext (fun k => (aRo_o ⟨by decide, by decide, by decide⟩).trans (wh_of 87 k (by decide) (by decide) (by decide)).symm)
  exact AX_cg h (by rw [← e1, hT, e2])
theorem AX_cm (h : qAX c yo ol ag cd) : qAX (aCm c y) yo ol ag cd := AX_cg h (funext (fun k => aCm_o ⟨by decide, by decide, by decide⟩))
theorem AX_gr (h : qAX c yo ol ag cd) : qAX (aGr c y) yo ol ag cd := AX_cg h (gr_r (by decide) (by decide) (by decide) (by decide))
theorem hf_o (h : n ≠ 75 ∧ n ≠ 76 ∧ n ≠ 77) : ∀ (f : Nat) (i : Int32) (a : Nat → Nat → Int32), aHf f i a n k = a n k := by
  intro f
  induction f with
  | zero => intro i a; rfl
  | succ f ih =>
    intro i a
    show aHf f (i + 1) (if _ then aCm a i else a) n k = a n k
    rw [ih]
    split
    · exact aCm_o h
    · rfl
theorem wf_o (h : n ≠ 75 ∧ n ≠ 76 ∧ n ≠ 77) : ∀ (f : Nat) (i : Int32) (a : Nat → Nat → Int32), aWf f i a n k = a n k := by
  intro f
  induction f with
  | zero => intro i a; exact hf_o h _ _ _
  | succ f ih =>
    intro i a
    show aWf f (i + 1) (aCm a _) n k = a n k
    rw [ih, aCm_o h]
theorem AX_wi (h : qAX aa yo ol ag cd) (hT : aWi c i = aRo (aWh aa x) 0) : qAX c yo ol ag cd := by
  have e1 : aWi c i 87 = c 87 := funext (fun k => wf_o ⟨by decide, by decide, by decide⟩ _ _ _)
  have e2 : aRo (aWh aa x) 0 87 = aa 87 := funext (fun k => (aRo_o ⟨by decide, by decide, by decide⟩).trans (wh_of 87 k (by decide) (by decide) (by decide)).symm)
  exact AX_cg h (by rw [← e1, hT, e2])
theorem gdf_o (h : n ≠ 75 ∧ n ≠ 76 ∧ n ≠ 77) : ∀ (f : Nat) (a : Nat → Nat → Int32) (p : Int), gDf e f a p n k = a n k := by
  intro f
  induction f with
  | zero => intro a p; rfl
  | succ f ih =>
    intro a p
    by_cases w : p < e
    · by_cases z : (zOb a p).toInt < 0
      · rw [gDf_fr w z, ih]
      · rw [gDf_go w (by omega), ih, gDw_o h]
    · rw [gDf_e w]
theorem AX_dp (h : qAX aa yo ol ag cd) (hT : gDp (gDw c m i) e p = gDp aa e 0) : qAX c yo ol ag cd := by
  have e1 : gDp (gDw c m i) e p 87 = c 87 := funext (fun k => (gdf_o ⟨by decide, by decide, by decide⟩ _ _ _).trans (gDw_o ⟨by decide, by decide, by decide⟩))
  have e2 : gDp aa e 0 87 = aa 87 := funext (fun k => gdf_o ⟨by decide, by decide, by decide⟩ _ _ _)
  exact AX_cg h (by rw [← e1, hT, e2])
theorem gf_87 : ∀ (f : Nat) (i : Int32) (a : Nat → Nat → Int32), aGf f i a 87 k = a 87 k := fun f i a => gf_9 ⟨by decide, by decide⟩ f i a
theorem AX_gw (h : qAX aa yo ol ag cd) (hT : aGw b l = aGw aa 0) : qAX b yo ol ag cd := by
  have e1 : aGw b l 87 = b 87 := funext (fun k => gf_87 _ _ _)
  have e2 : aGw aa 0 87 = aa 87 := funext (fun k => gf_87 _ _ _)
  exact AX_cg h (by rw [← e1, hT, e2])
theorem AX_sp (h : qAX c yo ol ag cd) : qAX (aSp f c) yo ol ag cd := AX_cg h (funext (fun k => aSp_o ⟨by decide, by decide, by decide⟩ _ _))
end F35
theorem sp_207ry {X : Nat × (Nat → Int32)} {P : Option ma_V → (Nat → Nat → Int32) → Prop} {aa : Nat→Nat→Int32} {AT : Nat→Int32} {OW : Nat→Int32} {AG : Nat→Int32} {ro : Int32} {st : Int} {oo : Int} {m : Nat → Nat → Int32} (s : Int32) (hV : zV m) (hpre0 : -1 ≤ s.toInt) (hpre1 : s.toInt ≤ 3099) (hpre2 : (m 94 10).toInt = 3) (r_UQ : qU (m 99) s) (r_OW : zOw (m 99) (m 103) (m 111)) (r_AX3 : qAX aa (m 94 13) (m 94 14) (m 94 15) (m 94 16)) (r_YB : qYB (m 99) (m 100) (m 98) (m 101) (m 102) AT (m 107) (m 108) (m 109) OW (m 112) (m 113) (m 114) (m 94 55) (m 94 46) ro 0 0 0 1 (m 110) (m 119) (m 94 76) (m 94 75) (m 103) (m 111) (m 104) AG (m 94 77) (m 94 60) st oo aa) (KZ : ∀ m₉, zV (zov wr_207 m m₉) → (zOw (m 99) (m₉ 103) (m₉ 111)) → (qYB (m 99) (m 100) (m 98) (m 101) (m 102) AT (m 107) (m 108) (m 109) OW (m 112) (m 113) (m 114) (m 94 55) (m 94 46) ro 0 0 0 1 (m₉ 110) (m₉ 119) (m 94 76) (m₉ 94 75) (m₉ 103) (m₉ 111) (m₉ 104) AG (m₉ 94 77) (m₉ 94 60) st oo (aCm aa (qNo (m 100) s))) → P none (zov wr_207 m m₉)) : zm X 2 43 207 0 [(0, .inr (.inr (some 94))), (1, .inl s)] m P := by
  have K : ∀ m₉, zF wr_207 m m₉ → zV m₉ → (zOw (m₉ 99) (m₉ 103) (m₉ 111)) → (qYB (m₉ 99) (m₉ 100) (m₉ 98) (m₉ 101) (m₉ 102) AT (m₉ 107) (m₉ 108) (m₉ 109) OW (m₉ 112) (m₉ 113) (m₉ 114) (m₉ 94 55) (m₉ 94 46) ro 0 0 0 1 (m₉ 110) (m₉ 119) (m₉ 94 76) (m₉ 94 75) (m₉ 103) (m₉ 111) (m₉ 104) AG (m₉ 94 77) (m₉ 94 60) st oo (aCm aa (qNo (m₉ 100) s))) → P none m₉ := by
    intro m₉ hf z q0 q1
    have e := zov_eq hf
    rw [e] at z ⊢
    try rw [e] at q0
    try rw [e] at q1
    exact KZ m₉ z q0 q1
  refine g_207_0 s ?_
  have f1 : 0 ≤ (m 94 10).toInt ∧ (m 94 10).toInt ≤ 6 := rs_94_10 (m := m) hV
  have b2 := i_bd s
  have li3 : (0 : Int32).toInt = 0 := rfl
  refine zd (fun (h4 : s < (0 : Int32)) => ?_) (fun (h4 : ¬ s < (0 : Int32)) => ?_)
  · skip
    have g5 := i_lt h4
    try have hus := (U_y r_UQ (by omega)).2
    try have hto := YB_to r_YB (by omega) (by omega) hus (by assumption) r_AX3.2.2.1.symm
    try have ag1 : ((m 104 s.toNatClampNeg) + (1 : Int32)).toInt = (m 104 s.toNatClampNeg).toInt + 1 := i_p1 (by omega)
    try have hgi := congrArg Int32.toInt ((mu_self (m := m) (c := 104) (k := s.toNatClampNeg) (x := (m 104 s.toNatClampNeg) + (1 : Int32))).symm.trans (by assumption))
    try have hgg := hto.2.2.1.mpr (by omega)
    try have hg4 := hto.2.2.2.1 hgg
    try have hgn : ¬ qYg aa (m 100 s.toNatClampNeg).toNatClampNeg := (fun z => (fun z => absurd ((mu_self (m := m) (c := 104) (k := s.toNatClampNeg) (x := (m 104 s.toNatClampNeg) + (1 : Int32))).trans z) (by assumption)) (Int32.toInt_inj.mp (by have := hto.2.2.1.mp z; omega)))
    try have hg5 := hto.2.2.2.2 hgn
    exact K _ zF_rfl hV r_OW (show qYB (m 99) (m 100) (m 98) (m 101) (m 102) AT (m 107) (m 108) (m 109) OW (m 112) (m 113) (m 114) (m 94 55) (m 94 46) ro 0 0 0 1 (m 110) (m 119) (m 94 76) (m 94 75) (m 103) (m 111) (m 104) AG (m 94 77) (m 94 60) st oo (aCm aa (qNo (m 100) s)) from by first | (exact YB_skip r_YB (Or.inl (by omega))) | (exact YB_skip r_YB (Or.inr ⟨by omega, by omega, (U_y r_UQ (by omega)).2, by assumption⟩)) | (exact r_YB) | (exfalso; omega; done) | (exfalso; contradiction; done))
  · skip
    have g6 := i_nlt h4
    try have hus := (U_y r_UQ (by omega)).2
    have hg7 : (0 ≤ s ∧ s.toNatClampNeg < 3100) := i_ix (by omega) (by omega)
    refine ⟨hg7, ?_⟩
    first | have f8 : 0 ≤ (m 110 s.toNatClampNeg).toInt ∧ (m 110 s.toNatClampNeg).toInt ≤ 1 := ra_110 (m := m) hV (k := s.toNatClampNeg) (i_ix (n := 3100) (by omega) (by omega)).2 | have b9 := i_bd (m 110 s.toNatClampNeg)
    refine zd (fun (h10 : (m 110 s.toNatClampNeg) = (0 : Int32)) => ?_) (fun (h10 : ¬ (m 110 s.toNatClampNeg) = (0 : Int32)) => ?_)
    · skip
      have g11 := i_eq h10
      try have hus := (U_y r_UQ (by omega)).2
      have hg12 : (0 ≤ s ∧ s.toNatClampNeg < 3100) := i_ix (by omega) (by omega)
      refine ⟨hg12, ?_⟩
      have f13 : 0 ≤ (m 94 75).toInt ∧ (m 94 75).toInt ≤ 3100 := rs_94_75 (m := m) hV
      try have hb := YB_b r_YB
      have hg14 : (0 ≤ (m 94 75) ∧ (m 94 75).toNatClampNeg < 3100) := i_ix (by omega) (by omega)
      refine ⟨hg14, ?_⟩
      have li15 : (3 : Int32).toInt = 3 := rfl
      refine zd (fun (h16 : (m 94 10) = (3 : Int32)) => ?_) (fun (h16 : ¬ (m 94 10) = (3 : Int32)) => ?_)
      · skip
        have g17 := i_eq h16
        try have hus := (U_y r_UQ (by omega)).2
        have hg18 : (0 ≤ s ∧ s.toNatClampNeg < 3100) := i_ix (by omega) (by omega)
        refine ⟨hg18, ?_⟩
        try have hus := (U_y r_UQ (by omega)).2
        have hg19 : (0 ≤ s ∧ s.toNatClampNeg < 3100) := i_ix (by omega) (by omega)
        refine ⟨hg19, ?_⟩
        try have hus := (U_y r_UQ (by omega)).2
        have hg20 : (0 ≤ s ∧ s.toNatClampNeg < 3100) := i_ix (by omega) (by omega)
        refine ⟨hg20, ?_⟩
        have b21 := i_bd (m 104 s.toNatClampNeg)
        first | have e22 : ((m 104 s.toNatClampNeg) + (1 : Int32)).toInt = (m 104 s.toNatClampNeg).toInt + (1) := i_addk rfl (by omega) (by omega) | have b23 := i_bd ((m 104 s.toNatClampNeg) + (1 : Int32))
        have q24 : ((ma_u m 104 s.toNatClampNeg ((m 104 s.toNatClampNeg) + (1 : Int32))) 104 s.toNatClampNeg).toInt = ((m 104 s.toNatClampNeg) + (1 : Int32)).toInt := congrArg Int32.toInt mu_self
        have b25 := i_bd ((ma_u m 104 s.toNatClampNeg ((m 104 s.toNatClampNeg) + (1 : Int32))) 104 s.toNatClampNeg)
        have b26 := i_bd (m 94 15)
        refine zd (fun (h27 : ((ma_u m 104 s.toNatClampNeg ((m 104 s.toNatClampNeg) + (1 : Int32))) 104 s.toNatClampNeg) = (m 94 15)) => ?_) (fun (h27 : ¬ ((ma_u m 104 s.toNatClampNeg ((m 104 s.toNatClampNeg) + (1 : Int32))) 104 s.toNatClampNeg) = (m 94 15)) => ?_)
        · skip
          have g28 := i_eq h27
          have f29 : 0 ≤ (m 94 60).toInt ∧ (m 94 60).toInt ≤ 1600 := rs_94_60 (m := m) hV
          have li31 : (1 : Int32).toInt = 1 := rfl
          have hV30 : zV (ma_u m 110 s.toNatClampNeg (1 : Int32)) := ua_110 hV (by omega) (by omega)
          have hV32 : zV (ma_u (ma_u m 110 s.toNatClampNeg (1 : Int32)) 119 (m 94 75).toNatClampNeg s) := ua_119 hV30 (by omega) (by omega)
          first | have e34 : ((m 94 75) + (1 : Int32)).toInt = (m 94 75).toInt + (1) := i_addk rfl (by omega) (by omega) | have b35 := i_bd ((m 94 75) + (1 : Int32))
          have hV33 : zV (ma_u (ma_u (ma_u m 110 s.toNatClampNeg (1 : Int32)) 119 (m 94 75).toNatClampNeg s) 94 75 ((m 94 75) + (1 : Int32))) := us_94_75 hV32 (by omega) (by omega)
          have hV36 : zV (ma_u (ma_u (ma_u (ma_u m 110 s.toNatClampNeg (1 : Int32)) 119 (m 94 75).toNatClampNeg s) 94 75 ((m 94 75) + (1 : Int32))) 104 s.toNatClampNeg ((m 104 s.toNatClampNeg) + (1 : Int32))) := ua_104 hV33
          try have hus := (U_y r_UQ (by omega)).2
          try have hto := YB_to r_YB (by omega) (by omega) hus (by assumption) r_AX3.2.2.1.symm
          try have ag1 : ((m 104 s.toNatClampNeg) + (1 : Int32)).toInt = (m 104 s.toNatClampNeg).toInt + 1 := i_p1 (by omega)
          try have hgi := congrArg Int32.toInt ((mu_self (m := m) (c := 104) (k := s.toNatClampNeg) (x := (m 104 s.toNatClampNeg) + (1 : Int32))).symm.trans (by assumption))
          try have hgg := hto.2.2.1.mpr (by omega)
          try have hg4 := hto.2.2.2.1 hgg
          try have hgn : ¬ qYg aa (m 100 s.toNatClampNeg).toNatClampNeg := (fun z => (fun z => absurd ((mu_self (m := m) (c := 104) (k := s.toNatClampNeg) (x := (m 104 s.toNatClampNeg) + (1 : Int32))).trans z) (by assumption)) (Int32.toInt_inj.mp (by have := hto.2.2.1.mp z; omega)))
          try have hg5 := hto.2.2.2.2 hgn
          refine sp_205 (s) ((m 94 60)) hV36 (by omega) (by omega) (by omega) (by omega) (show (m 99) s.toNatClampNeg ≠ 0 from by first | (exact hus) | (assumption; done) | (exact ow5.1) | (exact ow3.1) | (exfalso; omega; done) | (exfalso; contradiction; done)) r_OW (fun m5 hV_m5 p0_m5 p1_m5 => zmv_n ?_)
          have p0_m5 : zOw (m 99) (m5 103) (m5 111) := p0_m5
          have p1_m5 : zmov s (m 94 60) (m 103) (m 111) (m5 103) (m5 111) := p1_m5
          try have mvs := mv_s p1_m5
          have hg37 : (0 ≤ s ∧ s.toNatClampNeg < 3100) := i_ix (by omega) (by omega)
          refine ⟨hg37, ?_⟩
          try have hus := (U_y r_UQ (by omega)).2
          try have hto := YB_to r_YB (by omega) (by omega) hus (by assumption) r_AX3.2.2.1.symm
          try have ag1 : ((m 104 s.toNatClampNeg) + (1 : Int32)).toInt = (m 104 s.toNatClampNeg).toInt + 1 := i_p1 (by omega)
          try have hgi := congrArg Int32.toInt ((mu_self (m := m) (c := 104) (k := s.toNatClampNeg) (x := (m 104 s.toNatClampNeg) + (1 : Int32))).symm.trans (by assumption))
          try have hgg := hto.2.2.1.mpr (by omega)
          try have hg4 := hto.2.2.2.1 hgg
          try have hgn : ¬ qYg aa (m 100 s.toNatClampNeg).toNatClampNeg := (fun z => (fun z => absurd ((mu_self (m := m) (c := 104) (k := s.toNatClampNeg) (x := (m 104 s.toNatClampNeg) + (1 : Int32))).trans z) (by assumption)) (Int32.toInt_inj.mp (by have := hto.2.2.1.mp z; omega)))
          try have hg5 := hto.2.2.2.2 hgn
          first | have f39 : 0 ≤ (m 102 s.toNatClampNeg).toInt ∧ (m 102 s.toNatClampNeg).toInt ≤ 60 := ra_102 (m := m) hV (k := s.toNatClampNeg) (i_ix (n := 3100) (by omega) (by omega)).2 | have b40 := i_bd (m 102 s.toNatClampNeg)
          first | have e41 : ((m 102 s.toNatClampNeg) + (1 : Int32)).toInt = (m 102 s.toNatClampNeg).toInt + (1) := i_addk rfl (by omega) (by omega) | have b42 := i_bd ((m 102 s.toNatClampNeg) + (1 : Int32))
          first | have e43 : ((m 94 60) + ((m 102 s.toNatClampNeg) + (1 : Int32))).toInt = (m 94 60).toInt + ((m 102 s.toNatClampNeg) + (1 : Int32)).toInt := i_add (by omega) (by omega) | have b44 := i_bd ((m 94 60) + ((m 102 s.toNatClampNeg) + (1 : Int32)))
          have hV38 : zV (ma_u (zov wr_205 (ma_u (ma_u (ma_u (ma_u m 110 s.toNatClampNeg (1 : Int32)) 119 (m 94 75).toNatClampNeg s) 94 75 ((m 94 75) + (1 : Int32))) 104 s.toNatClampNeg ((m 104 s.toNatClampNeg) + (1 : Int32))) m5) 94 60 ((m 94 60) + ((m 102 s.toNatClampNeg) + (1 : Int32)))) := us_94_60 hV_m5 (by omega) (by omega)
          exact K _ (zF_u (zF_zov (zF_u (zF_u (zF_u (zF_u zF_rfl rfl) rfl) rfl) rfl) ws_205_207) rfl) hV38 p0_m5 (show qYB (m 99) (m 100) (m 98) (m 101) (m 102) AT (m 107) (m 108) (m 109) OW (m 112) (m 113) (m 114) (m 94 55) (m 94 46) ro 0 0 0 1 ((ma_u m 110 s.toNatClampNeg (1 : Int32)) 110) ((ma_u m 119 (m 94 75).toNatClampNeg s) 119) (m 94 76) ((m 94 75) + (1 : Int32)) (m5 103) (m5 111) ((ma_u m 104 s.toNatClampNeg ((m 104 s.toNatClampNeg) + (1 : Int32))) 104) AG (m 94 77) ((m 94 60) + ((m 102 s.toNatClampNeg) + (1 : Int32))) st oo (aCm aa (qNo (m 100) s)) from by first | (have hto := YB_to r_YB (by omega) (by omega) hus (by assumption) r_AX3.2.2.1.symm; have ag1 : ((m 104 s.toNatClampNeg) + (1 : Int32)).toInt = (m 104 s.toNatClampNeg).toInt + 1 := i_p1 (by omega); have hgi := congrArg Int32.toInt ((mu_self (m := m) (c := 104) (k := s.toNatClampNeg) (x := (m 104 s.toNatClampNeg) + (1 : Int32))).symm.trans (by assumption)); have hgg := hto.2.2.1.mpr (by omega); exact YB_push r_YB (by omega) (by omega) hus (by assumption) (fun t => mu_at t) (fun t => mu_at t) (fun t => mu_at t) rfl p1_m5 (fun _ => ⟨rfl, rfl, by omega⟩) (fun z => absurd hgg z); done) | (have hto := YB_to r_YB (by omega) (by omega) hus (by assumption) r_AX3.2.2.1.symm; have ag1 : ((m 104 s.toNatClampNeg) + (1 : Int32)).toInt = (m 104 s.toNatClampNeg).toInt + 1 := i_p1 (by omega); have hgn : ¬ qYg aa (m 100 s.toNatClampNeg).toNatClampNeg := (fun z => (fun z => absurd ((mu_self (m := m) (c := 104) (k := s.toNatClampNeg) (x := (m 104 s.toNatClampNeg) + (1 : Int32))).trans z) (by assumption)) (Int32.toInt_inj.mp (by have := hto.2.2.1.mp z; omega))); exact YB_push r_YB (by omega) (by omega) hus (by assumption) (fun t => mu_at t) (fun t => mu_at t) (fun t => mu_at t) rfl p1_m5 (fun z => absurd z hgn) (fun _ => ⟨rfl, rfl, by omega⟩); done) | (exact r_YB) | (exfalso; omega; done) | (exfalso; contradiction; done))
        · skip
          have g45 := i_ne h27
          have f46 : 0 ≤ (m 94 77).toInt ∧ (m 94 77).toInt ≤ 4600 := rs_94_77 (m := m) hV
          have li48 : (1 : Int32).toInt = 1 := rfl
          have hV47 : zV (ma_u m 110 s.toNatClampNeg (1 : Int32)) := ua_110 hV (by omega) (by omega)
          have hV49 : zV (ma_u (ma_u m 110 s.toNatClampNeg (1 : Int32)) 119 (m 94 75).toNatClampNeg s) := ua_119 hV47 (by omega) (by omega)
          first | have e51 : ((m 94 75) + (1 : Int32)).toInt = (m 94 75).toInt + (1) := i_addk rfl (by omega) (by omega) | have b52 := i_bd ((m 94 75) + (1 : Int32))
          have hV50 : zV (ma_u (ma_u (ma_u m 110 s.toNatClampNeg (1 : Int32)) 119 (m 94 75).toNatClampNeg s) 94 75 ((m 94 75) + (1 : Int32))) := us_94_75 hV49 (by omega) (by omega)
          have hV53 : zV (ma_u (ma_u (ma_u (ma_u m 110 s.toNatClampNeg (1 : Int32)) 119 (m 94 75).toNatClampNeg s) 94 75 ((m 94 75) + (1 : Int32))) 104 s.toNatClampNeg ((m 104 s.toNatClampNeg) + (1 : Int32))) := ua_104 hV50
          try have hus := (U_y r_UQ (by omega)).2
          try have hto := YB_to r_YB (by omega) (by omega) hus (by assumption) r_AX3.2.2.1.symm
          try have ag1 : ((m 104 s.toNatClampNeg) + (1 : Int32)).toInt = (m 104 s.toNatClampNeg).toInt + 1 := i_p1 (by omega)
          try have hgi := congrArg Int32.toInt ((mu_self (m := m) (c := 104) (k := s.toNatClampNeg) (x := (m 104 s.toNatClampNeg) + (1 : Int32))).symm.trans (by assumption))
          try have hgg := hto.2.2.1.mpr (by omega)
          try have hg4 := hto.2.2.2.1 hgg
          try have hgn : ¬ qYg aa (m 100 s.toNatClampNeg).toNatClampNeg := (fun z => (fun z => absurd ((mu_self (m := m) (c := 104) (k := s.toNatClampNeg) (x := (m 104 s.toNatClampNeg) + (1 : Int32))).trans z) (by assumption)) (Int32.toInt_inj.mp (by have := hto.2.2.1.mp z; omega)))
          try have hg5 := hto.2.2.2.2 hgn
          refine sp_205 (s) ((m 94 77)) hV53 (by omega) (by omega) (by omega) (by omega) (show (m 99) s.toNatClampNeg ≠ 0 from by first | (exact hus) | (assumption; done) | (exact ow5.1) | (exact ow3.1) | (exfalso; omega; done) | (exfalso; contradiction; done)) r_OW (fun m3 hV_m3 p0_m3 p1_m3 => zmv_n ?_)
          have p0_m3 : zOw (m 99) (m3 103) (m3 111) := p0_m3
          have p1_m3 : zmov s (m 94 77) (m 103) (m 111) (m3 103) (m3 111) := p1_m3
          try have mvs := mv_s p1_m3
          have hg54 : (0 ≤ s ∧ s.toNatClampNeg < 3100) := i_ix (by omega) (by omega)
          refine ⟨hg54, ?_⟩
          try have hus := (U_y r_UQ (by omega)).2
          try have hto := YB_to r_YB (by omega) (by omega) hus (by assumption) r_AX3.2.2.1.symm
          try have ag1 : ((m 104 s.toNatClampNeg) + (1 : Int32)).toInt = (m 104 s.toNatClampNeg).toInt + 1 := i_p1 (by omega)
          try have hgi := congrArg Int32.toInt ((mu_self (m := m) (c := 104) (k := s.toNatClampNeg) (x := (m 104 s.toNatClampNeg) + (1 : Int32))).symm.trans (by assumption))
          try have hgg := hto.2.2.1.mpr (by omega)
          try have hg4 := hto.2.2.2.1 hgg
          try have hgn : ¬ qYg aa (m 100 s.toNatClampNeg).toNatClampNeg := (fun z => (fun z => absurd ((mu_self (m := m) (c := 104) (k := s.toNatClampNeg) (x := (m 104 s.toNatClampNeg) + (1 : Int32))).trans z) (by assumption)) (Int32.toInt_inj.mp (by have := hto.2.2.1.mp z; omega)))
          try have hg5 := hto.2.2.2.2 hgn
          first | have f56 : 0 ≤ (m 102 s.toNatClampNeg).toInt ∧ (m 102 s.toNatClampNeg).toInt ≤ 60 := ra_102 (m := m) hV (k := s.toNatClampNeg) (i_ix (n := 3100) (by omega) (by omega)).2 | have b57 := i_bd (m 102 s.toNatClampNeg)
          first | have e58 : ((m 102 s.toNatClampNeg) + (1 : Int32)).toInt = (m 102 s.toNatClampNeg).toInt + (1) := i_addk rfl (by omega) (by omega) | have b59 := i_bd ((m 102 s.toNatClampNeg) + (1 : Int32))
          first | have e60 : ((m 94 77) + ((m 102 s.toNatClampNeg) + (1 : Int32))).toInt = (m 94 77).toInt + ((m 102 s.toNatClampNeg) + (1 : Int32)).toInt := i_add (by omega) (by omega) | have b61 := i_bd ((m 94 77) + ((m 102 s.toNatClampNeg) + (1 : Int32)))
          have hV55 : zV (ma_u (zov wr_205 (ma_u (ma_u (ma_u (ma_u m 110 s.toNatClampNeg (1 : Int32)) 119 (m 94 75).toNatClampNeg s) 94 75 ((m 94 75) + (1 : Int32))) 104 s.toNatClampNeg ((m 104 s.toNatClampNeg) + (1 : Int32))) m3) 94 77 ((m 94 77) + ((m 102 s.toNatClampNeg) + (1 : Int32)))) := us_94_77 hV_m3 (by omega) (by omega)
          exact K _ (zF_u (zF_zov (zF_u (zF_u (zF_u (zF_u zF_rfl rfl) rfl) rfl) rfl) ws_205_207) rfl) hV55 p0_m3 (show qYB (m 99) (m 100) (m 98) (m 101) (m 102) AT (m 107) (m 108) (m 109) OW (m 112) (m 113) (m 114) (m 94 55) (m 94 46) ro 0 0 0 1 ((ma_u m 110 s.toNatClampNeg (1 : Int32)) 110) ((ma_u m 119 (m 94 75).toNatClampNeg s) 119) (m 94 76) ((m 94 75) + (1 : Int32)) (m3 103) (m3 111) ((ma_u m 104 s.toNatClampNeg ((m 104 s.toNatClampNeg) + (1 : Int32))) 104) AG ((m 94 77) + ((m 102 s.toNatClampNeg) + (1 : Int32))) (m 94 60) st oo (aCm aa (qNo (m 100) s)) from by first | (have hto := YB_to r_YB (by omega) (by omega) hus (by assumption) r_AX3.2.2.1.symm; have ag1 : ((m 104 s.toNatClampNeg) + (1 : Int32)).toInt = (m 104 s.toNatClampNeg).toInt + 1 := i_p1 (by omega); have hgi := congrArg Int32.toInt ((mu_self (m := m) (c := 104) (k := s.toNatClampNeg) (x := (m 104 s.toNatClampNeg) + (1 : Int32))).symm.trans (by assumption)); have hgg := hto.2.2.1.mpr (by omega); exact YB_push r_YB (by omega) (by omega) hus (by assumption) (fun t => mu_at t) (fun t => mu_at t) (fun t => mu_at t) rfl p1_m3 (fun _ => ⟨rfl, rfl, by omega⟩) (fun z => absurd hgg z); done) | (have hto := YB_to r_YB (by omega) (by omega) hus (by assumption) r_AX3.2.2.1.symm; have ag1 : ((m 104 s.toNatClampNeg) + (1 : Int32)).toInt = (m 104 s.toNatClampNeg).toInt + 1 := i_p1 (by omega); have hgn : ¬ qYg aa (m 100 s.toNatClampNeg).toNatClampNeg := (fun z => (fun z => absurd ((mu_self (m := m) (c := 104) (k := s.toNatClampNeg) (x := (m 104 s.toNatClampNeg) + (1 : Int32))).trans z) (by assumption)) (Int32.toInt_inj.mp (by have := hto.2.2.1.mp z; omega))); exact YB_push r_YB (by omega) (by omega) hus (by assumption) (fun t => mu_at t) (fun t => mu_at t) (fun t => mu_at t) rfl p1_m3 (fun z => absurd z hgn) (fun _ => ⟨rfl, rfl, by omega⟩); done) | (exact r_YB) | (exfalso; omega; done) | (exfalso; contradiction; done))
      · skip
        have g62 := i_ne h16
        exfalso; omega
    · skip
      have g63 := i_ne h10
      try have hus := (U_y r_UQ (by omega)).2
      try have hto := YB_to r_YB (by omega) (by omega) hus (by assumption) r_AX3.2.2.1.symm
      try have ag1 : ((m 104 s.toNatClampNeg) + (1 : Int32)).toInt = (m 104 s.toNatClampNeg).toInt + 1 := i_p1 (by omega)
      try have hgi := congrArg Int32.toInt ((mu_self (m := m) (c := 104) (k := s.toNatClampNeg) (x := (m 104 s.toNatClampNeg) + (1 : Int32))).symm.trans (by assumption))
      try have hgg := hto.2.2.1.mpr (by omega)
      try have hg4 := hto.2.2.2.1 hgg
      try have hgn : ¬ qYg aa (m 100 s.toNatClampNeg).toNatClampNeg := (fun z => (fun z => absurd ((mu_self (m := m) (c := 104) (k := s.toNatClampNeg) (x := (m 104 s.toNatClampNeg) + (1 : Int32))).trans z) (by assumption)) (Int32.toInt_inj.mp (by have := hto.2.2.1.mp z; omega)))
      try have hg5 := hto.2.2.2.2 hgn
      exact K _ zF_rfl hV r_OW (show qYB (m 99) (m 100) (m 98) (m 101) (m 102) AT (m 107) (m 108) (m 109) OW (m 112) (m 113) (m 114) (m 94 55) (m 94 46) ro 0 0 0 1 (m 110) (m 119) (m 94 76) (m 94 75) (m 103) (m 111) (m 104) AG (m 94 77) (m 94 60) st oo (aCm aa (qNo (m 100) s)) from by first | (exact YB_skip r_YB (Or.inl (by omega))) | (exact YB_skip r_YB (Or.inr ⟨by omega, by omega, (U_y r_UQ (by omega)).2, by assumption⟩)) | (exact r_YB) | (exfalso; omega; done) | (exfalso; contradiction; done))
theorem lp_208ry_33 {X : Nat × (Nat → Int32)} {P : Option ma_V → (Nat → Nat → Int32) → Prop} {aa : Nat→Nat→Int32} {AT : Nat→Int32} {OW : Nat→Int32} {AG : Nat→Int32} {ro : Int32} {st : Int} {oo : Int} {m0 : Nat → Nat → Int32} (h0 : zV m0) (K : ∀ m₉, zF wr_208 m0 m₉ → zV m₉ → (zOw (m₉ 99) (m₉ 103) (m₉ 111)) → (qYB (m₉ 99) (m₉ 100) (m₉ 98) (m₉ 101) (m₉ 102) AT (m₉ 107) (m₉ 108) (m₉ 109) OW (m₉ 112) (m₉ 113) (m₉ 114) (m₉ 94 55) (m₉ 94 46) ro 0 0 0 1 (m₉ 110) (m₉ 119) (m₉ 94 76) (m₉ 94 75) (m₉ 103) (m₉ 111) (m₉ 104) AG (m₉ 94 77) (m₉ 94 60) st oo (aSp 512 aa)) → ((m₉ 94 75).toInt ≤ (m₉ 94 76).toInt) → P none m₉) {n0 : Nat} (OUT0 : ∀ (m₉ : Nat → Nat → Int32) , (3101 - (m₉ 94 76).toInt).toNat < n0 → zF wr_208 m0 m₉ → zV m₉ → ((m₉ 94 10).toInt = 3) → (zW (m₉ 94 7) (m₉ 98) (m₉ 101) (m₉ 102) (m₉ 108)) → (zOw (m₉ 99) (m₉ 103) (m₉ 111)) → (qAX aa (m₉ 94 13) (m₉ 94 14) (m₉ 94 15) (m₉ 94 16)) → (qYS (m₉ 99) (m₉ 100) (m₉ 98) (m₉ 101) (m₉ 102) AT (m₉ 107) (m₉ 108) (m₉ 109) OW (m₉ 112) (m₉ 113) (m₉ 114) (m₉ 94 55) (m₉ 94 46) ro 0 0 0 1 (m₉ 110) (m₉ 119) (m₉ 94 76) (m₉ 94 75) (m₉ 103) (m₉ 111) (m₉ 104) AG (m₉ 94 77) (m₉ 94 60) st oo (aSp 512 aa)) → zm X 3 64 208 0 [(0, .inr (.inr (some 94)))] m₉ P) : ∀ (n : Nat) (m : Nat → Nat → Int32) (l1 : Int32) (l2 : Int32), (61 - l2.toInt).toNat = n → zF wr_208 m0 m → zV m → (0 ≤ l1.toInt) → (l1.toInt ≤ 3099) → (0 ≤ l2.toInt) → ((3101 - (m 94 76).toInt).toNat < n0) → ((m 94 10).toInt = 3) → (zW (m 94 7) (m 98) (m 101) (m 102) (m 108)) → (zOw (m 99) (m 103) (m 111)) → (qAX aa (m 94 13) (m 94 14) (m 94 15) (m 94 16)) → (qYW (m 99) (m 100) (m 98) (m 101) (m 102) AT (m 107) (m 108) (m 109) OW (m 112) (m 113) (m 114) (m 94 55) (m 94 46) ro 0 0 0 1 (m 110) (m 119) (m 94 76) (m 94 75) (m 103) (m 111) (m 104) AG (m 94 77) (m 94 60) st oo l1 l2 (aSp 512 aa)) → zm X 3 64 208 33 [(0, .inr (.inr (some 94))), (1, .inl l1), (2, .inl l2)] m P := by
  intro n
  induction n using Nat.strongRecOn with
  | _ n IH =>
    intro m l1 l2 hmu hF hV hi0 hi1 hi2 hi3 hi4 r_W r_OW r_AX3 r_YW
    refine g_208_33 l1 l2 ?_
    have f1 : 0 ≤ (m 94 76).toInt ∧ (m 94 76).toInt ≤ 3100 := rs_94_76 (m := m) hV
    have f2 : 0 ≤ (m 94 10).toInt ∧ (m 94 10).toInt ≤ 6 := rs_94_10 (m := m) hV
    obtain ⟨c, f, ⟨hB, hT, hf⟩, w0, w3, wu⟩ := r_YW
    have b3 := i_bd l1
    have hg4 : (0 ≤ l1 ∧ l1.toNatClampNeg < 3100) := i_ix (by omega) (by omega)
    refine ⟨hg4, ?_⟩
    first | have f5 : 0 ≤ (m 102 l1.toNatClampNeg).toInt ∧ (m 102 l1.toNatClampNeg).toInt ≤ 60 := ra_102 (m := m) hV (k := l1.toNatClampNeg) (i_ix (n := 3100) (by omega) (by omega)).2 | have b6 := i_bd (m 102 l1.toNatClampNeg)
    have b7 := i_bd l2
    refine zd (fun (h8 : (m 102 l1.toNatClampNeg) ≤ l2) => ?_) (fun (h8 : ¬ (m 102 l1.toNatClampNeg) ≤ l2) => ?_)
    · skip
      have g9 := i_le h8
      exact OUT0 _  (show (3101 - (m 94 76).toInt).toNat < n0 from by omega) hF hV (show (m 94 10).toInt = 3 from by omega) r_W r_OW r_AX3 (show qYS (m 99) (m 100) (m 98) (m 101) (m 102) AT (m 107) (m 108) (m 109) OW (m 112) (m 113) (m 114) (m 94 55) (m 94 46) ro 0 0 0 1 (m 110) (m 119) (m 94 76) (m 94 75) (m 103) (m 111) (m 104) AG (m 94 77) (m 94 60) st oo (aSp 512 aa) from by first | (exact YW_end ⟨c, f, ⟨hB, hT, hf⟩, w0, w3, wu⟩ (by omega) (by omega)) | (exfalso; omega; done) | (exfalso; contradiction; done))
    · skip
      have g10 := i_nle h8
      refine sp_192 (l1) (l2) hV (by omega) (by omega) (by omega) (show l2.toInt < (m 102 l1.toNatClampNeg).toInt from by omega) (fun v2 m1 hV_m1 p0_m1 => zmi_n ?_)
      have p0_m1 : v2 = zrf (m 98) (m 101) (m 108) l1.toNatClampNeg l2.toNatClampNeg := p0_m1
      try have := W_ref r_W (by omega) (by omega) (by omega) (by omega) p0_m1
      have b11 := i_bd v2
      refine sp_207ry (aa := c) (v2) hV_m1 (by omega) (by omega) (show (m 94 10).toInt = 3 from by omega) (show qU (m 99) v2 from by first | (exact (YW_rf hB w0 w3 wu (by omega) (by omega) p0_m1.symm).1) | (exfalso; omega; done) | (exfalso; contradiction; done)) r_OW (show qAX c (m 94 13) (m 94 14) (m 94 15) (m 94 16) from by first | (exact AX_sw r_AX3 hT) | (exact r_AX3) | (exfalso; omega; done) | (exfalso; contradiction; done)) hB (fun m3 hV_m3 p0_m3 p1_m3 => zmv_n ?_)
      have p0_m3 : zOw (m 99) (m3 103) (m3 111) := p0_m3
      have p1_m3 : qYB (m 99) (m 100) (m 98) (m 101) (m 102) AT (m 107) (m 108) (m 109) OW (m 112) (m 113) (m 114) (m 94 55) (m 94 46) ro 0 0 0 1 (m3 110) (m3 119) (m 94 76) (m3 94 75) (m3 103) (m3 111) (m3 104) AG (m3 94 77) (m3 94 60) st oo (aCm c (qNo (m 100) v2)) := p1_m3
      first | have e12 : (l2 + (1 : Int32)).toInt = l2.toInt + (1) := i_addk rfl (by omega) (by omega) | have b13 := i_bd (l2 + (1 : Int32))
      exact IH (61 - (l2 + (1 : Int32)).toInt).toNat (by omega) _ (l1) ((l2 + (1 : Int32))) rfl (zF_zov (zF_zov hF ws_192_208) ws_207_208) hV_m3 (by omega) (by omega) (by omega) (show (3101 - (m 94 76).toInt).toNat < n0 from by omega) (show (m 94 10).toInt = 3 from by omega) r_W p0_m3 r_AX3 (show qYW (m 99) (m 100) (m 98) (m 101) (m 102) AT (m 107) (m 108) (m 109) OW (m 112) (m 113) (m 114) (m 94 55) (m 94 46) ro 0 0 0 1 (m3 110) (m3 119) (m 94 76) (m3 94 75) (m3 103) (m3 111) (m3 104) AG (m3 94 77) (m3 94 60) st oo l1 (l2 + (1 : Int32)) (aSp 512 aa) from by first | (exact ⟨_, f, ⟨p1_m3, (congrArg (aSp f) (YW_rf hB w0 w3 wu (by omega) (by omega) p0_m1.symm).2).symm.trans hT, hf⟩, w0, w3, wu⟩) | (exfalso; omega; done) | (exfalso; contradiction; done))
theorem lp_208ry_0 {X : Nat × (Nat → Int32)} {P : Option ma_V → (Nat → Nat → Int32) → Prop} {aa : Nat→Nat→Int32} {AT : Nat→Int32} {OW : Nat→Int32} {AG : Nat→Int32} {ro : Int32} {st : Int} {oo : Int} {m0 : Nat → Nat → Int32} (h0 : zV m0) (K : ∀ m₉, zF wr_208 m0 m₉ → zV m₉ → (zOw (m₉ 99) (m₉ 103) (m₉ 111)) → (qYB (m₉ 99) (m₉ 100) (m₉ 98) (m₉ 101) (m₉ 102) AT (m₉ 107) (m₉ 108) (m₉ 109) OW (m₉ 112) (m₉ 113) (m₉ 114) (m₉ 94 55) (m₉ 94 46) ro 0 0 0 1 (m₉ 110) (m₉ 119) (m₉ 94 76) (m₉ 94 75) (m₉ 103) (m₉ 111) (m₉ 104) AG (m₉ 94 77) (m₉ 94 60) st oo (aSp 512 aa)) → ((m₉ 94 75).toInt ≤ (m₉ 94 76).toInt) → P none m₉) : ∀ (n : Nat) (m : Nat → Nat → Int32) , (3101 - (m 94 76).toInt).toNat = n → zF wr_208 m0 m → zV m → ((m 94 10).toInt = 3) → (zW (m 94 7) (m 98) (m 101) (m 102) (m 108)) → (zOw (m 99) (m 103) (m 111)) → (qAX aa (m 94 13) (m 94 14) (m 94 15) (m 94 16)) → (qYS (m 99) (m 100) (m 98) (m 101) (m 102) AT (m 107) (m 108) (m 109) OW (m 112) (m 113) (m 114) (m 94 55) (m 94 46) ro 0 0 0 1 (m 110) (m 119) (m 94 76) (m 94 75) (m 103) (m 111) (m 104) AG (m 94 77) (m 94 60) st oo (aSp 512 aa)) → zm X 3 64 208 0 [(0, .inr (.inr (some 94)))] m P := by
  intro n
  induction n using Nat.strongRecOn with
  | _ n IH =>
    intro m  hmu hF hV hi0 r_W r_OW r_AX3 r_YS
    refine g_208_0  ?_
    have f1 : 0 ≤ (m 94 10).toInt ∧ (m 94 10).toInt ≤ 6 := rs_94_10 (m := m) hV
    have f2 : 0 ≤ (m 94 75).toInt ∧ (m 94 75).toInt ≤ 3100 := rs_94_75 (m := m) hV
    have f3 : 0 ≤ (m 94 76).toInt ∧ (m 94 76).toInt ≤ 3100 := rs_94_76 (m := m) hV
    refine zd (fun (h4 : (m 94 75) ≤ (m 94 76)) => ?_) (fun (h4 : ¬ (m 94 75) ≤ (m 94 76)) => ?_)
    · skip
      have g5 := i_le h4
      try have hb := YS_b r_YS
      exact K _ hF hV r_OW (show qYB (m 99) (m 100) (m 98) (m 101) (m 102) AT (m 107) (m 108) (m 109) OW (m 112) (m 113) (m 114) (m 94 55) (m 94 46) ro 0 0 0 1 (m 110) (m 119) (m 94 76) (m 94 75) (m 103) (m 111) (m 104) AG (m 94 77) (m 94 60) st oo (aSp 512 aa) from by first | (exact YS_end r_YS (by omega)) | (exfalso; omega; done) | (exfalso; contradiction; done)) (show (m 94 75).toInt ≤ (m 94 76).toInt from by omega)
    · skip
      have g6 := i_nle h4
      try have hb := YS_b r_YS
      have hg7 : (0 ≤ (m 94 76) ∧ (m 94 76).toNatClampNeg < 3100) := i_ix (by omega) (by omega)
      refine ⟨hg7, ?_⟩
      try have hb := YS_b r_YS
      first | have e9 : ((m 94 76) + (1 : Int32)).toInt = (m 94 76).toInt + (1) := i_addk rfl (by omega) (by omega) | have b10 := i_bd ((m 94 76) + (1 : Int32))
      have hV8 : zV (ma_u m 94 76 ((m 94 76) + (1 : Int32))) := us_94_76 hV (by omega) (by omega)
      first | have f11 : 0 ≤ (m 119 (m 94 76).toNatClampNeg).toInt ∧ (m 119 (m 94 76).toNatClampNeg).toInt ≤ 3099 := ra_119 (m := m) hV (k := (m 94 76).toNatClampNeg) (i_ix (n := 3100) (by omega) (by omega)).2 | have b12 := i_bd (m 119 (m 94 76).toNatClampNeg)
      have li13 : (0 : Int32).toInt = 0 := rfl
      exact lp_208ry_33 h0 K (fun _  z1 z2 z3 y0 y1 y2 y3 y4 => IH _ z1 _  rfl z2 z3 y0 y1 y2 y3 y4) _ _ ((m 119 (m 94 76).toNatClampNeg)) ((0 : Int32)) rfl (zF_u hF rfl) hV8 (by omega) (by omega) (by omega) (show (3101 - ((m 94 76) + (1 : Int32)).toInt).toNat < n from by omega) (show (m 94 10).toInt = 3 from by omega) r_W r_OW r_AX3 (show qYW (m 99) (m 100) (m 98) (m 101) (m 102) AT (m 107) (m 108) (m 109) OW (m 112) (m 113) (m 114) (m 94 55) (m 94 46) ro 0 0 0 1 (m 110) (m 119) ((m 94 76) + (1 : Int32)) (m 94 75) (m 103) (m 111) (m 104) AG (m 94 77) (m 94 60) st oo (m 119 (m 94 76).toNatClampNeg) (0 : Int32) (aSp 512 aa) from by first | (exact YS_go r_YS (by omega) rfl rfl) | (exfalso; omega; done) | (exfalso; contradiction; done))
theorem sp_208ry {X : Nat × (Nat → Int32)} {P : Option ma_V → (Nat → Nat → Int32) → Prop} {aa : Nat→Nat→Int32} {AT : Nat→Int32} {OW : Nat→Int32} {AG : Nat→Int32} {ro : Int32} {st : Int} {oo : Int} {m : Nat → Nat → Int32}  (hV : zV m) (hpre0 : (m 94 10).toInt = 3) (r_W : zW (m 94 7) (m 98) (m 101) (m 102) (m 108)) (r_OW : zOw (m 99) (m 103) (m 111)) (r_AX3 : qAX aa (m 94 13) (m 94 14) (m 94 15) (m 94 16)) (r_YB : qYB (m 99) (m 100) (m 98) (m 101) (m 102) AT (m 107) (m 108) (m 109) OW (m 112) (m 113) (m 114) (m 94 55) (m 94 46) ro 0 0 0 1 (m 110) (m 119) (m 94 76) (m 94 75) (m 103) (m 111) (m 104) AG (m 94 77) (m 94 60) st oo aa) (KZ : ∀ m₉, zV (zov wr_208 m m₉) → (zOw (m 99) (m₉ 103) (m₉ 111)) → (qYB (m 99) (m 100) (m 98) (m 101) (m 102) AT (m 107) (m 108) (m 109) OW (m 112) (m 113) (m 114) (m 94 55) (m 94 46) ro 0 0 0 1 (m₉ 110) (m₉ 119) (m₉ 94 76) (m₉ 94 75) (m₉ 103) (m₉ 111) (m₉ 104) AG (m₉ 94 77) (m₉ 94 60) st oo (aSp 512 aa)) → ((m₉ 94 75).toInt ≤ (m₉ 94 76).toInt) → P none (zov wr_208 m m₉)) : zm X 3 64 208 0 [(0, .inr (.inr (some 94)))] m P := by
  have K : ∀ m₉, zF wr_208 m m₉ → zV m₉ → (zOw (m₉ 99) (m₉ 103) (m₉ 111)) → (qYB (m₉ 99) (m₉ 100) (m₉ 98) (m₉ 101) (m₉ 102) AT (m₉ 107) (m₉ 108) (m₉ 109) OW (m₉ 112) (m₉ 113) (m₉ 114) (m₉ 94 55) (m₉ 94 46) ro 0 0 0 1 (m₉ 110) (m₉ 119) (m₉ 94 76) (m₉ 94 75) (m₉ 103) (m₉ 111) (m₉ 104) AG (m₉ 94 77) (m₉ 94 60) st oo (aSp 512 aa)) → ((m₉ 94 75).toInt ≤ (m₉ 94 76).toInt) → P none m₉ := by
    intro m₉ hf z q0 q1 q2
    have e := zov_eq hf
    rw [e] at z ⊢
    try rw [e] at q0
    try rw [e] at q1
    try rw [e] at q2
    exact KZ m₉ z q0 q1 q2
  have f1 : 0 ≤ (m 94 10).toInt ∧ (m 94 10).toInt ≤ 6 := rs_94_10 (m := m) hV
  have f2 : 0 ≤ (m 94 76).toInt ∧ (m 94 76).toInt ≤ 3100 := rs_94_76 (m := m) hV
  exact lp_208ry_0 hV K _ _  rfl zF_rfl hV (show (m 94 10).toInt = 3 from by omega) r_W r_OW r_AX3 (show qYS (m 99) (m 100) (m 98) (m 101) (m 102) AT (m 107) (m 108) (m 109) OW (m 112) (m 113) (m 114) (m 94 55) (m 94 46) ro 0 0 0 1 (m 110) (m 119) (m 94 76) (m 94 75) (m 103) (m 111) (m 104) AG (m 94 77) (m 94 60) st oo (aSp 512 aa) from by first | (exact YS_0 r_YB) | (exfalso; omega; done) | (exfalso; contradiction; done))

