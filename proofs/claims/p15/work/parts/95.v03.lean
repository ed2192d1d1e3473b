/-! AGES, the reference (written by wip/tools/gen15v.py) -/
/-! AGES, the reference: its fields, ages, what grows OLD, dirty cards found, the major cleaning -/
def qAL (a : Nat → Nat → Int32) (yo ol ag cd tp ot hf : Int32) : Prop := (a 87 5 = yo ∧ a 87 9 = ol ∧ a 87 11 = ag ∧ a 87 12 = cd) ∧ a 87 4 = tp ∧ a 87 10 = ot ∧ (hf.toInt = 0 ∨ hf.toInt = 1) ∧ (hf.toInt = 0 → (a 87 3).toInt = ol.toInt) ∧ (hf.toInt = 1 → (a 87 3).toInt = ol.toInt + yo.toInt)
def qAg (us nr gs : Nat → Int32) (a : Nat → Nat → Int32) : Prop := ∀ s, s < 3100 → us s ≠ 0 → gs s = a 131 (nr s).toNatClampNeg
/-- the word i of s, an OLD one's, refers to a YOUNG one and lies on card k -/
def qDs (us ws at' kr kd wd : Nat → Int32) (ol cd : Int32) (s i k : Nat) : Prop := us s ≠ 0 ∧ (at' s).toInt < ol.toInt ∧ (i : Int) < (ws s).toInt ∧ 0 ≤ (zrf kr kd wd s i).toInt ∧ ol.toInt ≤ (at' (zrf kr kd wd s i).toNatClampNeg).toInt ∧ ((at' s).toInt + 1 + (i : Int)) / cd.toInt = (k : Int)
def qDo (us ws at' kr kd wd : Nat → Int32) (ol cd : Int32) (dt : Nat → Int32) (l : Nat) : Prop := ∀ k, k < 512 → (dt k ≠ 0 ↔ ∃ s i, s < l ∧ qDs us ws at' kr kd wd ol cd s i k)
def qDj (us ws at' kr kd wd : Nat → Int32) (ol cd : Int32) (dt : Nat → Int32) (l j : Nat) : Prop := ∀ k, k < 512 → (dt k ≠ 0 ↔ (∃ s i, s < l ∧ qDs us ws at' kr kd wd ol cd s i k) ∨ ∃ i, i < j ∧ qDs us ws at' kr kd wd ol cd l i k)
section F34
variable {a b c d aa : Nat → Nat → Int32} {us us' nr kr kd ws at' at2 gs ho wd wi ow ow2 rt wk wl dt dt2 : Nat → Int32} {wm nu ro fo le ra pi yo ol ag cd tp ot ot2 hf x x2 v : Int32} {F G : Nat → Int} {j j2 k n l l2 : Nat}
theorem Sl_sum (h : qR1 us nr ws at' ho a) (F : Nat → Int) : ∀ N : Nat, N ≤ 512 → zsg (fun s => if us s ≠ 0 ∧ (nr s).toInt < (N : Int) then F (nr s).toNatClampNeg else 0) 3100 = zsg (fun n => if a 126 n ≠ 0 then F n else 0) N := by
  intro N
  induction N with
  | zero =>
    intro _
    refine sg_0 _ (fun k hk => if_neg (fun z => ?_))
    have q := (h.1 k hk z.1).1
    omega
  | succ N ih =>
    intro hN
    have e : zsg (fun s => if us s ≠ 0 ∧ (nr s).toInt < ((N + 1 : Nat) : Int) then F (nr s).toNatClampNeg else 0) 3100 = zsg (fun s => (if us s ≠ 0 ∧ (nr s).toInt < (N : Int) then F (nr s).toNatClampNeg else 0) + (if us s ≠ 0 ∧ (nr s).toInt = (N : Int) then F (nr s).toNatClampNeg else 0)) 3100 := by
      refine sg_cg _ (fun k hk => ?_)
      by_cases c1 : us k ≠ 0 ∧ (nr k).toInt < (N : Int)
      · rw [if_pos ⟨c1.1, by omega⟩, if_pos c1, if_neg (fun z => by omega), Int.add_zero]
      · rw [if_neg c1, Int.zero_add]
        by_cases c2 : us k ≠ 0 ∧ (nr k).toInt = (N : Int)
        · rw [if_pos ⟨c2.1, by omega⟩, if_pos c2]
        · rw [if_neg (fun z => ?_), if_neg c2]
          by_cases c3 : (nr k).toInt = (N : Int)
          · exact c2 ⟨z.1, c3⟩
          · exact c1 ⟨z.1, by omega⟩
    have key : zsg (fun s => if us s ≠ 0 ∧ (nr s).toInt = (N : Int) then F (nr s).toNatClampNeg else 0) 3100 = if a 126 N ≠ 0 then F N else 0 := by
      by_cases w : a 126 N ≠ 0
      · obtain ⟨s, h1, h2, h3⟩ := h.2.2 N (by omega) w
        have nn : (nr s).toInt = (N : Int) := by
          rw [h3]
          exact Int32.toInt_ofNat_of_lt (by omega)
        have tn : (nr s).toNatClampNeg = N := by
          have := tn_cast (x := nr s) (by omega)
          omega
        rw [if_pos w, sg_1 3100 s h1 (fun j hj hne => if_neg (fun z => ?_)), if_pos ⟨h2, nn⟩, tn]
        exact hne (h.2.1 j s hj h1 z.1 h2 (Int32.toInt_inj.mp (by rw [z.2, nn])))
      · rw [if_neg w]
        refine sg_0 _ (fun s hk => if_neg (fun z => w ?_))
        have q := h.1 s hk z.1
        have tn : (nr s).toNatClampNeg = N := by
          have := tn_cast (x := nr s) (by omega)
          omega
        rw [tn] at q
        exact q.2.1
    have e9 : zsg (fun n => if a 126 n ≠ 0 then F n else 0) (N + 1) = zsg (fun n => if a 126 n ≠ 0 then F n else 0) N + (if a 126 N ≠ 0 then F N else 0) := rfl
    rw [e, sg_ad, key, ih (by omega), e9]
theorem sm_sg {bb : Nat → Bool} : ∀ n, sm bb ws n = zsg (fun s => if bb s = true then (ws s).toInt + 1 else 0) n := by
  intro n
  induction n with
  | zero => rfl
  | succ n ih =>
    show sm bb ws n + _ = zsg _ n + _
    rw [ih]
theorem OF_e (hR : qR1 us nr ws at' ho a) (hv : qAv a) (hL : qAL a yo ol ag cd tp ot hf) (hg : qAg us nr gs a) : sm (zbG us at' ol gs ag) ws 3100 = gGr a 512 := by
  have s := Sl_sum hR (fun n => if (a 87 9).toInt ≤ (a 130 n).toInt ∧ (a 87 11).toInt ≤ (a 131 n).toInt + 1 then (a 128 n).toInt else 0) 512 (Nat.le_refl _)
  have e1 : gGr a 512 = zsg (fun n => if a 126 n ≠ 0 then (if (a 87 9).toInt ≤ (a 130 n).toInt ∧ (a 87 11).toInt ≤ (a 131 n).toInt + 1 then (a 128 n).toInt else 0) else 0) 512 := by
    rw [Gr_sg]
    refine sg_cg _ (fun n hn => ?_)
    by_cases w : a 126 n ≠ 0
    · rw [if_pos w]
      by_cases v : (a 87 9).toInt ≤ (a 130 n).toInt ∧ (a 87 11).toInt ≤ (a 131 n).toInt + 1
      · rw [if_pos v, if_pos ⟨w, v⟩]
      · rw [if_neg v, if_neg (fun z => v z.2)]
    · rw [if_neg w, if_neg (fun z => w z.1)]
  rw [e1, ← s, sm_sg]
  refine sg_cg _ (fun k hk => ?_)
  by_cases u : us k ≠ 0
  · have q := hR.1 k hk u
    have al := R1_al hR hk u
    have a1 := (Av_0 hv).2.2.2.2.2.2 _ al
    have a3 := (Av_0 hv).2.2.1
    have g := hg k hk u
    have n5 := q.1.2
    rw [if_pos (show us k ≠ 0 ∧ (nr k).toInt < ((512 : Nat) : Int) from ⟨u, by omega⟩)]
    have sz : (a 128 (nr k).toNatClampNeg).toInt = (ws k).toInt + 1 := by
      rw [q.2.2.1]
      exact i_addk rfl (by have := q.2.2.2.2.2.1; omega) (by have := q.2.2.2.2.2.1; omega)
    have e2 : (a 131 (nr k).toNatClampNeg + (1 : Int32)).toInt = (a 131 (nr k).toNatClampNeg).toInt + 1 := i_p1 (by have := a1.1; omega)
    have iff : zbG us at' ol gs ag k = true ↔ (a 87 9).toInt ≤ (a 130 (nr k).toNatClampNeg).toInt ∧ (a 87 11).toInt ≤ (a 131 (nr k).toNatClampNeg).toInt + 1 := by
      unfold zbG
      rw [decide_eq_true_iff, ← hL.1.2.1, ← hL.1.2.2.1, g, ← q.2.2.2.1]
      refine ⟨fun z => ⟨z.2.1, ?_⟩, fun z => ⟨u, z.1, ?_⟩⟩
      · have := congrArg Int32.toInt z.2.2
        omega
      · have := (a1.2.2 z.1).2.1
        exact Int32.toInt_inj.mp (by omega)
    by_cases w : zbG us at' ol gs ag k = true
    · rw [if_pos w, if_pos (iff.mp w), sz]
    · rw [if_neg w, if_neg (fun z => w (iff.mpr z))]
  · rw [if_neg (show ¬ zbG us at' ol gs ag k = true from fun z => by
      unfold zbG at z
      rw [decide_eq_true_iff] at z
      exact u z.1), if_neg (fun z => u z.1)]
theorem OF_y (hR : qR1 us nr ws at' ho a) (hv : qAv a) (hL : qAL a yo ol ag cd tp ot hf) (hg : qAg us nr gs a) {y : Int} (h : y = sm (zbG us at' ol gs ag) ws 3100) : gFu a ↔ ol.toInt - ot.toInt < y := by
  unfold gFu
  rw [h, OF_e hR hv hL hg, hL.1.2.1, hL.2.2.1]
  omega
/-! dirty cards -/
theorem gWk_i : ∀ m : Nat, gWk a k n m ≠ 0 ↔ ∃ i : Nat, i < m ∧ gRw a n (Int32.ofNat i) ∧ 0 < (a 87 12).toInt ∧ gCx a n (i : Int) = (k : Int) := by
  intro m
  induction m with
  | zero => exact ⟨fun z => absurd rfl z, fun z => by obtain ⟨i, hi, _⟩ := z; omega⟩
  | succ m ih =>
    show (if _ then (1 : Int32) else gWk a k n m) ≠ 0 ↔ _
    by_cases w : (0 ≤ (aRef a n (Int32.ofNat m)).toInt ∧ (aRef a n (Int32.ofNat m)).toInt < 512 ∧ a 126 (aRef a n (Int32.ofNat m)).toNatClampNeg ≠ 0 ∧ (a 87 9).toInt ≤ (a 130 (aRef a n (Int32.ofNat m)).toNatClampNeg).toInt) ∧ 0 < (a 87 12).toInt ∧ gCx a n (m : Int) = (k : Int)
    · rw [if_pos w]
      exact ⟨fun _ => ⟨m, by omega, w.1, w.2⟩, fun _ => by decide⟩
    · rw [if_neg w, ih]
      refine ⟨fun ⟨i, h1, h2⟩ => ⟨i, by omega, h2⟩, fun ⟨i, h1, h2⟩ => ⟨i, ?_, h2⟩⟩
      by_cases z : i = m
      · rw [z] at h2
        exact absurd h2 w
      · omega
theorem gNk_i : ∀ N : Nat, gNk a k N ≠ 0 ↔ ∃ n : Nat, n < N ∧ (a 126 n ≠ 0 ∧ (a 130 n).toInt < (a 87 9).toInt) ∧ ∃ i : Nat, i < ((a 128 n).toInt - 1).toNat ∧ gRw a n (Int32.ofNat i) ∧ 0 < (a 87 12).toInt ∧ gCx a n (i : Int) = (k : Int) := by
  intro N
  induction N with
  | zero => exact ⟨fun z => absurd rfl z, fun z => by obtain ⟨i, hi, _⟩ := z; omega⟩
  | succ N ih =>
    show (if (a 126 N ≠ 0 ∧ (a 130 N).toInt < (a 87 9).toInt) ∧ gWk a k N ((a 128 N).toInt - 1).toNat ≠ 0 then (1 : Int32) else gNk a k N) ≠ 0 ↔ _
    by_cases w : (a 126 N ≠ 0 ∧ (a 130 N).toInt < (a 87 9).toInt) ∧ gWk a k N ((a 128 N).toInt - 1).toNat ≠ 0
    · rw [if_pos w]
      exact ⟨fun _ => ⟨N, by omega, w.1, (gWk_i _).mp w.2⟩, fun _ => by decide⟩
    · rw [if_neg w, ih]
      refine ⟨fun ⟨i, h1, h2⟩ => ⟨i, by omega, h2⟩, fun ⟨i, h1, h2⟩ => ⟨i, ?_, h2⟩⟩
      by_cases z : i = N
      · rw [z] at h2
        exact absurd ⟨h2.1, (gWk_i _).mpr h2.2⟩ w
      · omega
theorem Do_0 (h : ∀ k, k < 512 → dt k = 0) : qDo us ws at' kr kd wd ol cd dt 0 := fun k hk => ⟨fun z => absurd (h k hk) z, fun ⟨_, _, z, _⟩ => by omega⟩
theorem Do_sk (h : qDo us ws at' kr kd wd ol cd dt l) (hn : us l = 0 ∨ ol.toInt ≤ (at' l).toInt) (e : l2 = l + 1) : qDo us ws at' kr kd wd ol cd dt l2 := fun k hk => by
  rw [h k hk, e]
  refine ⟨fun ⟨s, i, h1, h2⟩ => ⟨s, i, by omega, h2⟩, fun ⟨s, i, h1, h2⟩ => ⟨s, i, ?_, h2⟩⟩
  by_cases z : s = l
  · rw [z] at h2
    rcases hn with w | w
    · exact absurd w h2.1
    · have := h2.2.1
      omega
  · omega
theorem Dj_0 (h : qDo us ws at' kr kd wd ol cd dt l) : qDj us ws at' kr kd wd ol cd dt l 0 := fun k hk => (h k hk).trans ⟨Or.inl, fun z => z.elim id (fun ⟨_, w, _⟩ => by omega)⟩
theorem Dj_no (h : qDj us ws at' kr kd wd ol cd dt l j) (hn : (zrf kr kd wd l j).toInt < 0 ∨ (at' (zrf kr kd wd l j).toNatClampNeg).toInt < ol.toInt) (e : j2 = j + 1) : qDj us ws at' kr kd wd ol cd dt l j2 := fun k hk => by
  rw [h k hk, e]
  refine or_congr Iff.rfl ⟨fun ⟨i, h1, h2⟩ => ⟨i, by omega, h2⟩, fun ⟨i, h1, h2⟩ => ⟨i, ?_, h2⟩⟩
  by_cases z : i = j
  · rw [z] at h2
    have h3 := h2.2.2.2.1
    have h4 := h2.2.2.2.2.1
    omega
  · omega
theorem Dj_ye (h : qDj us ws at' kr kd wd ol cd dt l j) (h1 : us l ≠ 0) (h2 : (at' l).toInt < ol.toInt) (h3 : (j : Int) < (ws l).toInt) (h4 : 0 ≤ (zrf kr kd wd l j).toInt) (h5 : ol.toInt ≤ (at' (zrf kr kd wd l j).toNatClampNeg).toInt) (h6 : ((at' l).toInt + 1 + (j : Int)) / cd.toInt = (n : Int)) (hd : ∀ k, dt2 k = if k = n then 1 else dt k) (e : j2 = j + 1) : qDj us ws at' kr kd wd ol cd dt2 l j2 := fun k hk => by
  have ds : qDs us ws at' kr kd wd ol cd l j n := ⟨h1, h2, h3, h4, h5, h6⟩
  rw [hd k, e]
  by_cases w : k = n
  · rw [if_pos w, w]
    exact ⟨fun _ => Or.inr ⟨j, by omega, ds⟩, fun _ => by decide⟩
  · rw [if_neg w, h k hk]
    refine or_congr Iff.rfl ⟨fun ⟨i, h1, h2⟩ => ⟨i, by omega, h2⟩, fun ⟨i, h7, h8⟩ => ⟨i, ?_, h8⟩⟩
    by_cases z : i = j
    · rw [z] at h8
      have h9 := h8.2.2.2.2.2
      omega
    · omega
theorem Dj_e (h : qDj us ws at' kr kd wd ol cd dt l j) (hj : ¬ (j : Int) < (ws l).toInt) (e : l2 = l + 1) : qDo us ws at' kr kd wd ol cd dt l2 := fun k hk => by
  rw [h k hk, e]
  refine ⟨fun z => ?_, fun ⟨s, i, h1, h2⟩ => ?_⟩
  · rcases z with ⟨s, i, h1, h2⟩ | ⟨i, h1, h2⟩
    · exact ⟨s, i, by omega, h2⟩
    · exact ⟨l, i, by omega, h2⟩
  · by_cases z : s = l
    · rw [z] at h2
      exact Or.inr ⟨i, by have := h2.2.2.1; omega, h2⟩
    · exact Or.inl ⟨s, i, by omega, h2⟩
theorem Do_end (h : qDo us ws at' kr kd wd ol cd dt 3100) (hR : qRB us nr kr kd ws at' ho wd wi ow rt wk wl wm nu ro fo le ra pi a) (h9 : a 87 9 = ol) (h12 : a 87 12 = cd) (hc : 4 ≤ cd.toInt) : qDt dt (gFd a) := fun k hk => by
  have e : gFd a 83 k = gNk a k 512 := if_pos ⟨rfl, hk⟩
  rw [e, h k (by omega), gNk_i]
  constructor
  · rintro ⟨s, i, hs, u, o, iw, r0, ry, cx⟩
    have q := hR.1.1 s hs u
    have al := R1_al hR.1 hs u
    have rr := hR.2.1 s hs u i iw
    have sz : (a 128 (nr s).toNatClampNeg).toInt = (ws s).toInt + 1 := by
      rw [q.2.2.1]
      exact i_addk rfl (by have := q.2.2.2.2.2.1; omega) (by have := q.2.2.2.2.2.1; omega)
    have ut := U_y rr.1 r0
    have tl := tn_lt r0 ut.1
    have t := hR.1.1 _ tl ut.2
    have e2 := rr.2.1
    rw [No_y r0] at e2
    refine ⟨(nr s).toNatClampNeg, al.1, ⟨al.2, by rw [q.2.2.2.1, h9]; exact o⟩, i, by omega, ?_, by rw [h12]; omega, ?_⟩
    · unfold gRw
      rw [e2]
      exact ⟨t.1.1, t.1.2, t.2.1, by rw [t.2.2.2.1, h9]; exact ry⟩
    · unfold gCx
      rw [q.2.2.2.1, h12]
      exact cx
  · rintro ⟨n, hn, ⟨a1, a2⟩, i, iw, rw1, c0, cx⟩
    obtain ⟨s, hs, u, e1⟩ := R1_ex hR.1 ⟨hn, a1⟩
    have q := hR.1.1 s hs u
    rw [e1] at q
    have sz : (a 128 n).toInt = (ws s).toInt + 1 := by
      rw [q.2.2.1]
      exact i_addk rfl (by have := q.2.2.2.2.2.1; omega) (by have := q.2.2.2.2.2.1; omega)
    have rr := hR.2.1 s hs u i (by omega)
    rw [e1] at rr
    have r0 : 0 ≤ (zrf kr kd wd s i).toInt := by
      by_cases z : (zrf kr kd wd s i).toInt < 0
      · have e2 := rr.2.1
        rw [No_n z] at e2
        have w := rw1.1
        rw [e2] at w
        exact absurd w (by decide)
      · omega
    have ut := U_y rr.1 r0
    have tl := tn_lt r0 ut.1
    have t := hR.1.1 _ tl ut.2
    have e2 := rr.2.1
    rw [No_y r0] at e2
    refine ⟨s, i, hs, u, by rw [← q.2.2.2.1, ← h9]; exact a2, by omega, r0, ?_, ?_⟩
    · have w := rw1.2.2.2
      rw [e2, t.2.2.2.1, h9] at w
      exact w
    · unfold gCx at cx
      rw [q.2.2.2.1, h12] at cx
      exact cx
/-! rows -/
theorem RB_83 (h : qRB us nr kr kd ws at' ho wd wi ow rt wk wl wm nu ro fo le ra pi a) (e : ∀ c, c ≠ 83 → b c = a c) : qRB us nr kr kd ws at' ho wd wi ow rt wk wl wm nu ro fo le ra pi b := by
  have rf : ∀ n i, aRef b n i = aRef a n i := fun n i => rf_cg (e _ (by omega)) (e _ (by decide)) (e _ (by decide))
  obtain ⟨h1, h2, h3, h4, h5, h6, h7, h8⟩ := h
  refine ⟨?_, fun s hs hu i hi => ?_, ?_, ?_, ?_, ?_, h7, ?_⟩
  · unfold qR1 at h1 ⊢
    rw [e 126 (by decide), e 128 (by decide), e 130 (by decide), e 133 (by decide)]
    exact h1
  · rw [rf, e (1000 + (nr s).toNatClampNeg) (by omega)]
    exact h2 s hs hu i hi
  · unfold qR3 at h3 ⊢
    rw [e 72 (by decide)]
    exact h3
  · unfold qR3 at h4 ⊢
    rw [e 73 (by decide)]
    exact h4
  · unfold qR5 at h5 ⊢
    rw [e 69 (by decide), e 74 (by decide)]
    exact h5
  · unfold qR6 at h6 ⊢
    rw [e 134 (by decide)]
    exact h6
  · unfold qR8 at h8 ⊢
    rw [e 69 (by decide), e 87 (by decide)]
    exact h8
theorem RB_fd (h : qRB us nr kr kd ws at' ho wd wi ow rt wk wl wm nu ro fo le ra pi a) : qRB us nr kr kd ws at' ho wd wi ow rt wk wl wm nu ro fo le ra pi (gFd a) := RB_83 h (fun c hc => Fd_r hc)
theorem Ma_rw (h1 : n ≠ 83) (h2 : n ≠ 71) (h3 : n ≠ 130) (h4 : n ≠ 87) : gMa a n = aSw a n := funext (fun k => by
  show gFd _ n k = _
  rw [Fd_r h1, ma_u_ne _ _ _ h4]
  exact Sf_r h2 h3 _ _ _ _)
theorem Ma_87 (h : k ≠ 10) : gMa a 87 k = a 87 k := by
  show gFd _ 87 k = _
  rw [Fd_r (by decide), xu_o (fun z => h z.2)]
  exact (Sf_r (by decide) (by decide) _ _ _ _).trans sw_87
theorem Ag_ma (hg : qAg us nr gs a) (hv : qAv a) (hR : qR1 us' nr ws at' ho (gMa a)) (hu : ∀ s, s < 3100 → us' s ≠ 0 → us s ≠ 0) : qAg us' nr gs (gMa a) := fun s hs u => by
  have al := R1_al hR hs u
  have al2 : xAl (aSw a) (nr s).toNatClampNeg := by
    unfold xAl at al ⊢
    rw [Ma_rw (by decide) (by decide) (by decide) (by decide)] at al
    exact al
  rw [Ma_rw (by decide) (by decide) (by decide) (by decide), sw_f hv.1 al2 (by decide) (by decide) (by decide)]
  exact hg s hs (hu s hs u)
theorem AL_ma (h : qAL a yo ol ag cd tp ot hf) (hv : qAv a) (ho : v.toInt = (gSd a).2) : qAL (gMa a) yo ol ag cd tp v hf := by
  obtain ⟨⟨h1, h2, h3, h4⟩, h5, h6, h7⟩ := h
  have e10 : gMa a 87 10 = v := by
    show gFd _ 87 10 = _
    rw [Fd_r (by decide), xu_s, ← ho, Int32.ofInt_toInt]
  exact ⟨⟨(Ma_87 (by decide)).trans h1, (Ma_87 (by decide)).trans h2, (Ma_87 (by decide)).trans h3, (Ma_87 (by decide)).trans h4⟩, (Ma_87 (by decide)).trans h5, e10, by rw [Ma_87 (by decide)]; exact h7⟩
theorem AL_b (h : qAL a yo ol ag cd tp ot hf) (hv : qAv a) : (0 ≤ yo.toInt ∧ yo.toInt ≤ 1500) ∧ (0 ≤ ol.toInt ∧ ol.toInt ≤ 1500) ∧ (1 ≤ ag.toInt ∧ ag.toInt ≤ 1000) ∧ 4 ≤ cd.toInt ∧ (0 ≤ ot.toInt ∧ ot.toInt ≤ ol.toInt) ∧ (0 ≤ tp.toInt ∧ tp.toInt ≤ 4500) := by
  obtain ⟨⟨h1, h2, h3, h4⟩, h5, h6, h7⟩ := h
  obtain ⟨hI, g2, nm, hs, ht, hO, ha⟩ := Av_0 hv
  rw [← h1, ← h2, ← h3, ← h4, ← h5, ← h6]
  omega
theorem Ma_h (hl : x.toInt = (a 87 9).toInt) (hv : qEq v.toInt (zSd (aSw a) x.toInt 0 0).2) : ma_u (zSd (aSw a) x.toInt 0 0).1 87 10 v = ma_u (gSd a).1 87 10 (Int32.ofInt (gSd a).2) ∧ v.toInt = (gSd a).2 := by
  have e : zSd (aSw a) x.toInt 0 0 = gSd a := by
    unfold gSd
    rw [hl]
  have ve := qE hv
  rw [e] at ve ⊢
  rw [← ve, Int32.ofInt_toInt]
  exact ⟨rfl, rfl⟩
end F34
