/-! from 95.h16 -/
/-! the reference by numbers (written by wip/tools/gen18r.py) -/
/-! SUMS OF WORDS, the end of MARKING -/
section QS
variable {aa a b c T : Nat → Nat → Int32} {us nr kr kd ws at₉ ho wd wi ow rt wk wl kp co gr : Nat → Int32} {wm nu ro fo le ra pi y x i ga gm wt mk : Int32} {n k u s : Nat} {m : Nat → Nat → Int32} {z : Int}
theorem sm_ub : ∀ n, (∀ t, t < n → (ws t).toInt ≤ 60) → ∀ b : Nat → Bool, (∀ t, t < n → 0 ≤ (ws t).toInt) → sm b ws n ≤ 61 * (n : Int) ∧ 0 ≤ sm b ws n := by
  intro n
  induction n with
  | zero => intro _ b _; exact ⟨by show (0 : Int) ≤ _; omega, by show (0 : Int) ≤ 0; omega⟩
  | succ n ih =>
    intro h b h0
    have q := ih (fun t ht => h t (by omega)) b (fun t ht => h0 t (by omega))
    have w := h n (by omega)
    have w0 := h0 n (by omega)
    unfold sm
    split <;> omega
theorem WT_rm (h : wt.toInt = sm (zbU (m 99)) ws 3100) (hs : s < 3100) (hu : m 99 s ≠ 0) (hw : ∀ t, t < 3100 → 0 ≤ (ws t).toInt ∧ (ws t).toInt ≤ 60) : (wt - (ws s + 1)).toInt = sm (zbU (ma_u m 99 s 0 99)) ws 3100 := by
  have o := sm_out (ws := ws) (b := zbU (m 99)) (b₉ := zbU (ma_u m 99 s 0 99)) (n := 3100) hs (decide_eq_true hu) (decide_eq_false (fun w => w mu_self)) (fun t ht e => by unfold zbU; rw [mu_ne e])
  have ub := sm_ub 3100 (fun t ht => (hw t ht).2) (zbU (m 99)) (fun t ht => (hw t ht).1)
  have w := hw s hs
  have e1 : (ws s + 1).toInt = (ws s).toInt + 1 := i_p1 (by omega)
  rw [i_sub (by omega) (by omega)]
  omega
theorem cnt_ex : ∀ n, 0 < cnt us n → ∃ s, s < n ∧ us s ≠ 0 := by
  intro n
  induction n with
  | zero => intro h; exact absurd h (Nat.lt_irrefl 0)
  | succ n ih =>
    intro h
    unfold cnt at h
    by_cases e : us n = 0
    · rw [if_pos e] at h
      obtain ⟨s, h1, h2⟩ := ih (by omega)
      exact ⟨s, by omega, h2⟩
    · exact ⟨n, by omega, e⟩
theorem Su_0 : ∀ n, (∀ x, x < n → a 126 x = 0) → qSu a n = 0 := by
  intro n
  induction n with
  | zero => intro _; rfl
  | succ n ih =>
    intro h
    unfold qSu
    rw [ih (fun x hx => h x (by omega)), if_neg (fun w => w (h n (by omega)))]
    rfl
/-- as many words by slots as by numbers -/
theorem Su_b : ∀ (N : Nat) (us : Nat → Int32) (a : Nat → Nat → Int32), cnt us 3100 = N → (∀ s, s < 3100 → us s ≠ 0 → (0 ≤ (nr s).toInt ∧ (nr s).toInt < 512) ∧ a 126 (nr s).toNatClampNeg ≠ 0 ∧ (a 128 (nr s).toNatClampNeg).toInt = (ws s).toInt + 1) → (∀ s t, s < 3100 → t < 3100 → us s ≠ 0 → us t ≠ 0 → nr s = nr t → s = t) → (∀ n, n < 512 → a 126 n ≠ 0 → ∃ s, s < 3100 ∧ us s ≠ 0 ∧ nr s = Int32.ofNat n) → qSu a 512 = sm (zbU us) ws 3100 := by
  intro N
  induction N with
  | zero =>
    intro us a hc h1 h2 h3
    have no : ∀ s, s < 3100 → us s = 0 := fun s hs => by
      by_cases e : us s = 0
      · exact e
      · have := cnt_pos (r := us) hs e
        omega
    rw [sm_zero (b := zbU us) (ws := ws) (n := 3100) (fun s hs => decide_eq_false (fun w => w (no s hs)))]
    refine Su_0 512 (fun x hx => ?_)
    by_cases e : a 126 x = 0
    · exact e
    · obtain ⟨s, hs, hu, _⟩ := h3 x hx e
      exact absurd (no s hs) hu
  | succ N ih =>
    intro us a hc h1 h2 h3
    obtain ⟨s, hs, hu⟩ := cnt_ex (us := us) 3100 (by omega)
    have q := h1 s hs hu
    have cs := tn_cast q.1.1
    have dn := cnt_dn (m := fun _ => us) (c := 0) (k := s) (n := 3100) hs hu
    have e1 : cnt (ma_u (fun _ => us) 0 s 0 0) 3100 + 1 = cnt us 3100 := dn
    have rd : ∀ t, ma_u (fun _ => us) 0 s 0 0 t = if t = s then 0 else us t := fun t => mu_at t
    have ne : ∀ t, ma_u (fun _ => us) 0 s 0 0 t ≠ 0 → us t ≠ 0 ∧ t ≠ s := fun t ht => by
      rw [rd] at ht
      by_cases e : t = s
      · rw [if_pos e] at ht
        exact absurd rfl ht
      · rw [if_neg e] at ht
        exact ⟨ht, e⟩
    have nn : ∀ t, t < 3100 → us t ≠ 0 → t ≠ s → (nr t).toNatClampNeg ≠ (nr s).toNatClampNeg := fun t ht hv e w => by
      have c2 := tn_cast (h1 t ht hv).1.1
      exact e (h2 t s ht hs hv hu (Int32.toInt_inj.mp (by omega)))
    have zr : ∀ f n, 126 ≤ f → f < 1000 → n ≠ (nr s).toNatClampNeg → zNo a (nr s).toNatClampNeg f n = a f n := fun f n f1 f2 hn => if_neg (by omega)
    have i := ih (ma_u (fun _ => us) 0 s 0 0) (zNo a (nr s).toNatClampNeg) (by omega) (fun t ht hv => by
      have w := ne t hv
      have q2 := h1 t ht w.1
      have n2 := nn t ht w.1 w.2
      rw [zr 126 _ (by decide) (by decide) n2, zr 128 _ (by decide) (by decide) n2]
      exact q2) (fun t r ht hr hv hv2 e => h2 t r ht hr (ne t hv).1 (ne r hv2).1 e) (fun n hn ha => by
      have n2 : n ≠ (nr s).toNatClampNeg := fun w => by
        rw [w] at ha
        unfold zNo at ha
        rw [if_pos (Or.inl ⟨by decide, by decide, rfl⟩)] at ha
        exact absurd rfl ha
      rw [zr 126 _ (by decide) (by decide) n2] at ha
      obtain ⟨t, ht, hv, e⟩ := h3 n hn ha
      refine ⟨t, ht, ?_, e⟩
      rw [rd, if_neg]
      · exact hv
      · intro w
        rw [w] at e
        rw [e, tn_of hn] at n2
        exact n2 rfl)
    have d := Su_dn (a := a) (b := zNo a (nr s).toNatClampNeg) (k := (nr s).toNatClampNeg) (n := 512) (by omega) q.2.1 (by unfold zNo; rw [if_pos (Or.inl ⟨by decide, by decide, rfl⟩)]) (fun x hx hne => ⟨(zr 126 x (by decide) (by decide) hne).symm, (zr 128 x (by decide) (by decide) hne).symm⟩)
    have o := sm_out (ws := ws) (b := zbU us) (b₉ := zbU (ma_u (fun _ => us) 0 s 0 0)) (n := 3100) hs (decide_eq_true hu) (decide_eq_false (fun w => (ne s w).2 rfl)) (fun t ht e => by unfold zbU; rw [rd, if_neg e])
    rw [d] at i
    omega
theorem WT_eq (hR : qRB us nr kr kd ws at₉ ho wd wi ow rt wk wl wm nu ro fo le ra pi a) (hI : qI a) (h : wt.toInt = sm (zbU us) ws 3100) : a 69 8 = wt := by
  have q := Su_b (nr := nr) (ws := ws) _ us a rfl (fun s hs hu => ⟨(hR.1.1 s hs hu).1, (hR.1.1 s hs hu).2.1, by rw [(hR.1.1 s hs hu).2.2.1]; exact i_p1 (by have := (hR.1.1 s hs hu).2.2.2.2.2.1; omega)⟩) hR.1.2.1 hR.1.2.2
  rw [hI.2.2.2.2.1, q, ← h, Int32.ofInt_toInt]
theorem aGf_87 : ∀ (f : Nat) (n : Int32) (a : Nat → Nat → Int32), aGf f n a 87 k = a 87 k := by
  intro f
  induction f with
  | zero => intro n a; rfl
  | succ f ih =>
    intro n a
    show aGf f (n + 1) (if _ then aSp 512 (aCm (aGr a n) n) else a) 87 k = a 87 k
    rw [ih]
    split
    · rw [aSp_o ⟨by decide, by decide, by decide⟩, aCm_o ⟨by decide, by decide, by decide⟩, aGr_o ⟨by decide, by decide, by decide, fun w => absurd w.1 (by decide)⟩]
    · rfl
theorem aMf_87 : ∀ (f : Nat) (n : Int32) (a : Nat → Nat → Int32), aMf f n a 87 k = a 87 k := by
  intro f
  induction f with
  | zero => intro n a; rfl
  | succ f ih =>
    intro n a
    show aMf f (n + 1) (if _ then aRm a n else a) 87 k = a 87 k
    rw [ih]
    split
    · rw [aRm_o (by decide) ⟨by decide, by decide, fun w => absurd w.1 (by decide), fun w => absurd w.1 (by decide)⟩]
    · rfl
theorem Fi_87 : aFi a 87 8 = 0 := by
  unfold aFi aMv
  rw [aMf_87]
  unfold aGw
  rw [aGf_87, xu_s]
theorem Nw_87 : aNw a 87 k = a 87 k := by
  unfold aNw
  split
  · exact aRo_o ⟨by decide, by decide, by decide⟩
  · rfl
theorem Sp_87 : aSp n a 87 k = a 87 k := aSp_o ⟨by decide, by decide, by decide⟩ _ _
theorem B0_87 : aB0 a 87 8 = 1 := by
  have q := B0_of (a := a) 87 8 (by decide) (by decide) (by decide)
  rw [← q, xu_s]
/-! steps as long as there are news -/
theorem sp_fu (h : zWQ a) : ∀ k, 512 ≤ k → aSp k a = aSp 512 a := by
  intro k hk
  have q : ∀ (d j : Nat) (a : Nat → Nat → Int32), ¬ (aSp j a 75 3).toInt < (aSp j a 75 4).toInt → aSp (j + d) a = aSp j a := by
    intro d j
    induction j with
    | zero =>
      intro a hn
      have hn2 : ¬ (a 75 3).toInt < (a 75 4).toInt := hn
      rw [aSp_st (k := 0 + d) (Or.inr hn2)]
      rfl
    | succ j ih =>
      intro a hn
      by_cases hl : (a 75 3).toInt < (a 75 4).toInt
      · rw [aSp_go hl] at hn ⊢
        rw [show j + 1 + d = (j + d) + 1 by omega, aSp_go hl]
        exact ih _ hn
      · rw [aSp_st (Or.inr hl), aSp_st (Or.inr hl)]
  have r := q (k - 512) 512 a (sp_end h)
  rw [show 512 + (k - 512) = k by omega] at r
  exact r
theorem cm_full (h : ∀ x, x < 512 → a 77 x ≠ 0) : ∀ y, aCm a y = a := fun y => aCm_n (fun w => by
  have c := tn_cast w.1
  have w2 := w.2.1
  exact h y.toNatClampNeg (by omega) w.2.2.2.2.2)
theorem ro_full (h : ∀ y, aCm a y = a) : aRo a 0 = a := by
  have hf : ∀ (f : Nat) (n : Int32), aHf f n a = a := by
    intro f
    induction f with
    | zero => intro n; rfl
    | succ f ih =>
      intro n
      show aHf f (n + 1) (if _ then aCm a n else a) = a
      rw [h, ite_self]
      exact ih _
  have wf : ∀ (f : Nat) (n : Int32), aWf f n a = a := by
    intro f
    induction f with
    | zero => intro n; exact hf _ _
    | succ f ih =>
      intro n
      show aWf f (n + 1) (aCm a _) = a
      rw [h]
      exact ih _
  have rf : ∀ (f : Nat) (n : Int32), aRf f n a = a := by
    intro f
    induction f with
    | zero => intro n; exact wf _ _
    | succ f ih =>
      intro n
      show aRf f (n + 1) (aCm a _) = a
      rw [h]
      exact ih _
  exact rf _ _
theorem nw_full (h : zWQ a) (h5 : 512 ≤ (a 75 3).toInt) : aNw a = a := by
  have c : cnt (a 77) 512 ≤ 512 := cnt_le
  have q := h.1.2.1
  have q2 := h.1.2.2
  have al : ∀ x, x < 512 → a 77 x ≠ 0 := fun x hx w => by
    have := cnt_lt (r := a 77) hx w
    omega
  unfold aNw
  split
  · exact ro_full (cm_full al)
  · rfl
theorem nw_wq (h : zWQ a) (h6 : (a 69 6).toInt ≤ 512) (h5 : (a 69 5).toInt ≤ 512) : zWQ (aNw a) ∧ zOf a (aNw a) ∧ aNw a 75 3 = a 75 3 := by
  unfold aNw
  split
  · have g := gr_ro h h6 h5
    exact ⟨g.1, g.2.1, g.2.2.2.2⟩
  · exact ⟨h, Of_rf, rfl⟩
theorem sp_hd : ∀ (k : Nat) (a : Nat → Nat → Int32), zWQ a → (a 75 3).toInt ≤ (aSp k a 75 3).toInt ∧ ((a 75 3).toInt < (a 75 4).toInt → 0 < k → (a 75 3).toInt + 1 ≤ (aSp k a 75 3).toInt) := by
  intro k
  induction k with
  | zero => intro a _; exact ⟨Int.le_refl _, fun _ w => absurd w (by decide)⟩
  | succ k ih =>
    intro a h
    by_cases hl : (a 75 3).toInt < (a 75 4).toInt
    · rw [aSp_go hl]
      have p := pop_all h hl
      have q := (ih _ p.1).1
      have e := p.2.2.2.1
      exact ⟨by omega, fun _ _ => by omega⟩
    · rw [aSp_st (Or.inr hl)]
      exact ⟨Int.le_refl _, fun w => absurd w hl⟩
theorem aC2_fu : ∀ (k k₉ : Nat) (a : Nat → Nat → Int32), qE0 a → (a 69 6).toInt ≤ 512 → (a 69 5).toInt ≤ 512 → (512 - (a 75 3).toInt).toNat ≤ k → (512 - (a 75 3).toInt).toNat ≤ k₉ → aC2 k a = aC2 k₉ a := by
  have base : ∀ (k : Nat) (a : Nat → Nat → Int32), zWQ a → 512 ≤ (a 75 3).toInt → aC2 k a = a := by
    intro k a hw h5
    cases k with
    | zero => rfl
    | succ k =>
      have e := nw_full hw h5
      have q := hw.1.2.1
      have q2 := hw.1.2.2
      have c : cnt (a 77) 512 ≤ 512 := cnt_le
      rw [aC2_n (by rw [e]; omega), e]
  intro k
  induction k with
  | zero =>
    intro k₉ a hE h6 h5 h1 h2
    rw [base 0 a hE.1 (by omega), base k₉ a hE.1 (by omega)]
  | succ k ih =>
    intro k₉ a hE h6 h5 h1 h2
    by_cases hh : 512 ≤ (a 75 3).toInt
    · rw [base _ a hE.1 hh, base _ a hE.1 hh]
    · cases k₉ with
      | zero => omega
      | succ k₉ =>
        by_cases hn : (aNw a 75 3).toInt < (aNw a 75 4).toInt
        · rw [aC2_y hn, aC2_y hn]
          have w := nw_wq hE.1 h6 h5
          have e := E0_sp w.1
          have o := Of_tr w.2.1 e.2
          have hd := (sp_hd 512 _ w.1).2 hn (by decide)
          rw [w.2.2] at hd
          exact ih k₉ _ e.1 (by rw [← o 69 6 (by decide) (by decide) (by decide)]; exact h6) (by rw [← o 69 5 (by decide) (by decide) (by decide)]; exact h5) (by omega) (by omega)
        · rw [aC2_n hn, aC2_n hn]
/-- one more turn -/
theorem FN_go (h : zWQ b) (hI : qI b) {k : Nat} (hk : 512 ≤ k) (hl : (aLk (aSp k b) 75 3).toInt < (aLk (aSp k b) 75 4).toInt) (hne : aLk (aSp k b) 87 8 ≠ 0) (hT : aFi (aC2 512 (aSp 512 b)) = T) : aFi (aC2 512 (aSp 512 (aLk (aSp k b)))) = T := by
  rw [sp_fu h k hk] at hl hne ⊢
  have e := E0_sp h
  have h6 := hI.2.2.2.1.1.2
  have h5 := hI.2.2.2.1.2.1.2
  rw [e.2 69 6 (by decide) (by decide) (by decide)] at h6
  rw [e.2 69 5 (by decide) (by decide) (by decide)] at h5
  have q : aLk (aSp 512 b) = aNw (aSp 512 b) ∧ (aNw (aSp 512 b) 75 3).toInt < (aNw (aSp 512 b) 75 4).toInt := by
    unfold aLk at hl hne ⊢
    rw [if_neg e.1.2] at hl hne ⊢
    by_cases z : (aNw (aSp 512 b) 75 3).toInt < (aNw (aSp 512 b) 75 4).toInt
    · rw [if_pos z]
      exact ⟨rfl, z⟩
    · rw [if_neg z, Fi_87] at hne
      exact absurd rfl hne
  rw [q.1]
  rw [aC2_y q.2] at hT
  have w := nw_wq e.1.1 h6 h5
  have e2 := E0_sp w.1
  have o := Of_tr w.2.1 e2.2
  have hd := (sp_hd 512 _ w.1).2 q.2 (by decide)
  have h0 := w.1.1.1
  rw [← hT, aC2_fu 512 511 _ e2.1 (by rw [← o 69 6 (by decide) (by decide) (by decide)]; exact h6) (by rw [← o 69 5 (by decide) (by decide) (by decide)]; exact h5) (by omega) (by omega)]
theorem FN_end (h : zWQ b) {k : Nat} (hk : 512 ≤ k) (hz : b 87 8 ≠ 0) (hne : aLk (aSp k b) 87 8 = 0) (hT : aFi (aC2 512 (aSp 512 b)) = T) : aLk (aSp k b) = T := by
  rw [sp_fu h k hk] at hne ⊢
  have e := E0_sp h
  unfold aLk at hne ⊢
  rw [if_neg e.1.2] at hne ⊢
  by_cases z : (aNw (aSp 512 b) 75 3).toInt < (aNw (aSp 512 b) 75 4).toInt
  · rw [if_pos z, Nw_87, Sp_87] at hne
    exact absurd hne hz
  · rw [if_neg z, ← hT, aC2_n z]
theorem Cl_m (h : a 87 8 ≠ 0) : aCl a = aFi (aC2 512 (aSp 512 a)) := by
  unfold aCl aC1
  rw [aBg_n h]
theorem Cl_b (h : a 87 8 = 0) : aCl (aB0 a) = aCl a := by
  rw [Cl_m (by rw [B0_87]; decide)]
  unfold aCl aC1
  rw [aBg_y h]
theorem Cl_8 : aCl a 87 8 = 0 := Fi_87
/-- finishing -/
def qFN (us nr kr kd ws at₉ ho wd wi ow rt wk wl : Nat → Int32) (wm nu ro fo le ra pi : Int32) (co gr : Nat → Int32) (ga gm mk : Int32) (T : Nat → Nat → Int32) : Prop := (mk ≠ 0 ∧ ∃ b, qRB us nr kr kd ws at₉ ho wd wi ow rt wk wl wm nu ro fo le ra pi b ∧ qI b ∧ qMQ co gr ga gm us nr b ∧ qMI b ∧ b 87 8 = mk ∧ aFi (aC2 512 (aSp 512 b)) = T) ∨ (mk = 0 ∧ qRB us nr kr kd ws at₉ ho wd wi ow rt wk wl wm nu ro fo le ra pi T ∧ qI T)
theorem FN_y (h : qFN us nr kr kd ws at₉ ho wd wi ow rt wk wl wm nu ro fo le ra pi co gr ga gm mk T) (hm : ¬ mk = 0) : ∃ b, qRB us nr kr kd ws at₉ ho wd wi ow rt wk wl wm nu ro fo le ra pi b ∧ qI b ∧ qMQ co gr ga gm us nr b ∧ qMI b ∧ b 87 8 = mk ∧ aFi (aC2 512 (aSp 512 b)) = T := h.elim (fun w => w.2) (fun w => absurd w.1 hm)
theorem FN_n (h : qFN us nr kr kd ws at₉ ho wd wi ow rt wk wl wm nu ro fo le ra pi co gr ga gm mk T) (hm : mk = 0) : qRB us nr kr kd ws at₉ ho wd wi ow rt wk wl wm nu ro fo le ra pi T ∧ qI T := h.elim (fun w => absurd hm w.1) (fun w => w.2)
theorem FN_s {k : Nat} (hw : zWQ b) (hI0 : qI b) (hz : b 87 8 ≠ 0) (hk : 512 ≤ k) (hT : aFi (aC2 512 (aSp 512 b)) = T) (hR : qRB us nr kr kd ws at₉ ho wd wi ow rt wk wl wm nu ro fo le ra pi (aLk (aSp k b))) (hI : qI (aLk (aSp k b))) (hM : mk.toInt ≠ 0 → qMQ co gr ga gm us nr (aLk (aSp k b)) ∧ qMI (aLk (aSp k b))) (hK : aLk (aSp k b) 87 8 = mk) (hl : mk.toInt = 0 ∨ ga.toInt < gm.toInt) : qFN us nr kr kd ws at₉ ho wd wi ow rt wk wl wm nu ro fo le ra pi co gr ga gm mk T := by
  by_cases e : mk = 0
  · refine Or.inr ⟨e, ?_⟩
    rw [← FN_end hw hk hz (by rw [hK]; exact e) hT]
    exact ⟨hR, hI⟩
  · have e2 : mk.toInt ≠ 0 := fun w => e (Int32.toInt_inj.mp w)
    have q := hM e2
    refine Or.inl ⟨e, _, hR, hI, q.1, q.2, hK, FN_go hw hI0 hk ?_ (by rw [hK]; exact e) hT⟩
    rw [q.1.1, q.1.2.1]
    exact hl.elim (fun w => absurd w e2) id
/-! room in steps -/
theorem F0_y (hR : qRB us nr kr kd ws at₉ ho wd wi ow rt wk wl wm nu ro fo le ra pi a) (hI : qI a) (h : wt.toInt = sm (zbU us) ws 3100) (hk : a 87 8 = 0) (hc : (ro - wt) * 4 < ro) : aF0 a = aB0 a := by
  refine aF0_y hk ?_
  rw [RB_ro hR, WT_eq hR hI h, Int32.mul_comm]
  exact hc
theorem F0_n (hR : qRB us nr kr kd ws at₉ ho wd wi ow rt wk wl wm nu ro fo le ra pi a) (hI : qI a) (h : wt.toInt = sm (zbU us) ws 3100) (hc : ¬ a 87 8 = 0 ∨ ¬ (ro - wt) * 4 < ro) : aF0 a = a := by
  refine aF0_n (fun w => ?_)
  rw [RB_ro hR, WT_eq hR hI h, Int32.mul_comm] at w
  exact hc.elim (fun z => z w.1) (fun z => z w.2)
theorem F1_0 (e : aF0 a = b) (h : b 87 8 = 0) : aF1 a = b := by
  unfold aF1
  rw [e, aGo_0 h]
theorem F1_1 (hR : a 87 6 = ra) (e : aF0 a = b) (h : ¬ b 87 8 = 0) : aF1 a = aLk (aSp ra.toInt.toNat b) := by
  unfold aF1 aGo
  rw [e, if_neg h, hR]
theorem RB_ra (h : qRB us nr kr kd ws at₉ ho wd wi ow rt wk wl wm nu ro fo le ra pi a) : a 87 6 = ra := h.2.2.2.2.2.2.2.2.2.2.2.1
end QS
theorem lp_200r_50 {X : Nat × (Nat → Int32)} {P : Option ma_V → (Nat → Nat → Int32) → Prop} {T : Nat} {m0 : Nat → Nat → Int32} (h0 : zV m0) (K : ∀ v m₉, zF wr_200 m0 m₉ → zV m₉ → (zrm (m0 99) (m₉ 99) (m₉ 110) 3100) → (zowr (m0 111) (m₉ 111) (m0 99) (m₉ 110) (m₉ 103)) → (zGU T (m₉ 94 46) (m₉ 99)) → (zOw (m₉ 99) (m₉ 103) (m₉ 111)) → ((m₉ 94 45).toInt = sm (zbU (m₉ 99)) (m₉ 102) 3100) → P (some (.inl v)) m₉) {n4 : Nat} (OUT4 : ∀ (m₉ : Nat → Nat → Int32) (l1 : Int32) (l2 : Int32), (3100 - l2.toInt).toNat < n4 → zF wr_200 m0 m₉ → zV m₉ → (0 ≤ l2.toInt) → ((m₉ 94 10).toInt = 5) → (zW (m₉ 94 7) (m₉ 98) (m₉ 101) (m₉ 102) (m₉ 108)) → (zGU T (m₉ 94 46) (m₉ 99)) → (zOw (m₉ 99) (m₉ 103) (m₉ 111)) → (zrm (m0 99) (m₉ 99) (m₉ 110) l2.toNatClampNeg) → (zowr (m0 111) (m₉ 111) (m0 99) (m₉ 110) (m₉ 103)) → ((m₉ 94 45).toInt = sm (zbU (m₉ 99)) (m₉ 102) 3100) → zm X 2 44 200 4 [(0, .inr (.inr (some 94))), (1, .inl l1), (2, .inl l2)] m₉ P) : ∀ (n : Nat) (m : Nat → Nat → Int32) (l1 : Int32) (l2 : Int32) (l3 : Int32), (61 - l3.toInt).toNat = n → zF wr_200 m0 m → zV m → (0 ≤ l2.toInt) → (l2.toInt ≤ 3099) → (0 ≤ l3.toInt) → ((m 94 10).toInt = 5) → ((m 94 10).toInt = 4) → ((3100 - l2.toInt).toNat = n4) → (zW (m 94 7) (m 98) (m 101) (m 102) (m 108)) → (zGU T (m 94 46) (m 99)) → (zOw (m 99) (m 103) (m 111)) → (zrm (m0 99) (m 99) (m 110) l2.toNatClampNeg) → (zowr (m0 111) (m 111) (m0 99) (m 110) (m 103)) → ((m 99) l2.toNatClampNeg ≠ 0 ∧ (m 110) l2.toNatClampNeg = 0) → ((m 94 45).toInt = sm (zbU (m 99)) (m 102) 3100) → zm X 2 44 200 50 [(0, .inr (.inr (some 94))), (1, .inl l1), (2, .inl l2), (3, .inl l3)] m P := by
  intro n
  induction n using Nat.strongRecOn with
  | _ n IH =>
    intro m l1 l2 l3 hmu hF hV hi0 hi1 hi2 hi3 hi4 hi5 r_W r_GU r_OW r_RM r_OWR r_UK r_WTS
    refine g_200_50 l1 l2 l3 ?_
    have f1 : 0 ≤ (m 94 10).toInt ∧ (m 94 10).toInt ≤ 6 := rs_94_10 (m := m) hV
    have b2 := i_bd l2
    have hg3 : (0 ≤ l2 ∧ l2.toNatClampNeg < 3100) := i_ix (by omega) (by omega)
    refine ⟨hg3, ?_⟩
    first | have f4 : 0 ≤ (m 102 l2.toNatClampNeg).toInt ∧ (m 102 l2.toNatClampNeg).toInt ≤ 60 := ra_102 (m := m) hV (k := l2.toNatClampNeg) (i_ix (n := 3100) (by omega) (by omega)).2 | have b5 := i_bd (m 102 l2.toNatClampNeg)
    have b6 := i_bd l3
    refine zd (fun (h7 : (m 102 l2.toNatClampNeg) ≤ l3) => ?_) (fun (h7 : ¬ (m 102 l2.toNatClampNeg) ≤ l3) => ?_)
    · skip
      have g8 := i_le h7
      have hg9 : (0 ≤ l2 ∧ l2.toNatClampNeg < 3100) := i_ix (by omega) (by omega)
      refine ⟨hg9, ?_⟩
      have hg10 : (0 ≤ l2 ∧ l2.toNatClampNeg < 3100) := i_ix (by omega) (by omega)
      refine ⟨hg10, ?_⟩
      first | have f11 : 0 ≤ (m 103 l2.toNatClampNeg).toInt ∧ (m 103 l2.toNatClampNeg).toInt ≤ 4599 := ra_103 (m := m) hV (k := l2.toNatClampNeg) (i_ix (n := 3100) (by omega) (by omega)).2 | have b12 := i_bd (m 103 l2.toNatClampNeg)
      have hg13 : (0 ≤ (m 103 l2.toNatClampNeg) ∧ (m 103 l2.toNatClampNeg).toNatClampNeg < 4600) := i_ix (by omega) (by omega)
      refine ⟨hg13, ?_⟩
      have hg14 : (0 ≤ l2 ∧ l2.toNatClampNeg < 3100) := i_ix (by omega) (by omega)
      refine ⟨hg14, ?_⟩
      have hg15 : (0 ≤ l2 ∧ l2.toNatClampNeg < 3100) := i_ix (by omega) (by omega)
      refine ⟨hg15, ?_⟩
      have li17 : (0 : Int32).toInt = 0 := rfl
      have hV16 : zV (ma_u m 99 l2.toNatClampNeg (0 : Int32)) := ua_99 hV (by omega) (by omega)
      have li19 : (-1 : Int32).toInt = -1 := rfl
      have hV18 : zV (ma_u (ma_u m 99 l2.toNatClampNeg (0 : Int32)) 111 (m 103 l2.toNatClampNeg).toNatClampNeg (-1 : Int32)) := ua_111 hV16 (by omega) (by omega)
      have hV20 : zV (ma_u (ma_u (ma_u m 99 l2.toNatClampNeg (0 : Int32)) 111 (m 103 l2.toNatClampNeg).toNatClampNeg (-1 : Int32)) 94 44 ((m 94 44) - (1 : Int32))) := uf_94_44 hV18
      have hV21 : zV (ma_u (ma_u (ma_u (ma_u m 99 l2.toNatClampNeg (0 : Int32)) 111 (m 103 l2.toNatClampNeg).toNatClampNeg (-1 : Int32)) 94 44 ((m 94 44) - (1 : Int32))) 94 45 ((m 94 45) - ((m 102 l2.toNatClampNeg) + (1 : Int32)))) := uf_94_45 hV20
      have hV22 : zV (ma_u (ma_u (ma_u (ma_u (ma_u m 99 l2.toNatClampNeg (0 : Int32)) 111 (m 103 l2.toNatClampNeg).toNatClampNeg (-1 : Int32)) 94 44 ((m 94 44) - (1 : Int32))) 94 45 ((m 94 45) - ((m 102 l2.toNatClampNeg) + (1 : Int32)))) 94 49 ((m 94 49) + ((m 102 l2.toNatClampNeg) + (1 : Int32)))) := uf_94_49 hV21
      have b23 := i_bd l1
      first | have e24 : (l2 + (1 : Int32)).toInt = l2.toInt + (1) := i_addk rfl (by omega) (by omega) | have b25 := i_bd (l2 + (1 : Int32))
      exact OUT4 _ (l1) ((l2 + (1 : Int32))) (show (3100 - (l2 + (1 : Int32)).toInt).toNat < n4 from by omega) (zF_u (zF_u (zF_u (zF_u (zF_u hF rfl) rfl) rfl) rfl) rfl) hV22 (by omega) (show (m 94 10).toInt = 5 from by omega) r_W (show zGU T (m 94 46) ((ma_u m 99 l2.toNatClampNeg (0 : Int32)) 99) from by first | (exact GU_0 r_GU) | (exfalso; omega; done) | (exfalso; contradiction; done)) (show zOw ((ma_u m 99 l2.toNatClampNeg (0 : Int32)) 99) (m 103) ((ma_u m 111 (m 103 l2.toNatClampNeg).toNatClampNeg (-1 : Int32)) 111) from by first | (exact Ow_rm r_OW (by decide) (tn_cast (by omega)).symm) | (exfalso; omega; done) | (exfalso; contradiction; done)) (show zrm (m0 99) ((ma_u m 99 l2.toNatClampNeg (0 : Int32)) 99) (m 110) (l2 + (1 : Int32)).toNatClampNeg from by first | (exact rm_put r_RM (by assumption) (tn_succ (by omega) (by omega))) | (exact rm_put r_RM r_UK.2 (tn_succ (by omega) (by omega))) | (exfalso; omega; done) | (exfalso; contradiction; done)) (show zowr (m0 111) ((ma_u m 111 (m 103 l2.toNatClampNeg).toNatClampNeg (-1 : Int32)) 111) (m0 99) (m 110) (m 103) from by first | (exact owr_put r_OWR (s := l2.toNatClampNeg) (by omega) (rm_us r_RM (by omega) (by assumption)) (by assumption) (by decide) (tn_cast (by omega)).symm) | (exact owr_put r_OWR (s := l2.toNatClampNeg) (by omega) (rm_us r_RM (by omega) r_UK.1) r_UK.2 (by decide) (tn_cast (by omega)).symm) | (exfalso; omega; done) | (exfalso; contradiction; done)) (show ((m 94 45) - ((m 102 l2.toNatClampNeg) + (1 : Int32))).toInt = sm (zbU ((ma_u m 99 l2.toNatClampNeg (0 : Int32)) 99)) (m 102) 3100 from by first | (exact WT_rm r_WTS (by omega) (by assumption) (fun t ht => ra_102 hV ht)) | (exfalso; omega; done) | (exfalso; contradiction; done))
    · skip
      have g26 := i_nle h7
      refine sp_192 (l2) (l3) hV (by omega) (by omega) (by omega) (show l3.toInt < (m 102 l2.toNatClampNeg).toInt from by omega) (fun v2 m1 hV_m1 p0_m1 => zmi_n ?_)
      have p0_m1 : v2 = zrf (m 98) (m 101) (m 108) l2.toNatClampNeg l3.toNatClampNeg := p0_m1
      try have := W_ref r_W (by omega) (by omega) (by omega) (by omega) p0_m1
      have b27 := i_bd v2
      have li28 : (0 : Int32).toInt = 0 := rfl
      refine zd (fun (h29 : v2 < (0 : Int32)) => ?_) (fun (h29 : ¬ v2 < (0 : Int32)) => ?_)
      · skip
        have g30 := i_lt h29
        have b31 := i_bd l1
        first | have e32 : (l3 + (1 : Int32)).toInt = l3.toInt + (1) := i_addk rfl (by omega) (by omega) | have b33 := i_bd (l3 + (1 : Int32))
        exact IH (61 - (l3 + (1 : Int32)).toInt).toNat (by omega) _ (l1) (l2) ((l3 + (1 : Int32))) rfl (zF_zov hF ws_192_200) hV_m1 (by omega) (by omega) (by omega) (show (m 94 10).toInt = 5 from by omega) (show (m 94 10).toInt = 4 from by omega) (by omega) r_W r_GU r_OW r_RM r_OWR r_UK r_WTS
      · skip
        have g34 := i_nlt h29
        have hg35 : (0 ≤ v2 ∧ v2.toNatClampNeg < 3100) := i_ix (by omega) (by omega)
        refine ⟨hg35, ?_⟩
        first | have f36 : 0 ≤ (m 110 v2.toNatClampNeg).toInt ∧ (m 110 v2.toNatClampNeg).toInt ≤ 1 := ra_110 (m := m) hV (k := v2.toNatClampNeg) (i_ix (n := 3100) (by omega) (by omega)).2 | have b37 := i_bd (m 110 v2.toNatClampNeg)
        refine zd (fun (h38 : (m 110 v2.toNatClampNeg) = (0 : Int32)) => ?_) (fun (h38 : ¬ (m 110 v2.toNatClampNeg) = (0 : Int32)) => ?_)
        · skip
          have g39 := i_eq h38
          have b40 := i_bd l1
          first | have e41 : (l3 + (1 : Int32)).toInt = l3.toInt + (1) := i_addk rfl (by omega) (by omega) | have b42 := i_bd (l3 + (1 : Int32))
          exact IH (61 - (l3 + (1 : Int32)).toInt).toNat (by omega) _ (l1) (l2) ((l3 + (1 : Int32))) rfl (zF_zov hF ws_192_200) hV_m1 (by omega) (by omega) (by omega) (show (m 94 10).toInt = 5 from by omega) (show (m 94 10).toInt = 4 from by omega) (by omega) r_W r_GU r_OW r_RM r_OWR r_UK r_WTS
        · skip
          have g43 := i_ne h38
          have hg44 : (0 ≤ v2 ∧ v2.toNatClampNeg < 3100) := i_ix (by omega) (by omega)
          refine ⟨hg44, ?_⟩
          have hg45 : (0 ≤ v2 ∧ v2.toNatClampNeg < 3100) := i_ix (by omega) (by omega)
          refine ⟨hg45, ?_⟩
          have hV46 : zV (ma_u (zov wr_192 m m1) 105 v2.toNatClampNeg ((m 105 v2.toNatClampNeg) - (1 : Int32))) := ua_105 hV_m1
          have b47 := i_bd l1
          first | have e48 : (l3 + (1 : Int32)).toInt = l3.toInt + (1) := i_addk rfl (by omega) (by omega) | have b49 := i_bd (l3 + (1 : Int32))
          exact IH (61 - (l3 + (1 : Int32)).toInt).toNat (by omega) _ (l1) (l2) ((l3 + (1 : Int32))) rfl (zF_u (zF_zov hF ws_192_200) rfl) hV46 (by omega) (by omega) (by omega) (show (m 94 10).toInt = 5 from by omega) (show (m 94 10).toInt = 4 from by omega) (by omega) r_W r_GU r_OW r_RM r_OWR r_UK r_WTS
theorem lp_200r_4 {X : Nat × (Nat → Int32)} {P : Option ma_V → (Nat → Nat → Int32) → Prop} {T : Nat} {m0 : Nat → Nat → Int32} (h0 : zV m0) (K : ∀ v m₉, zF wr_200 m0 m₉ → zV m₉ → (zrm (m0 99) (m₉ 99) (m₉ 110) 3100) → (zowr (m0 111) (m₉ 111) (m0 99) (m₉ 110) (m₉ 103)) → (zGU T (m₉ 94 46) (m₉ 99)) → (zOw (m₉ 99) (m₉ 103) (m₉ 111)) → ((m₉ 94 45).toInt = sm (zbU (m₉ 99)) (m₉ 102) 3100) → P (some (.inl v)) m₉) : ∀ (n : Nat) (m : Nat → Nat → Int32) (l1 : Int32) (l2 : Int32), (3100 - l2.toInt).toNat = n → zF wr_200 m0 m → zV m → (0 ≤ l2.toInt) → ((m 94 10).toInt = 5) → (zW (m 94 7) (m 98) (m 101) (m 102) (m 108)) → (zGU T (m 94 46) (m 99)) → (zOw (m 99) (m 103) (m 111)) → (zrm (m0 99) (m 99) (m 110) l2.toNatClampNeg) → (zowr (m0 111) (m 111) (m0 99) (m 110) (m 103)) → ((m 94 45).toInt = sm (zbU (m 99)) (m 102) 3100) → zm X 2 44 200 4 [(0, .inr (.inr (some 94))), (1, .inl l1), (2, .inl l2)] m P := by
  intro n
  induction n using Nat.strongRecOn with
  | _ n IH =>
    intro m l1 l2 hmu hF hV hi0 hi1 r_W r_GU r_OW r_RM r_OWR r_WTS
    refine g_200_4 l1 l2 ?_
    have f1 : 0 ≤ (m 94 10).toInt ∧ (m 94 10).toInt ≤ 6 := rs_94_10 (m := m) hV
    have li2 : (3100 : Int32).toInt = 3100 := rfl
    have b3 := i_bd l2
    refine zd (fun (h4 : (3100 : Int32) ≤ l2) => ?_) (fun (h4 : ¬ (3100 : Int32) ≤ l2) => ?_)
    · skip
      have g5 := i_le h4
      have b6 := i_bd l1
      exact K (l1) _ hF hV (show zrm (m0 99) (m 99) (m 110) 3100 from by first | (exact rm_end r_RM (by rw [tn_eq]; omega)) | (exfalso; omega; done) | (exfalso; contradiction; done)) r_OWR r_GU r_OW r_WTS
    · skip
      have g7 := i_nle h4
      have hg8 : (0 ≤ l2 ∧ l2.toNatClampNeg < 3100) := i_ix (by omega) (by omega)
      refine ⟨hg8, ?_⟩
      first | have f9 : 0 ≤ (m 99 l2.toNatClampNeg).toInt ∧ (m 99 l2.toNatClampNeg).toInt ≤ 1 := ra_99 (m := m) hV (k := l2.toNatClampNeg) (i_ix (n := 3100) (by omega) (by omega)).2 | have b10 := i_bd (m 99 l2.toNatClampNeg)
      have li11 : (0 : Int32).toInt = 0 := rfl
      refine zd (fun (h12 : (m 99 l2.toNatClampNeg) = (0 : Int32)) => ?_) (fun (h12 : ¬ (m 99 l2.toNatClampNeg) = (0 : Int32)) => ?_)
      · skip
        have g13 := i_eq h12
        have b14 := i_bd l1
        first | have e15 : (l2 + (1 : Int32)).toInt = l2.toInt + (1) := i_addk rfl (by omega) (by omega) | have b16 := i_bd (l2 + (1 : Int32))
        exact IH (3100 - (l2 + (1 : Int32)).toInt).toNat (by omega) _ (l1) ((l2 + (1 : Int32))) rfl hF hV (by omega) (show (m 94 10).toInt = 5 from by omega) r_W r_GU r_OW (show zrm (m0 99) (m 99) (m 110) (l2 + (1 : Int32)).toNatClampNeg from by first | (exact rm_skip r_RM (Or.inl (by assumption)) (tn_succ (by omega) (by omega))) | (exact rm_skip r_RM (Or.inr (by assumption)) (tn_succ (by omega) (by omega))) | (exfalso; omega; done) | (exfalso; contradiction; done)) r_OWR r_WTS
      · skip
        have g17 := i_ne h12
        have hg18 : (0 ≤ l2 ∧ l2.toNatClampNeg < 3100) := i_ix (by omega) (by omega)
        refine ⟨hg18, ?_⟩
        first | have f19 : 0 ≤ (m 110 l2.toNatClampNeg).toInt ∧ (m 110 l2.toNatClampNeg).toInt ≤ 1 := ra_110 (m := m) hV (k := l2.toNatClampNeg) (i_ix (n := 3100) (by omega) (by omega)).2 | have b20 := i_bd (m 110 l2.toNatClampNeg)
        refine zd (fun (h21 : (m 110 l2.toNatClampNeg) = (0 : Int32)) => ?_) (fun (h21 : ¬ (m 110 l2.toNatClampNeg) = (0 : Int32)) => ?_)
        · skip
          have g22 := i_eq h21
          have hg23 : (0 ≤ l2 ∧ l2.toNatClampNeg < 3100) := i_ix (by omega) (by omega)
          refine ⟨hg23, ?_⟩
          have li24 : (4 : Int32).toInt = 4 := rfl
          refine zd (fun (h25 : (m 94 10) = (4 : Int32)) => ?_) (fun (h25 : ¬ (m 94 10) = (4 : Int32)) => ?_)
          · skip
            have g26 := i_eq h25
            have b27 := i_bd l1
            first | have f28 : 0 ≤ (m 102 l2.toNatClampNeg).toInt ∧ (m 102 l2.toNatClampNeg).toInt ≤ 60 := ra_102 (m := m) hV (k := l2.toNatClampNeg) (i_ix (n := 3100) (by omega) (by omega)).2 | have b29 := i_bd (m 102 l2.toNatClampNeg)
            first | have e30 : ((m 102 l2.toNatClampNeg) + (1 : Int32)).toInt = (m 102 l2.toNatClampNeg).toInt + (1) := i_addk rfl (by omega) (by omega) | have b31 := i_bd ((m 102 l2.toNatClampNeg) + (1 : Int32))
            first | have e32 : (l1 + ((m 102 l2.toNatClampNeg) + (1 : Int32))).toInt = l1.toInt + ((m 102 l2.toNatClampNeg) + (1 : Int32)).toInt := i_add (by omega) (by omega) | have b33 := i_bd (l1 + ((m 102 l2.toNatClampNeg) + (1 : Int32)))
            exact lp_200r_50 h0 K (fun _ _ _ z1 z2 z3 y0 y1 y2 y3 y4 y5 y6 y7 => IH _ z1 _ _ _ rfl z2 z3 y0 y1 y2 y3 y4 y5 y6 y7) _ _ ((l1 + ((m 102 l2.toNatClampNeg) + (1 : Int32)))) (l2) ((0 : Int32)) rfl hF hV (by omega) (by omega) (by omega) (show (m 94 10).toInt = 5 from by omega) (show (m 94 10).toInt = 4 from by omega) (by omega) r_W r_GU r_OW r_RM r_OWR (show (m 99) l2.toNatClampNeg ≠ 0 ∧ (m 110) l2.toNatClampNeg = 0 from by first | (exact ⟨by assumption, by assumption⟩) | (exfalso; omega; done) | (exfalso; contradiction; done)) r_WTS
          · skip
            have g34 := i_ne h25
            have hg35 : (0 ≤ l2 ∧ l2.toNatClampNeg < 3100) := i_ix (by omega) (by omega)
            refine ⟨hg35, ?_⟩
            have hg36 : (0 ≤ l2 ∧ l2.toNatClampNeg < 3100) := i_ix (by omega) (by omega)
            refine ⟨hg36, ?_⟩
            first | have f37 : 0 ≤ (m 103 l2.toNatClampNeg).toInt ∧ (m 103 l2.toNatClampNeg).toInt ≤ 4599 := ra_103 (m := m) hV (k := l2.toNatClampNeg) (i_ix (n := 3100) (by omega) (by omega)).2 | have b38 := i_bd (m 103 l2.toNatClampNeg)
            have hg39 : (0 ≤ (m 103 l2.toNatClampNeg) ∧ (m 103 l2.toNatClampNeg).toNatClampNeg < 4600) := i_ix (by omega) (by omega)
            refine ⟨hg39, ?_⟩
            have hg40 : (0 ≤ l2 ∧ l2.toNatClampNeg < 3100) := i_ix (by omega) (by omega)
            refine ⟨hg40, ?_⟩
            have hg41 : (0 ≤ l2 ∧ l2.toNatClampNeg < 3100) := i_ix (by omega) (by omega)
            refine ⟨hg41, ?_⟩
            have hV42 : zV (ma_u m 99 l2.toNatClampNeg (0 : Int32)) := ua_99 hV (by omega) (by omega)
            have li44 : (-1 : Int32).toInt = -1 := rfl
            have hV43 : zV (ma_u (ma_u m 99 l2.toNatClampNeg (0 : Int32)) 111 (m 103 l2.toNatClampNeg).toNatClampNeg (-1 : Int32)) := ua_111 hV42 (by omega) (by omega)
            have hV45 : zV (ma_u (ma_u (ma_u m 99 l2.toNatClampNeg (0 : Int32)) 111 (m 103 l2.toNatClampNeg).toNatClampNeg (-1 : Int32)) 94 44 ((m 94 44) - (1 : Int32))) := uf_94_44 hV43
            have hV46 : zV (ma_u (ma_u (ma_u (ma_u m 99 l2.toNatClampNeg (0 : Int32)) 111 (m 103 l2.toNatClampNeg).toNatClampNeg (-1 : Int32)) 94 44 ((m 94 44) - (1 : Int32))) 94 45 ((m 94 45) - ((m 102 l2.toNatClampNeg) + (1 : Int32)))) := uf_94_45 hV45
            have hV47 : zV (ma_u (ma_u (ma_u (ma_u (ma_u m 99 l2.toNatClampNeg (0 : Int32)) 111 (m 103 l2.toNatClampNeg).toNatClampNeg (-1 : Int32)) 94 44 ((m 94 44) - (1 : Int32))) 94 45 ((m 94 45) - ((m 102 l2.toNatClampNeg) + (1 : Int32)))) 94 49 ((m 94 49) + ((m 102 l2.toNatClampNeg) + (1 : Int32)))) := uf_94_49 hV46
            have b48 := i_bd l1
            first | have f49 : 0 ≤ (m 102 l2.toNatClampNeg).toInt ∧ (m 102 l2.toNatClampNeg).toInt ≤ 60 := ra_102 (m := m) hV (k := l2.toNatClampNeg) (i_ix (n := 3100) (by omega) (by omega)).2 | have b50 := i_bd (m 102 l2.toNatClampNeg)
            first | have e51 : ((m 102 l2.toNatClampNeg) + (1 : Int32)).toInt = (m 102 l2.toNatClampNeg).toInt + (1) := i_addk rfl (by omega) (by omega) | have b52 := i_bd ((m 102 l2.toNatClampNeg) + (1 : Int32))
            first | have e53 : (l1 + ((m 102 l2.toNatClampNeg) + (1 : Int32))).toInt = l1.toInt + ((m 102 l2.toNatClampNeg) + (1 : Int32)).toInt := i_add (by omega) (by omega) | have b54 := i_bd (l1 + ((m 102 l2.toNatClampNeg) + (1 : Int32)))
            first | have e55 : (l2 + (1 : Int32)).toInt = l2.toInt + (1) := i_addk rfl (by omega) (by omega) | have b56 := i_bd (l2 + (1 : Int32))
            exact IH (3100 - (l2 + (1 : Int32)).toInt).toNat (by omega) _ ((l1 + ((m 102 l2.toNatClampNeg) + (1 : Int32)))) ((l2 + (1 : Int32))) rfl (zF_u (zF_u (zF_u (zF_u (zF_u hF rfl) rfl) rfl) rfl) rfl) hV47 (by omega) (show (m 94 10).toInt = 5 from by omega) r_W (show zGU T (m 94 46) ((ma_u m 99 l2.toNatClampNeg (0 : Int32)) 99) from by first | (exact GU_0 r_GU) | (exfalso; omega; done) | (exfalso; contradiction; done)) (show zOw ((ma_u m 99 l2.toNatClampNeg (0 : Int32)) 99) (m 103) ((ma_u m 111 (m 103 l2.toNatClampNeg).toNatClampNeg (-1 : Int32)) 111) from by first | (exact Ow_rm r_OW (by decide) (tn_cast (by omega)).symm) | (exfalso; omega; done) | (exfalso; contradiction; done)) (show zrm (m0 99) ((ma_u m 99 l2.toNatClampNeg (0 : Int32)) 99) (m 110) (l2 + (1 : Int32)).toNatClampNeg from by first | (exact rm_put r_RM (by assumption) (tn_succ (by omega) (by omega))) | (exfalso; omega; done) | (exfalso; contradiction; done)) (show zowr (m0 111) ((ma_u m 111 (m 103 l2.toNatClampNeg).toNatClampNeg (-1 : Int32)) 111) (m0 99) (m 110) (m 103) from by first | (exact owr_put r_OWR (s := l2.toNatClampNeg) (by omega) (rm_us r_RM (by omega) (by assumption)) (by assumption) (by decide) (tn_cast (by omega)).symm) | (exfalso; omega; done) | (exfalso; contradiction; done)) (show ((m 94 45) - ((m 102 l2.toNatClampNeg) + (1 : Int32))).toInt = sm (zbU ((ma_u m 99 l2.toNatClampNeg (0 : Int32)) 99)) (m 102) 3100 from by first | (exact WT_rm r_WTS (by omega) (by assumption) (fun t ht => ra_102 hV ht)) | (exfalso; omega; done) | (exfalso; contradiction; done))
        · skip
          have g57 := i_ne h21
          have b58 := i_bd l1
          first | have e59 : (l2 + (1 : Int32)).toInt = l2.toInt + (1) := i_addk rfl (by omega) (by omega) | have b60 := i_bd (l2 + (1 : Int32))
          exact IH (3100 - (l2 + (1 : Int32)).toInt).toNat (by omega) _ (l1) ((l2 + (1 : Int32))) rfl hF hV (by omega) (show (m 94 10).toInt = 5 from by omega) r_W r_GU r_OW (show zrm (m0 99) (m 99) (m 110) (l2 + (1 : Int32)).toNatClampNeg from by first | (exact rm_skip r_RM (Or.inl (by assumption)) (tn_succ (by omega) (by omega))) | (exact rm_skip r_RM (Or.inr (by assumption)) (tn_succ (by omega) (by omega))) | (exfalso; omega; done) | (exfalso; contradiction; done)) r_OWR r_WTS
theorem sp_200r {X : Nat × (Nat → Int32)} {P : Option ma_V → (Nat → Nat → Int32) → Prop} {T : Nat} {m : Nat → Nat → Int32}  (hV : zV m) (hpre0 : (m 94 10).toInt = 5) (r_W : zW (m 94 7) (m 98) (m 101) (m 102) (m 108)) (r_GU : zGU T (m 94 46) (m 99)) (r_OW : zOw (m 99) (m 103) (m 111)) (r_WTS : (m 94 45).toInt = sm (zbU (m 99)) (m 102) 3100) (KZ : ∀ v m₉, zV (zov wr_200 m m₉) → (zrm (m 99) (m₉ 99) (m 110) 3100) → (zowr (m 111) (m₉ 111) (m 99) (m 110) (m 103)) → (zGU T (m 94 46) (m₉ 99)) → (zOw (m₉ 99) (m 103) (m₉ 111)) → ((m₉ 94 45).toInt = sm (zbU (m₉ 99)) (m 102) 3100) → P (some (.inl v)) (zov wr_200 m m₉)) : zm X 2 44 200 0 [(0, .inr (.inr (some 94)))] m P := by
  have K : ∀ v m₉, zF wr_200 m m₉ → zV m₉ → (zrm (m 99) (m₉ 99) (m₉ 110) 3100) → (zowr (m 111) (m₉ 111) (m 99) (m₉ 110) (m₉ 103)) → (zGU T (m₉ 94 46) (m₉ 99)) → (zOw (m₉ 99) (m₉ 103) (m₉ 111)) → ((m₉ 94 45).toInt = sm (zbU (m₉ 99)) (m₉ 102) 3100) → P (some (.inl v)) m₉ := by
    intro v m₉ hf z q0 q1 q2 q3 q4
    have e := zov_eq hf
    rw [e] at z ⊢
    try rw [e] at q0
    try rw [e] at q1
    try rw [e] at q2
    try rw [e] at q3
    try rw [e] at q4
    exact KZ v m₉ z q0 q1 q2 q3 q4
  refine g_200_0  ?_
  have f1 : 0 ≤ (m 94 10).toInt ∧ (m 94 10).toInt ≤ 6 := rs_94_10 (m := m) hV
  have li2 : (0 : Int32).toInt = 0 := rfl
  exact lp_200r_4 hV K _ _ ((0 : Int32)) ((0 : Int32)) rfl zF_rfl hV (by omega) (show (m 94 10).toInt = 5 from by omega) r_W r_GU r_OW (show zrm (m 99) (m 99) (m 110) (0 : Int32).toNatClampNeg from by first | (exact rm_0) | (exfalso; omega; done) | (exfalso; contradiction; done)) (show zowr (m 111) (m 111) (m 99) (m 110) (m 103) from by first | (exact owr_rfl) | (exfalso; omega; done) | (exfalso; contradiction; done)) r_WTS

/-! from 95.h17 -/
/-! the reference by numbers (written by wip/tools/gen18r.py) -/
theorem lp_223r_49 {X : Nat × (Nat → Int32)} {P : Option ma_V → (Nat → Nat → Int32) → Prop} {T : Nat} {aa : Nat→Nat→Int32} {m0 : Nat → Nat → Int32} (h0 : zV m0) (K : ∀ v m₉, zF wr_223 m0 m₉ → zV m₉ → (zGW T (m₉ 94 55) (m₉ 109)) → (zGU T (m₉ 94 46) (m₉ 99)) → (zOw (m₉ 99) (m₉ 103) (m₉ 111)) → (zGG (m₉ 94 58) (m₉ 94 56) (m₉ 94 57) (m₉ 106)) → ((m₉ 94 58).toInt = 0 ∨ ((m₉ 94 58).toInt = 1 ∧ (m₉ 94 57).toInt < (m₉ 94 56).toInt ∧ (m₉ 94 57).toInt = (m0 94 57).toInt)) → (qRB (m₉ 99) (m₉ 100) (m₉ 98) (m₉ 101) (m₉ 102) (m₉ 103) (m₉ 107) (m₉ 108) (m₉ 109) (m₉ 111) (m₉ 112) (m₉ 113) (m₉ 114) (m₉ 94 55) (m₉ 94 46) (m₉ 94 11) (m₉ 94 12) (m₉ 94 62) (m₉ 94 17) (m₉ 94 9) (aLk aa)) → (qI (aLk aa)) → (qMG (m₉ 94 58) (m₉ 106) (m₉ 115) (m₉ 94 57) (m₉ 94 56) (m₉ 99) (m₉ 100) (aLk aa)) → ((aLk aa) 87 8 = (m₉ 94 58)) → ((m₉ 94 45).toInt = sm (zbU (m₉ 99)) (m₉ 102) 3100) → P (some (.inl v)) m₉) : ∀ (n : Nat) (m : Nat → Nat → Int32) (l1 : Int32), (3100 - l1.toInt).toNat = n → zF wr_223 m0 m → zV m → (0 ≤ l1.toInt) → (T ≤ 512) → (zW (m 94 7) (m 98) (m 101) (m 102) (m 108)) → (zGW T (m 94 55) (m 109)) → (zGU T (m 94 46) (m 99)) → (zOw (m 99) (m 103) (m 111)) → ((m 94 10).toInt = 5) → ((m 94 58).toInt = 1) → ((m 94 57).toInt = (m0 94 57).toInt) → (∀ s : Nat, (s : Int) < l1.toInt → ((m 110) s ≠ 0 ↔ (m 99) s ≠ 0 ∧ (m 106) s ≠ 0)) → (qRB (m 99) (m 100) (m 98) (m 101) (m 102) (m 103) (m 107) (m 108) (m 109) (m 111) (m 112) (m 113) (m 114) (m 94 55) (m 94 46) (m 94 11) (m 94 12) (m 94 62) (m 94 17) (m 94 9) (aNw aa)) → (qI (aNw aa)) → (qMQ (m 106) (m 115) (m 94 57) (m 94 56) (m 99) (m 100) (aNw aa)) → (qE0 (aNw aa)) → (qCl (aNw aa)) → (aLk aa = aFi (aNw aa)) → ((m 94 45).toInt = sm (zbU (m 99)) (m 102) 3100) → zm X 4 88 223 49 [(0, .inr (.inr (some 94))), (1, .inl l1)] m P := by
  intro n
  induction n using Nat.strongRecOn with
  | _ n IH =>
    intro m l1 hmu hF hV hi0 hi1 r_W r_GW r_GU r_OW hi6 hi7 hi8 r_KPl r_RB r_QI r_MQ r_E0 r_CLr r_LKf r_WTS
    refine g_223_49 l1 ?_
    have f1 : 0 ≤ (m 94 10).toInt ∧ (m 94 10).toInt ≤ 6 := rs_94_10 (m := m) hV
    have f2 : 0 ≤ (m 94 58).toInt ∧ (m 94 58).toInt ≤ 1 := rs_94_58 (m := m) hV
    have f3 : 0 ≤ (m 94 57).toInt ∧ (m 94 57).toInt ≤ 3100 := rs_94_57 (m := m) hV
    have f4 : 0 ≤ (m0 94 57).toInt ∧ (m0 94 57).toInt ≤ 3100 := rs_94_57 (m := m0) h0
    have li5 : (3100 : Int32).toInt = 3100 := rfl
    have b6 := i_bd l1
    refine zd (fun (h7 : (3100 : Int32) ≤ l1) => ?_) (fun (h7 : ¬ (3100 : Int32) ≤ l1) => ?_)
    · skip
      have g8 := i_le h7
      have li10 : (0 : Int32).toInt = 0 := rfl
      have hV9 : zV (ma_u m 94 73 (0 : Int32)) := us_94_73 hV (by omega) (by omega)
      refine sp_194r (aa := (ma_u (aNw aa) 87 8 0))  hV9 (by omega) (show (m 94 10).toInt = 5 from by omega) (show (0 : Int32).toInt = 0 from by omega) r_W r_GW (show qRB (m 99) (m 100) (m 98) (m 101) (m 102) (m 103) (m 107) (m 108) (m 109) (m 111) (m 112) (m 113) (m 114) (m 94 55) (m 94 46) (m 94 11) (m 94 12) (m 94 62) (m 94 17) (m 94 9) (ma_u (aNw aa) 87 8 0) from by first | (exact RB_87 r_RB) | (exfalso; omega; done) | (exfalso; contradiction; done)) (show qI (ma_u (aNw aa) 87 8 0) from by first | (exact I_87 r_QI) | (exfalso; omega; done) | (exfalso; contradiction; done)) (show qKB (m 110) (m 99) (m 100) (ma_u (aNw aa) 87 8 0) from by first | (exact KB_87 r_MQ r_RB.1 (fun s hs => r_KPl s (by omega))) | (exfalso; omega; done) | (exfalso; contradiction; done)) (show qE0 (ma_u (aNw aa) 87 8 0) from by first | (exact E0_87 r_E0) | (exfalso; omega; done) | (exfalso; contradiction; done)) (show qCl (ma_u (aNw aa) 87 8 0) from by first | (exact Cl_87 r_CLr) | (exfalso; omega; done) | (exfalso; contradiction; done)) (fun m1 hV_m1 p0_m1 p1_m1 p2_m1 p3_m1 p4_m1 p5_m1 p6_m1 p7_m1 => zmv_n ?_)
      have p0_m1 : (m1 94 73).toInt = 0 := p0_m1
      have p1_m1 : zGW T (m1 94 55) (m1 109) := p1_m1
      have p2_m1 : zuw (m 113) (m1 113) := p2_m1
      have p3_m1 : qRB (m 99) (m 100) (m 98) (m 101) (m 102) (m 103) (m 107) (m 108) (m1 109) (m 111) (m 112) (m1 113) (m1 114) (m1 94 55) (m 94 46) (m 94 11) (m 94 12) (m 94 62) (m 94 17) (m 94 9) (aGw (ma_u (aNw aa) 87 8 0) 0) := p3_m1
      have p4_m1 : qI (aGw (ma_u (aNw aa) 87 8 0) 0) := p4_m1
      have p5_m1 : qKB (m1 110) (m 99) (m 100) (aGw (ma_u (aNw aa) 87 8 0) 0) := p5_m1
      have p6_m1 : qE0 (aGw (ma_u (aNw aa) 87 8 0) 0) := p6_m1
      have p7_m1 : qCl (aGw (ma_u (aNw aa) 87 8 0) 0) := p7_m1
      have f11 : 0 ≤ (m1 94 73).toInt ∧ (m1 94 73).toInt ≤ 3100 := rs_94_73 (m := (zov wr_194 (ma_u m 94 73 (0 : Int32)) m1)) hV_m1
      refine sp_199r  hV_m1  (fun m3 hV_m3 p0_m3 p1_m3 => zmv_n ?_)
      have p0_m3 : zuw (m1 113) (m3 113) := p0_m3
      have p1_m3 : qUr (m1 113) (m3 113) (m1 110) 16 := p1_m3
      have hV12 : zV (ma_u (zov wr_199 (zov wr_194 (ma_u m 94 73 (0 : Int32)) m1) m3) 94 58 (0 : Int32)) := us_94_58 hV_m3 (by omega) (by omega)
      refine sp_200r  hV12 (show (m 94 10).toInt = 5 from by omega) r_W r_GU r_OW r_WTS (fun v6 m5 hV_m5 p0_m5 p1_m5 p2_m5 p3_m5 p4_m5 => zmi_n ?_)
      have p0_m5 : zrm (m 99) (m5 99) (m1 110) 3100 := p0_m5
      have p1_m5 : zowr (m 111) (m5 111) (m 99) (m1 110) (m 103) := p1_m5
      have p2_m5 : zGU T (m 94 46) (m5 99) := p2_m5
      have p3_m5 : zOw (m5 99) (m 103) (m5 111) := p3_m5
      have p4_m5 : (m5 94 45).toInt = sm (zbU (m5 99)) (m 102) 3100 := p4_m5
      have b13 := i_bd v6
      have f14 : 0 ≤ (m 94 56).toInt ∧ (m 94 56).toInt ≤ 3100 := rs_94_56 (m := m) hV
      exact K (v6) _ (zF_zov (zF_u (zF_zov (zF_zov (zF_u hF rfl) ws_194_223) ws_199_223) rfl) ws_200_223) hV_m5 p1_m1 p2_m5 p3_m5 (show zGG (0 : Int32) (m 94 56) (m 94 57) (m 106) from by first | (exact fun z => absurd z (by decide)) | (exact fun z => absurd z (by omega)) | (exfalso; omega; done) | (exfalso; contradiction; done)) (show (0 : Int32).toInt = 0 ∨ ((0 : Int32).toInt = 1 ∧ (m 94 57).toInt < (m 94 56).toInt ∧ (m 94 57).toInt = (m0 94 57).toInt) from by omega) (show qRB (m5 99) (m 100) (m 98) (m 101) (m 102) (m 103) (m 107) (m 108) (m1 109) (m5 111) (m 112) (m3 113) (m1 114) (m1 94 55) (m 94 46) (m 94 11) (m 94 12) (m 94 62) (m 94 17) (m 94 9) (aLk aa) from by first | (rw [r_LKf]; exact RB_mv p3_m1 p4_m1 p5_m1 (CK_of p7_m1 p3_m1 p5_m1) p6_m1.1.2.2.2.2.2.1 p1_m3 p0_m5 p1_m5; done) | (exfalso; omega; done) | (exfalso; contradiction; done)) (show qI (aLk aa) from by first | (rw [r_LKf]; exact I_mv p4_m1 p6_m1.1.2.2.2.2.2.1; done) | (skip; done) | (exfalso; omega; done) | (exfalso; contradiction; done)) (show qMG (0 : Int32) (m 106) (m 115) (m 94 57) (m 94 56) (m5 99) (m 100) (aLk aa) from by first | (exact fun z => absurd (by decide) z) | (rw [Lk_2 (by have q := MQ_of r_MQ; omega) (by rw [Nw_n r_RB (by assumption)]; have q := MQ_of r_MQ; omega), Nw_n r_RB (by assumption)]; exact fun _ => ⟨r_MQ, MI_ro r_MI r_MQ.2.2.2.2 r_QI.2.2.2.1.1.2 r_QI.2.2.2.1.2.1.2⟩; done) | (exfalso; omega; done) | (exfalso; contradiction; done)) (show (aLk aa) 87 8 = (0 : Int32) from by first | (rw [r_LKf]; exact Fi_87; done) | (exfalso; omega; done) | (exfalso; contradiction; done)) p4_m5
    · skip
      have g15 := i_nle h7
      have hg16 : (0 ≤ l1 ∧ l1.toNatClampNeg < 3100) := i_ix (by omega) (by omega)
      refine ⟨hg16, ?_⟩
      first | have f17 : 0 ≤ (m 99 l1.toNatClampNeg).toInt ∧ (m 99 l1.toNatClampNeg).toInt ≤ 1 := ra_99 (m := m) hV (k := l1.toNatClampNeg) (i_ix (n := 3100) (by omega) (by omega)).2 | have b18 := i_bd (m 99 l1.toNatClampNeg)
      have li19 : (0 : Int32).toInt = 0 := rfl
      refine zd (fun (h20 : (m 99 l1.toNatClampNeg) = (0 : Int32)) => ?_) (fun (h20 : ¬ (m 99 l1.toNatClampNeg) = (0 : Int32)) => ?_)
      · skip
        have g21 := i_eq h20
        have hg22 : (0 ≤ l1 ∧ l1.toNatClampNeg < 3100) := i_ix (by omega) (by omega)
        refine ⟨hg22, ?_⟩
        have hV23 : zV (ma_u m 110 l1.toNatClampNeg (0 : Int32)) := ua_110 hV (by omega) (by omega)
        first | have e24 : (l1 + (1 : Int32)).toInt = l1.toInt + (1) := i_addk rfl (by omega) (by omega) | have b25 := i_bd (l1 + (1 : Int32))
        exact IH (3100 - (l1 + (1 : Int32)).toInt).toNat (by omega) _ ((l1 + (1 : Int32))) rfl (zF_u hF rfl) hV23 (by omega) (by omega) r_W r_GW r_GU r_OW (show (m 94 10).toInt = 5 from by omega) (show (m 94 58).toInt = 1 from by omega) (show (m 94 57).toInt = (m0 94 57).toInt from by omega) (show ∀ s : Nat, (s : Int) < (l1 + (1 : Int32)).toInt → (((ma_u m 110 l1.toNatClampNeg (0 : Int32)) 110) s ≠ 0 ↔ (m 99) s ≠ 0 ∧ (m 106) s ≠ 0) from by first | (exact kp_s r_KPl (by omega) (by omega) ⟨fun _ => ⟨by assumption, by assumption⟩, fun _ => by decide⟩) | (exact kp_s r_KPl (by omega) (by omega) ⟨fun z => absurd rfl z, fun z => absurd (by assumption) z.1⟩) | (exact kp_s r_KPl (by omega) (by omega) ⟨fun z => absurd rfl z, fun z => absurd (by assumption) z.2⟩) | (exfalso; omega; done) | (exfalso; contradiction; done)) r_RB r_QI r_MQ r_E0 r_CLr r_LKf r_WTS
      · skip
        have g26 := i_ne h20
        have hg27 : (0 ≤ l1 ∧ l1.toNatClampNeg < 3100) := i_ix (by omega) (by omega)
        refine ⟨hg27, ?_⟩
        have b28 := i_bd (m 106 l1.toNatClampNeg)
        refine zd (fun (h29 : (m 106 l1.toNatClampNeg) = (0 : Int32)) => ?_) (fun (h29 : ¬ (m 106 l1.toNatClampNeg) = (0 : Int32)) => ?_)
        · skip
          have g30 := i_eq h29
          have hg31 : (0 ≤ l1 ∧ l1.toNatClampNeg < 3100) := i_ix (by omega) (by omega)
          refine ⟨hg31, ?_⟩
          have hV32 : zV (ma_u m 110 l1.toNatClampNeg (0 : Int32)) := ua_110 hV (by omega) (by omega)
          first | have e33 : (l1 + (1 : Int32)).toInt = l1.toInt + (1) := i_addk rfl (by omega) (by omega) | have b34 := i_bd (l1 + (1 : Int32))
          exact IH (3100 - (l1 + (1 : Int32)).toInt).toNat (by omega) _ ((l1 + (1 : Int32))) rfl (zF_u hF rfl) hV32 (by omega) (by omega) r_W r_GW r_GU r_OW (show (m 94 10).toInt = 5 from by omega) (show (m 94 58).toInt = 1 from by omega) (show (m 94 57).toInt = (m0 94 57).toInt from by omega) (show ∀ s : Nat, (s : Int) < (l1 + (1 : Int32)).toInt → (((ma_u m 110 l1.toNatClampNeg (0 : Int32)) 110) s ≠ 0 ↔ (m 99) s ≠ 0 ∧ (m 106) s ≠ 0) from by first | (exact kp_s r_KPl (by omega) (by omega) ⟨fun _ => ⟨by assumption, by assumption⟩, fun _ => by decide⟩) | (exact kp_s r_KPl (by omega) (by omega) ⟨fun z => absurd rfl z, fun z => absurd (by assumption) z.1⟩) | (exact kp_s r_KPl (by omega) (by omega) ⟨fun z => absurd rfl z, fun z => absurd (by assumption) z.2⟩) | (exfalso; omega; done) | (exfalso; contradiction; done)) r_RB r_QI r_MQ r_E0 r_CLr r_LKf r_WTS
        · skip
          have g35 := i_ne h29
          have hg36 : (0 ≤ l1 ∧ l1.toNatClampNeg < 3100) := i_ix (by omega) (by omega)
          refine ⟨hg36, ?_⟩
          have li38 : (1 : Int32).toInt = 1 := rfl
          have hV37 : zV (ma_u m 110 l1.toNatClampNeg (1 : Int32)) := ua_110 hV (by omega) (by omega)
          first | have e39 : (l1 + (1 : Int32)).toInt = l1.toInt + (1) := i_addk rfl (by omega) (by omega) | have b40 := i_bd (l1 + (1 : Int32))
          exact IH (3100 - (l1 + (1 : Int32)).toInt).toNat (by omega) _ ((l1 + (1 : Int32))) rfl (zF_u hF rfl) hV37 (by omega) (by omega) r_W r_GW r_GU r_OW (show (m 94 10).toInt = 5 from by omega) (show (m 94 58).toInt = 1 from by omega) (show (m 94 57).toInt = (m0 94 57).toInt from by omega) (show ∀ s : Nat, (s : Int) < (l1 + (1 : Int32)).toInt → (((ma_u m 110 l1.toNatClampNeg (1 : Int32)) 110) s ≠ 0 ↔ (m 99) s ≠ 0 ∧ (m 106) s ≠ 0) from by first | (exact kp_s r_KPl (by omega) (by omega) ⟨fun _ => ⟨by assumption, by assumption⟩, fun _ => by decide⟩) | (exact kp_s r_KPl (by omega) (by omega) ⟨fun z => absurd rfl z, fun z => absurd (by assumption) z.1⟩) | (exact kp_s r_KPl (by omega) (by omega) ⟨fun z => absurd rfl z, fun z => absurd (by assumption) z.2⟩) | (exfalso; omega; done) | (exfalso; contradiction; done)) r_RB r_QI r_MQ r_E0 r_CLr r_LKf r_WTS
theorem sp_223r {X : Nat × (Nat → Int32)} {P : Option ma_V → (Nat → Nat → Int32) → Prop} {T : Nat} {aa : Nat→Nat→Int32} {m : Nat → Nat → Int32}  (hV : zV m) (hpre0 : T ≤ 512) (r_W : zW (m 94 7) (m 98) (m 101) (m 102) (m 108)) (r_GW : zGW T (m 94 55) (m 109)) (r_GU : zGU T (m 94 46) (m 99)) (r_OW : zOw (m 99) (m 103) (m 111)) (r_G1 : zG1 (m 94 56) (m 94 57) (m 106)) (hpre6 : (m 94 10).toInt = 5) (hpre7 : (m 94 58).toInt = 1) (r_MQ : qMQ (m 106) (m 115) (m 94 57) (m 94 56) (m 99) (m 100) aa) (r_RB : qRB (m 99) (m 100) (m 98) (m 101) (m 102) (m 103) (m 107) (m 108) (m 109) (m 111) (m 112) (m 113) (m 114) (m 94 55) (m 94 46) (m 94 11) (m 94 12) (m 94 62) (m 94 17) (m 94 9) aa) (r_QI : qI aa) (r_MI : qMI aa) (r_MK : aa 87 8 = (m 94 58)) (r_WTS : (m 94 45).toInt = sm (zbU (m 99)) (m 102) 3100) (KZ : ∀ v m₉, zV (zov wr_223 m m₉) → (zGW T (m₉ 94 55) (m₉ 109)) → (zGU T (m 94 46) (m₉ 99)) → (zOw (m₉ 99) (m 103) (m₉ 111)) → (zGG (m₉ 94 58) (m₉ 94 56) (m 94 57) (m₉ 106)) → ((m₉ 94 58).toInt = 0 ∨ ((m₉ 94 58).toInt = 1 ∧ (m 94 57).toInt < (m₉ 94 56).toInt ∧ (m 94 57).toInt = (m 94 57).toInt)) → (qRB (m₉ 99) (m 100) (m 98) (m 101) (m 102) (m 103) (m 107) (m 108) (m₉ 109) (m₉ 111) (m 112) (m₉ 113) (m₉ 114) (m₉ 94 55) (m 94 46) (m 94 11) (m 94 12) (m 94 62) (m 94 17) (m 94 9) (aLk aa)) → (qI (aLk aa)) → (qMG (m₉ 94 58) (m₉ 106) (m₉ 115) (m 94 57) (m₉ 94 56) (m₉ 99) (m 100) (aLk aa)) → ((aLk aa) 87 8 = (m₉ 94 58)) → ((m₉ 94 45).toInt = sm (zbU (m₉ 99)) (m 102) 3100) → P (some (.inl v)) (zov wr_223 m m₉)) : zm X 4 88 223 0 [(0, .inr (.inr (some 94)))] m P := by
  have K : ∀ v m₉, zF wr_223 m m₉ → zV m₉ → (zGW T (m₉ 94 55) (m₉ 109)) → (zGU T (m₉ 94 46) (m₉ 99)) → (zOw (m₉ 99) (m₉ 103) (m₉ 111)) → (zGG (m₉ 94 58) (m₉ 94 56) (m₉ 94 57) (m₉ 106)) → ((m₉ 94 58).toInt = 0 ∨ ((m₉ 94 58).toInt = 1 ∧ (m₉ 94 57).toInt < (m₉ 94 56).toInt ∧ (m₉ 94 57).toInt = (m 94 57).toInt)) → (qRB (m₉ 99) (m₉ 100) (m₉ 98) (m₉ 101) (m₉ 102) (m₉ 103) (m₉ 107) (m₉ 108) (m₉ 109) (m₉ 111) (m₉ 112) (m₉ 113) (m₉ 114) (m₉ 94 55) (m₉ 94 46) (m₉ 94 11) (m₉ 94 12) (m₉ 94 62) (m₉ 94 17) (m₉ 94 9) (aLk aa)) → (qI (aLk aa)) → (qMG (m₉ 94 58) (m₉ 106) (m₉ 115) (m₉ 94 57) (m₉ 94 56) (m₉ 99) (m₉ 100) (aLk aa)) → ((aLk aa) 87 8 = (m₉ 94 58)) → ((m₉ 94 45).toInt = sm (zbU (m₉ 99)) (m₉ 102) 3100) → P (some (.inl v)) m₉ := by
    intro v m₉ hf z q0 q1 q2 q3 q4 q5 q6 q7 q8 q9
    have e := zov_eq hf
    rw [e] at z ⊢
    try rw [e] at q0
    try rw [e] at q1
    try rw [e] at q2
    try rw [e] at q3
    try rw [e] at q4
    try rw [e] at q5
    try rw [e] at q6
    try rw [e] at q7
    try rw [e] at q8
    try rw [e] at q9
    exact KZ v m₉ z q0 q1 q2 q3 q4 q5 q6 q7 q8 q9
  refine g_223_0  ?_
  have f1 : 0 ≤ (m 94 10).toInt ∧ (m 94 10).toInt ≤ 6 := rs_94_10 (m := m) hV
  have f2 : 0 ≤ (m 94 58).toInt ∧ (m 94 58).toInt ≤ 1 := rs_94_58 (m := m) hV
  have f3 : 0 ≤ (m 94 56).toInt ∧ (m 94 56).toInt ≤ 3100 := rs_94_56 (m := m) hV
  have f4 : 0 ≤ (m 94 57).toInt ∧ (m 94 57).toInt ≤ 3100 := rs_94_57 (m := m) hV
  refine zd (fun (h5 : (m 94 56) ≤ (m 94 57)) => ?_) (fun (h5 : ¬ (m 94 56) ≤ (m 94 57)) => ?_)
  · skip
    have g6 := i_le h5
    have f7 : 0 ≤ (m 94 9).toInt ∧ (m 94 9).toInt ≤ 1 := rs_94_9 (m := m) hV
    have li8 : (0 : Int32).toInt = 0 := rfl
    refine zd (fun (h9 : (m 94 9) = (0 : Int32)) => ?_) (fun (h9 : ¬ (m 94 9) = (0 : Int32)) => ?_)
    · skip
      have g10 := i_eq h9
      refine sp_220r (aa := aa)  hV r_G1 r_MQ r_RB r_QI (fun m1 hV_m1 p0_m1 p1_m1 p2_m1 p3_m1 p4_m1 => zmv_n ?_)
      have p0_m1 : zG1 (m1 94 56) (m 94 57) (m1 106) := p0_m1
      have p1_m1 : (m 94 56).toInt ≤ (m1 94 56).toInt := p1_m1
      have p2_m1 : qRB (m 99) (m 100) (m 98) (m 101) (m 102) (m 103) (m 107) (m 108) (m 109) (m 111) (m 112) (m 113) (m 114) (m 94 55) (m 94 46) (m 94 11) (m 94 12) (m 94 62) (m 94 17) (m 94 9) (aRo aa 0) := p2_m1
      have p3_m1 : qI (aRo aa 0) := p3_m1
      have p4_m1 : qMQ (m1 106) (m1 115) (m 94 57) (m1 94 56) (m 99) (m 100) (aRo aa 0) := p4_m1
      have f11 : 0 ≤ (m1 94 56).toInt ∧ (m1 94 56).toInt ≤ 3100 := rs_94_56 (m := (zov wr_220 m m1)) hV_m1
      refine zd (fun (h12 : (m1 94 56) ≤ (m 94 57)) => ?_) (fun (h12 : ¬ (m1 94 56) ≤ (m 94 57)) => ?_)
      · skip
        have g13 := i_le h12
        have hV14 : zV (ma_u (zov wr_220 m m1) 94 47 ((m 94 47) + (1 : Int32))) := uf_94_47 hV_m1
        exact lp_223r_49 hV K _ _ ((0 : Int32)) rfl (zF_u (zF_zov zF_rfl ws_220_223) rfl) hV14 (by omega) (by omega) r_W r_GW r_GU r_OW (show (m 94 10).toInt = 5 from by omega) (show (m 94 58).toInt = 1 from by omega) (show (m 94 57).toInt = (m 94 57).toInt from by omega) (show ∀ s : Nat, (s : Int) < (0 : Int32).toInt → ((m 110) s ≠ 0 ↔ (m 99) s ≠ 0 ∧ (m1 106) s ≠ 0) from by first | (intro s hs; omega; done) | (exfalso; omega; done) | (exfalso; contradiction; done)) (show qRB (m 99) (m 100) (m 98) (m 101) (m 102) (m 103) (m 107) (m 108) (m 109) (m 111) (m 112) (m 113) (m 114) (m 94 55) (m 94 46) (m 94 11) (m 94 12) (m 94 62) (m 94 17) (m 94 9) (aNw aa) from by first | (rw [Nw_y r_RB (by assumption)]; exact p2_m1; done) | (rw [Nw_n r_RB (by assumption)]; exact p2_m1; done) | (exfalso; omega; done) | (exfalso; contradiction; done)) (show qI (aNw aa) from by first | (rw [Nw_y r_RB (by assumption)]; exact p3_m1; done) | (rw [Nw_n r_RB (by assumption)]; exact p3_m1; done) | (exfalso; omega; done) | (exfalso; contradiction; done)) (show qMQ (m1 106) (m1 115) (m 94 57) (m1 94 56) (m 99) (m 100) (aNw aa) from by first | (rw [Nw_y r_RB (by assumption)]; exact p4_m1; done) | (rw [Nw_n r_RB (by assumption)]; exact p4_m1; done) | (exfalso; omega; done) | (exfalso; contradiction; done)) (show qE0 (aNw aa) from by first | (rw [Nw_y r_RB (by assumption)]; exact E0_of p4_m1 (by omega); done) | (rw [Nw_n r_RB (by assumption)]; exact E0_of p4_m1 (by omega); done) | (exfalso; omega; done) | (exfalso; contradiction; done)) (show qCl (aNw aa) from by first | (exact Cl_0 r_QI r_MI r_MQ.2.2.2.2 (by rw [Nw_y r_RB (by assumption)]; exact E0_of p4_m1 (by omega))) | (exact Cl_0 r_QI r_MI r_MQ.2.2.2.2 (by rw [Nw_n r_RB (by assumption)]; exact E0_of p4_m1 (by omega))) | (exfalso; omega; done) | (exfalso; contradiction; done)) (show aLk aa = aFi (aNw aa) from by first | (exact Lk_3 r_MQ.2.2.2.2 r_QI.2.2.2.1.1.2 r_QI.2.2.2.1.2.1.2 (by rw [Nw_y r_RB (by assumption)]; have q := MQ_of p4_m1; omega)) | (exact Lk_3 r_MQ.2.2.2.2 r_QI.2.2.2.1.1.2 r_QI.2.2.2.1.2.1.2 (by rw [Nw_n r_RB (by assumption)]; have q := MQ_of p4_m1; omega)) | (exfalso; omega; done) | (exfalso; contradiction; done)) r_WTS
      · skip
        have g15 := i_nle h12
        exact K ((0 : Int32)) _ (zF_zov zF_rfl ws_220_223) hV_m1 r_GW r_GU r_OW (show zGG (m 94 58) (m1 94 56) (m 94 57) (m1 106) from by first | (exact fun _ => p0_m1) | (exact fun z => absurd z (by decide)) | (exact fun z => absurd z (by omega)) | (exfalso; omega; done) | (exfalso; contradiction; done)) (show (m 94 58).toInt = 0 ∨ ((m 94 58).toInt = 1 ∧ (m 94 57).toInt < (m1 94 56).toInt ∧ (m 94 57).toInt = (m 94 57).toInt) from by omega) (show qRB (m 99) (m 100) (m 98) (m 101) (m 102) (m 103) (m 107) (m 108) (m 109) (m 111) (m 112) (m 113) (m 114) (m 94 55) (m 94 46) (m 94 11) (m 94 12) (m 94 62) (m 94 17) (m 94 9) (aLk aa) from by first | (rw [Lk_1 (by have q := MQ_of p4_m1; omega)]; exact p2_m1; done) | (rw [Lk_2 (by have q := MQ_of r_MQ; omega) (by rw [Nw_y r_RB (by assumption)]; have q := MQ_of p4_m1; omega), Nw_y r_RB (by assumption)]; exact p2_m1; done) | (rw [Lk_2 (by have q := MQ_of r_MQ; omega) (by rw [Nw_n r_RB (by assumption)]; have q := MQ_of p4_m1; omega), Nw_n r_RB (by assumption)]; exact p2_m1; done) | (exfalso; omega; done) | (exfalso; contradiction; done)) (show qI (aLk aa) from by first | (rw [Lk_1 (by have q := MQ_of p4_m1; omega)]; exact p3_m1; done) | (rw [Lk_2 (by have q := MQ_of r_MQ; omega) (by rw [Nw_y r_RB (by assumption)]; have q := MQ_of p4_m1; omega), Nw_y r_RB (by assumption)]; exact p3_m1; done) | (rw [Lk_2 (by have q := MQ_of r_MQ; omega) (by rw [Nw_n r_RB (by assumption)]; have q := MQ_of p4_m1; omega), Nw_n r_RB (by assumption)]; exact p3_m1; done) | (exfalso; omega; done) | (exfalso; contradiction; done)) (show qMG (m 94 58) (m1 106) (m1 115) (m 94 57) (m1 94 56) (m 99) (m 100) (aLk aa) from by first | (exact fun z => absurd (by decide) z) | (rw [Lk_1 (by have q := MQ_of p4_m1; omega)]; exact fun _ => ⟨p4_m1, r_MI⟩; done) | (rw [Lk_2 (by have q := MQ_of r_MQ; omega) (by rw [Nw_y r_RB (by assumption)]; have q := MQ_of p4_m1; omega), Nw_y r_RB (by assumption)]; exact fun _ => ⟨p4_m1, r_MI⟩; done) | (rw [Lk_2 (by have q := MQ_of r_MQ; omega) (by rw [Nw_n r_RB (by assumption)]; have q := MQ_of p4_m1; omega), Nw_n r_RB (by assumption)]; exact fun _ => ⟨p4_m1, MI_ro r_MI r_MQ.2.2.2.2 r_QI.2.2.2.1.1.2 r_QI.2.2.2.1.2.1.2⟩; done) | (exfalso; omega; done) | (exfalso; contradiction; done)) (show (aLk aa) 87 8 = (m 94 58) from by first | (rw [Lk_1 (by have q := MQ_of p4_m1; omega)]; exact r_MK; done) | (rw [Lk_2 (by have q := MQ_of r_MQ; omega) (by rw [Nw_y r_RB (by assumption)]; have q := MQ_of p4_m1; omega), Nw_87]; exact r_MK; done) | (rw [Lk_2 (by have q := MQ_of r_MQ; omega) (by rw [Nw_n r_RB (by assumption)]; have q := MQ_of p4_m1; omega), Nw_87]; exact r_MK; done) | (exfalso; omega; done) | (exfalso; contradiction; done)) r_WTS
    · skip
      have g16 := i_ne h9
      refine zd (fun (h17 : (m 94 56) ≤ (m 94 57)) => ?_) (fun (h17 : ¬ (m 94 56) ≤ (m 94 57)) => ?_)
      · skip
        have g18 := i_le h17
        have hV19 : zV (ma_u m 94 47 ((m 94 47) + (1 : Int32))) := uf_94_47 hV
        exact lp_223r_49 hV K _ _ ((0 : Int32)) rfl (zF_u zF_rfl rfl) hV19 (by omega) (by omega) r_W r_GW r_GU r_OW (show (m 94 10).toInt = 5 from by omega) (show (m 94 58).toInt = 1 from by omega) (show (m 94 57).toInt = (m 94 57).toInt from by omega) (show ∀ s : Nat, (s : Int) < (0 : Int32).toInt → ((m 110) s ≠ 0 ↔ (m 99) s ≠ 0 ∧ (m 106) s ≠ 0) from by first | (intro s hs; omega; done) | (exfalso; omega; done) | (exfalso; contradiction; done)) (show qRB (m 99) (m 100) (m 98) (m 101) (m 102) (m 103) (m 107) (m 108) (m 109) (m 111) (m 112) (m 113) (m 114) (m 94 55) (m 94 46) (m 94 11) (m 94 12) (m 94 62) (m 94 17) (m 94 9) (aNw aa) from by first | (rw [Nw_y r_RB (by assumption)]; exact r_RB; done) | (rw [Nw_n r_RB (by assumption)]; exact r_RB; done) | (exfalso; omega; done) | (exfalso; contradiction; done)) (show qI (aNw aa) from by first | (rw [Nw_y r_RB (by assumption)]; exact r_QI; done) | (rw [Nw_n r_RB (by assumption)]; exact r_QI; done) | (exfalso; omega; done) | (exfalso; contradiction; done)) (show qMQ (m 106) (m 115) (m 94 57) (m 94 56) (m 99) (m 100) (aNw aa) from by first | (rw [Nw_y r_RB (by assumption)]; exact r_MQ; done) | (rw [Nw_n r_RB (by assumption)]; exact r_MQ; done) | (exfalso; omega; done) | (exfalso; contradiction; done)) (show qE0 (aNw aa) from by first | (rw [Nw_y r_RB (by assumption)]; exact E0_of r_MQ (by omega); done) | (rw [Nw_n r_RB (by assumption)]; exact E0_of r_MQ (by omega); done) | (exfalso; omega; done) | (exfalso; contradiction; done)) (show qCl (aNw aa) from by first | (exact Cl_0 r_QI r_MI r_MQ.2.2.2.2 (by rw [Nw_y r_RB (by assumption)]; exact E0_of r_MQ (by omega))) | (exact Cl_0 r_QI r_MI r_MQ.2.2.2.2 (by rw [Nw_n r_RB (by assumption)]; exact E0_of r_MQ (by omega))) | (exfalso; omega; done) | (exfalso; contradiction; done)) (show aLk aa = aFi (aNw aa) from by first | (exact Lk_3 r_MQ.2.2.2.2 r_QI.2.2.2.1.1.2 r_QI.2.2.2.1.2.1.2 (by rw [Nw_y r_RB (by assumption)]; have q := MQ_of r_MQ; omega)) | (exact Lk_3 r_MQ.2.2.2.2 r_QI.2.2.2.1.1.2 r_QI.2.2.2.1.2.1.2 (by rw [Nw_n r_RB (by assumption)]; have q := MQ_of r_MQ; omega)) | (exfalso; omega; done) | (exfalso; contradiction; done)) r_WTS
      · skip
        have g20 := i_nle h17
        exact K ((0 : Int32)) _ zF_rfl hV r_GW r_GU r_OW (show zGG (m 94 58) (m 94 56) (m 94 57) (m 106) from by first | (exact fun _ => r_G1) | (exact fun z => absurd z (by decide)) | (exact fun z => absurd z (by omega)) | (exfalso; omega; done) | (exfalso; contradiction; done)) (show (m 94 58).toInt = 0 ∨ ((m 94 58).toInt = 1 ∧ (m 94 57).toInt < (m 94 56).toInt ∧ (m 94 57).toInt = (m 94 57).toInt) from by omega) (show qRB (m 99) (m 100) (m 98) (m 101) (m 102) (m 103) (m 107) (m 108) (m 109) (m 111) (m 112) (m 113) (m 114) (m 94 55) (m 94 46) (m 94 11) (m 94 12) (m 94 62) (m 94 17) (m 94 9) (aLk aa) from by first | (rw [Lk_1 (by have q := MQ_of r_MQ; omega)]; exact r_RB; done) | (rw [Lk_2 (by have q := MQ_of r_MQ; omega) (by rw [Nw_y r_RB (by assumption)]; have q := MQ_of r_MQ; omega), Nw_y r_RB (by assumption)]; exact r_RB; done) | (rw [Lk_2 (by have q := MQ_of r_MQ; omega) (by rw [Nw_n r_RB (by assumption)]; have q := MQ_of r_MQ; omega), Nw_n r_RB (by assumption)]; exact r_RB; done) | (exfalso; omega; done) | (exfalso; contradiction; done)) (show qI (aLk aa) from by first | (rw [Lk_1 (by have q := MQ_of r_MQ; omega)]; exact r_QI; done) | (rw [Lk_2 (by have q := MQ_of r_MQ; omega) (by rw [Nw_y r_RB (by assumption)]; have q := MQ_of r_MQ; omega), Nw_y r_RB (by assumption)]; exact r_QI; done) | (rw [Lk_2 (by have q := MQ_of r_MQ; omega) (by rw [Nw_n r_RB (by assumption)]; have q := MQ_of r_MQ; omega), Nw_n r_RB (by assumption)]; exact r_QI; done) | (exfalso; omega; done) | (exfalso; contradiction; done)) (show qMG (m 94 58) (m 106) (m 115) (m 94 57) (m 94 56) (m 99) (m 100) (aLk aa) from by first | (exact fun z => absurd (by decide) z) | (rw [Lk_1 (by have q := MQ_of r_MQ; omega)]; exact fun _ => ⟨r_MQ, r_MI⟩; done) | (rw [Lk_2 (by have q := MQ_of r_MQ; omega) (by rw [Nw_y r_RB (by assumption)]; have q := MQ_of r_MQ; omega), Nw_y r_RB (by assumption)]; exact fun _ => ⟨r_MQ, r_MI⟩; done) | (rw [Lk_2 (by have q := MQ_of r_MQ; omega) (by rw [Nw_n r_RB (by assumption)]; have q := MQ_of r_MQ; omega), Nw_n r_RB (by assumption)]; exact fun _ => ⟨r_MQ, MI_ro r_MI r_MQ.2.2.2.2 r_QI.2.2.2.1.1.2 r_QI.2.2.2.1.2.1.2⟩; done) | (exfalso; omega; done) | (exfalso; contradiction; done)) (show (aLk aa) 87 8 = (m 94 58) from by first | (rw [Lk_1 (by have q := MQ_of r_MQ; omega)]; exact r_MK; done) | (rw [Lk_2 (by have q := MQ_of r_MQ; omega) (by rw [Nw_y r_RB (by assumption)]; have q := MQ_of r_MQ; omega), Nw_87]; exact r_MK; done) | (rw [Lk_2 (by have q := MQ_of r_MQ; omega) (by rw [Nw_n r_RB (by assumption)]; have q := MQ_of r_MQ; omega), Nw_87]; exact r_MK; done) | (exfalso; omega; done) | (exfalso; contradiction; done)) r_WTS
  · skip
    have g21 := i_nle h5
    have li22 : (0 : Int32).toInt = 0 := rfl
    exact K ((0 : Int32)) _ zF_rfl hV r_GW r_GU r_OW (show zGG (m 94 58) (m 94 56) (m 94 57) (m 106) from by first | (exact fun _ => r_G1) | (exact fun z => absurd z (by decide)) | (exact fun z => absurd z (by omega)) | (exfalso; omega; done) | (exfalso; contradiction; done)) (show (m 94 58).toInt = 0 ∨ ((m 94 58).toInt = 1 ∧ (m 94 57).toInt < (m 94 56).toInt ∧ (m 94 57).toInt = (m 94 57).toInt) from by omega) (show qRB (m 99) (m 100) (m 98) (m 101) (m 102) (m 103) (m 107) (m 108) (m 109) (m 111) (m 112) (m 113) (m 114) (m 94 55) (m 94 46) (m 94 11) (m 94 12) (m 94 62) (m 94 17) (m 94 9) (aLk aa) from by first | (rw [Lk_1 (by have q := MQ_of r_MQ; omega)]; exact r_RB; done) | (rw [Lk_2 (by have q := MQ_of r_MQ; omega) (by rw [Nw_y r_RB (by assumption)]; have q := MQ_of r_MQ; omega), Nw_y r_RB (by assumption)]; exact r_RB; done) | (rw [Lk_2 (by have q := MQ_of r_MQ; omega) (by rw [Nw_n r_RB (by assumption)]; have q := MQ_of r_MQ; omega), Nw_n r_RB (by assumption)]; exact r_RB; done) | (exfalso; omega; done) | (exfalso; contradiction; done)) (show qI (aLk aa) from by first | (rw [Lk_1 (by have q := MQ_of r_MQ; omega)]; exact r_QI; done) | (rw [Lk_2 (by have q := MQ_of r_MQ; omega) (by rw [Nw_y r_RB (by assumption)]; have q := MQ_of r_MQ; omega), Nw_y r_RB (by assumption)]; exact r_QI; done) | (rw [Lk_2 (by have q := MQ_of r_MQ; omega) (by rw [Nw_n r_RB (by assumption)]; have q := MQ_of r_MQ; omega), Nw_n r_RB (by assumption)]; exact r_QI; done) | (exfalso; omega; done) | (exfalso; contradiction; done)) (show qMG (m 94 58) (m 106) (m 115) (m 94 57) (m 94 56) (m 99) (m 100) (aLk aa) from by first | (exact fun z => absurd (by decide) z) | (rw [Lk_1 (by have q := MQ_of r_MQ; omega)]; exact fun _ => ⟨r_MQ, r_MI⟩; done) | (rw [Lk_2 (by have q := MQ_of r_MQ; omega) (by rw [Nw_y r_RB (by assumption)]; have q := MQ_of r_MQ; omega), Nw_y r_RB (by assumption)]; exact fun _ => ⟨r_MQ, r_MI⟩; done) | (rw [Lk_2 (by have q := MQ_of r_MQ; omega) (by rw [Nw_n r_RB (by assumption)]; have q := MQ_of r_MQ; omega), Nw_n r_RB (by assumption)]; exact fun _ => ⟨r_MQ, MI_ro r_MI r_MQ.2.2.2.2 r_QI.2.2.2.1.1.2 r_QI.2.2.2.1.2.1.2⟩; done) | (exfalso; omega; done) | (exfalso; contradiction; done)) (show (aLk aa) 87 8 = (m 94 58) from by first | (rw [Lk_1 (by have q := MQ_of r_MQ; omega)]; exact r_MK; done) | (rw [Lk_2 (by have q := MQ_of r_MQ; omega) (by rw [Nw_y r_RB (by assumption)]; have q := MQ_of r_MQ; omega), Nw_87]; exact r_MK; done) | (rw [Lk_2 (by have q := MQ_of r_MQ; omega) (by rw [Nw_n r_RB (by assumption)]; have q := MQ_of r_MQ; omega), Nw_87]; exact r_MK; done) | (exfalso; omega; done) | (exfalso; contradiction; done)) r_WTS
theorem lp_230r_2 {X : Nat × (Nat → Int32)} {P : Option ma_V → (Nat → Nat → Int32) → Prop} {T : Nat} {aa : Nat→Nat→Int32} {m0 : Nat → Nat → Int32} (h0 : zV m0) (K : ∀ v m₉, zF wr_230 m0 m₉ → zV m₉ → (zGW T (m₉ 94 55) (m₉ 109)) → (zGU T (m₉ 94 46) (m₉ 99)) → (zOw (m₉ 99) (m₉ 103) (m₉ 111)) → (zGG (m₉ 94 58) (m₉ 94 56) (m₉ 94 57) (m₉ 106)) → ((m₉ 94 58).toInt = 0) → (qRB (m₉ 99) (m₉ 100) (m₉ 98) (m₉ 101) (m₉ 102) (m₉ 103) (m₉ 107) (m₉ 108) (m₉ 109) (m₉ 111) (m₉ 112) (m₉ 113) (m₉ 114) (m₉ 94 55) (m₉ 94 46) (m₉ 94 11) (m₉ 94 12) (m₉ 94 62) (m₉ 94 17) (m₉ 94 9) (aCl aa)) → (qI (aCl aa)) → ((m₉ 94 45).toInt = sm (zbU (m₉ 99)) (m₉ 102) 3100) → P (some (.inl v)) m₉) : ∀ (n : Nat) (m : Nat → Nat → Int32) (l1 : Int32), ((zfm (m 94 58) (m 94 57) (m 94 56) : Int)).toNat = n → zF wr_230 m0 m → zV m → (T ≤ 512) → (zW (m 94 7) (m 98) (m 101) (m 102) (m 108)) → (zGW T (m 94 55) (m 109)) → (zGU T (m 94 46) (m 99)) → (zOw (m 99) (m 103) (m 111)) → (zGG (m 94 58) (m 94 56) (m 94 57) (m 106)) → ((m 94 10).toInt = 5) → (qFN (m 99) (m 100) (m 98) (m 101) (m 102) (m 103) (m 107) (m 108) (m 109) (m 111) (m 112) (m 113) (m 114) (m 94 55) (m 94 46) (m 94 11) (m 94 12) (m 94 62) (m 94 17) (m 94 9) (m 106) (m 115) (m 94 57) (m 94 56) (m 94 58) (aCl aa)) → ((m 94 45).toInt = sm (zbU (m 99)) (m 102) 3100) → zm X 5 109 230 2 [(0, .inr (.inr (some 94))), (1, .inl l1)] m P := by
  intro n
  induction n using Nat.strongRecOn with
  | _ n IH =>
    intro m l1 hmu hF hV hi0 r_W r_GW r_GU r_OW r_GG hi6 r_FN r_WTS
    refine g_230_2 l1 ?_
    have f1 : 0 ≤ (m 94 10).toInt ∧ (m 94 10).toInt ≤ 6 := rs_94_10 (m := m) hV
    have f2 : 0 ≤ (m 94 58).toInt ∧ (m 94 58).toInt ≤ 1 := rs_94_58 (m := m) hV
    have li3 : (0 : Int32).toInt = 0 := rfl
    refine zd (fun (h4 : (m 94 58) = (0 : Int32)) => ?_) (fun (h4 : ¬ (m 94 58) = (0 : Int32)) => ?_)
    · skip
      have g5 := i_eq h4
      try have g0 := (r_GG (by omega)).1
      have b6 := i_bd l1
      exact K (l1) _ hF hV r_GW r_GU r_OW r_GG (show (m 94 58).toInt = 0 from by omega) (show qRB (m 99) (m 100) (m 98) (m 101) (m 102) (m 103) (m 107) (m 108) (m 109) (m 111) (m 112) (m 113) (m 114) (m 94 55) (m 94 46) (m 94 11) (m 94 12) (m 94 62) (m 94 17) (m 94 9) (aCl aa) from by first | (exact (FN_n r_FN (by assumption)).1) | (exfalso; omega; done) | (exfalso; contradiction; done)) (show qI (aCl aa) from by first | (exact (FN_n r_FN (by assumption)).2) | (exfalso; omega; done) | (exfalso; contradiction; done)) r_WTS
    · skip
      have g7 := i_ne h4
      have li8 : (3100 : Int32).toInt = 3100 := rfl
      try obtain ⟨b, gRB, gQI, gMQ, gMI, gMK, gT⟩ := FN_y r_FN (by assumption)
      refine sp_222r (aa := b) ((3100 : Int32)) hV (by omega) r_W (show zG1 (m 94 56) (m 94 57) (m 106) from by first | (exact r_GG (by omega)) | (exact G1_0 (by omega) (by omega)) | (exact r_GG (by omega)) | (exfalso; omega; done) | (exfalso; contradiction; done)) (show qMQ (m 106) (m 115) (m 94 57) (m 94 56) (m 99) (m 100) b from by first | (exact gMQ) | (exfalso; omega; done) | (exfalso; contradiction; done)) (show qRB (m 99) (m 100) (m 98) (m 101) (m 102) (m 103) (m 107) (m 108) (m 109) (m 111) (m 112) (m 113) (m 114) (m 94 55) (m 94 46) (m 94 11) (m 94 12) (m 94 62) (m 94 17) (m 94 9) b from by first | (exact gRB) | (exfalso; omega; done) | (exfalso; contradiction; done)) (show qI b from by first | (exact gQI) | (exfalso; omega; done) | (exfalso; contradiction; done)) (fun v2 m1 hV_m1 p0_m1 p1_m1 p2_m1 p3_m1 p4_m1 p5_m1 p6_m1 => zmi_n ?_)
      have p0_m1 : zG1 (m1 94 56) (m1 94 57) (m1 106) := p0_m1
      have p1_m1 : (m 94 56).toInt ≤ (m1 94 56).toInt := p1_m1
      have p2_m1 : (m 94 57).toInt ≤ (m1 94 57).toInt ∧ ((m1 94 56).toInt ≤ (m1 94 57).toInt ∨ (m 94 57).toInt + (3100 : Int32).toInt ≤ (m1 94 57).toInt) := p2_m1
      have p3_m1 : qRB (m 99) (m 100) (m 98) (m 101) (m 102) (m 103) (m 107) (m 108) (m 109) (m 111) (m 112) (m 113) (m 114) (m 94 55) (m 94 46) (m 94 11) (m 94 12) (m 94 62) (m 94 17) (m 94 9) (aSp (3100 : Int32).toInt.toNat b) := p3_m1
      have p4_m1 : qI (aSp (3100 : Int32).toInt.toNat b) := p4_m1
      have p5_m1 : qMQ (m1 106) (m1 115) (m1 94 57) (m1 94 56) (m 99) (m 100) (aSp (3100 : Int32).toInt.toNat b) := p5_m1
      have p6_m1 : qEq v2.toInt (aSn (3100 : Int32).toInt.toNat b : Int) := p6_m1
      have f9 : 0 ≤ (m 94 56).toInt ∧ (m 94 56).toInt ≤ 3100 := rs_94_56 (m := m) hV
      have f10 : 0 ≤ (m1 94 56).toInt ∧ (m1 94 56).toInt ≤ 3100 := rs_94_56 (m := (zov wr_222 m m1)) hV_m1
      have f11 : 0 ≤ (m 94 57).toInt ∧ (m 94 57).toInt ≤ 3100 := rs_94_57 (m := m) hV
      have f12 : 0 ≤ (m1 94 57).toInt ∧ (m1 94 57).toInt ≤ 3100 := rs_94_57 (m := (zov wr_222 m m1)) hV_m1
      refine sp_223r (aa := (aSp (3100 : Int32).toInt.toNat b))  hV_m1 (by omega) r_W r_GW r_GU r_OW p0_m1 (show (m 94 10).toInt = 5 from by omega) (show (m 94 58).toInt = 1 from by omega) p5_m1 p3_m1 p4_m1 (show qMI (aSp (3100 : Int32).toInt.toNat b) from by first | (exact gMI) | (exact MI_sp _ _ gMI gMQ.2.2.2.2) | (exfalso; omega; done) | (exfalso; contradiction; done)) (show (aSp (3100 : Int32).toInt.toNat b) 87 8 = (m 94 58) from by first | (exact gMK) | (exact Sp_87.trans gMK) | (exfalso; omega; done) | (exfalso; contradiction; done)) r_WTS (fun v4 m3 hV_m3 p0_m3 p1_m3 p2_m3 p3_m3 p4_m3 p5_m3 p6_m3 p7_m3 p8_m3 p9_m3 => zmi_n ?_)
      have p0_m3 : zGW T (m3 94 55) (m3 109) := p0_m3
      have p1_m3 : zGU T (m 94 46) (m3 99) := p1_m3
      have p2_m3 : zOw (m3 99) (m 103) (m3 111) := p2_m3
      have p3_m3 : zGG (m3 94 58) (m3 94 56) (m1 94 57) (m3 106) := p3_m3
      have p4_m3 : (m3 94 58).toInt = 0 ∨ ((m3 94 58).toInt = 1 ∧ (m1 94 57).toInt < (m3 94 56).toInt ∧ (m1 94 57).toInt = (m1 94 57).toInt) := p4_m3
      have p5_m3 : qRB (m3 99) (m 100) (m 98) (m 101) (m 102) (m 103) (m 107) (m 108) (m3 109) (m3 111) (m 112) (m3 113) (m3 114) (m3 94 55) (m 94 46) (m 94 11) (m 94 12) (m 94 62) (m 94 17) (m 94 9) (aLk (aSp (3100 : Int32).toInt.toNat b)) := p5_m3
      have p6_m3 : qI (aLk (aSp (3100 : Int32).toInt.toNat b)) := p6_m3
      have p7_m3 : qMG (m3 94 58) (m3 106) (m3 115) (m1 94 57) (m3 94 56) (m3 99) (m 100) (aLk (aSp (3100 : Int32).toInt.toNat b)) := p7_m3
      have p8_m3 : (aLk (aSp (3100 : Int32).toInt.toNat b)) 87 8 = (m3 94 58) := p8_m3
      have p9_m3 : (m3 94 45).toInt = sm (zbU (m3 99)) (m 102) 3100 := p9_m3
      have f13 : 0 ≤ (m3 94 58).toInt ∧ (m3 94 58).toInt ≤ 1 := rs_94_58 (m := (zov wr_223 (zov wr_222 m m1) m3)) hV_m3
      have f14 : 0 ≤ (m3 94 56).toInt ∧ (m3 94 56).toInt ≤ 3100 := rs_94_56 (m := (zov wr_223 (zov wr_222 m m1) m3)) hV_m3
      try have g1 := p0_m1.1
      try have g0 := (r_GG (by omega)).1
      have b15 := i_bd l1
      have b16 := i_bd v4
      first | have e17 : (l1 + v4).toInt = l1.toInt + v4.toInt := i_add (by omega) (by omega) | have b18 := i_bd (l1 + v4)
      exact IH ((zfm (m3 94 58) (m1 94 57) (m3 94 56) : Int)).toNat (by have zq := zfm_lt (im := m 94 58) (ga := m 94 57) (gm := m 94 56) (im₉ := (m3 94 58)) (ga₉ := (m1 94 57)) (gm₉ := (m3 94 56)) (by omega) (by omega) (by omega) (by omega); omega) _ ((l1 + v4)) rfl (zF_zov (zF_zov hF ws_222_230) ws_223_230) hV_m3 (by omega) r_W p0_m3 p1_m3 p2_m3 p3_m3 (show (m 94 10).toInt = 5 from by omega) (show qFN (m3 99) (m 100) (m 98) (m 101) (m 102) (m 103) (m 107) (m 108) (m3 109) (m3 111) (m 112) (m3 113) (m3 114) (m3 94 55) (m 94 46) (m 94 11) (m 94 12) (m 94 62) (m 94 17) (m 94 9) (m3 106) (m3 115) (m1 94 57) (m3 94 56) (m3 94 58) (aCl aa) from by first | (exact FN_s gMQ.2.2.2.2 gQI (by rw [gMK]; exact i_nz2 (by omega)) (by decide) gT p5_m3 p6_m3 p7_m3 p8_m3 (by omega)) | (exfalso; omega; done) | (exfalso; contradiction; done)) p9_m3
theorem sp_230r {X : Nat × (Nat → Int32)} {P : Option ma_V → (Nat → Nat → Int32) → Prop} {T : Nat} {aa : Nat→Nat→Int32} {m : Nat → Nat → Int32}  (hV : zV m) (hpre0 : T ≤ 512) (r_W : zW (m 94 7) (m 98) (m 101) (m 102) (m 108)) (r_GW : zGW T (m 94 55) (m 109)) (r_GU : zGU T (m 94 46) (m 99)) (r_OW : zOw (m 99) (m 103) (m 111)) (r_G1 : zG1 (m 94 56) (m 94 57) (m 106)) (hpre6 : (m 94 10).toInt = 5) (hpre7 : (m 94 58).toInt = 1) (r_MQ : qMQ (m 106) (m 115) (m 94 57) (m 94 56) (m 99) (m 100) aa) (r_RB : qRB (m 99) (m 100) (m 98) (m 101) (m 102) (m 103) (m 107) (m 108) (m 109) (m 111) (m 112) (m 113) (m 114) (m 94 55) (m 94 46) (m 94 11) (m 94 12) (m 94 62) (m 94 17) (m 94 9) aa) (r_QI : qI aa) (r_MI : qMI aa) (r_MK : aa 87 8 = (m 94 58)) (r_WTS : (m 94 45).toInt = sm (zbU (m 99)) (m 102) 3100) (KZ : ∀ v m₉, zV (zov wr_230 m m₉) → (zGW T (m₉ 94 55) (m₉ 109)) → (zGU T (m 94 46) (m₉ 99)) → (zOw (m₉ 99) (m 103) (m₉ 111)) → (zGG (m₉ 94 58) (m₉ 94 56) (m₉ 94 57) (m₉ 106)) → ((m₉ 94 58).toInt = 0) → (qRB (m₉ 99) (m 100) (m 98) (m 101) (m 102) (m 103) (m 107) (m 108) (m₉ 109) (m₉ 111) (m 112) (m₉ 113) (m₉ 114) (m₉ 94 55) (m 94 46) (m 94 11) (m 94 12) (m 94 62) (m 94 17) (m 94 9) (aCl aa)) → (qI (aCl aa)) → ((m₉ 94 45).toInt = sm (zbU (m₉ 99)) (m 102) 3100) → P (some (.inl v)) (zov wr_230 m m₉)) : zm X 5 109 230 0 [(0, .inr (.inr (some 94)))] m P := by
  have K : ∀ v m₉, zF wr_230 m m₉ → zV m₉ → (zGW T (m₉ 94 55) (m₉ 109)) → (zGU T (m₉ 94 46) (m₉ 99)) → (zOw (m₉ 99) (m₉ 103) (m₉ 111)) → (zGG (m₉ 94 58) (m₉ 94 56) (m₉ 94 57) (m₉ 106)) → ((m₉ 94 58).toInt = 0) → (qRB (m₉ 99) (m₉ 100) (m₉ 98) (m₉ 101) (m₉ 102) (m₉ 103) (m₉ 107) (m₉ 108) (m₉ 109) (m₉ 111) (m₉ 112) (m₉ 113) (m₉ 114) (m₉ 94 55) (m₉ 94 46) (m₉ 94 11) (m₉ 94 12) (m₉ 94 62) (m₉ 94 17) (m₉ 94 9) (aCl aa)) → (qI (aCl aa)) → ((m₉ 94 45).toInt = sm (zbU (m₉ 99)) (m₉ 102) 3100) → P (some (.inl v)) m₉ := by
    intro v m₉ hf z q0 q1 q2 q3 q4 q5 q6 q7
    have e := zov_eq hf
    rw [e] at z ⊢
    try rw [e] at q0
    try rw [e] at q1
    try rw [e] at q2
    try rw [e] at q3
    try rw [e] at q4
    try rw [e] at q5
    try rw [e] at q6
    try rw [e] at q7
    exact KZ v m₉ z q0 q1 q2 q3 q4 q5 q6 q7
  refine g_230_0  ?_
  have f1 : 0 ≤ (m 94 10).toInt ∧ (m 94 10).toInt ≤ 6 := rs_94_10 (m := m) hV
  have f2 : 0 ≤ (m 94 58).toInt ∧ (m 94 58).toInt ≤ 1 := rs_94_58 (m := m) hV
  try have g1 := r_G1.1
  try have g0 := (r_GG (by omega)).1
  have li3 : (0 : Int32).toInt = 0 := rfl
  have f4 : 0 ≤ (m 94 57).toInt ∧ (m 94 57).toInt ≤ 3100 := rs_94_57 (m := m) hV
  have f5 : 0 ≤ (m 94 56).toInt ∧ (m 94 56).toInt ≤ 3100 := rs_94_56 (m := m) hV
  exact lp_230r_2 hV K _ _ ((0 : Int32)) rfl zF_rfl hV (by omega) r_W r_GW r_GU r_OW (show zGG (m 94 58) (m 94 56) (m 94 57) (m 106) from by first | (exact fun _ => r_G1) | (exact fun z => absurd z (by decide)) | (exact fun z => absurd z (by omega)) | (exfalso; omega; done) | (exfalso; contradiction; done)) (show (m 94 10).toInt = 5 from by omega) (show qFN (m 99) (m 100) (m 98) (m 101) (m 102) (m 103) (m 107) (m 108) (m 109) (m 111) (m 112) (m 113) (m 114) (m 94 55) (m 94 46) (m 94 11) (m 94 12) (m 94 62) (m 94 17) (m 94 9) (m 106) (m 115) (m 94 57) (m 94 56) (m 94 58) (aCl aa) from by first | (exact Or.inl ⟨by have q := rs_94_58 hV; exact i_nz2 (by omega), aa, r_RB, r_QI, r_MQ, r_MI, r_MK, (Cl_m (by rw [r_MK]; exact i_nz2 (by omega))).symm⟩) | (exfalso; omega; done) | (exfalso; contradiction; done)) r_WTS

/-! from 95.h18 -/
/-! the reference by numbers (written by wip/tools/gen18r.py) -/
theorem sp_229r {X : Nat × (Nat → Int32)} {P : Option ma_V → (Nat → Nat → Int32) → Prop} {T : Nat} {aa : Nat→Nat→Int32} {m : Nat → Nat → Int32}  (hV : zV m) (hpre0 : T ≤ 512) (r_W : zW (m 94 7) (m 98) (m 101) (m 102) (m 108)) (r_GW : zGW T (m 94 55) (m 109)) (r_GU : zGU T (m 94 46) (m 99)) (r_OW : zOw (m 99) (m 103) (m 111)) (hpre5 : (m 94 10).toInt = 5) (r_RB : qRB (m 99) (m 100) (m 98) (m 101) (m 102) (m 103) (m 107) (m 108) (m 109) (m 111) (m 112) (m 113) (m 114) (m 94 55) (m 94 46) (m 94 11) (m 94 12) (m 94 62) (m 94 17) (m 94 9) aa) (r_QI : qI aa) (r_WTS : (m 94 45).toInt = sm (zbU (m 99)) (m 102) 3100) (r_MKz : aa 87 8 = 0) (KZ : ∀ v m₉, zV (zov wr_229 m m₉) → (zGW T (m₉ 94 55) (m₉ 109)) → (zGU T (m 94 46) (m₉ 99)) → (zOw (m₉ 99) (m 103) (m₉ 111)) → (zGG (m₉ 94 58) (m₉ 94 56) (m₉ 94 57) (m₉ 106)) → ((m₉ 94 58).toInt = 0) → (qRB (m₉ 99) (m 100) (m 98) (m 101) (m 102) (m 103) (m 107) (m 108) (m₉ 109) (m₉ 111) (m 112) (m₉ 113) (m₉ 114) (m₉ 94 55) (m 94 46) (m 94 11) (m 94 12) (m 94 62) (m 94 17) (m 94 9) (aCl aa)) → (qI (aCl aa)) → ((m₉ 94 45).toInt = sm (zbU (m₉ 99)) (m 102) 3100) → P (some (.inl v)) (zov wr_229 m m₉)) : zm X 6 131 229 0 [(0, .inr (.inr (some 94)))] m P := by
  have K : ∀ v m₉, zF wr_229 m m₉ → zV m₉ → (zGW T (m₉ 94 55) (m₉ 109)) → (zGU T (m₉ 94 46) (m₉ 99)) → (zOw (m₉ 99) (m₉ 103) (m₉ 111)) → (zGG (m₉ 94 58) (m₉ 94 56) (m₉ 94 57) (m₉ 106)) → ((m₉ 94 58).toInt = 0) → (qRB (m₉ 99) (m₉ 100) (m₉ 98) (m₉ 101) (m₉ 102) (m₉ 103) (m₉ 107) (m₉ 108) (m₉ 109) (m₉ 111) (m₉ 112) (m₉ 113) (m₉ 114) (m₉ 94 55) (m₉ 94 46) (m₉ 94 11) (m₉ 94 12) (m₉ 94 62) (m₉ 94 17) (m₉ 94 9) (aCl aa)) → (qI (aCl aa)) → ((m₉ 94 45).toInt = sm (zbU (m₉ 99)) (m₉ 102) 3100) → P (some (.inl v)) m₉ := by
    intro v m₉ hf z q0 q1 q2 q3 q4 q5 q6 q7
    have e := zov_eq hf
    rw [e] at z ⊢
    try rw [e] at q0
    try rw [e] at q1
    try rw [e] at q2
    try rw [e] at q3
    try rw [e] at q4
    try rw [e] at q5
    try rw [e] at q6
    try rw [e] at q7
    exact KZ v m₉ z q0 q1 q2 q3 q4 q5 q6 q7
  refine g_229_0  ?_
  have f1 : 0 ≤ (m 94 10).toInt ∧ (m 94 10).toInt ≤ 6 := rs_94_10 (m := m) hV
  refine sp_219r (aa := aa)  hV r_RB r_QI (fun m1 hV_m1 p0_m1 p1_m1 p2_m1 p3_m1 p4_m1 => zmv_n ?_)
  have p0_m1 : zG1 (m1 94 56) (m1 94 57) (m1 106) := p0_m1
  have p1_m1 : (m1 94 58).toInt = 1 := p1_m1
  have p2_m1 : qRB (m 99) (m 100) (m 98) (m 101) (m 102) (m 103) (m 107) (m 108) (m 109) (m 111) (m 112) (m 113) (m 114) (m 94 55) (m 94 46) (m 94 11) (m 94 12) (m 94 62) (m 94 17) (m 94 9) (aB0 aa) := p2_m1
  have p3_m1 : qI (aB0 aa) := p3_m1
  have p4_m1 : qMQ (m1 106) (m1 115) (m1 94 57) (m1 94 56) (m 99) (m 100) (aB0 aa) := p4_m1
  have f2 : 0 ≤ (m1 94 58).toInt ∧ (m1 94 58).toInt ≤ 1 := rs_94_58 (m := (zov wr_219 m m1)) hV_m1
  refine sp_230r (aa := (aB0 aa))  hV_m1 (by omega) r_W r_GW r_GU r_OW p0_m1 (show (m 94 10).toInt = 5 from by omega) (show (m1 94 58).toInt = 1 from by omega) p4_m1 p2_m1 p3_m1 (show qMI (aB0 aa) from by first | (exact MI_b0 r_QI) | (exfalso; omega; done) | (exfalso; contradiction; done)) (show (aB0 aa) 87 8 = (m1 94 58) from by first | (exact B0_87.trans (i_one (by omega))) | (exfalso; omega; done) | (exfalso; contradiction; done)) r_WTS (fun v4 m3 hV_m3 p0_m3 p1_m3 p2_m3 p3_m3 p4_m3 p5_m3 p6_m3 p7_m3 => zmi_n ?_)
  have p0_m3 : zGW T (m3 94 55) (m3 109) := p0_m3
  have p1_m3 : zGU T (m 94 46) (m3 99) := p1_m3
  have p2_m3 : zOw (m3 99) (m 103) (m3 111) := p2_m3
  have p3_m3 : zGG (m3 94 58) (m3 94 56) (m3 94 57) (m3 106) := p3_m3
  have p4_m3 : (m3 94 58).toInt = 0 := p4_m3
  have p5_m3 : qRB (m3 99) (m 100) (m 98) (m 101) (m 102) (m 103) (m 107) (m 108) (m3 109) (m3 111) (m 112) (m3 113) (m3 114) (m3 94 55) (m 94 46) (m 94 11) (m 94 12) (m 94 62) (m 94 17) (m 94 9) (aCl (aB0 aa)) := p5_m3
  have p6_m3 : qI (aCl (aB0 aa)) := p6_m3
  have p7_m3 : (m3 94 45).toInt = sm (zbU (m3 99)) (m 102) 3100 := p7_m3
  have f3 : 0 ≤ (m3 94 58).toInt ∧ (m3 94 58).toInt ≤ 1 := rs_94_58 (m := (zov wr_230 (zov wr_219 m m1) m3)) hV_m3
  have b4 := i_bd v4
  exact K (v4) _ (zF_zov (zF_zov zF_rfl ws_219_229) ws_230_229) hV_m3 p0_m3 p1_m3 p2_m3 p3_m3 (show (m3 94 58).toInt = 0 from by omega) (show qRB (m3 99) (m 100) (m 98) (m 101) (m 102) (m 103) (m 107) (m 108) (m3 109) (m3 111) (m 112) (m3 113) (m3 114) (m3 94 55) (m 94 46) (m 94 11) (m 94 12) (m 94 62) (m 94 17) (m 94 9) (aCl aa) from by first | (rw [← Cl_b r_MKz]; exact p5_m3; done) | (exact p5_m3) | (exfalso; omega; done) | (exfalso; contradiction; done)) (show qI (aCl aa) from by first | (rw [← Cl_b r_MKz]; exact p6_m3; done) | (exact p6_m3) | (exfalso; omega; done) | (exfalso; contradiction; done)) p7_m3

/-! from 95.h19 -/
/-! the reference by numbers (written by wip/tools/gen18r.py) -/
theorem g_217r_0 {X : Nat × (Nat → Int32)} {m : Nat → Nat → Int32} {P : Option ma_V → (Nat → Nat → Int32) → Prop} (nz : Int32) (h : if (m 94 58) = 0 then (if (m 94 11) ≤ (((m 94 11) - (m 94 45)) * (4 : Int32)) then (if (m 94 58) = 0 then (zm X 7 151 217 45 [(0, .inr (.inr (some 94))), (1, .inl nz)] m P) else (zm X 2 44 222 0 [(0, .inr (.inr (some 94))), (1, .inl (m 94 17))] m (zmi (fun v6 m5 => zm X 4 88 223 0 [(0, .inr (.inr (some 94)))] m5 (zmi (fun v8 m7 => zm X 7 151 217 45 [(0, .inr (.inr (some 94))), (1, .inl nz)] m7 P)))))) else (zm X 2 44 219 0 [(0, .inr (.inr (some 94)))] m (zmv (fun m9 => if (m9 94 58) = 0 then (zm X 7 151 217 45 [(0, .inr (.inr (some 94))), (1, .inl nz)] m9 P) else (zm X 2 44 222 0 [(0, .inr (.inr (some 94))), (1, .inl (m9 94 17))] m9 (zmi (fun v12 m11 => zm X 4 88 223 0 [(0, .inr (.inr (some 94)))] m11 (zmi (fun v14 m13 => zm X 7 151 217 45 [(0, .inr (.inr (some 94))), (1, .inl nz)] m13 P))))))))) else (if (m 94 58) = 0 then (zm X 7 151 217 45 [(0, .inr (.inr (some 94))), (1, .inl nz)] m P) else (zm X 2 44 222 0 [(0, .inr (.inr (some 94))), (1, .inl (m 94 17))] m (zmi (fun v2 m1 => zm X 4 88 223 0 [(0, .inr (.inr (some 94)))] m1 (zmi (fun v4 m3 => zm X 7 151 217 45 [(0, .inr (.inr (some 94))), (1, .inl nz)] m3 P))))))) : zm X 7 151 217 0 [(0, .inr (.inr (some 94))), (1, .inl nz)] m P := by
  intro d w S Q hd hw hS hm HQ
  subst hm
  refine zw_push hm_217 dX12_findInSteps_0 (v := .inr (.inr (some 94))) rfl ?_
  refine zw_gf hm_217 dX12_findInSteps_1 (v := .inl ((mI S) 94 58)) (zT_is hS s_94) (zT_t hS s_94) rfl f_12_270_12 rfl ?_
  refine zw_if0 hm_217 dX12_findInSteps_4 (t := 24) rfl zc0_ne ?_ ?_
  · intro hc
    rw [if_neg hc] at h
    refine zw_push hm_217 dX12_findInSteps_24 (v := .inr (.inr (some 94))) rfl ?_
    refine zw_gf hm_217 dX12_findInSteps_25 (v := .inl ((mI S) 94 58)) (zT_is hS s_94) (zT_t hS s_94) rfl f_12_270_12 rfl ?_
    refine zw_if0 hm_217 dX12_findInSteps_28 (t := 45) rfl zc0_eq ?_ ?_
    · intro hc
      rw [if_pos hc] at h
      exact (h d w _ Q (by omega) (by omega) hS rfl HQ)
    · intro hc
      rw [if_neg hc] at h
      refine zw_push hm_217 dX12_findInSteps_31 (v := .inr (.inr (some 94))) rfl ?_
      refine zw_push hm_217 dX12_findInSteps_32 (v := .inr (.inr (some 94))) rfl ?_
      refine zw_gf hm_217 dX12_findInSteps_33 (v := .inl ((mI S) 94 17)) (zT_is hS s_94) (zT_t hS s_94) rfl f_12_219_12 rfl ?_
      refine zw_cv hm_217 dX12_findInSteps_36 v_12_402_12 hm_222 [.inl ((mI S) 94 17)] [] rfl (zT_rt hS s_94 rfl) ⟨by omega, by omega⟩ rfl (h _ _ S _ (by omega) (by omega) hS rfl (fun o9 m1 hv => ?_))
      obtain ⟨v2, rfl, h⟩ := zmi_of hv
      show ma_wp X d w 217 39 [(0, .inr (.inr (some 94))), (1, .inl nz)] [.inl v2] (zst S m1) _
      refine zw_sto hm_217 dX12_findInSteps_39 [(2, .inl v2), (0, .inr (.inr (some 94))), (1, .inl nz)] rfl rfl rfl ?_
      refine zw_push hm_217 dX12_findInSteps_40 (v := .inr (.inr (some 94))) rfl ?_
      refine zw_cv hm_217 dX12_findInSteps_41 v_12_405_12 hm_223 [] [] rfl (zT_rt (zT_zst hS m1) s_94 rfl) ⟨by omega, by omega⟩ rfl (h _ _ (zst S m1) _ (by omega) (by omega) (zT_zst hS m1) rfl (fun o9 m3 hv => ?_))
      obtain ⟨v4, rfl, h⟩ := zmi_of hv
      show ma_wp X d w 217 44 [(2, .inl v2), (0, .inr (.inr (some 94))), (1, .inl nz)] [.inl v4] (zst S m3) _
      refine zw_sto hm_217 dX12_findInSteps_44 [(3, .inl v4), (2, .inl v2), (0, .inr (.inr (some 94))), (1, .inl nz)] rfl rfl rfl ?_
      exact zw_sub (ma_nd_of (ks := [0, 1]) rfl (by decide)) (ma_nd_of (ks := [3, 2, 0, 1]) rfl (by decide)) (ma_le_cons rfl (ma_le_cons rfl (ma_le_nil _))) (h d w _ Q (by omega) (by omega) (zT_zst hS m3) rfl HQ)
  · intro hc
    rw [if_pos (Classical.not_not.mp hc)] at h
    refine zw_push hm_217 dX12_findInSteps_7 (v := .inr (.inr (some 94))) rfl ?_
    refine zw_cv hm_217 dX12_findInSteps_8 v_12_439_12 hm_218 [] [] rfl (zT_rt hS s_94 rfl) ⟨by omega, by omega⟩ rfl ?_
    show ma_wp X (d - 1) (w - 20) 218 0 [(0, .inr (.inr (some 94)))] [] S _
    refine zw_push hm_218 dX12_freeWords_0 (v := .inr (.inr (some 94))) rfl ?_
    refine zw_gf hm_218 dX12_freeWords_1 (v := .inl ((mI S) 94 11)) (zT_is hS s_94) (zT_t hS s_94) rfl f_12_202_12 rfl ?_
    refine zw_push hm_218 dX12_freeWords_4 (v := .inr (.inr (some 94))) rfl ?_
    refine zw_gf hm_218 dX12_freeWords_5 (v := .inl ((mI S) 94 45)) (zT_is hS s_94) (zT_t hS s_94) rfl f_12_243_12 rfl ?_
    refine zw_stk hm_218 dX12_freeWords_8 (st₉ := [.inl (((mI S) 94 11) - ((mI S) 94 45))]) rfl rfl ?_
    refine zw_iret hm_218 dX12_freeWords_9 ?_
    show ma_wp X d w 217 11 [(0, .inr (.inr (some 94))), (1, .inl nz)] [.inl (((mI S) 94 11) - ((mI S) 94 45))] S _
    refine zw_push hm_217 dX12_findInSteps_11 (v := .inl (4 : Int32)) rfl ?_
    refine zw_stk hm_217 dX12_findInSteps_12 (st₉ := [.inl ((((mI S) 94 11) - ((mI S) 94 45)) * (4 : Int32))]) rfl rfl ?_
    refine zw_push hm_217 dX12_findInSteps_13 (v := .inr (.inr (some 94))) rfl ?_
    refine zw_gf hm_217 dX12_findInSteps_14 (v := .inl ((mI S) 94 11)) (zT_is hS s_94) (zT_t hS s_94) rfl f_12_202_12 rfl ?_
    refine zw_if2 hm_217 dX12_findInSteps_17 (t := 24) rfl zc2_ge ?_ ?_
    · intro hc
      rw [if_pos hc] at h
      refine zw_push hm_217 dX12_findInSteps_24 (v := .inr (.inr (some 94))) rfl ?_
      refine zw_gf hm_217 dX12_findInSteps_25 (v := .inl ((mI S) 94 58)) (zT_is hS s_94) (zT_t hS s_94) rfl f_12_270_12 rfl ?_
      refine zw_if0 hm_217 dX12_findInSteps_28 (t := 45) rfl zc0_eq ?_ ?_
      · intro hc
        rw [if_pos hc] at h
        exact (h d w _ Q (by omega) (by omega) hS rfl HQ)
      · intro hc
        rw [if_neg hc] at h
        refine zw_push hm_217 dX12_findInSteps_31 (v := .inr (.inr (some 94))) rfl ?_
        refine zw_push hm_217 dX12_findInSteps_32 (v := .inr (.inr (some 94))) rfl ?_
        refine zw_gf hm_217 dX12_findInSteps_33 (v := .inl ((mI S) 94 17)) (zT_is hS s_94) (zT_t hS s_94) rfl f_12_219_12 rfl ?_
        refine zw_cv hm_217 dX12_findInSteps_36 v_12_402_12 hm_222 [.inl ((mI S) 94 17)] [] rfl (zT_rt hS s_94 rfl) ⟨by omega, by omega⟩ rfl (h _ _ S _ (by omega) (by omega) hS rfl (fun o9 m5 hv => ?_))
        obtain ⟨v6, rfl, h⟩ := zmi_of hv
        show ma_wp X d w 217 39 [(0, .inr (.inr (some 94))), (1, .inl nz)] [.inl v6] (zst S m5) _
        refine zw_sto hm_217 dX12_findInSteps_39 [(2, .inl v6), (0, .inr (.inr (some 94))), (1, .inl nz)] rfl rfl rfl ?_
        refine zw_push hm_217 dX12_findInSteps_40 (v := .inr (.inr (some 94))) rfl ?_
        refine zw_cv hm_217 dX12_findInSteps_41 v_12_405_12 hm_223 [] [] rfl (zT_rt (zT_zst hS m5) s_94 rfl) ⟨by omega, by omega⟩ rfl (h _ _ (zst S m5) _ (by omega) (by omega) (zT_zst hS m5) rfl (fun o9 m7 hv => ?_))
        obtain ⟨v8, rfl, h⟩ := zmi_of hv
        show ma_wp X d w 217 44 [(2, .inl v6), (0, .inr (.inr (some 94))), (1, .inl nz)] [.inl v8] (zst S m7) _
        refine zw_sto hm_217 dX12_findInSteps_44 [(3, .inl v8), (2, .inl v6), (0, .inr (.inr (some 94))), (1, .inl nz)] rfl rfl rfl ?_
        exact zw_sub (ma_nd_of (ks := [0, 1]) rfl (by decide)) (ma_nd_of (ks := [3, 2, 0, 1]) rfl (by decide)) (ma_le_cons rfl (ma_le_cons rfl (ma_le_nil _))) (h d w _ Q (by omega) (by omega) (zT_zst hS m7) rfl HQ)
    · intro hc
      rw [if_neg hc] at h
      refine zw_push hm_217 dX12_findInSteps_20 (v := .inr (.inr (some 94))) rfl ?_
      refine zw_cv hm_217 dX12_findInSteps_21 v_12_408_12 hm_219 [] [] rfl (zT_rt hS s_94 rfl) ⟨by omega, by omega⟩ rfl (h _ _ S _ (by omega) (by omega) hS rfl (fun o9 m9 hv => ?_))
      obtain ⟨rfl, h⟩ := zmv_of hv
      show ma_wp X d w 217 24 [(0, .inr (.inr (some 94))), (1, .inl nz)] [] (zst S m9) _
      refine zw_push hm_217 dX12_findInSteps_24 (v := .inr (.inr (some 94))) rfl ?_
      refine zw_gf hm_217 dX12_findInSteps_25 (v := .inl (m9 94 58)) (zT_is (zT_zst hS m9) s_94) (zT_t (zT_zst hS m9) s_94) rfl f_12_270_12 rfl ?_
      refine zw_if0 hm_217 dX12_findInSteps_28 (t := 45) rfl zc0_eq ?_ ?_
      · intro hc
        rw [if_pos hc] at h
        exact (h d w _ Q (by omega) (by omega) (zT_zst hS m9) rfl HQ)
      · intro hc
        rw [if_neg hc] at h
        refine zw_push hm_217 dX12_findInSteps_31 (v := .inr (.inr (some 94))) rfl ?_
        refine zw_push hm_217 dX12_findInSteps_32 (v := .inr (.inr (some 94))) rfl ?_
        refine zw_gf hm_217 dX12_findInSteps_33 (v := .inl (m9 94 17)) (zT_is (zT_zst hS m9) s_94) (zT_t (zT_zst hS m9) s_94) rfl f_12_219_12 rfl ?_
        refine zw_cv hm_217 dX12_findInSteps_36 v_12_402_12 hm_222 [.inl (m9 94 17)] [] rfl (zT_rt (zT_zst hS m9) s_94 rfl) ⟨by omega, by omega⟩ rfl (h _ _ (zst S m9) _ (by omega) (by omega) (zT_zst hS m9) rfl (fun o9 m11 hv => ?_))
        obtain ⟨v12, rfl, h⟩ := zmi_of hv
        show ma_wp X d w 217 39 [(0, .inr (.inr (some 94))), (1, .inl nz)] [.inl v12] (zst S m11) _
        refine zw_sto hm_217 dX12_findInSteps_39 [(2, .inl v12), (0, .inr (.inr (some 94))), (1, .inl nz)] rfl rfl rfl ?_
        refine zw_push hm_217 dX12_findInSteps_40 (v := .inr (.inr (some 94))) rfl ?_
        refine zw_cv hm_217 dX12_findInSteps_41 v_12_405_12 hm_223 [] [] rfl (zT_rt (zT_zst hS m11) s_94 rfl) ⟨by omega, by omega⟩ rfl (h _ _ (zst S m11) _ (by omega) (by omega) (zT_zst hS m11) rfl (fun o9 m13 hv => ?_))
        obtain ⟨v14, rfl, h⟩ := zmi_of hv
        show ma_wp X d w 217 44 [(2, .inl v12), (0, .inr (.inr (some 94))), (1, .inl nz)] [.inl v14] (zst S m13) _
        refine zw_sto hm_217 dX12_findInSteps_44 [(3, .inl v14), (2, .inl v12), (0, .inr (.inr (some 94))), (1, .inl nz)] rfl rfl rfl ?_
        exact zw_sub (ma_nd_of (ks := [0, 1]) rfl (by decide)) (ma_nd_of (ks := [3, 2, 0, 1]) rfl (by decide)) (ma_le_cons rfl (ma_le_cons rfl (ma_le_nil _))) (h d w _ Q (by omega) (by omega) (zT_zst hS m13) rfl HQ)
theorem g_217r_45 {X : Nat × (Nat → Int32)} {m : Nat → Nat → Int32} {P : Option ma_V → (Nat → Nat → Int32) → Prop} (l1 : Int32) (h : zm X 3 69 224 0 [(0, .inr (.inr (some 94))), (1, .inl l1)] m (zmi (fun v2 m1 => if v2 < 0 then (if (m1 94 58) = 0 then (zm X 6 131 229 0 [(0, .inr (.inr (some 94)))] m1 (zmi (fun v12 m11 => zm X 3 69 224 0 [(0, .inr (.inr (some 94))), (1, .inl l1)] m11 (zmi (fun v14 m13 => if 0 ≤ v14 then (P (some (.inl v14)) m13) else (P (some (.inl v14)) m13)))))) else (zm X 5 109 230 0 [(0, .inr (.inr (some 94)))] m1 (zmi (fun v4 m3 => zm X 3 69 224 0 [(0, .inr (.inr (some 94))), (1, .inl l1)] m3 (zmi (fun v6 m5 => if 0 ≤ v6 then (P (some (.inl v6)) m5) else (zm X 6 131 229 0 [(0, .inr (.inr (some 94)))] m5 (zmi (fun v8 m7 => zm X 3 69 224 0 [(0, .inr (.inr (some 94))), (1, .inl l1)] m7 (zmi (fun v10 m9 => P (some (.inl v10)) m9))))))))))) else (P (some (.inl v2)) m1)))) : zm X 7 151 217 45 [(0, .inr (.inr (some 94))), (1, .inl l1)] m P := by
  intro d w S Q hd hw hS hm HQ
  subst hm
  refine zw_push hm_217 dX12_findInSteps_45 (v := .inr (.inr (some 94))) rfl ?_
  refine zw_push hm_217 dX12_findInSteps_46 (v := .inl l1) rfl ?_
  refine zw_cv hm_217 dX12_findInSteps_47 v_12_436_12 hm_224 [.inl l1] [] rfl (zT_rt hS s_94 rfl) ⟨by omega, by omega⟩ rfl (h _ _ S _ (by omega) (by omega) hS rfl (fun o9 m1 hv => ?_))
  obtain ⟨v2, rfl, h⟩ := zmi_of hv
  show ma_wp X d w 217 50 [(0, .inr (.inr (some 94))), (1, .inl l1)] [.inl v2] (zst S m1) _
  refine zw_sto hm_217 dX12_findInSteps_50 [(2, .inl v2), (0, .inr (.inr (some 94))), (1, .inl l1)] rfl rfl rfl ?_
  refine zw_push hm_217 dX12_findInSteps_51 (v := .inl v2) rfl ?_
  refine zw_if0 hm_217 dX12_findInSteps_52 (t := 57) rfl zc0_lt ?_ ?_
  · intro hc
    rw [if_pos hc] at h
    refine zw_push hm_217 dX12_findInSteps_57 (v := .inr (.inr (some 94))) rfl ?_
    refine zw_gf hm_217 dX12_findInSteps_58 (v := .inl (m1 94 58)) (zT_is (zT_zst hS m1) s_94) (zT_t (zT_zst hS m1) s_94) rfl f_12_270_12 rfl ?_
    refine zw_if0 hm_217 dX12_findInSteps_61 (t := 68) rfl zc0_ne ?_ ?_
    · intro hc
      rw [if_neg hc] at h
      refine zw_push hm_217 dX12_findInSteps_68 (v := .inl (0 : Int32)) rfl ?_
      refine zw_sto hm_217 dX12_findInSteps_69 [(3, .inl (0 : Int32)), (2, .inl v2), (0, .inr (.inr (some 94))), (1, .inl l1)] rfl rfl rfl ?_
      refine zw_push hm_217 dX12_findInSteps_70 (v := .inl (0 : Int32)) rfl ?_
      refine zw_if0 hm_217 dX12_findInSteps_71 (t := 81) rfl zc0_eq (fun _ => ?_) (fun hc => absurd (by decide) hc)
      refine zw_push hm_217 dX12_findInSteps_81 (v := .inr (.inr (some 94))) rfl ?_
      refine zw_cv hm_217 dX12_findInSteps_82 v_12_411_12 hm_230 [] [] rfl (zT_rt (zT_zst hS m1) s_94 rfl) ⟨by omega, by omega⟩ rfl (h _ _ (zst S m1) _ (by omega) (by omega) (zT_zst hS m1) rfl (fun o9 m3 hv => ?_))
      obtain ⟨v4, rfl, h⟩ := zmi_of hv
      show ma_wp X d w 217 85 [(3, .inl (0 : Int32)), (2, .inl v2), (0, .inr (.inr (some 94))), (1, .inl l1)] [.inl v4] (zst S m3) _
      refine zw_sto hm_217 dX12_findInSteps_85 [(4, .inl v4), (3, .inl (0 : Int32)), (2, .inl v2), (0, .inr (.inr (some 94))), (1, .inl l1)] rfl rfl rfl ?_
      refine zw_push hm_217 dX12_findInSteps_87 (v := .inr (.inr (some 94))) rfl ?_
      refine zw_push hm_217 dX12_findInSteps_88 (v := .inl l1) rfl ?_
      refine zw_cv hm_217 dX12_findInSteps_89 v_12_436_12 hm_224 [.inl l1] [] rfl (zT_rt (zT_zst hS m3) s_94 rfl) ⟨by omega, by omega⟩ rfl (h _ _ (zst S m3) _ (by omega) (by omega) (zT_zst hS m3) rfl (fun o9 m5 hv => ?_))
      obtain ⟨v6, rfl, h⟩ := zmi_of hv
      show ma_wp X d w 217 92 [(4, .inl v4), (3, .inl (0 : Int32)), (2, .inl v2), (0, .inr (.inr (some 94))), (1, .inl l1)] [.inl v6] (zst S m5) _
      refine zw_sto hm_217 dX12_findInSteps_92 [(2, .inl v6), (4, .inl v4), (3, .inl (0 : Int32)), (0, .inr (.inr (some 94))), (1, .inl l1)] rfl rfl rfl ?_
      refine zw_push hm_217 dX12_findInSteps_93 (v := .inl v6) rfl ?_
      refine zw_if0 hm_217 dX12_findInSteps_94 (t := 101) rfl zc0_ge ?_ ?_
      · intro hc
        rw [if_pos hc] at h
        refine zw_push hm_217 dX12_findInSteps_101 (v := .inl v6) rfl ?_
        exact zw_iret hm_217 dX12_findInSteps_102 (HQ _ _ h)
      · intro hc
        rw [if_neg hc] at h
        refine zw_push hm_217 dX12_findInSteps_97 (v := .inl (0 : Int32)) rfl ?_
        refine zw_if0 hm_217 dX12_findInSteps_98 (t := 103) rfl zc0_eq (fun _ => ?_) (fun hc => absurd (by decide) hc)
        refine zw_push hm_217 dX12_findInSteps_103 (v := .inr (.inr (some 94))) rfl ?_
        refine zw_cv hm_217 dX12_findInSteps_104 v_12_442_12 hm_229 [] [] rfl (zT_rt (zT_zst hS m5) s_94 rfl) ⟨by omega, by omega⟩ rfl (h _ _ (zst S m5) _ (by omega) (by omega) (zT_zst hS m5) rfl (fun o9 m7 hv => ?_))
        obtain ⟨v8, rfl, h⟩ := zmi_of hv
        show ma_wp X d w 217 107 [(2, .inl v6), (4, .inl v4), (3, .inl (0 : Int32)), (0, .inr (.inr (some 94))), (1, .inl l1)] [.inl v8] (zst S m7) _
        refine zw_sto hm_217 dX12_findInSteps_107 [(4, .inl v8), (2, .inl v6), (3, .inl (0 : Int32)), (0, .inr (.inr (some 94))), (1, .inl l1)] rfl rfl rfl ?_
        refine zw_push hm_217 dX12_findInSteps_109 (v := .inr (.inr (some 94))) rfl ?_
        refine zw_push hm_217 dX12_findInSteps_110 (v := .inl l1) rfl ?_
        refine zw_cv hm_217 dX12_findInSteps_111 v_12_436_12 hm_224 [.inl l1] [] rfl (zT_rt (zT_zst hS m7) s_94 rfl) ⟨by omega, by omega⟩ rfl (h _ _ (zst S m7) _ (by omega) (by omega) (zT_zst hS m7) rfl (fun o9 m9 hv => ?_))
        obtain ⟨v10, rfl, h⟩ := zmi_of hv
        show ma_wp X d w 217 114 [(4, .inl v8), (2, .inl v6), (3, .inl (0 : Int32)), (0, .inr (.inr (some 94))), (1, .inl l1)] [.inl v10] (zst S m9) _
        exact zw_iret hm_217 dX12_findInSteps_114 (HQ _ _ h)
    · intro hc
      rw [if_pos (Classical.not_not.mp hc)] at h
      refine zw_push hm_217 dX12_findInSteps_64 (v := .inl (1 : Int32)) rfl ?_
      refine zw_goto hm_217 dX12_findInSteps_65 (t := 69) rfl ?_
      refine zw_sto hm_217 dX12_findInSteps_69 [(3, .inl (1 : Int32)), (2, .inl v2), (0, .inr (.inr (some 94))), (1, .inl l1)] rfl rfl rfl ?_
      refine zw_push hm_217 dX12_findInSteps_70 (v := .inl (1 : Int32)) rfl ?_
      refine zw_if0 hm_217 dX12_findInSteps_71 (t := 81) rfl zc0_eq (fun hc => absurd hc (by decide)) (fun _ => ?_)
      refine zw_push hm_217 dX12_findInSteps_74 (v := .inr (.inr (some 94))) rfl ?_
      refine zw_cv hm_217 dX12_findInSteps_75 v_12_442_12 hm_229 [] [] rfl (zT_rt (zT_zst hS m1) s_94 rfl) ⟨by omega, by omega⟩ rfl (h _ _ (zst S m1) _ (by omega) (by omega) (zT_zst hS m1) rfl (fun o9 m11 hv => ?_))
      obtain ⟨v12, rfl, h⟩ := zmi_of hv
      show ma_wp X d w 217 78 [(3, .inl (1 : Int32)), (2, .inl v2), (0, .inr (.inr (some 94))), (1, .inl l1)] [.inl v12] (zst S m11) _
      refine zw_goto hm_217 dX12_findInSteps_78 (t := 85) rfl ?_
      refine zw_sto hm_217 dX12_findInSteps_85 [(4, .inl v12), (3, .inl (1 : Int32)), (2, .inl v2), (0, .inr (.inr (some 94))), (1, .inl l1)] rfl rfl rfl ?_
      refine zw_push hm_217 dX12_findInSteps_87 (v := .inr (.inr (some 94))) rfl ?_
      refine zw_push hm_217 dX12_findInSteps_88 (v := .inl l1) rfl ?_
      refine zw_cv hm_217 dX12_findInSteps_89 v_12_436_12 hm_224 [.inl l1] [] rfl (zT_rt (zT_zst hS m11) s_94 rfl) ⟨by omega, by omega⟩ rfl (h _ _ (zst S m11) _ (by omega) (by omega) (zT_zst hS m11) rfl (fun o9 m13 hv => ?_))
      obtain ⟨v14, rfl, h⟩ := zmi_of hv
      show ma_wp X d w 217 92 [(4, .inl v12), (3, .inl (1 : Int32)), (2, .inl v2), (0, .inr (.inr (some 94))), (1, .inl l1)] [.inl v14] (zst S m13) _
      refine zw_sto hm_217 dX12_findInSteps_92 [(2, .inl v14), (4, .inl v12), (3, .inl (1 : Int32)), (0, .inr (.inr (some 94))), (1, .inl l1)] rfl rfl rfl ?_
      refine zw_push hm_217 dX12_findInSteps_93 (v := .inl v14) rfl ?_
      refine zw_if0 hm_217 dX12_findInSteps_94 (t := 101) rfl zc0_ge ?_ ?_
      · intro hc
        rw [if_pos hc] at h
        refine zw_push hm_217 dX12_findInSteps_101 (v := .inl v14) rfl ?_
        exact zw_iret hm_217 dX12_findInSteps_102 (HQ _ _ h)
      · intro hc
        rw [if_neg hc] at h
        refine zw_push hm_217 dX12_findInSteps_97 (v := .inl (1 : Int32)) rfl ?_
        refine zw_if0 hm_217 dX12_findInSteps_98 (t := 103) rfl zc0_eq (fun hc => absurd hc (by decide)) (fun _ => ?_)
        refine zw_push hm_217 dX12_findInSteps_101 (v := .inl v14) rfl ?_
        exact zw_iret hm_217 dX12_findInSteps_102 (HQ _ _ h)
  · intro hc
    rw [if_neg hc] at h
    refine zw_push hm_217 dX12_findInSteps_55 (v := .inl v2) rfl ?_
    exact zw_iret hm_217 dX12_findInSteps_56 (HQ _ _ h)
set_option maxHeartbeats 8000000 in
theorem lp_217r_45 {X : Nat × (Nat → Int32)} {P : Option ma_V → (Nat → Nat → Int32) → Prop} {T : Nat} {aa : Nat→Nat→Int32} {nz : Int32} {m0 : Nat → Nat → Int32} (h0 : zV m0) (K : ∀ v m₉, zF wr_217 m0 m₉ → zV m₉ → (zGW T (m₉ 94 55) (m₉ 109)) → (zGU T (m₉ 94 46) (m₉ 99)) → (zOw (m₉ 99) (m₉ 103) (m₉ 111)) → (zGG (m₉ 94 58) (m₉ 94 56) (m₉ 94 57) (m₉ 106)) → (-1 ≤ v.toInt ∧ v.toInt ≤ 1500) → (qRB (m₉ 99) (m₉ 100) (m₉ 98) (m₉ 101) (m₉ 102) (m₉ 103) (m₉ 107) (m₉ 108) (m₉ 109) (m₉ 111) (m₉ 112) (m₉ 113) (m₉ 114) (m₉ 94 55) (m₉ 94 46) (m₉ 94 11) (m₉ 94 12) (m₉ 94 62) (m₉ 94 17) (m₉ 94 9) (aRs aa nz.toInt)) → (qI (aRs aa nz.toInt)) → (qMG (m₉ 94 58) (m₉ 106) (m₉ 115) (m₉ 94 57) (m₉ 94 56) (m₉ 99) (m₉ 100) (aRs aa nz.toInt)) → ((aRs aa nz.toInt) 87 8 = (m₉ 94 58)) → ((m₉ 94 45).toInt = sm (zbU (m₉ 99)) (m₉ 102) 3100) → (qEq v.toInt (aRp aa nz.toInt)) → P (some (.inl v)) m₉) : ∀ (n : Nat) (m : Nat → Nat → Int32) (l1 : Int32), ((0 : Int)).toNat = n → zF wr_217 m0 m → zV m → (T ≤ 512) → (zW (m 94 7) (m 98) (m 101) (m 102) (m 108)) → (zGW T (m 94 55) (m 109)) → (zGU T (m 94 46) (m 99)) → (zOw (m 99) (m 103) (m 111)) → (zGG (m 94 58) (m 94 56) (m 94 57) (m 106)) → ((m 94 10).toInt = 5) → (l1 = nz) → (qRB (m 99) (m 100) (m 98) (m 101) (m 102) (m 103) (m 107) (m 108) (m 109) (m 111) (m 112) (m 113) (m 114) (m 94 55) (m 94 46) (m 94 11) (m 94 12) (m 94 62) (m 94 17) (m 94 9) (aF1 aa)) → (qI (aF1 aa)) → (qMG (m 94 58) (m 106) (m 115) (m 94 57) (m 94 56) (m 99) (m 100) (aF1 aa)) → ((aF1 aa) 87 8 = (m 94 58)) → ((m 94 45).toInt = sm (zbU (m 99)) (m 102) 3100) → zm X 7 151 217 45 [(0, .inr (.inr (some 94))), (1, .inl l1)] m P := by
  intro n
  induction n using Nat.strongRecOn with
  | _ n IH =>
    intro m l1 hmu hF hV hi0 r_W r_GW r_GU r_OW r_GG hi6 r_LN r_RB r_QI r_MG r_MK r_WTS
    refine g_217r_45 l1 ?_
    have f1 : 0 ≤ (m 94 10).toInt ∧ (m 94 10).toInt ≤ 6 := rs_94_10 (m := m) hV
    have b2 := i_bd l1
    refine sp_224r (aa := (aF1 aa)) (l1) hV r_RB r_QI r_OW (fun v2 m1 hV_m1 p0_m1 p1_m1 => zmi_n ?_)
    have p0_m1 : -1 ≤ v2.toInt ∧ v2.toInt ≤ 1500 := p0_m1
    have p1_m1 : qEq v2.toInt (aFt (aF1 aa) l1.toInt) := p1_m1
    have b3 := i_bd v2
    have li4 : (0 : Int32).toInt = 0 := rfl
    refine zd (fun (h5 : v2 < (0 : Int32)) => ?_) (fun (h5 : ¬ v2 < (0 : Int32)) => ?_)
    · skip
      have g6 := i_lt h5
      have f7 : 0 ≤ (m 94 58).toInt ∧ (m 94 58).toInt ≤ 1 := rs_94_58 (m := m) hV
      refine zd (fun (h8 : (m 94 58) = (0 : Int32)) => ?_) (fun (h8 : ¬ (m 94 58) = (0 : Int32)) => ?_)
      · skip
        have g9 := i_eq h8
        refine sp_229r (aa := (aF1 aa))  hV_m1 (by omega) r_W r_GW r_GU r_OW (show (m 94 10).toInt = 5 from by omega) r_RB r_QI r_WTS (show (aF1 aa) 87 8 = 0 from by first | (exact r_MK.trans (i_zer (by omega))) | (exfalso; omega; done) | (exfalso; contradiction; done)) (fun v12 m11 hV_m11 p0_m11 p1_m11 p2_m11 p3_m11 p4_m11 p5_m11 p6_m11 p7_m11 => zmi_n ?_)
        have p0_m11 : zGW T (m11 94 55) (m11 109) := p0_m11
        have p1_m11 : zGU T (m 94 46) (m11 99) := p1_m11
        have p2_m11 : zOw (m11 99) (m 103) (m11 111) := p2_m11
        have p3_m11 : zGG (m11 94 58) (m11 94 56) (m11 94 57) (m11 106) := p3_m11
        have p4_m11 : (m11 94 58).toInt = 0 := p4_m11
        have p5_m11 : qRB (m11 99) (m 100) (m 98) (m 101) (m 102) (m 103) (m 107) (m 108) (m11 109) (m11 111) (m 112) (m11 113) (m11 114) (m11 94 55) (m 94 46) (m 94 11) (m 94 12) (m 94 62) (m 94 17) (m 94 9) (aCl (aF1 aa)) := p5_m11
        have p6_m11 : qI (aCl (aF1 aa)) := p6_m11
        have p7_m11 : (m11 94 45).toInt = sm (zbU (m11 99)) (m 102) 3100 := p7_m11
        have f10 : 0 ≤ (m11 94 58).toInt ∧ (m11 94 58).toInt ≤ 1 := rs_94_58 (m := (zov wr_229 (zov wr_224 m m1) m11)) hV_m11
        refine sp_224r (aa := (aCl (aF1 aa))) (l1) hV_m11 p5_m11 p6_m11 p2_m11 (fun v14 m13 hV_m13 p0_m13 p1_m13 => zmi_n ?_)
        have p0_m13 : -1 ≤ v14.toInt ∧ v14.toInt ≤ 1500 := p0_m13
        have p1_m13 : qEq v14.toInt (aFt (aCl (aF1 aa)) l1.toInt) := p1_m13
        have b11 := i_bd v14
        refine zd (fun (h12 : (0 : Int32) ≤ v14) => ?_) (fun (h12 : ¬ (0 : Int32) ≤ v14) => ?_)
        · skip
          have g13 := i_le h12
          exact K (v14) _ (zF_zov (zF_zov (zF_zov hF ws_224_217) ws_229_217) ws_224_217) hV_m13 p0_m11 p1_m11 p2_m11 p3_m11 (show -1 ≤ v14.toInt ∧ v14.toInt ≤ 1500 from by omega) (show qRB (m11 99) (m 100) (m 98) (m 101) (m 102) (m 103) (m 107) (m 108) (m11 109) (m11 111) (m 112) (m11 113) (m11 114) (m11 94 55) (m 94 46) (m 94 11) (m 94 12) (m 94 62) (m 94 17) (m 94 9) (aRs aa nz.toInt) from by first | (rw [(aRs_2 (a := aa) (b := (aF1 aa)) (c := (aCl (aF1 aa))) (z := nz.toInt) rfl (show aFt (aF1 aa) nz.toInt = -1 from by rw [← r_LN, ← qE p1_m1]; omega) rfl (Or.inl (show aFt (aCl (aF1 aa)) nz.toInt ≠ -1 from by rw [← r_LN, ← qE p1_m13]; omega)))]; exact p5_m11; done) | (rw [(aRs_2 (a := aa) (b := (aF1 aa)) (c := (aCl (aF1 aa))) (z := nz.toInt) rfl (show aFt (aF1 aa) nz.toInt = -1 from by rw [← r_LN, ← qE p1_m1]; omega) rfl (Or.inr (r_MK.trans (i_zer (by omega)))))]; exact p5_m11; done) | (exfalso; omega; done) | (exfalso; contradiction; done)) (show qI (aRs aa nz.toInt) from by first | (rw [(aRs_2 (a := aa) (b := (aF1 aa)) (c := (aCl (aF1 aa))) (z := nz.toInt) rfl (show aFt (aF1 aa) nz.toInt = -1 from by rw [← r_LN, ← qE p1_m1]; omega) rfl (Or.inl (show aFt (aCl (aF1 aa)) nz.toInt ≠ -1 from by rw [← r_LN, ← qE p1_m13]; omega)))]; exact p6_m11; done) | (rw [(aRs_2 (a := aa) (b := (aF1 aa)) (c := (aCl (aF1 aa))) (z := nz.toInt) rfl (show aFt (aF1 aa) nz.toInt = -1 from by rw [← r_LN, ← qE p1_m1]; omega) rfl (Or.inr (r_MK.trans (i_zer (by omega)))))]; exact p6_m11; done) | (exfalso; omega; done) | (exfalso; contradiction; done)) (show qMG (m11 94 58) (m11 106) (m11 115) (m11 94 57) (m11 94 56) (m11 99) (m 100) (aRs aa nz.toInt) from by first | (exact fun z => absurd (by omega) z) | (exfalso; omega; done) | (exfalso; contradiction; done)) (show (aRs aa nz.toInt) 87 8 = (m11 94 58) from by first | (rw [(aRs_2 (a := aa) (b := (aF1 aa)) (c := (aCl (aF1 aa))) (z := nz.toInt) rfl (show aFt (aF1 aa) nz.toInt = -1 from by rw [← r_LN, ← qE p1_m1]; omega) rfl (Or.inl (show aFt (aCl (aF1 aa)) nz.toInt ≠ -1 from by rw [← r_LN, ← qE p1_m13]; omega)))]; exact Cl_8.trans (i_zer (by omega)).symm; done) | (rw [(aRs_2 (a := aa) (b := (aF1 aa)) (c := (aCl (aF1 aa))) (z := nz.toInt) rfl (show aFt (aF1 aa) nz.toInt = -1 from by rw [← r_LN, ← qE p1_m1]; omega) rfl (Or.inr (r_MK.trans (i_zer (by omega)))))]; exact Cl_8.trans (i_zer (by omega)).symm; done) | (exfalso; omega; done) | (exfalso; contradiction; done)) p7_m11 (show qEq v14.toInt (aRp aa nz.toInt) from by first | (rw [aRp, (aRs_2 (a := aa) (b := (aF1 aa)) (c := (aCl (aF1 aa))) (z := nz.toInt) rfl (show aFt (aF1 aa) nz.toInt = -1 from by rw [← r_LN, ← qE p1_m1]; omega) rfl (Or.inl (show aFt (aCl (aF1 aa)) nz.toInt ≠ -1 from by rw [← r_LN, ← qE p1_m13]; omega))), ← r_LN]; exact p1_m13; done) | (rw [aRp, (aRs_2 (a := aa) (b := (aF1 aa)) (c := (aCl (aF1 aa))) (z := nz.toInt) rfl (show aFt (aF1 aa) nz.toInt = -1 from by rw [← r_LN, ← qE p1_m1]; omega) rfl (Or.inr (r_MK.trans (i_zer (by omega))))), ← r_LN]; exact p1_m13; done) | (exfalso; omega; done) | (exfalso; contradiction; done))
        · skip
          have g14 := i_nle h12
          exact K (v14) _ (zF_zov (zF_zov (zF_zov hF ws_224_217) ws_229_217) ws_224_217) hV_m13 p0_m11 p1_m11 p2_m11 p3_m11 (show -1 ≤ v14.toInt ∧ v14.toInt ≤ 1500 from by omega) (show qRB (m11 99) (m 100) (m 98) (m 101) (m 102) (m 103) (m 107) (m 108) (m11 109) (m11 111) (m 112) (m11 113) (m11 114) (m11 94 55) (m 94 46) (m 94 11) (m 94 12) (m 94 62) (m 94 17) (m 94 9) (aRs aa nz.toInt) from by first | (rw [(aRs_2 (a := aa) (b := (aF1 aa)) (c := (aCl (aF1 aa))) (z := nz.toInt) rfl (show aFt (aF1 aa) nz.toInt = -1 from by rw [← r_LN, ← qE p1_m1]; omega) rfl (Or.inl (show aFt (aCl (aF1 aa)) nz.toInt ≠ -1 from by rw [← r_LN, ← qE p1_m13]; omega)))]; exact p5_m11; done) | (rw [(aRs_2 (a := aa) (b := (aF1 aa)) (c := (aCl (aF1 aa))) (z := nz.toInt) rfl (show aFt (aF1 aa) nz.toInt = -1 from by rw [← r_LN, ← qE p1_m1]; omega) rfl (Or.inr (r_MK.trans (i_zer (by omega)))))]; exact p5_m11; done) | (exfalso; omega; done) | (exfalso; contradiction; done)) (show qI (aRs aa nz.toInt) from by first | (rw [(aRs_2 (a := aa) (b := (aF1 aa)) (c := (aCl (aF1 aa))) (z := nz.toInt) rfl (show aFt (aF1 aa) nz.toInt = -1 from by rw [← r_LN, ← qE p1_m1]; omega) rfl (Or.inl (show aFt (aCl (aF1 aa)) nz.toInt ≠ -1 from by rw [← r_LN, ← qE p1_m13]; omega)))]; exact p6_m11; done) | (rw [(aRs_2 (a := aa) (b := (aF1 aa)) (c := (aCl (aF1 aa))) (z := nz.toInt) rfl (show aFt (aF1 aa) nz.toInt = -1 from by rw [← r_LN, ← qE p1_m1]; omega) rfl (Or.inr (r_MK.trans (i_zer (by omega)))))]; exact p6_m11; done) | (exfalso; omega; done) | (exfalso; contradiction; done)) (show qMG (m11 94 58) (m11 106) (m11 115) (m11 94 57) (m11 94 56) (m11 99) (m 100) (aRs aa nz.toInt) from by first | (exact fun z => absurd (by omega) z) | (exfalso; omega; done) | (exfalso; contradiction; done)) (show (aRs aa nz.toInt) 87 8 = (m11 94 58) from by first | (rw [(aRs_2 (a := aa) (b := (aF1 aa)) (c := (aCl (aF1 aa))) (z := nz.toInt) rfl (show aFt (aF1 aa) nz.toInt = -1 from by rw [← r_LN, ← qE p1_m1]; omega) rfl (Or.inl (show aFt (aCl (aF1 aa)) nz.toInt ≠ -1 from by rw [← r_LN, ← qE p1_m13]; omega)))]; exact Cl_8.trans (i_zer (by omega)).symm; done) | (rw [(aRs_2 (a := aa) (b := (aF1 aa)) (c := (aCl (aF1 aa))) (z := nz.toInt) rfl (show aFt (aF1 aa) nz.toInt = -1 from by rw [← r_LN, ← qE p1_m1]; omega) rfl (Or.inr (r_MK.trans (i_zer (by omega)))))]; exact Cl_8.trans (i_zer (by omega)).symm; done) | (exfalso; omega; done) | (exfalso; contradiction; done)) p7_m11 (show qEq v14.toInt (aRp aa nz.toInt) from by first | (rw [aRp, (aRs_2 (a := aa) (b := (aF1 aa)) (c := (aCl (aF1 aa))) (z := nz.toInt) rfl (show aFt (aF1 aa) nz.toInt = -1 from by rw [← r_LN, ← qE p1_m1]; omega) rfl (Or.inl (show aFt (aCl (aF1 aa)) nz.toInt ≠ -1 from by rw [← r_LN, ← qE p1_m13]; omega))), ← r_LN]; exact p1_m13; done) | (rw [aRp, (aRs_2 (a := aa) (b := (aF1 aa)) (c := (aCl (aF1 aa))) (z := nz.toInt) rfl (show aFt (aF1 aa) nz.toInt = -1 from by rw [← r_LN, ← qE p1_m1]; omega) rfl (Or.inr (r_MK.trans (i_zer (by omega))))), ← r_LN]; exact p1_m13; done) | (exfalso; omega; done) | (exfalso; contradiction; done))
      · skip
        have g15 := i_ne h8
        refine sp_230r (aa := (aF1 aa))  hV_m1 (by omega) r_W r_GW r_GU r_OW (show zG1 (m 94 56) (m 94 57) (m 106) from by first | (exact r_GG (by omega)) | (exact G1_0 (by omega) (by omega)) | (exact r_GG (by omega)) | (exfalso; omega; done) | (exfalso; contradiction; done)) (show (m 94 10).toInt = 5 from by omega) (show (m 94 58).toInt = 1 from by omega) (show qMQ (m 106) (m 115) (m 94 57) (m 94 56) (m 99) (m 100) (aF1 aa) from by first | (exact (r_MG (by omega)).1) | (exfalso; omega; done) | (exfalso; contradiction; done)) r_RB r_QI (show qMI (aF1 aa) from by first | (exact (r_MG (by omega)).2) | (exfalso; omega; done) | (exfalso; contradiction; done)) r_MK r_WTS (fun v4 m3 hV_m3 p0_m3 p1_m3 p2_m3 p3_m3 p4_m3 p5_m3 p6_m3 p7_m3 => zmi_n ?_)
        have p0_m3 : zGW T (m3 94 55) (m3 109) := p0_m3
        have p1_m3 : zGU T (m 94 46) (m3 99) := p1_m3
        have p2_m3 : zOw (m3 99) (m 103) (m3 111) := p2_m3
        have p3_m3 : zGG (m3 94 58) (m3 94 56) (m3 94 57) (m3 106) := p3_m3
        have p4_m3 : (m3 94 58).toInt = 0 := p4_m3
        have p5_m3 : qRB (m3 99) (m 100) (m 98) (m 101) (m 102) (m 103) (m 107) (m 108) (m3 109) (m3 111) (m 112) (m3 113) (m3 114) (m3 94 55) (m 94 46) (m 94 11) (m 94 12) (m 94 62) (m 94 17) (m 94 9) (aCl (aF1 aa)) := p5_m3
        have p6_m3 : qI (aCl (aF1 aa)) := p6_m3
        have p7_m3 : (m3 94 45).toInt = sm (zbU (m3 99)) (m 102) 3100 := p7_m3
        have f16 : 0 ≤ (m3 94 58).toInt ∧ (m3 94 58).toInt ≤ 1 := rs_94_58 (m := (zov wr_230 (zov wr_224 m m1) m3)) hV_m3
        refine sp_224r (aa := (aCl (aF1 aa))) (l1) hV_m3 p5_m3 p6_m3 p2_m3 (fun v6 m5 hV_m5 p0_m5 p1_m5 => zmi_n ?_)
        have p0_m5 : -1 ≤ v6.toInt ∧ v6.toInt ≤ 1500 := p0_m5
        have p1_m5 : qEq v6.toInt (aFt (aCl (aF1 aa)) l1.toInt) := p1_m5
        have b17 := i_bd v6
        refine zd (fun (h18 : (0 : Int32) ≤ v6) => ?_) (fun (h18 : ¬ (0 : Int32) ≤ v6) => ?_)
        · skip
          have g19 := i_le h18
          exact K (v6) _ (zF_zov (zF_zov (zF_zov hF ws_224_217) ws_230_217) ws_224_217) hV_m5 p0_m3 p1_m3 p2_m3 p3_m3 (show -1 ≤ v6.toInt ∧ v6.toInt ≤ 1500 from by omega) (show qRB (m3 99) (m 100) (m 98) (m 101) (m 102) (m 103) (m 107) (m 108) (m3 109) (m3 111) (m 112) (m3 113) (m3 114) (m3 94 55) (m 94 46) (m 94 11) (m 94 12) (m 94 62) (m 94 17) (m 94 9) (aRs aa nz.toInt) from by first | (rw [(aRs_2 (a := aa) (b := (aF1 aa)) (c := (aCl (aF1 aa))) (z := nz.toInt) rfl (show aFt (aF1 aa) nz.toInt = -1 from by rw [← r_LN, ← qE p1_m1]; omega) rfl (Or.inl (show aFt (aCl (aF1 aa)) nz.toInt ≠ -1 from by rw [← r_LN, ← qE p1_m5]; omega)))]; exact p5_m3; done) | (rw [(aRs_2 (a := aa) (b := (aF1 aa)) (c := (aCl (aF1 aa))) (z := nz.toInt) rfl (show aFt (aF1 aa) nz.toInt = -1 from by rw [← r_LN, ← qE p1_m1]; omega) rfl (Or.inr (r_MK.trans (i_zer (by omega)))))]; exact p5_m3; done) | (exfalso; omega; done) | (exfalso; contradiction; done)) (show qI (aRs aa nz.toInt) from by first | (rw [(aRs_2 (a := aa) (b := (aF1 aa)) (c := (aCl (aF1 aa))) (z := nz.toInt) rfl (show aFt (aF1 aa) nz.toInt = -1 from by rw [← r_LN, ← qE p1_m1]; omega) rfl (Or.inl (show aFt (aCl (aF1 aa)) nz.toInt ≠ -1 from by rw [← r_LN, ← qE p1_m5]; omega)))]; exact p6_m3; done) | (rw [(aRs_2 (a := aa) (b := (aF1 aa)) (c := (aCl (aF1 aa))) (z := nz.toInt) rfl (show aFt (aF1 aa) nz.toInt = -1 from by rw [← r_LN, ← qE p1_m1]; omega) rfl (Or.inr (r_MK.trans (i_zer (by omega)))))]; exact p6_m3; done) | (exfalso; omega; done) | (exfalso; contradiction; done)) (show qMG (m3 94 58) (m3 106) (m3 115) (m3 94 57) (m3 94 56) (m3 99) (m 100) (aRs aa nz.toInt) from by first | (exact fun z => absurd (by omega) z) | (exfalso; omega; done) | (exfalso; contradiction; done)) (show (aRs aa nz.toInt) 87 8 = (m3 94 58) from by first | (rw [(aRs_2 (a := aa) (b := (aF1 aa)) (c := (aCl (aF1 aa))) (z := nz.toInt) rfl (show aFt (aF1 aa) nz.toInt = -1 from by rw [← r_LN, ← qE p1_m1]; omega) rfl (Or.inl (show aFt (aCl (aF1 aa)) nz.toInt ≠ -1 from by rw [← r_LN, ← qE p1_m5]; omega)))]; exact Cl_8.trans (i_zer (by omega)).symm; done) | (rw [(aRs_2 (a := aa) (b := (aF1 aa)) (c := (aCl (aF1 aa))) (z := nz.toInt) rfl (show aFt (aF1 aa) nz.toInt = -1 from by rw [← r_LN, ← qE p1_m1]; omega) rfl (Or.inr (r_MK.trans (i_zer (by omega)))))]; exact Cl_8.trans (i_zer (by omega)).symm; done) | (exfalso; omega; done) | (exfalso; contradiction; done)) p7_m3 (show qEq v6.toInt (aRp aa nz.toInt) from by first | (rw [aRp, (aRs_2 (a := aa) (b := (aF1 aa)) (c := (aCl (aF1 aa))) (z := nz.toInt) rfl (show aFt (aF1 aa) nz.toInt = -1 from by rw [← r_LN, ← qE p1_m1]; omega) rfl (Or.inl (show aFt (aCl (aF1 aa)) nz.toInt ≠ -1 from by rw [← r_LN, ← qE p1_m5]; omega))), ← r_LN]; exact p1_m5; done) | (rw [aRp, (aRs_2 (a := aa) (b := (aF1 aa)) (c := (aCl (aF1 aa))) (z := nz.toInt) rfl (show aFt (aF1 aa) nz.toInt = -1 from by rw [← r_LN, ← qE p1_m1]; omega) rfl (Or.inr (r_MK.trans (i_zer (by omega))))), ← r_LN]; exact p1_m5; done) | (exfalso; omega; done) | (exfalso; contradiction; done))
        · skip
          have g20 := i_nle h18
          refine sp_229r (aa := (aCl (aF1 aa)))  hV_m5 (by omega) r_W p0_m3 p1_m3 p2_m3 (show (m 94 10).toInt = 5 from by omega) p5_m3 p6_m3 p7_m3 (show (aCl (aF1 aa)) 87 8 = 0 from by first | (exact Cl_8) | (exfalso; omega; done) | (exfalso; contradiction; done)) (fun v8 m7 hV_m7 p0_m7 p1_m7 p2_m7 p3_m7 p4_m7 p5_m7 p6_m7 p7_m7 => zmi_n ?_)
          have p0_m7 : zGW T (m7 94 55) (m7 109) := p0_m7
          have p1_m7 : zGU T (m 94 46) (m7 99) := p1_m7
          have p2_m7 : zOw (m7 99) (m 103) (m7 111) := p2_m7
          have p3_m7 : zGG (m7 94 58) (m7 94 56) (m7 94 57) (m7 106) := p3_m7
          have p4_m7 : (m7 94 58).toInt = 0 := p4_m7
          have p5_m7 : qRB (m7 99) (m 100) (m 98) (m 101) (m 102) (m 103) (m 107) (m 108) (m7 109) (m7 111) (m 112) (m7 113) (m7 114) (m7 94 55) (m 94 46) (m 94 11) (m 94 12) (m 94 62) (m 94 17) (m 94 9) (aCl (aCl (aF1 aa))) := p5_m7
          have p6_m7 : qI (aCl (aCl (aF1 aa))) := p6_m7
          have p7_m7 : (m7 94 45).toInt = sm (zbU (m7 99)) (m 102) 3100 := p7_m7
          have f21 : 0 ≤ (m7 94 58).toInt ∧ (m7 94 58).toInt ≤ 1 := rs_94_58 (m := (zov wr_229 (zov wr_224 (zov wr_230 (zov wr_224 m m1) m3) m5) m7)) hV_m7
          refine sp_224r (aa := (aCl (aCl (aF1 aa)))) (l1) hV_m7 p5_m7 p6_m7 p2_m7 (fun v10 m9 hV_m9 p0_m9 p1_m9 => zmi_n ?_)
          have p0_m9 : -1 ≤ v10.toInt ∧ v10.toInt ≤ 1500 := p0_m9
          have p1_m9 : qEq v10.toInt (aFt (aCl (aCl (aF1 aa))) l1.toInt) := p1_m9
          have b22 := i_bd v10
          exact K (v10) _ (zF_zov (zF_zov (zF_zov (zF_zov (zF_zov hF ws_224_217) ws_230_217) ws_224_217) ws_229_217) ws_224_217) hV_m9 p0_m7 p1_m7 p2_m7 p3_m7 (show -1 ≤ v10.toInt ∧ v10.toInt ≤ 1500 from by omega) (show qRB (m7 99) (m 100) (m 98) (m 101) (m 102) (m 103) (m 107) (m 108) (m7 109) (m7 111) (m 112) (m7 113) (m7 114) (m7 94 55) (m 94 46) (m 94 11) (m 94 12) (m 94 62) (m 94 17) (m 94 9) (aRs aa nz.toInt) from by first | (rw [(aRs_3 (a := aa) (b := (aF1 aa)) (c := (aCl (aF1 aa))) (d := (aCl (aCl (aF1 aa)))) (z := nz.toInt) rfl (show aFt (aF1 aa) nz.toInt = -1 from by rw [← r_LN, ← qE p1_m1]; omega) rfl (show aFt (aCl (aF1 aa)) nz.toInt = -1 from by rw [← r_LN, ← qE p1_m5]; omega) (fun w => absurd (r_MK.symm.trans w) (i_nz2 (by omega))) rfl)]; exact p5_m7; done) | (exfalso; omega; done) | (exfalso; contradiction; done)) (show qI (aRs aa nz.toInt) from by first | (rw [(aRs_3 (a := aa) (b := (aF1 aa)) (c := (aCl (aF1 aa))) (d := (aCl (aCl (aF1 aa)))) (z := nz.toInt) rfl (show aFt (aF1 aa) nz.toInt = -1 from by rw [← r_LN, ← qE p1_m1]; omega) rfl (show aFt (aCl (aF1 aa)) nz.toInt = -1 from by rw [← r_LN, ← qE p1_m5]; omega) (fun w => absurd (r_MK.symm.trans w) (i_nz2 (by omega))) rfl)]; exact p6_m7; done) | (exfalso; omega; done) | (exfalso; contradiction; done)) (show qMG (m7 94 58) (m7 106) (m7 115) (m7 94 57) (m7 94 56) (m7 99) (m 100) (aRs aa nz.toInt) from by first | (exact fun z => absurd (by omega) z) | (exfalso; omega; done) | (exfalso; contradiction; done)) (show (aRs aa nz.toInt) 87 8 = (m7 94 58) from by first | (rw [(aRs_3 (a := aa) (b := (aF1 aa)) (c := (aCl (aF1 aa))) (d := (aCl (aCl (aF1 aa)))) (z := nz.toInt) rfl (show aFt (aF1 aa) nz.toInt = -1 from by rw [← r_LN, ← qE p1_m1]; omega) rfl (show aFt (aCl (aF1 aa)) nz.toInt = -1 from by rw [← r_LN, ← qE p1_m5]; omega) (fun w => absurd (r_MK.symm.trans w) (i_nz2 (by omega))) rfl)]; exact Cl_8.trans (i_zer (by omega)).symm; done) | (exfalso; omega; done) | (exfalso; contradiction; done)) p7_m7 (show qEq v10.toInt (aRp aa nz.toInt) from by first | (rw [aRp, (aRs_3 (a := aa) (b := (aF1 aa)) (c := (aCl (aF1 aa))) (d := (aCl (aCl (aF1 aa)))) (z := nz.toInt) rfl (show aFt (aF1 aa) nz.toInt = -1 from by rw [← r_LN, ← qE p1_m1]; omega) rfl (show aFt (aCl (aF1 aa)) nz.toInt = -1 from by rw [← r_LN, ← qE p1_m5]; omega) (fun w => absurd (r_MK.symm.trans w) (i_nz2 (by omega))) rfl), ← r_LN]; exact p1_m9; done) | (exfalso; omega; done) | (exfalso; contradiction; done))
    · skip
      have g23 := i_nlt h5
      exact K (v2) _ (zF_zov hF ws_224_217) hV_m1 r_GW r_GU r_OW r_GG (show -1 ≤ v2.toInt ∧ v2.toInt ≤ 1500 from by omega) (show qRB (m 99) (m 100) (m 98) (m 101) (m 102) (m 103) (m 107) (m 108) (m 109) (m 111) (m 112) (m 113) (m 114) (m 94 55) (m 94 46) (m 94 11) (m 94 12) (m 94 62) (m 94 17) (m 94 9) (aRs aa nz.toInt) from by first | (rw [(aRs_1 (a := aa) (b := (aF1 aa)) (z := nz.toInt) rfl (show aFt (aF1 aa) nz.toInt ≠ -1 from by rw [← r_LN, ← qE p1_m1]; omega))]; exact r_RB; done) | (exfalso; omega; done) | (exfalso; contradiction; done)) (show qI (aRs aa nz.toInt) from by first | (rw [(aRs_1 (a := aa) (b := (aF1 aa)) (z := nz.toInt) rfl (show aFt (aF1 aa) nz.toInt ≠ -1 from by rw [← r_LN, ← qE p1_m1]; omega))]; exact r_QI; done) | (exfalso; omega; done) | (exfalso; contradiction; done)) (show qMG (m 94 58) (m 106) (m 115) (m 94 57) (m 94 56) (m 99) (m 100) (aRs aa nz.toInt) from by first | (rw [(aRs_1 (a := aa) (b := (aF1 aa)) (z := nz.toInt) rfl (show aFt (aF1 aa) nz.toInt ≠ -1 from by rw [← r_LN, ← qE p1_m1]; omega))]; exact r_MG; done) | (exfalso; omega; done) | (exfalso; contradiction; done)) (show (aRs aa nz.toInt) 87 8 = (m 94 58) from by first | (rw [(aRs_1 (a := aa) (b := (aF1 aa)) (z := nz.toInt) rfl (show aFt (aF1 aa) nz.toInt ≠ -1 from by rw [← r_LN, ← qE p1_m1]; omega))]; exact r_MK; done) | (exfalso; omega; done) | (exfalso; contradiction; done)) r_WTS (show qEq v2.toInt (aRp aa nz.toInt) from by first | (rw [aRp, (aRs_1 (a := aa) (b := (aF1 aa)) (z := nz.toInt) rfl (show aFt (aF1 aa) nz.toInt ≠ -1 from by rw [← r_LN, ← qE p1_m1]; omega)), ← r_LN]; exact p1_m1; done) | (exfalso; omega; done) | (exfalso; contradiction; done))
set_option maxHeartbeats 8000000 in
theorem sp_217r {X : Nat × (Nat → Int32)} {P : Option ma_V → (Nat → Nat → Int32) → Prop} {T : Nat} {aa : Nat→Nat→Int32} {m : Nat → Nat → Int32} (nz : Int32) (hV : zV m) (hpre0 : T ≤ 512) (r_W : zW (m 94 7) (m 98) (m 101) (m 102) (m 108)) (r_GW : zGW T (m 94 55) (m 109)) (r_GU : zGU T (m 94 46) (m 99)) (r_OW : zOw (m 99) (m 103) (m 111)) (r_GG : zGG (m 94 58) (m 94 56) (m 94 57) (m 106)) (hpre6 : (m 94 10).toInt = 5) (r_RB : qRB (m 99) (m 100) (m 98) (m 101) (m 102) (m 103) (m 107) (m 108) (m 109) (m 111) (m 112) (m 113) (m 114) (m 94 55) (m 94 46) (m 94 11) (m 94 12) (m 94 62) (m 94 17) (m 94 9) aa) (r_QI : qI aa) (r_MG : qMG (m 94 58) (m 106) (m 115) (m 94 57) (m 94 56) (m 99) (m 100) aa) (r_MK : aa 87 8 = (m 94 58)) (r_WTS : (m 94 45).toInt = sm (zbU (m 99)) (m 102) 3100) (KZ : ∀ v m₉, zV (zov wr_217 m m₉) → (zGW T (m₉ 94 55) (m₉ 109)) → (zGU T (m 94 46) (m₉ 99)) → (zOw (m₉ 99) (m 103) (m₉ 111)) → (zGG (m₉ 94 58) (m₉ 94 56) (m₉ 94 57) (m₉ 106)) → (-1 ≤ v.toInt ∧ v.toInt ≤ 1500) → (qRB (m₉ 99) (m 100) (m 98) (m 101) (m 102) (m 103) (m 107) (m 108) (m₉ 109) (m₉ 111) (m 112) (m₉ 113) (m₉ 114) (m₉ 94 55) (m 94 46) (m 94 11) (m 94 12) (m 94 62) (m 94 17) (m 94 9) (aRs aa nz.toInt)) → (qI (aRs aa nz.toInt)) → (qMG (m₉ 94 58) (m₉ 106) (m₉ 115) (m₉ 94 57) (m₉ 94 56) (m₉ 99) (m 100) (aRs aa nz.toInt)) → ((aRs aa nz.toInt) 87 8 = (m₉ 94 58)) → ((m₉ 94 45).toInt = sm (zbU (m₉ 99)) (m 102) 3100) → (qEq v.toInt (aRp aa nz.toInt)) → P (some (.inl v)) (zov wr_217 m m₉)) : zm X 7 151 217 0 [(0, .inr (.inr (some 94))), (1, .inl nz)] m P := by
  have K : ∀ v m₉, zF wr_217 m m₉ → zV m₉ → (zGW T (m₉ 94 55) (m₉ 109)) → (zGU T (m₉ 94 46) (m₉ 99)) → (zOw (m₉ 99) (m₉ 103) (m₉ 111)) → (zGG (m₉ 94 58) (m₉ 94 56) (m₉ 94 57) (m₉ 106)) → (-1 ≤ v.toInt ∧ v.toInt ≤ 1500) → (qRB (m₉ 99) (m₉ 100) (m₉ 98) (m₉ 101) (m₉ 102) (m₉ 103) (m₉ 107) (m₉ 108) (m₉ 109) (m₉ 111) (m₉ 112) (m₉ 113) (m₉ 114) (m₉ 94 55) (m₉ 94 46) (m₉ 94 11) (m₉ 94 12) (m₉ 94 62) (m₉ 94 17) (m₉ 94 9) (aRs aa nz.toInt)) → (qI (aRs aa nz.toInt)) → (qMG (m₉ 94 58) (m₉ 106) (m₉ 115) (m₉ 94 57) (m₉ 94 56) (m₉ 99) (m₉ 100) (aRs aa nz.toInt)) → ((aRs aa nz.toInt) 87 8 = (m₉ 94 58)) → ((m₉ 94 45).toInt = sm (zbU (m₉ 99)) (m₉ 102) 3100) → (qEq v.toInt (aRp aa nz.toInt)) → P (some (.inl v)) m₉ := by
    intro v m₉ hf z q0 q1 q2 q3 q4 q5 q6 q7 q8 q9 q10
    have e := zov_eq hf
    rw [e] at z ⊢
    try rw [e] at q0
    try rw [e] at q1
    try rw [e] at q2
    try rw [e] at q3
    try rw [e] at q4
    try rw [e] at q5
    try rw [e] at q6
    try rw [e] at q7
    try rw [e] at q8
    try rw [e] at q9
    try rw [e] at q10
    exact KZ v m₉ z q0 q1 q2 q3 q4 q5 q6 q7 q8 q9 q10
  refine g_217r_0 nz ?_
  have f1 : 0 ≤ (m 94 10).toInt ∧ (m 94 10).toInt ≤ 6 := rs_94_10 (m := m) hV
  have f2 : 0 ≤ (m 94 58).toInt ∧ (m 94 58).toInt ≤ 1 := rs_94_58 (m := m) hV
  have li3 : (0 : Int32).toInt = 0 := rfl
  refine zd (fun (h4 : (m 94 58) = (0 : Int32)) => ?_) (fun (h4 : ¬ (m 94 58) = (0 : Int32)) => ?_)
  · skip
    have g5 := i_eq h4
    have f6 : 0 ≤ (m 94 11).toInt ∧ (m 94 11).toInt ≤ 1500 := rs_94_11 (m := m) hV
    have b7 := i_bd (m 94 45)
    first | have e8 : ((m 94 11) - (m 94 45)).toInt = (m 94 11).toInt - (m 94 45).toInt := i_sub (by omega) (by omega) | have b9 := i_bd ((m 94 11) - (m 94 45))
    have li10 : (4 : Int32).toInt = 4 := rfl
    first | have e11 : (((m 94 11) - (m 94 45)) * (4 : Int32)).toInt = ((m 94 11) - (m 94 45)).toInt * 4 := i_mulk rfl (by omega) (by omega) | have b12 := i_bd (((m 94 11) - (m 94 45)) * (4 : Int32))
    refine zd (fun (h13 : (m 94 11) ≤ (((m 94 11) - (m 94 45)) * (4 : Int32))) => ?_) (fun (h13 : ¬ (m 94 11) ≤ (((m 94 11) - (m 94 45)) * (4 : Int32))) => ?_)
    · skip
      have g14 := i_le h13
      refine zd (fun (h15 : (m 94 58) = (0 : Int32)) => ?_) (fun (h15 : ¬ (m 94 58) = (0 : Int32)) => ?_)
      · skip
        have g16 := i_eq h15
        have b17 := i_bd nz
        exact lp_217r_45 (nz := nz) hV K _ _ (nz) rfl zF_rfl hV (by omega) r_W r_GW r_GU r_OW r_GG (show (m 94 10).toInt = 5 from by omega) (show nz = nz from by first | (exact rfl) | (exfalso; omega; done) | (exfalso; contradiction; done)) (show qRB (m 99) (m 100) (m 98) (m 101) (m 102) (m 103) (m 107) (m 108) (m 109) (m 111) (m 112) (m 113) (m 114) (m 94 55) (m 94 46) (m 94 11) (m 94 12) (m 94 62) (m 94 17) (m 94 9) (aF1 aa) from by first | (rw [F1_0 (F0_n r_RB r_QI r_WTS (Or.inr (fun w => absurd (Int32.lt_iff_toInt_lt.mp w) (by omega)))) (r_MK.trans (i_zer (by omega)))]; exact r_RB; done) | (exfalso; omega; done) | (exfalso; contradiction; done)) (show qI (aF1 aa) from by first | (rw [F1_0 (F0_n r_RB r_QI r_WTS (Or.inr (fun w => absurd (Int32.lt_iff_toInt_lt.mp w) (by omega)))) (r_MK.trans (i_zer (by omega)))]; exact r_QI; done) | (exfalso; omega; done) | (exfalso; contradiction; done)) (show qMG (m 94 58) (m 106) (m 115) (m 94 57) (m 94 56) (m 99) (m 100) (aF1 aa) from by first | (rw [F1_0 (F0_n r_RB r_QI r_WTS (Or.inr (fun w => absurd (Int32.lt_iff_toInt_lt.mp w) (by omega)))) (r_MK.trans (i_zer (by omega)))]; exact r_MG; done) | (exfalso; omega; done) | (exfalso; contradiction; done)) (show (aF1 aa) 87 8 = (m 94 58) from by first | (rw [F1_0 (F0_n r_RB r_QI r_WTS (Or.inr (fun w => absurd (Int32.lt_iff_toInt_lt.mp w) (by omega)))) (r_MK.trans (i_zer (by omega)))]; exact r_MK; done) | (exfalso; omega; done) | (exfalso; contradiction; done)) r_WTS
      · skip
        have g18 := i_ne h15
        have b19 := i_bd (m 94 17)
        try have r6 : 0 ≤ (m 94 17).toInt := (by rw [← RB_ra r_RB]; exact r_QI.2.2.2.1.2.2.2.2.2)
        refine sp_222r (aa := aa) ((m 94 17)) hV (by omega) r_W (show zG1 (m 94 56) (m 94 57) (m 106) from by first | (exact r_GG (by omega)) | (exact G1_0 (by omega) (by omega)) | (exact r_GG (by omega)) | (exfalso; omega; done) | (exfalso; contradiction; done)) (show qMQ (m 106) (m 115) (m 94 57) (m 94 56) (m 99) (m 100) aa from by first | (exact (r_MG (by omega)).1) | (exfalso; omega; done) | (exfalso; contradiction; done)) r_RB r_QI (fun v6 m5 hV_m5 p0_m5 p1_m5 p2_m5 p3_m5 p4_m5 p5_m5 p6_m5 => zmi_n ?_)
        have p0_m5 : zG1 (m5 94 56) (m5 94 57) (m5 106) := p0_m5
        have p1_m5 : (m 94 56).toInt ≤ (m5 94 56).toInt := p1_m5
        have p2_m5 : (m 94 57).toInt ≤ (m5 94 57).toInt ∧ ((m5 94 56).toInt ≤ (m5 94 57).toInt ∨ (m 94 57).toInt + (m 94 17).toInt ≤ (m5 94 57).toInt) := p2_m5
        have p3_m5 : qRB (m 99) (m 100) (m 98) (m 101) (m 102) (m 103) (m 107) (m 108) (m 109) (m 111) (m 112) (m 113) (m 114) (m 94 55) (m 94 46) (m 94 11) (m 94 12) (m 94 62) (m 94 17) (m 94 9) (aSp (m 94 17).toInt.toNat aa) := p3_m5
        have p4_m5 : qI (aSp (m 94 17).toInt.toNat aa) := p4_m5
        have p5_m5 : qMQ (m5 106) (m5 115) (m5 94 57) (m5 94 56) (m 99) (m 100) (aSp (m 94 17).toInt.toNat aa) := p5_m5
        have p6_m5 : qEq v6.toInt (aSn (m 94 17).toInt.toNat aa : Int) := p6_m5
        have f20 : 0 ≤ (m 94 56).toInt ∧ (m 94 56).toInt ≤ 3100 := rs_94_56 (m := m) hV
        have f21 : 0 ≤ (m5 94 56).toInt ∧ (m5 94 56).toInt ≤ 3100 := rs_94_56 (m := (zov wr_222 m m5)) hV_m5
        have f22 : 0 ≤ (m 94 57).toInt ∧ (m 94 57).toInt ≤ 3100 := rs_94_57 (m := m) hV
        have f23 : 0 ≤ (m5 94 57).toInt ∧ (m5 94 57).toInt ≤ 3100 := rs_94_57 (m := (zov wr_222 m m5)) hV_m5
        try have r6 : 0 ≤ (m 94 17).toInt := (by rw [← RB_ra r_RB]; exact r_QI.2.2.2.1.2.2.2.2.2)
        refine sp_223r (aa := (aSp (m 94 17).toInt.toNat aa))  hV_m5 (by omega) r_W r_GW r_GU r_OW p0_m5 (show (m 94 10).toInt = 5 from by omega) (show (m 94 58).toInt = 1 from by omega) p5_m5 p3_m5 p4_m5 (show qMI (aSp (m 94 17).toInt.toNat aa) from by first | (exact MI_sp _ _ (r_MG (by omega)).2 (r_MG (by omega)).1.2.2.2.2) | (exfalso; omega; done) | (exfalso; contradiction; done)) (show (aSp (m 94 17).toInt.toNat aa) 87 8 = (m 94 58) from by first | (exact Sp_87.trans r_MK) | (exfalso; omega; done) | (exfalso; contradiction; done)) r_WTS (fun v8 m7 hV_m7 p0_m7 p1_m7 p2_m7 p3_m7 p4_m7 p5_m7 p6_m7 p7_m7 p8_m7 p9_m7 => zmi_n ?_)
        have p0_m7 : zGW T (m7 94 55) (m7 109) := p0_m7
        have p1_m7 : zGU T (m 94 46) (m7 99) := p1_m7
        have p2_m7 : zOw (m7 99) (m 103) (m7 111) := p2_m7
        have p3_m7 : zGG (m7 94 58) (m7 94 56) (m5 94 57) (m7 106) := p3_m7
        have p4_m7 : (m7 94 58).toInt = 0 ∨ ((m7 94 58).toInt = 1 ∧ (m5 94 57).toInt < (m7 94 56).toInt ∧ (m5 94 57).toInt = (m5 94 57).toInt) := p4_m7
        have p5_m7 : qRB (m7 99) (m 100) (m 98) (m 101) (m 102) (m 103) (m 107) (m 108) (m7 109) (m7 111) (m 112) (m7 113) (m7 114) (m7 94 55) (m 94 46) (m 94 11) (m 94 12) (m 94 62) (m 94 17) (m 94 9) (aLk (aSp (m 94 17).toInt.toNat aa)) := p5_m7
        have p6_m7 : qI (aLk (aSp (m 94 17).toInt.toNat aa)) := p6_m7
        have p7_m7 : qMG (m7 94 58) (m7 106) (m7 115) (m5 94 57) (m7 94 56) (m7 99) (m 100) (aLk (aSp (m 94 17).toInt.toNat aa)) := p7_m7
        have p8_m7 : (aLk (aSp (m 94 17).toInt.toNat aa)) 87 8 = (m7 94 58) := p8_m7
        have p9_m7 : (m7 94 45).toInt = sm (zbU (m7 99)) (m 102) 3100 := p9_m7
        have f24 : 0 ≤ (m7 94 58).toInt ∧ (m7 94 58).toInt ≤ 1 := rs_94_58 (m := (zov wr_223 (zov wr_222 m m5) m7)) hV_m7
        have f25 : 0 ≤ (m7 94 56).toInt ∧ (m7 94 56).toInt ≤ 3100 := rs_94_56 (m := (zov wr_223 (zov wr_222 m m5) m7)) hV_m7
        have b26 := i_bd nz
        exact lp_217r_45 (nz := nz) hV K _ _ (nz) rfl (zF_zov (zF_zov zF_rfl ws_222_217) ws_223_217) hV_m7 (by omega) r_W p0_m7 p1_m7 p2_m7 p3_m7 (show (m 94 10).toInt = 5 from by omega) (show nz = nz from by first | (exact rfl) | (exfalso; omega; done) | (exfalso; contradiction; done)) (show qRB (m7 99) (m 100) (m 98) (m 101) (m 102) (m 103) (m 107) (m 108) (m7 109) (m7 111) (m 112) (m7 113) (m7 114) (m7 94 55) (m 94 46) (m 94 11) (m 94 12) (m 94 62) (m 94 17) (m 94 9) (aF1 aa) from by first | (rw [F1_1 (RB_ra r_RB) (F0_n r_RB r_QI r_WTS (Or.inl (fun w => absurd (r_MK.symm.trans w) (i_nz2 (by omega))))) (fun w => absurd (r_MK.symm.trans w) (i_nz2 (by omega)))]; exact p5_m7; done) | (exfalso; omega; done) | (exfalso; contradiction; done)) (show qI (aF1 aa) from by first | (rw [F1_1 (RB_ra r_RB) (F0_n r_RB r_QI r_WTS (Or.inl (fun w => absurd (r_MK.symm.trans w) (i_nz2 (by omega))))) (fun w => absurd (r_MK.symm.trans w) (i_nz2 (by omega)))]; exact p6_m7; done) | (exfalso; omega; done) | (exfalso; contradiction; done)) (show qMG (m7 94 58) (m7 106) (m7 115) (m5 94 57) (m7 94 56) (m7 99) (m 100) (aF1 aa) from by first | (rw [F1_1 (RB_ra r_RB) (F0_n r_RB r_QI r_WTS (Or.inl (fun w => absurd (r_MK.symm.trans w) (i_nz2 (by omega))))) (fun w => absurd (r_MK.symm.trans w) (i_nz2 (by omega)))]; exact p7_m7; done) | (exfalso; omega; done) | (exfalso; contradiction; done)) (show (aF1 aa) 87 8 = (m7 94 58) from by first | (rw [F1_1 (RB_ra r_RB) (F0_n r_RB r_QI r_WTS (Or.inl (fun w => absurd (r_MK.symm.trans w) (i_nz2 (by omega))))) (fun w => absurd (r_MK.symm.trans w) (i_nz2 (by omega)))]; exact p8_m7; done) | (exfalso; omega; done) | (exfalso; contradiction; done)) p9_m7
    · skip
      have g27 := i_nle h13
      try have r6 : 0 ≤ (m 94 17).toInt := (by rw [← RB_ra r_RB]; exact r_QI.2.2.2.1.2.2.2.2.2)
      refine sp_219r (aa := aa)  hV r_RB r_QI (fun m9 hV_m9 p0_m9 p1_m9 p2_m9 p3_m9 p4_m9 => zmv_n ?_)
      have p0_m9 : zG1 (m9 94 56) (m9 94 57) (m9 106) := p0_m9
      have p1_m9 : (m9 94 58).toInt = 1 := p1_m9
      have p2_m9 : qRB (m 99) (m 100) (m 98) (m 101) (m 102) (m 103) (m 107) (m 108) (m 109) (m 111) (m 112) (m 113) (m 114) (m 94 55) (m 94 46) (m 94 11) (m 94 12) (m 94 62) (m 94 17) (m 94 9) (aB0 aa) := p2_m9
      have p3_m9 : qI (aB0 aa) := p3_m9
      have p4_m9 : qMQ (m9 106) (m9 115) (m9 94 57) (m9 94 56) (m 99) (m 100) (aB0 aa) := p4_m9
      have f28 : 0 ≤ (m9 94 58).toInt ∧ (m9 94 58).toInt ≤ 1 := rs_94_58 (m := (zov wr_219 m m9)) hV_m9
      refine zd (fun (h29 : (m9 94 58) = (0 : Int32)) => ?_) (fun (h29 : ¬ (m9 94 58) = (0 : Int32)) => ?_)
      · skip
        have g30 := i_eq h29
        exfalso; omega
      · skip
        have g31 := i_ne h29
        have b32 := i_bd (m 94 17)
        try have r6 : 0 ≤ (m 94 17).toInt := (by rw [← RB_ra r_RB]; exact r_QI.2.2.2.1.2.2.2.2.2)
        refine sp_222r (aa := (aB0 aa)) ((m 94 17)) hV_m9 (by omega) r_W p0_m9 p4_m9 p2_m9 p3_m9 (fun v12 m11 hV_m11 p0_m11 p1_m11 p2_m11 p3_m11 p4_m11 p5_m11 p6_m11 => zmi_n ?_)
        have p0_m11 : zG1 (m11 94 56) (m11 94 57) (m11 106) := p0_m11
        have p1_m11 : (m9 94 56).toInt ≤ (m11 94 56).toInt := p1_m11
        have p2_m11 : (m9 94 57).toInt ≤ (m11 94 57).toInt ∧ ((m11 94 56).toInt ≤ (m11 94 57).toInt ∨ (m9 94 57).toInt + (m 94 17).toInt ≤ (m11 94 57).toInt) := p2_m11
        have p3_m11 : qRB (m 99) (m 100) (m 98) (m 101) (m 102) (m 103) (m 107) (m 108) (m 109) (m 111) (m 112) (m 113) (m 114) (m 94 55) (m 94 46) (m 94 11) (m 94 12) (m 94 62) (m 94 17) (m 94 9) (aSp (m 94 17).toInt.toNat (aB0 aa)) := p3_m11
        have p4_m11 : qI (aSp (m 94 17).toInt.toNat (aB0 aa)) := p4_m11
        have p5_m11 : qMQ (m11 106) (m11 115) (m11 94 57) (m11 94 56) (m 99) (m 100) (aSp (m 94 17).toInt.toNat (aB0 aa)) := p5_m11
        have p6_m11 : qEq v12.toInt (aSn (m 94 17).toInt.toNat (aB0 aa) : Int) := p6_m11
        have f33 : 0 ≤ (m9 94 56).toInt ∧ (m9 94 56).toInt ≤ 3100 := rs_94_56 (m := (zov wr_219 m m9)) hV_m9
        have f34 : 0 ≤ (m11 94 56).toInt ∧ (m11 94 56).toInt ≤ 3100 := rs_94_56 (m := (zov wr_222 (zov wr_219 m m9) m11)) hV_m11
        have f35 : 0 ≤ (m9 94 57).toInt ∧ (m9 94 57).toInt ≤ 3100 := rs_94_57 (m := (zov wr_219 m m9)) hV_m9
        have f36 : 0 ≤ (m11 94 57).toInt ∧ (m11 94 57).toInt ≤ 3100 := rs_94_57 (m := (zov wr_222 (zov wr_219 m m9) m11)) hV_m11
        try have r6 : 0 ≤ (m 94 17).toInt := (by rw [← RB_ra r_RB]; exact r_QI.2.2.2.1.2.2.2.2.2)
        refine sp_223r (aa := (aSp (m 94 17).toInt.toNat (aB0 aa)))  hV_m11 (by omega) r_W r_GW r_GU r_OW p0_m11 (show (m 94 10).toInt = 5 from by omega) (show (m9 94 58).toInt = 1 from by omega) p5_m11 p3_m11 p4_m11 (show qMI (aSp (m 94 17).toInt.toNat (aB0 aa)) from by first | (exact MI_sp _ _ (MI_b0 r_QI) p4_m9.2.2.2.2) | (exfalso; omega; done) | (exfalso; contradiction; done)) (show (aSp (m 94 17).toInt.toNat (aB0 aa)) 87 8 = (m9 94 58) from by first | (exact Sp_87.trans (B0_87.trans (i_one (by omega)))) | (exfalso; omega; done) | (exfalso; contradiction; done)) r_WTS (fun v14 m13 hV_m13 p0_m13 p1_m13 p2_m13 p3_m13 p4_m13 p5_m13 p6_m13 p7_m13 p8_m13 p9_m13 => zmi_n ?_)
        have p0_m13 : zGW T (m13 94 55) (m13 109) := p0_m13
        have p1_m13 : zGU T (m 94 46) (m13 99) := p1_m13
        have p2_m13 : zOw (m13 99) (m 103) (m13 111) := p2_m13
        have p3_m13 : zGG (m13 94 58) (m13 94 56) (m11 94 57) (m13 106) := p3_m13
        have p4_m13 : (m13 94 58).toInt = 0 ∨ ((m13 94 58).toInt = 1 ∧ (m11 94 57).toInt < (m13 94 56).toInt ∧ (m11 94 57).toInt = (m11 94 57).toInt) := p4_m13
        have p5_m13 : qRB (m13 99) (m 100) (m 98) (m 101) (m 102) (m 103) (m 107) (m 108) (m13 109) (m13 111) (m 112) (m13 113) (m13 114) (m13 94 55) (m 94 46) (m 94 11) (m 94 12) (m 94 62) (m 94 17) (m 94 9) (aLk (aSp (m 94 17).toInt.toNat (aB0 aa))) := p5_m13
        have p6_m13 : qI (aLk (aSp (m 94 17).toInt.toNat (aB0 aa))) := p6_m13
        have p7_m13 : qMG (m13 94 58) (m13 106) (m13 115) (m11 94 57) (m13 94 56) (m13 99) (m 100) (aLk (aSp (m 94 17).toInt.toNat (aB0 aa))) := p7_m13
        have p8_m13 : (aLk (aSp (m 94 17).toInt.toNat (aB0 aa))) 87 8 = (m13 94 58) := p8_m13
        have p9_m13 : (m13 94 45).toInt = sm (zbU (m13 99)) (m 102) 3100 := p9_m13
        have f37 : 0 ≤ (m13 94 58).toInt ∧ (m13 94 58).toInt ≤ 1 := rs_94_58 (m := (zov wr_223 (zov wr_222 (zov wr_219 m m9) m11) m13)) hV_m13
        have f38 : 0 ≤ (m13 94 56).toInt ∧ (m13 94 56).toInt ≤ 3100 := rs_94_56 (m := (zov wr_223 (zov wr_222 (zov wr_219 m m9) m11) m13)) hV_m13
        have b39 := i_bd nz
        exact lp_217r_45 (nz := nz) hV K _ _ (nz) rfl (zF_zov (zF_zov (zF_zov zF_rfl ws_219_217) ws_222_217) ws_223_217) hV_m13 (by omega) r_W p0_m13 p1_m13 p2_m13 p3_m13 (show (m 94 10).toInt = 5 from by omega) (show nz = nz from by first | (exact rfl) | (exfalso; omega; done) | (exfalso; contradiction; done)) (show qRB (m13 99) (m 100) (m 98) (m 101) (m 102) (m 103) (m 107) (m 108) (m13 109) (m13 111) (m 112) (m13 113) (m13 114) (m13 94 55) (m 94 46) (m 94 11) (m 94 12) (m 94 62) (m 94 17) (m 94 9) (aF1 aa) from by first | (rw [F1_1 (RB_ra r_RB) (F0_y r_RB r_QI r_WTS (r_MK.trans (i_zer (by omega))) (Int32.lt_iff_toInt_lt.mpr (by omega))) (by rw [B0_87]; decide)]; exact p5_m13; done) | (exfalso; omega; done) | (exfalso; contradiction; done)) (show qI (aF1 aa) from by first | (rw [F1_1 (RB_ra r_RB) (F0_y r_RB r_QI r_WTS (r_MK.trans (i_zer (by omega))) (Int32.lt_iff_toInt_lt.mpr (by omega))) (by rw [B0_87]; decide)]; exact p6_m13; done) | (exfalso; omega; done) | (exfalso; contradiction; done)) (show qMG (m13 94 58) (m13 106) (m13 115) (m11 94 57) (m13 94 56) (m13 99) (m 100) (aF1 aa) from by first | (rw [F1_1 (RB_ra r_RB) (F0_y r_RB r_QI r_WTS (r_MK.trans (i_zer (by omega))) (Int32.lt_iff_toInt_lt.mpr (by omega))) (by rw [B0_87]; decide)]; exact p7_m13; done) | (exfalso; omega; done) | (exfalso; contradiction; done)) (show (aF1 aa) 87 8 = (m13 94 58) from by first | (rw [F1_1 (RB_ra r_RB) (F0_y r_RB r_QI r_WTS (r_MK.trans (i_zer (by omega))) (Int32.lt_iff_toInt_lt.mpr (by omega))) (by rw [B0_87]; decide)]; exact p8_m13; done) | (exfalso; omega; done) | (exfalso; contradiction; done)) p9_m13
  · skip
    have g40 := i_ne h4
    refine zd (fun (h41 : (m 94 58) = (0 : Int32)) => ?_) (fun (h41 : ¬ (m 94 58) = (0 : Int32)) => ?_)
    · skip
      have g42 := i_eq h41
      have b43 := i_bd nz
      exact lp_217r_45 (nz := nz) hV K _ _ (nz) rfl zF_rfl hV (by omega) r_W r_GW r_GU r_OW r_GG (show (m 94 10).toInt = 5 from by omega) (show nz = nz from by first | (exact rfl) | (exfalso; omega; done) | (exfalso; contradiction; done)) (show qRB (m 99) (m 100) (m 98) (m 101) (m 102) (m 103) (m 107) (m 108) (m 109) (m 111) (m 112) (m 113) (m 114) (m 94 55) (m 94 46) (m 94 11) (m 94 12) (m 94 62) (m 94 17) (m 94 9) (aF1 aa) from by first | (rw [F1_0 (F0_n r_RB r_QI r_WTS (Or.inr (fun w => absurd (Int32.lt_iff_toInt_lt.mp w) (by omega)))) (r_MK.trans (i_zer (by omega)))]; exact r_RB; done) | (exfalso; omega; done) | (exfalso; contradiction; done)) (show qI (aF1 aa) from by first | (rw [F1_0 (F0_n r_RB r_QI r_WTS (Or.inr (fun w => absurd (Int32.lt_iff_toInt_lt.mp w) (by omega)))) (r_MK.trans (i_zer (by omega)))]; exact r_QI; done) | (exfalso; omega; done) | (exfalso; contradiction; done)) (show qMG (m 94 58) (m 106) (m 115) (m 94 57) (m 94 56) (m 99) (m 100) (aF1 aa) from by first | (rw [F1_0 (F0_n r_RB r_QI r_WTS (Or.inr (fun w => absurd (Int32.lt_iff_toInt_lt.mp w) (by omega)))) (r_MK.trans (i_zer (by omega)))]; exact r_MG; done) | (exfalso; omega; done) | (exfalso; contradiction; done)) (show (aF1 aa) 87 8 = (m 94 58) from by first | (rw [F1_0 (F0_n r_RB r_QI r_WTS (Or.inr (fun w => absurd (Int32.lt_iff_toInt_lt.mp w) (by omega)))) (r_MK.trans (i_zer (by omega)))]; exact r_MK; done) | (exfalso; omega; done) | (exfalso; contradiction; done)) r_WTS
    · skip
      have g44 := i_ne h41
      have b45 := i_bd (m 94 17)
      try have r6 : 0 ≤ (m 94 17).toInt := (by rw [← RB_ra r_RB]; exact r_QI.2.2.2.1.2.2.2.2.2)
      refine sp_222r (aa := aa) ((m 94 17)) hV (by omega) r_W (show zG1 (m 94 56) (m 94 57) (m 106) from by first | (exact r_GG (by omega)) | (exact G1_0 (by omega) (by omega)) | (exact r_GG (by omega)) | (exfalso; omega; done) | (exfalso; contradiction; done)) (show qMQ (m 106) (m 115) (m 94 57) (m 94 56) (m 99) (m 100) aa from by first | (exact (r_MG (by omega)).1) | (exfalso; omega; done) | (exfalso; contradiction; done)) r_RB r_QI (fun v2 m1 hV_m1 p0_m1 p1_m1 p2_m1 p3_m1 p4_m1 p5_m1 p6_m1 => zmi_n ?_)
      have p0_m1 : zG1 (m1 94 56) (m1 94 57) (m1 106) := p0_m1
      have p1_m1 : (m 94 56).toInt ≤ (m1 94 56).toInt := p1_m1
      have p2_m1 : (m 94 57).toInt ≤ (m1 94 57).toInt ∧ ((m1 94 56).toInt ≤ (m1 94 57).toInt ∨ (m 94 57).toInt + (m 94 17).toInt ≤ (m1 94 57).toInt) := p2_m1
      have p3_m1 : qRB (m 99) (m 100) (m 98) (m 101) (m 102) (m 103) (m 107) (m 108) (m 109) (m 111) (m 112) (m 113) (m 114) (m 94 55) (m 94 46) (m 94 11) (m 94 12) (m 94 62) (m 94 17) (m 94 9) (aSp (m 94 17).toInt.toNat aa) := p3_m1
      have p4_m1 : qI (aSp (m 94 17).toInt.toNat aa) := p4_m1
      have p5_m1 : qMQ (m1 106) (m1 115) (m1 94 57) (m1 94 56) (m 99) (m 100) (aSp (m 94 17).toInt.toNat aa) := p5_m1
      have p6_m1 : qEq v2.toInt (aSn (m 94 17).toInt.toNat aa : Int) := p6_m1
      have f46 : 0 ≤ (m 94 56).toInt ∧ (m 94 56).toInt ≤ 3100 := rs_94_56 (m := m) hV
      have f47 : 0 ≤ (m1 94 56).toInt ∧ (m1 94 56).toInt ≤ 3100 := rs_94_56 (m := (zov wr_222 m m1)) hV_m1
      have f48 : 0 ≤ (m 94 57).toInt ∧ (m 94 57).toInt ≤ 3100 := rs_94_57 (m := m) hV
      have f49 : 0 ≤ (m1 94 57).toInt ∧ (m1 94 57).toInt ≤ 3100 := rs_94_57 (m := (zov wr_222 m m1)) hV_m1
      try have r6 : 0 ≤ (m 94 17).toInt := (by rw [← RB_ra r_RB]; exact r_QI.2.2.2.1.2.2.2.2.2)
      refine sp_223r (aa := (aSp (m 94 17).toInt.toNat aa))  hV_m1 (by omega) r_W r_GW r_GU r_OW p0_m1 (show (m 94 10).toInt = 5 from by omega) (show (m 94 58).toInt = 1 from by omega) p5_m1 p3_m1 p4_m1 (show qMI (aSp (m 94 17).toInt.toNat aa) from by first | (exact MI_sp _ _ (r_MG (by omega)).2 (r_MG (by omega)).1.2.2.2.2) | (exfalso; omega; done) | (exfalso; contradiction; done)) (show (aSp (m 94 17).toInt.toNat aa) 87 8 = (m 94 58) from by first | (exact Sp_87.trans r_MK) | (exfalso; omega; done) | (exfalso; contradiction; done)) r_WTS (fun v4 m3 hV_m3 p0_m3 p1_m3 p2_m3 p3_m3 p4_m3 p5_m3 p6_m3 p7_m3 p8_m3 p9_m3 => zmi_n ?_)
      have p0_m3 : zGW T (m3 94 55) (m3 109) := p0_m3
      have p1_m3 : zGU T (m 94 46) (m3 99) := p1_m3
      have p2_m3 : zOw (m3 99) (m 103) (m3 111) := p2_m3
      have p3_m3 : zGG (m3 94 58) (m3 94 56) (m1 94 57) (m3 106) := p3_m3
      have p4_m3 : (m3 94 58).toInt = 0 ∨ ((m3 94 58).toInt = 1 ∧ (m1 94 57).toInt < (m3 94 56).toInt ∧ (m1 94 57).toInt = (m1 94 57).toInt) := p4_m3
      have p5_m3 : qRB (m3 99) (m 100) (m 98) (m 101) (m 102) (m 103) (m 107) (m 108) (m3 109) (m3 111) (m 112) (m3 113) (m3 114) (m3 94 55) (m 94 46) (m 94 11) (m 94 12) (m 94 62) (m 94 17) (m 94 9) (aLk (aSp (m 94 17).toInt.toNat aa)) := p5_m3
      have p6_m3 : qI (aLk (aSp (m 94 17).toInt.toNat aa)) := p6_m3
      have p7_m3 : qMG (m3 94 58) (m3 106) (m3 115) (m1 94 57) (m3 94 56) (m3 99) (m 100) (aLk (aSp (m 94 17).toInt.toNat aa)) := p7_m3
      have p8_m3 : (aLk (aSp (m 94 17).toInt.toNat aa)) 87 8 = (m3 94 58) := p8_m3
      have p9_m3 : (m3 94 45).toInt = sm (zbU (m3 99)) (m 102) 3100 := p9_m3
      have f50 : 0 ≤ (m3 94 58).toInt ∧ (m3 94 58).toInt ≤ 1 := rs_94_58 (m := (zov wr_223 (zov wr_222 m m1) m3)) hV_m3
      have f51 : 0 ≤ (m3 94 56).toInt ∧ (m3 94 56).toInt ≤ 3100 := rs_94_56 (m := (zov wr_223 (zov wr_222 m m1) m3)) hV_m3
      have b52 := i_bd nz
      exact lp_217r_45 (nz := nz) hV K _ _ (nz) rfl (zF_zov (zF_zov zF_rfl ws_222_217) ws_223_217) hV_m3 (by omega) r_W p0_m3 p1_m3 p2_m3 p3_m3 (show (m 94 10).toInt = 5 from by omega) (show nz = nz from by first | (exact rfl) | (exfalso; omega; done) | (exfalso; contradiction; done)) (show qRB (m3 99) (m 100) (m 98) (m 101) (m 102) (m 103) (m 107) (m 108) (m3 109) (m3 111) (m 112) (m3 113) (m3 114) (m3 94 55) (m 94 46) (m 94 11) (m 94 12) (m 94 62) (m 94 17) (m 94 9) (aF1 aa) from by first | (rw [F1_1 (RB_ra r_RB) (F0_n r_RB r_QI r_WTS (Or.inl (fun w => absurd (r_MK.symm.trans w) (i_nz2 (by omega))))) (fun w => absurd (r_MK.symm.trans w) (i_nz2 (by omega)))]; exact p5_m3; done) | (exfalso; omega; done) | (exfalso; contradiction; done)) (show qI (aF1 aa) from by first | (rw [F1_1 (RB_ra r_RB) (F0_n r_RB r_QI r_WTS (Or.inl (fun w => absurd (r_MK.symm.trans w) (i_nz2 (by omega))))) (fun w => absurd (r_MK.symm.trans w) (i_nz2 (by omega)))]; exact p6_m3; done) | (exfalso; omega; done) | (exfalso; contradiction; done)) (show qMG (m3 94 58) (m3 106) (m3 115) (m1 94 57) (m3 94 56) (m3 99) (m 100) (aF1 aa) from by first | (rw [F1_1 (RB_ra r_RB) (F0_n r_RB r_QI r_WTS (Or.inl (fun w => absurd (r_MK.symm.trans w) (i_nz2 (by omega))))) (fun w => absurd (r_MK.symm.trans w) (i_nz2 (by omega)))]; exact p7_m3; done) | (exfalso; omega; done) | (exfalso; contradiction; done)) (show (aF1 aa) 87 8 = (m3 94 58) from by first | (rw [F1_1 (RB_ra r_RB) (F0_n r_RB r_QI r_WTS (Or.inl (fun w => absurd (r_MK.symm.trans w) (i_nz2 (by omega))))) (fun w => absurd (r_MK.symm.trans w) (i_nz2 (by omega)))]; exact p8_m3; done) | (exfalso; omega; done) | (exfalso; contradiction; done)) p9_m3

/-! from 95.h20 -/
/-! the reference by numbers (written by wip/tools/gen18r.py) -/
set_option maxHeartbeats 8000000 in
theorem sp_184r {X : Nat × (Nat → Int32)} {P : Option ma_V → (Nat → Nat → Int32) → Prop} {T : Nat} {aa : Nat→Nat→Int32} {m : Nat → Nat → Int32} (nz : Int32) (hV : zV m) (hpre0 : T ≤ 512) (r_W : zW (m 94 7) (m 98) (m 101) (m 102) (m 108)) (r_GW : zGW T (m 94 55) (m 109)) (r_GU : zGU T (m 94 46) (m 99)) (r_OW : zOw (m 99) (m 103) (m 111)) (r_GG : zGG (m 94 58) (m 94 56) (m 94 57) (m 106)) (hpre6 : (m 94 10).toInt = 5) (r_RB : qRB (m 99) (m 100) (m 98) (m 101) (m 102) (m 103) (m 107) (m 108) (m 109) (m 111) (m 112) (m 113) (m 114) (m 94 55) (m 94 46) (m 94 11) (m 94 12) (m 94 62) (m 94 17) (m 94 9) aa) (r_QI : qI aa) (r_MG : qMG (m 94 58) (m 106) (m 115) (m 94 57) (m 94 56) (m 99) (m 100) aa) (r_MK : aa 87 8 = (m 94 58)) (r_WTS : (m 94 45).toInt = sm (zbU (m 99)) (m 102) 3100) (KZ : ∀ v m₉, zV (zov wr_184 m m₉) → (zGW T (m₉ 94 55) (m₉ 109)) → (zGU T (m 94 46) (m₉ 99)) → (zOw (m₉ 99) (m₉ 103) (m₉ 111)) → (zGG (m₉ 94 58) (m₉ 94 56) (m₉ 94 57) (m₉ 106)) → (-1 ≤ v.toInt ∧ v.toInt ≤ 1500) → (qRB (m₉ 99) (m 100) (m 98) (m 101) (m 102) (m₉ 103) (m 107) (m 108) (m₉ 109) (m₉ 111) (m 112) (m₉ 113) (m₉ 114) (m₉ 94 55) (m 94 46) (m 94 11) (m 94 12) (m 94 62) (m 94 17) (m 94 9) (aRs aa nz.toInt)) → (qI (aRs aa nz.toInt)) → (qMG (m₉ 94 58) (m₉ 106) (m₉ 115) (m₉ 94 57) (m₉ 94 56) (m₉ 99) (m 100) (aRs aa nz.toInt)) → ((aRs aa nz.toInt) 87 8 = (m₉ 94 58)) → ((m₉ 94 45).toInt = sm (zbU (m₉ 99)) (m 102) 3100) → (qEq v.toInt (aRp aa nz.toInt)) → P (some (.inl v)) (zov wr_184 m m₉)) : zm X 8 175 184 0 [(0, .inr (.inr (some 94))), (1, .inl nz)] m P := by
  have K : ∀ v m₉, zF wr_184 m m₉ → zV m₉ → (zGW T (m₉ 94 55) (m₉ 109)) → (zGU T (m₉ 94 46) (m₉ 99)) → (zOw (m₉ 99) (m₉ 103) (m₉ 111)) → (zGG (m₉ 94 58) (m₉ 94 56) (m₉ 94 57) (m₉ 106)) → (-1 ≤ v.toInt ∧ v.toInt ≤ 1500) → (qRB (m₉ 99) (m₉ 100) (m₉ 98) (m₉ 101) (m₉ 102) (m₉ 103) (m₉ 107) (m₉ 108) (m₉ 109) (m₉ 111) (m₉ 112) (m₉ 113) (m₉ 114) (m₉ 94 55) (m₉ 94 46) (m₉ 94 11) (m₉ 94 12) (m₉ 94 62) (m₉ 94 17) (m₉ 94 9) (aRs aa nz.toInt)) → (qI (aRs aa nz.toInt)) → (qMG (m₉ 94 58) (m₉ 106) (m₉ 115) (m₉ 94 57) (m₉ 94 56) (m₉ 99) (m₉ 100) (aRs aa nz.toInt)) → ((aRs aa nz.toInt) 87 8 = (m₉ 94 58)) → ((m₉ 94 45).toInt = sm (zbU (m₉ 99)) (m₉ 102) 3100) → (qEq v.toInt (aRp aa nz.toInt)) → P (some (.inl v)) m₉ := by
    intro v m₉ hf z q0 q1 q2 q3 q4 q5 q6 q7 q8 q9 q10
    have e := zov_eq hf
    rw [e] at z ⊢
    try rw [e] at q0
    try rw [e] at q1
    try rw [e] at q2
    try rw [e] at q3
    try rw [e] at q4
    try rw [e] at q5
    try rw [e] at q6
    try rw [e] at q7
    try rw [e] at q8
    try rw [e] at q9
    try rw [e] at q10
    exact KZ v m₉ z q0 q1 q2 q3 q4 q5 q6 q7 q8 q9 q10
  refine g_184_0 nz ?_
  have f1 : 0 ≤ (m 94 10).toInt ∧ (m 94 10).toInt ≤ 6 := rs_94_10 (m := m) hV
  have li2 : (1 : Int32).toInt = 1 := rfl
  refine zd (fun (h3 : (m 94 10) = (1 : Int32)) => ?_) (fun (h3 : ¬ (m 94 10) = (1 : Int32)) => ?_)
  · skip
    have g4 := i_eq h3
    exfalso; omega
  · skip
    have g5 := i_ne h3
    have li6 : (2 : Int32).toInt = 2 := rfl
    refine zd (fun (h7 : (m 94 10) = (2 : Int32)) => ?_) (fun (h7 : ¬ (m 94 10) = (2 : Int32)) => ?_)
    · skip
      have g8 := i_eq h7
      exfalso; omega
    · skip
      have g9 := i_ne h7
      have li10 : (3 : Int32).toInt = 3 := rfl
      refine zd (fun (h11 : (m 94 10) = (3 : Int32)) => ?_) (fun (h11 : ¬ (m 94 10) = (3 : Int32)) => ?_)
      · skip
        have g12 := i_eq h11
        exfalso; omega
      · skip
        have g13 := i_ne h11
        have li14 : (4 : Int32).toInt = 4 := rfl
        refine zd (fun (h15 : (m 94 10) = (4 : Int32)) => ?_) (fun (h15 : ¬ (m 94 10) = (4 : Int32)) => ?_)
        · skip
          have g16 := i_eq h15
          exfalso; omega
        · skip
          have g17 := i_ne h15
          have li18 : (5 : Int32).toInt = 5 := rfl
          refine zd (fun (h19 : (m 94 10) = (5 : Int32)) => ?_) (fun (h19 : ¬ (m 94 10) = (5 : Int32)) => ?_)
          · skip
            have g20 := i_eq h19
            have b21 := i_bd nz
            refine sp_217r (aa := aa) (nz) hV (by omega) r_W r_GW r_GU r_OW r_GG (show (m 94 10).toInt = 5 from by omega) r_RB r_QI r_MG r_MK r_WTS (fun v14 m13 hV_m13 p0_m13 p1_m13 p2_m13 p3_m13 p4_m13 p5_m13 p6_m13 p7_m13 p8_m13 p9_m13 p10_m13 => zmi_n ?_)
            have p0_m13 : zGW T (m13 94 55) (m13 109) := p0_m13
            have p1_m13 : zGU T (m 94 46) (m13 99) := p1_m13
            have p2_m13 : zOw (m13 99) (m 103) (m13 111) := p2_m13
            have p3_m13 : zGG (m13 94 58) (m13 94 56) (m13 94 57) (m13 106) := p3_m13
            have p4_m13 : -1 ≤ v14.toInt ∧ v14.toInt ≤ 1500 := p4_m13
            have p5_m13 : qRB (m13 99) (m 100) (m 98) (m 101) (m 102) (m 103) (m 107) (m 108) (m13 109) (m13 111) (m 112) (m13 113) (m13 114) (m13 94 55) (m 94 46) (m 94 11) (m 94 12) (m 94 62) (m 94 17) (m 94 9) (aRs aa nz.toInt) := p5_m13
            have p6_m13 : qI (aRs aa nz.toInt) := p6_m13
            have p7_m13 : qMG (m13 94 58) (m13 106) (m13 115) (m13 94 57) (m13 94 56) (m13 99) (m 100) (aRs aa nz.toInt) := p7_m13
            have p8_m13 : (aRs aa nz.toInt) 87 8 = (m13 94 58) := p8_m13
            have p9_m13 : (m13 94 45).toInt = sm (zbU (m13 99)) (m 102) 3100 := p9_m13
            have p10_m13 : qEq v14.toInt (aRp aa nz.toInt) := p10_m13
            have b22 := i_bd v14
            exact K (v14) _ (zF_zov zF_rfl ws_217_184) hV_m13 p0_m13 p1_m13 p2_m13 p3_m13 (show -1 ≤ v14.toInt ∧ v14.toInt ≤ 1500 from by omega) p5_m13 p6_m13 p7_m13 p8_m13 p9_m13 p10_m13
          · skip
            have g23 := i_ne h19
            exfalso; omega

/-! from 95.h21 -/
/-! the reference by numbers (written by wip/tools/gen18r.py) -/
/-! A ROOT OR A WORD CHANGES, the reference -/
section QC
variable {aa a b c : Nat → Nat → Int32} {us nr kr kd ws at₉ ho wd wi ow rt wk wl kp co gr : Nat → Int32} {wm nu ro fo le ra pi y x z i ga gm r s v : Int32} {n k u t : Nat} {m m2 : Nat → Nat → Int32}
theorem Nm_no (h : qR1 us nr ws at₉ ho a) (u : qU us x) : aNm a (qNo nr x) = qNo nr x := by
  by_cases z : x.toInt < 0
  · rw [No_n z]
    exact if_neg (fun w => absurd w.1 (by decide))
  · have w := U_y u (by omega)
    rw [No_y (by omega)]
    have t := h.1 _ (tn_lt (by omega) w.1) w.2
    exact if_pos ⟨t.1.1, t.1.2, t.2.1⟩
theorem No_ij (h : qR1 us nr ws at₉ ho a) (u : qU us x) (w : qU us y) (hx : -1 ≤ x.toInt) (hy : -1 ≤ y.toInt) (e : qNo nr x = qNo nr y) : x = y := by
  have neg : ∀ z : Int32, qU us z → 0 ≤ z.toInt → 0 ≤ (qNo nr z).toInt := fun z uz hz => by
    have q := U_y uz hz
    rw [No_y hz]
    exact (h.1 _ (tn_lt hz q.1) q.2).1.1
  have m1 : (-1 : Int32).toInt = -1 := rfl
  by_cases z : x.toInt < 0
  · by_cases z2 : y.toInt < 0
    · exact Int32.toInt_inj.mp (by omega)
    · have q := neg y w (by omega)
      rw [← e, No_n z] at q
      omega
  · by_cases z2 : y.toInt < 0
    · have q := neg x u (by omega)
      rw [e, No_n z2] at q
      omega
    · rw [No_y (by omega), No_y (by omega)] at e
      have u1 := U_y u (by omega)
      have w1 := U_y w (by omega)
      have q := h.2.1 _ _ (tn_lt (by omega) u1.1) (tn_lt (by omega) w1.1) u1.2 w1.2 e
      have c1 := tn_cast (x := x) (by omega)
      have c2 := tn_cast (x := y) (by omega)
      exact Int32.toInt_inj.mp (by omega)
theorem NC_0 (h : a 87 8 = 0) : aNc a y z = a := aNc_n (fun w => w.1 h)
theorem NC_s : aNc a y y = a := aNc_n (fun w => w.2 rfl)
theorem NC_of : zOf a (aNc a y z) := by
  unfold aNc
  split
  · exact cm_of
  · exact Of_rf
theorem NC_y (hR : qRB us nr kr kd ws at₉ ho wd wi ow rt wk wl wm nu ro fo le ra pi a) (hm : a 87 8 ≠ 0) (u : qU us x) (w : qU us y) (hx : -1 ≤ x.toInt) (hy : -1 ≤ y.toInt) (hne : ¬ x = y) : aNc a (qNo nr x) (qNo nr y) = aCm a (qNo nr (if pi = 0 then y else x)) := by
  have e7 : a 87 7 = (if pi = 0 then 1 else 0) := hR.2.2.2.2.2.2.2.2.2.2.2.2
  rw [aNc_y hm (by rw [Nm_no hR.1 u, Nm_no hR.1 w]; exact fun e => hne (No_ij hR.1 u w hx hy e)), e7]
  by_cases z : pi = 0
  · rw [if_pos z, if_pos z, if_neg (by decide)]
  · rw [if_neg z, if_neg z, if_pos rfl]
theorem NC_push (hR : qRB us nr kr kd ws at₉ ho wd wi ow rt wk wl wm nu ro fo le ra pi a) (hq : qMQ (m 106) (m2 115) ga gm us nr a) (hm : a 87 8 ≠ 0) (u : qU us x) (w : qU us y) (hx : -1 ≤ x.toInt) (hy : -1 ≤ y.toInt) (hne : ¬ x = y) (hv : v = if pi = 0 then y else x) (h0 : 0 ≤ v.toInt) (hw : m 106 v.toNatClampNeg = 0) : qMQ (ma_u m 106 v.toNatClampNeg 1 106) (ma_u m2 115 gm.toNatClampNeg v 115) ga (gm + 1) us nr (aNc a (qNo nr x) (qNo nr y)) := by
  rw [NC_y hR hm u w hx hy hne, ← hv]
  have uv : qU us v := by
    rw [hv]
    split
    · exact w
    · exact u
  have q := U_y uv h0
  exact MQ_push hq hR.1 h0 q.1 q.2 hw rfl
theorem NC_skip (hR : qRB us nr kr kd ws at₉ ho wd wi ow rt wk wl wm nu ro fo le ra pi a) (hq : qMQ co gr ga gm us nr a) (hm : a 87 8 ≠ 0) (u : qU us x) (w : qU us y) (hx : -1 ≤ x.toInt) (hy : -1 ≤ y.toInt) (hne : ¬ x = y) (hv : v = if pi = 0 then y else x) (h0 : v.toInt < 0 ∨ co v.toNatClampNeg ≠ 0) : qMQ co gr ga gm us nr (aNc a (qNo nr x) (qNo nr y)) := by
  rw [NC_y hR hm u w hx hy hne, ← hv]
  have uv : qU us v := by
    rw [hv]
    split
    · exact w
    · exact u
  rw [MQ_sk hq uv h0]
  exact hq
/-! rows of the heap that change, and what stays -/
theorem R1_cg (h : qR1 us nr ws at₉ ho a) (e1 : b 126 = a 126) (e2 : b 128 = a 128) (e3 : b 130 = a 130) (e4 : b 133 = a 133) : qR1 us nr ws at₉ ho b := by
  unfold qR1 at h ⊢
  rw [e1, e2, e3, e4]
  exact h
theorem rf_cg (e1 : b (1000 + n) = a (1000 + n)) (e2 : b 130 = a 130) (e3 : b 71 = a 71) : aRef b n i = aRef a n i := by
  unfold aRef
  rw [e1, e2, e3]
theorem R2_cg (h : qR2 us nr kr kd ws wd a) (e1 : ∀ n, b (1000 + n) = a (1000 + n)) (e2 : b 130 = a 130) (e3 : b 71 = a 71) : qR2 us nr kr kd ws wd b := by
  intro s hs hu i hi
  rw [rf_cg (e1 _) e2 e3, e1]
  exact h s hs hu i hi
theorem R3_cg (h : qR3 us nr rt a n) (e : b n = a n) : qR3 us nr rt b n := by
  unfold qR3 at h ⊢
  rw [e]
  exact h
theorem R5_cg (h : qR5 us nr wl wm a) (e1 : b 69 = a 69) (e2 : b 74 = a 74) : qR5 us nr wl wm b := by
  unfold qR5 at h ⊢
  rw [e1, e2]
  exact h
theorem R6_cg (h : qR6 us nr wi a) (e : b 134 = a 134) : qR6 us nr wi b := by
  unfold qR6 at h ⊢
  rw [e]
  exact h
theorem R8_cg (h : qR8 nu ro fo le ra pi a) (e1 : b 69 6 = a 69 6) (e2 : b 87 = a 87) : qR8 nu ro fo le ra pi b := by
  unfold qR8 at h ⊢
  rw [e1, e2]
  exact h
theorem I_cg (h : qI a) (e1 : b 126 = a 126) (e2 : b 128 = a 128) (e3 : b 130 = a 130) (e4 : b 71 = a 71) (e5 : b 69 = a 69) (e6 : b 87 = a 87) (e7 : ∀ n, b (1000 + n) = a (1000 + n)) : qI b := by
  have al : xAl b = xAl a := by
    funext n
    unfold xAl
    rw [e1]
  have su := Su_cg (a := b) (b := a) e1 e2 512
  have e8 : qI6 b := fun n hn k => by
    rw [e7]
    exact h.2.2.2.2.2 n (by rw [← al]; exact hn) k
  unfold qI qI1 qI2 qI3 qI4 qGd at h ⊢
  rw [al, su, e2, e3, e4, e5, e6]
  exact ⟨h.1, h.2.1, h.2.2.1, h.2.2.2.1, h.2.2.2.2.1, e8⟩
theorem un {c k : Nat} (h : n ≠ c) : ma_u a c k x n = a n := ma_u_ne _ _ _ h
theorem RB_rt (h : qRB us nr kr kd ws at₉ ho wd wi ow (m 112) wk wl wm nu ro fo le ra pi a) (u : qU us s) : qRB us nr kr kd ws at₉ ho wd wi ow (ma_u m 112 k s 112) wk wl wm nu ro fo le ra pi (ma_u a 72 k (qNo nr s)) := by
  refine ⟨R1_cg h.1 (un (by decide)) (un (by decide)) (un (by decide)) (un (by decide)), R2_cg h.2.1 (fun n => un (by omega)) (un (by decide)) (un (by decide)), fun j hj => ?_, R3_cg h.2.2.2.1 (un (by decide)), R5_cg h.2.2.2.2.1 (un (by decide)) (un (by decide)), R6_cg h.2.2.2.2.2.1 (un (by decide)), h.2.2.2.2.2.2.1, R8_cg h.2.2.2.2.2.2.2 (by rw [un (by decide)]) (un (by decide))⟩
  by_cases z : j = k
  · rw [z, mu_self, xu_s]
    exact ⟨u, rfl⟩
  · rw [mu_ne z, xu_o (fun w => z w.2)]
    exact h.2.2.1 j hj
theorem RB_wk (h : qRB us nr kr kd ws at₉ ho wd wi ow rt (m 113) wl wm nu ro fo le ra pi a) (u : qU us s) : qRB us nr kr kd ws at₉ ho wd wi ow rt (ma_u m 113 k s 113) wl wm nu ro fo le ra pi (ma_u a 73 k (qNo nr s)) := by
  refine ⟨R1_cg h.1 (un (by decide)) (un (by decide)) (un (by decide)) (un (by decide)), R2_cg h.2.1 (fun n => un (by omega)) (un (by decide)) (un (by decide)), R3_cg h.2.2.1 (un (by decide)), fun j hj => ?_, R5_cg h.2.2.2.2.1 (un (by decide)) (un (by decide)), R6_cg h.2.2.2.2.2.1 (un (by decide)), h.2.2.2.2.2.2.1, R8_cg h.2.2.2.2.2.2.2 (by rw [un (by decide)]) (un (by decide))⟩
  by_cases z : j = k
  · rw [z, mu_self, xu_s]
    exact ⟨u, rfl⟩
  · rw [mu_ne z, xu_o (fun w => z w.2)]
    exact h.2.2.2.1 j hj
theorem RB_wi (h : qRB us nr kr kd ws at₉ ho wd (m 109) ow rt wk wl wm nu ro fo le ra pi a) (hs : n < 3100) (hu : us n ≠ 0) : qRB us nr kr kd ws at₉ ho wd (ma_u m 109 n x 109) ow rt wk wl wm nu ro fo le ra pi (ma_u a 134 (nr n).toNatClampNeg x) := by
  refine ⟨R1_cg h.1 (un (by decide)) (un (by decide)) (un (by decide)) (un (by decide)), R2_cg h.2.1 (fun n => un (by omega)) (un (by decide)) (un (by decide)), R3_cg h.2.2.1 (un (by decide)), R3_cg h.2.2.2.1 (un (by decide)), R5_cg h.2.2.2.2.1 (un (by decide)) (un (by decide)), fun t ht hv => ?_, h.2.2.2.2.2.2.1, R8_cg h.2.2.2.2.2.2.2 (by rw [un (by decide)]) (un (by decide))⟩
  by_cases z : t = n
  · rw [z, mu_self, xu_s]
  · rw [mu_ne z, xu_o (fun w => z (R1_in h.1 ht hs hv hu w.2))]
    exact h.2.2.2.2.2.1 t ht hv
theorem RB_ho (h : qRB us nr kr kd ws at₉ (m 107) wd wi ow rt wk wl wm nu ro fo le ra pi a) (hs : n < 3100) (hu : us n ≠ 0) : qRB us nr kr kd ws at₉ (ma_u m 107 n x 107) wd wi ow rt wk wl wm nu ro fo le ra pi (ma_u a 133 (nr n).toNatClampNeg x) := by
  refine ⟨⟨fun t ht hv => ?_, h.1.2.1, fun j hj => ?_⟩, R2_cg h.2.1 (fun n => un (by omega)) (un (by decide)) (un (by decide)), R3_cg h.2.2.1 (un (by decide)), R3_cg h.2.2.2.1 (un (by decide)), R5_cg h.2.2.2.2.1 (un (by decide)) (un (by decide)), R6_cg h.2.2.2.2.2.1 (un (by decide)), h.2.2.2.2.2.2.1, R8_cg h.2.2.2.2.2.2.2 (by rw [un (by decide)]) (un (by decide))⟩
  · have q := h.1.1 t ht hv
    rw [un (n := 126) (by decide), un (n := 128) (by decide), un (n := 130) (by decide)]
    refine ⟨q.1, q.2.1, q.2.2.1, q.2.2.2.1, ?_, q.2.2.2.2.2⟩
    by_cases z : t = n
    · rw [z, mu_self, xu_s]
    · rw [mu_ne z, xu_o (fun w => z (R1_in h.1 ht hs hv hu w.2))]
      exact q.2.2.2.2.1
  · rw [un (n := 126) (by decide)]
    exact h.1.2.2 j hj
theorem I_u (h : qI a) (hn : n = 72 ∨ n = 73 ∨ n = 133 ∨ n = 134) : qI (ma_u a n k x) := I_cg h (un (by omega)) (un (by omega)) (un (by omega)) (un (by omega)) (un (by omega)) (un (by omega)) (fun j => un (by omega))
/-! what comes of a change -/
theorem Ed_cg (e1 : b 126 = a 126) (e2 : b 128 = a 128) (e3 : ∀ n i, aRef b n i = aRef a n i) : zEd b = zEd a := by
  funext u y
  unfold zEd xAl
  rw [e1, e2]
  simp only [e3]
theorem Mk_cg (e0 : b 77 = a 77) (e1 : zEd b = zEd a) : zMk b = zMk a ∧ zNn b = zNn a ∧ zDn b = zDn a := by
  have n : zNn b = zNn a := by
    funext u
    unfold zNn
    rw [e0]
  have d : zDn b = zDn a := by
    funext u
    unfold zDn
    rw [e0]
  refine ⟨?_, n, d⟩
  funext u
  unfold zMk
  rw [n, d, e1]
theorem MI_cg (h : qMI a) (e0 : b 77 = a 77) (e1 : zEd b = zEd a) (e2 : b 126 = a 126) (e7 : b 87 7 = a 87 7) (hr : a 87 7 ≠ 1 → ∀ u, zRt b u → zRt a u ∨ zMk a u) : qMI b := by
  have q := Mk_cg e0 e1
  have al : xAl b = xAl a := by
    funext n
    unfold xAl
    rw [e2]
  unfold qMI at h ⊢
  rw [q.1, q.2.1, q.2.2, e1, al, e7]
  exact ⟨h.1, fun w => ⟨fun u hu => (hr w u hu).elim ((h.2 w).1 u) id, (h.2 w).2⟩⟩
theorem WQ_u (h : zWQ a) (hn : n ≠ 75 ∧ n ≠ 76 ∧ n ≠ 77 ∧ n ≠ 126 ∧ n ≠ 130) : zWQ (ma_u a n k x) := WQ_cg h (un (by omega)).symm (un (by omega)).symm (un (by omega)).symm (un (by omega)).symm (un (by omega)).symm
theorem MQ_u (h : qMQ co gr ga gm us nr a) (hn : n ≠ 75 ∧ n ≠ 76 ∧ n ≠ 77 ∧ n ≠ 126 ∧ n ≠ 130) : qMQ co gr ga gm us nr (ma_u a n k x) := by
  obtain ⟨h1, h2, h3, h4, h5⟩ := h
  have w := WQ_u (k := k) (x := x) h5 hn
  unfold qMQ
  rw [un (n := 75) (by omega), un (n := 76) (by omega), un (n := 77) (by omega)]
  exact ⟨h1, h2, h3, h4, w⟩
theorem Ed_u (hn : n ≠ 126 ∧ n ≠ 128 ∧ n ≠ 130 ∧ n ≠ 71 ∧ n < 1000) : zEd (ma_u a n k x) = zEd a := Ed_cg (un (by omega)) (un (by omega)) (fun j i => rf_cg (un (by omega)) (un (by omega)) (un (by omega)))
theorem MI_nc (h : qMI a) (hw : zWQ a) : qMI (aNc a y z) := by
  unfold aNc
  split
  · exact MI_cm h hw
  · exact h
theorem Rt_72 (hu : zRt (ma_u a 72 k y) u) : zRt a u ∨ y = Int32.ofNat u := by
  obtain ⟨al, h⟩ := hu
  have al2 : xAl a u := by
    unfold xAl at al ⊢
    rw [un (by decide)] at al
    exact al
  unfold zRl zWl zHl at h
  rw [un (n := 74) (by decide), un (n := 69) (by decide), un (n := 133) (by decide)] at h
  rcases h with ⟨j, j1, j2⟩ | h
  · by_cases z : j = k
    · rw [z, xu_s] at j2
      exact Or.inr j2
    · rw [xu_o (fun w => z w.2)] at j2
      exact Or.inl ⟨al2, Or.inl ⟨j, j1, j2⟩⟩
  · exact Or.inl ⟨al2, Or.inr h⟩
theorem MI_rt (h : qMI a) (hw : zWQ a) (hm : a 87 7 ≠ 1 → y.toInt < 0 ∨ zMk a y.toNatClampNeg) {w z : Int32} : qMI (aNc (ma_u a 72 k y) w z) := by
  refine MI_nc (MI_cg h (un (by decide)) (Ed_u (by decide)) (un (by decide)) (by rw [un (by decide)]) (fun h7 u hu => ?_)) (WQ_u hw (by decide))
  rcases Rt_72 hu with q | q
  · exact Or.inl q
  · have al : u < 512 := hu.1.1
    have e := ofN_i al
    refine Or.inr ((hm h7).elim (fun w => ?_) (fun w => ?_))
    · rw [q] at w
      omega
    · rw [q, tn_of al] at w
      exact w
end QC
theorem sp_240r {X : Nat × (Nat → Int32)} {P : Option ma_V → (Nat → Nat → Int32) → Prop} {aa : Nat→Nat→Int32} {m : Nat → Nat → Int32} (wa : Int32) (is : Int32) (hV : zV m) (hpre0 : (m 94 10).toInt = 5) (hpre1 : -1 ≤ wa.toInt) (hpre2 : wa.toInt ≤ 3099) (hpre3 : -1 ≤ is.toInt) (hpre4 : is.toInt ≤ 3099) (r_GG : zGG (m 94 58) (m 94 56) (m 94 57) (m 106)) (r_RB : qRB (m 99) (m 100) (m 98) (m 101) (m 102) (m 103) (m 107) (m 108) (m 109) (m 111) (m 112) (m 113) (m 114) (m 94 55) (m 94 46) (m 94 11) (m 94 12) (m 94 62) (m 94 17) (m 94 9) aa) (r_QI : qI aa) (r_MK : aa 87 8 = (m 94 58)) (r_UA : qU (m 99) wa) (r_UB : qU (m 99) is) (r_MQG : qGQ (m 94 58) (m 106) (m 115) (m 94 57) (m 94 56) (m 99) (m 100) aa) (KZ : ∀ m₉, zV (zov wr_240 m m₉) → (zGG (m 94 58) (m₉ 94 56) (m 94 57) (m₉ 106)) → (qRB (m 99) (m 100) (m 98) (m 101) (m 102) (m 103) (m 107) (m 108) (m 109) (m 111) (m 112) (m 113) (m 114) (m 94 55) (m 94 46) (m 94 11) (m 94 12) (m 94 62) (m 94 17) (m 94 9) (aNc aa (qNo (m 100) wa) (qNo (m 100) is))) → (qI (aNc aa (qNo (m 100) wa) (qNo (m 100) is))) → ((aNc aa (qNo (m 100) wa) (qNo (m 100) is)) 87 8 = (m 94 58)) → (qGQ (m 94 58) (m₉ 106) (m₉ 115) (m 94 57) (m₉ 94 56) (m 99) (m 100) (aNc aa (qNo (m 100) wa) (qNo (m 100) is))) → P none (zov wr_240 m m₉)) : zm X 1 21 240 0 [(0, .inr (.inr (some 94))), (1, .inl wa), (2, .inl is)] m P := by
  have K : ∀ m₉, zF wr_240 m m₉ → zV m₉ → (zGG (m₉ 94 58) (m₉ 94 56) (m₉ 94 57) (m₉ 106)) → (qRB (m₉ 99) (m₉ 100) (m₉ 98) (m₉ 101) (m₉ 102) (m₉ 103) (m₉ 107) (m₉ 108) (m₉ 109) (m₉ 111) (m₉ 112) (m₉ 113) (m₉ 114) (m₉ 94 55) (m₉ 94 46) (m₉ 94 11) (m₉ 94 12) (m₉ 94 62) (m₉ 94 17) (m₉ 94 9) (aNc aa (qNo (m₉ 100) wa) (qNo (m₉ 100) is))) → (qI (aNc aa (qNo (m₉ 100) wa) (qNo (m₉ 100) is))) → ((aNc aa (qNo (m₉ 100) wa) (qNo (m₉ 100) is)) 87 8 = (m₉ 94 58)) → (qGQ (m₉ 94 58) (m₉ 106) (m₉ 115) (m₉ 94 57) (m₉ 94 56) (m₉ 99) (m₉ 100) (aNc aa (qNo (m₉ 100) wa) (qNo (m₉ 100) is))) → P none m₉ := by
    intro m₉ hf z q0 q1 q2 q3 q4
    have e := zov_eq hf
    rw [e] at z ⊢
    try rw [e] at q0
    try rw [e] at q1
    try rw [e] at q2
    try rw [e] at q3
    try rw [e] at q4
    exact KZ m₉ z q0 q1 q2 q3 q4
  refine g_240_0 wa is ?_
  have f1 : 0 ≤ (m 94 10).toInt ∧ (m 94 10).toInt ≤ 6 := rs_94_10 (m := m) hV
  have li2 : (5 : Int32).toInt = 5 := rfl
  refine zd (fun (h3 : (m 94 10) = (5 : Int32)) => ?_) (fun (h3 : ¬ (m 94 10) = (5 : Int32)) => ?_)
  · skip
    have g4 := i_eq h3
    have f5 : 0 ≤ (m 94 58).toInt ∧ (m 94 58).toInt ≤ 1 := rs_94_58 (m := m) hV
    have li6 : (0 : Int32).toInt = 0 := rfl
    refine zd (fun (h7 : (m 94 58) = (0 : Int32)) => ?_) (fun (h7 : ¬ (m 94 58) = (0 : Int32)) => ?_)
    · skip
      have g8 := i_eq h7
      exact K _ zF_rfl hV r_GG (show qRB (m 99) (m 100) (m 98) (m 101) (m 102) (m 103) (m 107) (m 108) (m 109) (m 111) (m 112) (m 113) (m 114) (m 94 55) (m 94 46) (m 94 11) (m 94 12) (m 94 62) (m 94 17) (m 94 9) (aNc aa (qNo (m 100) wa) (qNo (m 100) is)) from by first | (exact RB_of r_RB NC_of) | (exfalso; omega; done) | (exfalso; contradiction; done)) (show qI (aNc aa (qNo (m 100) wa) (qNo (m 100) is)) from by first | (exact qI_of r_QI NC_of) | (exfalso; omega; done) | (exfalso; contradiction; done)) (show (aNc aa (qNo (m 100) wa) (qNo (m 100) is)) 87 8 = (m 94 58) from by first | (exact (NC_of 87 8 (by decide) (by decide) (by decide)).symm.trans r_MK) | (exfalso; omega; done) | (exfalso; contradiction; done)) (show qGQ (m 94 58) (m 106) (m 115) (m 94 57) (m 94 56) (m 99) (m 100) (aNc aa (qNo (m 100) wa) (qNo (m 100) is)) from by first | (exact fun z => absurd (by omega) z) | (rw [show wa = is from by assumption, NC_s]; exact r_MQG; done) | (exact fun z => NC_skip r_RB (r_MQG z) (fun w => absurd (r_MK.symm.trans w) (by assumption)) r_UA r_UB (by omega) (by omega) (by assumption) (if_pos (by assumption)).symm (Or.inl (by omega))) | (exact fun z => NC_skip r_RB (r_MQG z) (fun w => absurd (r_MK.symm.trans w) (by assumption)) r_UA r_UB (by omega) (by omega) (by assumption) (if_pos (by assumption)).symm (Or.inr (by assumption))) | (exact fun z => NC_skip r_RB (r_MQG z) (fun w => absurd (r_MK.symm.trans w) (by assumption)) r_UA r_UB (by omega) (by omega) (by assumption) (if_neg (by assumption)).symm (Or.inl (by omega))) | (exact fun z => NC_skip r_RB (r_MQG z) (fun w => absurd (r_MK.symm.trans w) (by assumption)) r_UA r_UB (by omega) (by omega) (by assumption) (if_neg (by assumption)).symm (Or.inr (by assumption))) | (exfalso; omega; done) | (exfalso; contradiction; done))
    · skip
      have g9 := i_ne h7
      have b10 := i_bd wa
      have b11 := i_bd is
      refine zd (fun (h12 : wa = is) => ?_) (fun (h12 : ¬ wa = is) => ?_)
      · skip
        have g13 := i_eq h12
        exact K _ zF_rfl hV r_GG (show qRB (m 99) (m 100) (m 98) (m 101) (m 102) (m 103) (m 107) (m 108) (m 109) (m 111) (m 112) (m 113) (m 114) (m 94 55) (m 94 46) (m 94 11) (m 94 12) (m 94 62) (m 94 17) (m 94 9) (aNc aa (qNo (m 100) wa) (qNo (m 100) is)) from by first | (exact RB_of r_RB NC_of) | (exfalso; omega; done) | (exfalso; contradiction; done)) (show qI (aNc aa (qNo (m 100) wa) (qNo (m 100) is)) from by first | (exact qI_of r_QI NC_of) | (exfalso; omega; done) | (exfalso; contradiction; done)) (show (aNc aa (qNo (m 100) wa) (qNo (m 100) is)) 87 8 = (m 94 58) from by first | (exact (NC_of 87 8 (by decide) (by decide) (by decide)).symm.trans r_MK) | (exfalso; omega; done) | (exfalso; contradiction; done)) (show qGQ (m 94 58) (m 106) (m 115) (m 94 57) (m 94 56) (m 99) (m 100) (aNc aa (qNo (m 100) wa) (qNo (m 100) is)) from by first | (exact fun z => absurd (by omega) z) | (rw [show wa = is from by assumption, NC_s]; exact r_MQG; done) | (exact fun z => NC_skip r_RB (r_MQG z) (fun w => absurd (r_MK.symm.trans w) (by assumption)) r_UA r_UB (by omega) (by omega) (by assumption) (if_pos (by assumption)).symm (Or.inl (by omega))) | (exact fun z => NC_skip r_RB (r_MQG z) (fun w => absurd (r_MK.symm.trans w) (by assumption)) r_UA r_UB (by omega) (by omega) (by assumption) (if_pos (by assumption)).symm (Or.inr (by assumption))) | (exact fun z => NC_skip r_RB (r_MQG z) (fun w => absurd (r_MK.symm.trans w) (by assumption)) r_UA r_UB (by omega) (by omega) (by assumption) (if_neg (by assumption)).symm (Or.inl (by omega))) | (exact fun z => NC_skip r_RB (r_MQG z) (fun w => absurd (r_MK.symm.trans w) (by assumption)) r_UA r_UB (by omega) (by omega) (by assumption) (if_neg (by assumption)).symm (Or.inr (by assumption))) | (exfalso; omega; done) | (exfalso; contradiction; done))
      · skip
        have g14 := i_ne h12
        have f15 : 0 ≤ (m 94 9).toInt ∧ (m 94 9).toInt ≤ 1 := rs_94_9 (m := m) hV
        refine zd (fun (h16 : (m 94 9) = (0 : Int32)) => ?_) (fun (h16 : ¬ (m 94 9) = (0 : Int32)) => ?_)
        · skip
          have g17 := i_eq h16
          refine zd (fun (h18 : is < (0 : Int32)) => ?_) (fun (h18 : ¬ is < (0 : Int32)) => ?_)
          · skip
            have g19 := i_lt h18
            exact K _ zF_rfl hV r_GG (show qRB (m 99) (m 100) (m 98) (m 101) (m 102) (m 103) (m 107) (m 108) (m 109) (m 111) (m 112) (m 113) (m 114) (m 94 55) (m 94 46) (m 94 11) (m 94 12) (m 94 62) (m 94 17) (m 94 9) (aNc aa (qNo (m 100) wa) (qNo (m 100) is)) from by first | (exact RB_of r_RB NC_of) | (exfalso; omega; done) | (exfalso; contradiction; done)) (show qI (aNc aa (qNo (m 100) wa) (qNo (m 100) is)) from by first | (exact qI_of r_QI NC_of) | (exfalso; omega; done) | (exfalso; contradiction; done)) (show (aNc aa (qNo (m 100) wa) (qNo (m 100) is)) 87 8 = (m 94 58) from by first | (exact (NC_of 87 8 (by decide) (by decide) (by decide)).symm.trans r_MK) | (exfalso; omega; done) | (exfalso; contradiction; done)) (show qGQ (m 94 58) (m 106) (m 115) (m 94 57) (m 94 56) (m 99) (m 100) (aNc aa (qNo (m 100) wa) (qNo (m 100) is)) from by first | (exact fun z => absurd (by omega) z) | (rw [show wa = is from by assumption, NC_s]; exact r_MQG; done) | (exact fun z => NC_skip r_RB (r_MQG z) (fun w => absurd (r_MK.symm.trans w) (by assumption)) r_UA r_UB (by omega) (by omega) (by assumption) (if_pos (by assumption)).symm (Or.inl (by omega))) | (exact fun z => NC_skip r_RB (r_MQG z) (fun w => absurd (r_MK.symm.trans w) (by assumption)) r_UA r_UB (by omega) (by omega) (by assumption) (if_pos (by assumption)).symm (Or.inr (by assumption))) | (exact fun z => NC_skip r_RB (r_MQG z) (fun w => absurd (r_MK.symm.trans w) (by assumption)) r_UA r_UB (by omega) (by omega) (by assumption) (if_neg (by assumption)).symm (Or.inl (by omega))) | (exact fun z => NC_skip r_RB (r_MQG z) (fun w => absurd (r_MK.symm.trans w) (by assumption)) r_UA r_UB (by omega) (by omega) (by assumption) (if_neg (by assumption)).symm (Or.inr (by assumption))) | (exfalso; omega; done) | (exfalso; contradiction; done))
          · skip
            have g20 := i_nlt h18
            have hg21 : (0 ≤ is ∧ is.toNatClampNeg < 3100) := i_ix (by omega) (by omega)
            refine ⟨hg21, ?_⟩
            have b22 := i_bd (m 106 is.toNatClampNeg)
            refine zd (fun (h23 : (m 106 is.toNatClampNeg) = (0 : Int32)) => ?_) (fun (h23 : ¬ (m 106 is.toNatClampNeg) = (0 : Int32)) => ?_)
            · skip
              have g24 := i_eq h23
              have hg25 : (0 ≤ is ∧ is.toNatClampNeg < 3100) := i_ix (by omega) (by omega)
              refine ⟨hg25, ?_⟩
              have f26 : 0 ≤ (m 94 56).toInt ∧ (m 94 56).toInt ≤ 3100 := rs_94_56 (m := m) hV
              try have gk := G1_room (r_GG (by omega)) (by assumption) (by omega)
              have hg27 : (0 ≤ (m 94 56) ∧ (m 94 56).toNatClampNeg < 3100) := i_ix (by omega) (by omega)
              refine ⟨hg27, ?_⟩
              have hV28 : zV (ma_u m 106 is.toNatClampNeg (1 : Int32)) := ua_106 hV
              have hV29 : zV (ma_u (ma_u m 106 is.toNatClampNeg (1 : Int32)) 115 (m 94 56).toNatClampNeg is) := ua_115 hV28 (by omega) (by omega)
              first | have e31 : ((m 94 56) + (1 : Int32)).toInt = (m 94 56).toInt + (1) := i_addk rfl (by omega) (by omega) | have b32 := i_bd ((m 94 56) + (1 : Int32))
              have hV30 : zV (ma_u (ma_u (ma_u m 106 is.toNatClampNeg (1 : Int32)) 115 (m 94 56).toNatClampNeg is) 94 56 ((m 94 56) + (1 : Int32))) := us_94_56 hV29 (by omega) (by omega)
              exact K _ (zF_u (zF_u (zF_u zF_rfl rfl) rfl) rfl) hV30 (show zGG (m 94 58) ((m 94 56) + (1 : Int32)) (m 94 57) ((ma_u m 106 is.toNatClampNeg (1 : Int32)) 106) from by first | (exact fun z => G1_push (r_GG z) (by assumption) (by omega) (by decide) (by assumption)) | (exact fun z => absurd z (by decide)) | (exact fun z => absurd z (by omega)) | (exfalso; omega; done) | (exfalso; contradiction; done)) (show qRB (m 99) (m 100) (m 98) (m 101) (m 102) (m 103) (m 107) (m 108) (m 109) (m 111) (m 112) (m 113) (m 114) (m 94 55) (m 94 46) (m 94 11) (m 94 12) (m 94 62) (m 94 17) (m 94 9) (aNc aa (qNo (m 100) wa) (qNo (m 100) is)) from by first | (exact RB_of r_RB NC_of) | (exfalso; omega; done) | (exfalso; contradiction; done)) (show qI (aNc aa (qNo (m 100) wa) (qNo (m 100) is)) from by first | (exact qI_of r_QI NC_of) | (exfalso; omega; done) | (exfalso; contradiction; done)) (show (aNc aa (qNo (m 100) wa) (qNo (m 100) is)) 87 8 = (m 94 58) from by first | (exact (NC_of 87 8 (by decide) (by decide) (by decide)).symm.trans r_MK) | (exfalso; omega; done) | (exfalso; contradiction; done)) (show qGQ (m 94 58) ((ma_u m 106 is.toNatClampNeg (1 : Int32)) 106) ((ma_u m 115 (m 94 56).toNatClampNeg is) 115) (m 94 57) ((m 94 56) + (1 : Int32)) (m 99) (m 100) (aNc aa (qNo (m 100) wa) (qNo (m 100) is)) from by first | (exact fun z => NC_push r_RB (r_MQG z) (fun w => absurd (r_MK.symm.trans w) (by assumption)) r_UA r_UB (by omega) (by omega) (by assumption) (if_pos (by assumption)).symm (by omega) (by assumption)) | (exact fun z => NC_push r_RB (r_MQG z) (fun w => absurd (r_MK.symm.trans w) (by assumption)) r_UA r_UB (by omega) (by omega) (by assumption) (if_neg (by assumption)).symm (by omega) (by assumption)) | (exfalso; omega; done) | (exfalso; contradiction; done))
            · skip
              have g33 := i_ne h23
              exact K _ zF_rfl hV r_GG (show qRB (m 99) (m 100) (m 98) (m 101) (m 102) (m 103) (m 107) (m 108) (m 109) (m 111) (m 112) (m 113) (m 114) (m 94 55) (m 94 46) (m 94 11) (m 94 12) (m 94 62) (m 94 17) (m 94 9) (aNc aa (qNo (m 100) wa) (qNo (m 100) is)) from by first | (exact RB_of r_RB NC_of) | (exfalso; omega; done) | (exfalso; contradiction; done)) (show qI (aNc aa (qNo (m 100) wa) (qNo (m 100) is)) from by first | (exact qI_of r_QI NC_of) | (exfalso; omega; done) | (exfalso; contradiction; done)) (show (aNc aa (qNo (m 100) wa) (qNo (m 100) is)) 87 8 = (m 94 58) from by first | (exact (NC_of 87 8 (by decide) (by decide) (by decide)).symm.trans r_MK) | (exfalso; omega; done) | (exfalso; contradiction; done)) (show qGQ (m 94 58) (m 106) (m 115) (m 94 57) (m 94 56) (m 99) (m 100) (aNc aa (qNo (m 100) wa) (qNo (m 100) is)) from by first | (exact fun z => absurd (by omega) z) | (rw [show wa = is from by assumption, NC_s]; exact r_MQG; done) | (exact fun z => NC_skip r_RB (r_MQG z) (fun w => absurd (r_MK.symm.trans w) (by assumption)) r_UA r_UB (by omega) (by omega) (by assumption) (if_pos (by assumption)).symm (Or.inl (by omega))) | (exact fun z => NC_skip r_RB (r_MQG z) (fun w => absurd (r_MK.symm.trans w) (by assumption)) r_UA r_UB (by omega) (by omega) (by assumption) (if_pos (by assumption)).symm (Or.inr (by assumption))) | (exact fun z => NC_skip r_RB (r_MQG z) (fun w => absurd (r_MK.symm.trans w) (by assumption)) r_UA r_UB (by omega) (by omega) (by assumption) (if_neg (by assumption)).symm (Or.inl (by omega))) | (exact fun z => NC_skip r_RB (r_MQG z) (fun w => absurd (r_MK.symm.trans w) (by assumption)) r_UA r_UB (by omega) (by omega) (by assumption) (if_neg (by assumption)).symm (Or.inr (by assumption))) | (exfalso; omega; done) | (exfalso; contradiction; done))
        · skip
          have g34 := i_ne h16
          refine zd (fun (h35 : wa < (0 : Int32)) => ?_) (fun (h35 : ¬ wa < (0 : Int32)) => ?_)
          · skip
            have g36 := i_lt h35
            exact K _ zF_rfl hV r_GG (show qRB (m 99) (m 100) (m 98) (m 101) (m 102) (m 103) (m 107) (m 108) (m 109) (m 111) (m 112) (m 113) (m 114) (m 94 55) (m 94 46) (m 94 11) (m 94 12) (m 94 62) (m 94 17) (m 94 9) (aNc aa (qNo (m 100) wa) (qNo (m 100) is)) from by first | (exact RB_of r_RB NC_of) | (exfalso; omega; done) | (exfalso; contradiction; done)) (show qI (aNc aa (qNo (m 100) wa) (qNo (m 100) is)) from by first | (exact qI_of r_QI NC_of) | (exfalso; omega; done) | (exfalso; contradiction; done)) (show (aNc aa (qNo (m 100) wa) (qNo (m 100) is)) 87 8 = (m 94 58) from by first | (exact (NC_of 87 8 (by decide) (by decide) (by decide)).symm.trans r_MK) | (exfalso; omega; done) | (exfalso; contradiction; done)) (show qGQ (m 94 58) (m 106) (m 115) (m 94 57) (m 94 56) (m 99) (m 100) (aNc aa (qNo (m 100) wa) (qNo (m 100) is)) from by first | (exact fun z => absurd (by omega) z) | (rw [show wa = is from by assumption, NC_s]; exact r_MQG; done) | (exact fun z => NC_skip r_RB (r_MQG z) (fun w => absurd (r_MK.symm.trans w) (by assumption)) r_UA r_UB (by omega) (by omega) (by assumption) (if_pos (by assumption)).symm (Or.inl (by omega))) | (exact fun z => NC_skip r_RB (r_MQG z) (fun w => absurd (r_MK.symm.trans w) (by assumption)) r_UA r_UB (by omega) (by omega) (by assumption) (if_pos (by assumption)).symm (Or.inr (by assumption))) | (exact fun z => NC_skip r_RB (r_MQG z) (fun w => absurd (r_MK.symm.trans w) (by assumption)) r_UA r_UB (by omega) (by omega) (by assumption) (if_neg (by assumption)).symm (Or.inl (by omega))) | (exact fun z => NC_skip r_RB (r_MQG z) (fun w => absurd (r_MK.symm.trans w) (by assumption)) r_UA r_UB (by omega) (by omega) (by assumption) (if_neg (by assumption)).symm (Or.inr (by assumption))) | (exfalso; omega; done) | (exfalso; contradiction; done))
          · skip
            have g37 := i_nlt h35
            have hg38 : (0 ≤ wa ∧ wa.toNatClampNeg < 3100) := i_ix (by omega) (by omega)
            refine ⟨hg38, ?_⟩
            have b39 := i_bd (m 106 wa.toNatClampNeg)
            refine zd (fun (h40 : (m 106 wa.toNatClampNeg) = (0 : Int32)) => ?_) (fun (h40 : ¬ (m 106 wa.toNatClampNeg) = (0 : Int32)) => ?_)
            · skip
              have g41 := i_eq h40
              have hg42 : (0 ≤ wa ∧ wa.toNatClampNeg < 3100) := i_ix (by omega) (by omega)
              refine ⟨hg42, ?_⟩
              have f43 : 0 ≤ (m 94 56).toInt ∧ (m 94 56).toInt ≤ 3100 := rs_94_56 (m := m) hV
              try have gk := G1_room (r_GG (by omega)) (by assumption) (by omega)
              have hg44 : (0 ≤ (m 94 56) ∧ (m 94 56).toNatClampNeg < 3100) := i_ix (by omega) (by omega)
              refine ⟨hg44, ?_⟩
              have hV45 : zV (ma_u m 106 wa.toNatClampNeg (1 : Int32)) := ua_106 hV
              have hV46 : zV (ma_u (ma_u m 106 wa.toNatClampNeg (1 : Int32)) 115 (m 94 56).toNatClampNeg wa) := ua_115 hV45 (by omega) (by omega)
              first | have e48 : ((m 94 56) + (1 : Int32)).toInt = (m 94 56).toInt + (1) := i_addk rfl (by omega) (by omega) | have b49 := i_bd ((m 94 56) + (1 : Int32))
              have hV47 : zV (ma_u (ma_u (ma_u m 106 wa.toNatClampNeg (1 : Int32)) 115 (m 94 56).toNatClampNeg wa) 94 56 ((m 94 56) + (1 : Int32))) := us_94_56 hV46 (by omega) (by omega)
              exact K _ (zF_u (zF_u (zF_u zF_rfl rfl) rfl) rfl) hV47 (show zGG (m 94 58) ((m 94 56) + (1 : Int32)) (m 94 57) ((ma_u m 106 wa.toNatClampNeg (1 : Int32)) 106) from by first | (exact fun z => G1_push (r_GG z) (by assumption) (by omega) (by decide) (by assumption)) | (exact fun z => absurd z (by decide)) | (exact fun z => absurd z (by omega)) | (exfalso; omega; done) | (exfalso; contradiction; done)) (show qRB (m 99) (m 100) (m 98) (m 101) (m 102) (m 103) (m 107) (m 108) (m 109) (m 111) (m 112) (m 113) (m 114) (m 94 55) (m 94 46) (m 94 11) (m 94 12) (m 94 62) (m 94 17) (m 94 9) (aNc aa (qNo (m 100) wa) (qNo (m 100) is)) from by first | (exact RB_of r_RB NC_of) | (exfalso; omega; done) | (exfalso; contradiction; done)) (show qI (aNc aa (qNo (m 100) wa) (qNo (m 100) is)) from by first | (exact qI_of r_QI NC_of) | (exfalso; omega; done) | (exfalso; contradiction; done)) (show (aNc aa (qNo (m 100) wa) (qNo (m 100) is)) 87 8 = (m 94 58) from by first | (exact (NC_of 87 8 (by decide) (by decide) (by decide)).symm.trans r_MK) | (exfalso; omega; done) | (exfalso; contradiction; done)) (show qGQ (m 94 58) ((ma_u m 106 wa.toNatClampNeg (1 : Int32)) 106) ((ma_u m 115 (m 94 56).toNatClampNeg wa) 115) (m 94 57) ((m 94 56) + (1 : Int32)) (m 99) (m 100) (aNc aa (qNo (m 100) wa) (qNo (m 100) is)) from by first | (exact fun z => NC_push r_RB (r_MQG z) (fun w => absurd (r_MK.symm.trans w) (by assumption)) r_UA r_UB (by omega) (by omega) (by assumption) (if_pos (by assumption)).symm (by omega) (by assumption)) | (exact fun z => NC_push r_RB (r_MQG z) (fun w => absurd (r_MK.symm.trans w) (by assumption)) r_UA r_UB (by omega) (by omega) (by assumption) (if_neg (by assumption)).symm (by omega) (by assumption)) | (exfalso; omega; done) | (exfalso; contradiction; done))
            · skip
              have g50 := i_ne h40
              exact K _ zF_rfl hV r_GG (show qRB (m 99) (m 100) (m 98) (m 101) (m 102) (m 103) (m 107) (m 108) (m 109) (m 111) (m 112) (m 113) (m 114) (m 94 55) (m 94 46) (m 94 11) (m 94 12) (m 94 62) (m 94 17) (m 94 9) (aNc aa (qNo (m 100) wa) (qNo (m 100) is)) from by first | (exact RB_of r_RB NC_of) | (exfalso; omega; done) | (exfalso; contradiction; done)) (show qI (aNc aa (qNo (m 100) wa) (qNo (m 100) is)) from by first | (exact qI_of r_QI NC_of) | (exfalso; omega; done) | (exfalso; contradiction; done)) (show (aNc aa (qNo (m 100) wa) (qNo (m 100) is)) 87 8 = (m 94 58) from by first | (exact (NC_of 87 8 (by decide) (by decide) (by decide)).symm.trans r_MK) | (exfalso; omega; done) | (exfalso; contradiction; done)) (show qGQ (m 94 58) (m 106) (m 115) (m 94 57) (m 94 56) (m 99) (m 100) (aNc aa (qNo (m 100) wa) (qNo (m 100) is)) from by first | (exact fun z => absurd (by omega) z) | (rw [show wa = is from by assumption, NC_s]; exact r_MQG; done) | (exact fun z => NC_skip r_RB (r_MQG z) (fun w => absurd (r_MK.symm.trans w) (by assumption)) r_UA r_UB (by omega) (by omega) (by assumption) (if_pos (by assumption)).symm (Or.inl (by omega))) | (exact fun z => NC_skip r_RB (r_MQG z) (fun w => absurd (r_MK.symm.trans w) (by assumption)) r_UA r_UB (by omega) (by omega) (by assumption) (if_pos (by assumption)).symm (Or.inr (by assumption))) | (exact fun z => NC_skip r_RB (r_MQG z) (fun w => absurd (r_MK.symm.trans w) (by assumption)) r_UA r_UB (by omega) (by omega) (by assumption) (if_neg (by assumption)).symm (Or.inl (by omega))) | (exact fun z => NC_skip r_RB (r_MQG z) (fun w => absurd (r_MK.symm.trans w) (by assumption)) r_UA r_UB (by omega) (by omega) (by assumption) (if_neg (by assumption)).symm (Or.inr (by assumption))) | (exfalso; omega; done) | (exfalso; contradiction; done))
  · skip
    have g51 := i_ne h3
    exfalso; omega
theorem sp_241r {X : Nat × (Nat → Int32)} {P : Option ma_V → (Nat → Nat → Int32) → Prop} {m : Nat → Nat → Int32} (s : Int32) (hV : zV m) (hpre0 : (m 94 10).toInt = 5) (KZ : ∀ m₉, zV (zov wr_241 m m₉) → ((m₉ 99) = (m 99) ∧ (m₉ 105) = (m 105) ∧ (m₉ 109) = (m 109) ∧ (m₉ 111) = (m 111) ∧ (m₉ 113) = (m 113) ∧ (m₉ 114) = (m 114) ∧ (m₉ 94 55) = (m 94 55) ∧ (m₉ 94 45) = (m 94 45)) → P none (zov wr_241 m m₉)) : zm X 3 64 241 0 [(0, .inr (.inr (some 94))), (1, .inl s)] m P := by
  have K : ∀ m₉, zF wr_241 m m₉ → zV m₉ → ((m₉ 99) = (m 99) ∧ (m₉ 105) = (m 105) ∧ (m₉ 109) = (m 109) ∧ (m₉ 111) = (m 111) ∧ (m₉ 113) = (m 113) ∧ (m₉ 114) = (m 114) ∧ (m₉ 94 55) = (m 94 55) ∧ (m₉ 94 45) = (m 94 45)) → P none m₉ := by
    intro m₉ hf z q0
    have e := zov_eq hf
    rw [e] at z ⊢
    try rw [e] at q0
    exact KZ m₉ z q0
  refine g_241_0 s ?_
  have f1 : 0 ≤ (m 94 10).toInt ∧ (m 94 10).toInt ≤ 6 := rs_94_10 (m := m) hV
  have b2 := i_bd s
  have li3 : (0 : Int32).toInt = 0 := rfl
  refine zd (fun (h4 : s < (0 : Int32)) => ?_) (fun (h4 : ¬ s < (0 : Int32)) => ?_)
  · skip
    have g5 := i_lt h4
    exact K _ zF_rfl hV (show (m 99) = (m 99) ∧ (m 105) = (m 105) ∧ (m 109) = (m 109) ∧ (m 111) = (m 111) ∧ (m 113) = (m 113) ∧ (m 114) = (m 114) ∧ (m 94 55) = (m 94 55) ∧ (m 94 45) = (m 94 45) from by first | (exact ⟨rfl, rfl, rfl, rfl, rfl, rfl, rfl, rfl⟩) | (exfalso; omega; done) | (exfalso; contradiction; done))
  · skip
    have g6 := i_nlt h4
    have li7 : (4 : Int32).toInt = 4 := rfl
    refine zd (fun (h8 : (m 94 10) = (4 : Int32)) => ?_) (fun (h8 : ¬ (m 94 10) = (4 : Int32)) => ?_)
    · skip
      have g9 := i_eq h8
      exfalso; omega
    · skip
      have g10 := i_ne h8
      exact K _ zF_rfl hV (show (m 99) = (m 99) ∧ (m 105) = (m 105) ∧ (m 109) = (m 109) ∧ (m 111) = (m 111) ∧ (m 113) = (m 113) ∧ (m 114) = (m 114) ∧ (m 94 55) = (m 94 55) ∧ (m 94 45) = (m 94 45) from by first | (exact ⟨rfl, rfl, rfl, rfl, rfl, rfl, rfl, rfl⟩) | (exfalso; omega; done) | (exfalso; contradiction; done))

/-! from 95.h22 -/
/-! the reference by numbers (written by wip/tools/gen18r.py) -/
theorem sp_238r {X : Nat × (Nat → Int32)} {P : Option ma_V → (Nat → Nat → Int32) → Prop} {T : Nat} {aa : Nat→Nat→Int32} {m : Nat → Nat → Int32} (r1 : Int32) (s : Int32) (hV : zV m) (hpre0 : 0 ≤ r1.toInt) (hpre1 : r1.toInt ≤ 15) (hpre2 : -1 ≤ s.toInt) (hpre3 : s.toInt ≤ 3099) (hpre4 : (m 94 10).toInt = 5) (r_W : zW (m 94 7) (m 98) (m 101) (m 102) (m 108)) (r_GW : zGW T (m 94 55) (m 109)) (r_GU : zGU T (m 94 46) (m 99)) (r_OW : zOw (m 99) (m 103) (m 111)) (r_GG : zGG (m 94 58) (m 94 56) (m 94 57) (m 106)) (r_RB : qRB (m 99) (m 100) (m 98) (m 101) (m 102) (m 103) (m 107) (m 108) (m 109) (m 111) (m 112) (m 113) (m 114) (m 94 55) (m 94 46) (m 94 11) (m 94 12) (m 94 62) (m 94 17) (m 94 9) aa) (r_QI : qI aa) (r_MG : qMG (m 94 58) (m 106) (m 115) (m 94 57) (m 94 56) (m 99) (m 100) aa) (r_MK : aa 87 8 = (m 94 58)) (r_WTS : (m 94 45).toInt = sm (zbU (m 99)) (m 102) 3100) (r_US : qU (m 99) s) (r_MS : qMS (m 94 58) aa (qNo (m 100) s)) (KZ : ∀ m₉, zV (zov wr_238 m m₉) → (zGW T (m₉ 94 55) (m₉ 109)) → (zGU T (m 94 46) (m₉ 99)) → (zOw (m₉ 99) (m 103) (m₉ 111)) → (zGG (m 94 58) (m₉ 94 56) (m 94 57) (m₉ 106)) → (qRB (m₉ 99) (m 100) (m 98) (m 101) (m 102) (m 103) (m 107) (m 108) (m₉ 109) (m₉ 111) (m₉ 112) (m₉ 113) (m₉ 114) (m₉ 94 55) (m 94 46) (m 94 11) (m 94 12) (m 94 62) (m 94 17) (m 94 9) (aRt aa r1 (qNo (m 100) s))) → (qI (aRt aa r1 (qNo (m 100) s))) → (qMG (m 94 58) (m₉ 106) (m₉ 115) (m 94 57) (m₉ 94 56) (m₉ 99) (m 100) (aRt aa r1 (qNo (m 100) s))) → ((aRt aa r1 (qNo (m 100) s)) 87 8 = (m 94 58)) → ((m₉ 94 45).toInt = sm (zbU (m₉ 99)) (m 102) 3100) → P none (zov wr_238 m m₉)) : zm X 4 88 238 0 [(0, .inr (.inr (some 94))), (1, .inl r1), (2, .inl s)] m P := by
  have K : ∀ m₉, zF wr_238 m m₉ → zV m₉ → (zGW T (m₉ 94 55) (m₉ 109)) → (zGU T (m₉ 94 46) (m₉ 99)) → (zOw (m₉ 99) (m₉ 103) (m₉ 111)) → (zGG (m₉ 94 58) (m₉ 94 56) (m₉ 94 57) (m₉ 106)) → (qRB (m₉ 99) (m₉ 100) (m₉ 98) (m₉ 101) (m₉ 102) (m₉ 103) (m₉ 107) (m₉ 108) (m₉ 109) (m₉ 111) (m₉ 112) (m₉ 113) (m₉ 114) (m₉ 94 55) (m₉ 94 46) (m₉ 94 11) (m₉ 94 12) (m₉ 94 62) (m₉ 94 17) (m₉ 94 9) (aRt aa r1 (qNo (m₉ 100) s))) → (qI (aRt aa r1 (qNo (m₉ 100) s))) → (qMG (m₉ 94 58) (m₉ 106) (m₉ 115) (m₉ 94 57) (m₉ 94 56) (m₉ 99) (m₉ 100) (aRt aa r1 (qNo (m₉ 100) s))) → ((aRt aa r1 (qNo (m₉ 100) s)) 87 8 = (m₉ 94 58)) → ((m₉ 94 45).toInt = sm (zbU (m₉ 99)) (m₉ 102) 3100) → P none m₉ := by
    intro m₉ hf z q0 q1 q2 q3 q4 q5 q6 q7 q8
    have e := zov_eq hf
    rw [e] at z ⊢
    try rw [e] at q0
    try rw [e] at q1
    try rw [e] at q2
    try rw [e] at q3
    try rw [e] at q4
    try rw [e] at q5
    try rw [e] at q6
    try rw [e] at q7
    try rw [e] at q8
    exact KZ m₉ z q0 q1 q2 q3 q4 q5 q6 q7 q8
  refine g_238_0 r1 s ?_
  have f1 : 0 ≤ (m 94 10).toInt ∧ (m 94 10).toInt ≤ 6 := rs_94_10 (m := m) hV
  have b2 := i_bd r1
  have hg3 : (0 ≤ r1 ∧ r1.toNatClampNeg < 16) := i_ix (by omega) (by omega)
  refine ⟨hg3, ?_⟩
  have b4 := i_bd s
  have li5 : (0 : Int32).toInt = 0 := rfl
  refine zd (fun (h6 : s < (0 : Int32)) => ?_) (fun (h6 : ¬ s < (0 : Int32)) => ?_)
  · skip
    have g7 := i_lt h6
    have hg8 : (0 ≤ r1 ∧ r1.toNatClampNeg < 16) := i_ix (by omega) (by omega)
    refine ⟨hg8, ?_⟩
    first | have f9 : -1 ≤ (m 112 r1.toNatClampNeg).toInt ∧ (m 112 r1.toNatClampNeg).toInt ≤ 3099 := ra_112 (m := m) hV (k := r1.toNatClampNeg) (i_ix (n := 16) (by omega) (by omega)).2 | have b10 := i_bd (m 112 r1.toNatClampNeg)
    have hV11 : zV (ma_u m 112 r1.toNatClampNeg s) := ua_112 hV (by omega) (by omega)
    refine sp_240r (aa := (ma_u aa 72 r1.toNatClampNeg (qNo (m 100) s))) ((m 112 r1.toNatClampNeg)) (s) hV11 (show (m 94 10).toInt = 5 from by omega) (by omega) (by omega) (by omega) (by omega) r_GG (show qRB (m 99) (m 100) (m 98) (m 101) (m 102) (m 103) (m 107) (m 108) (m 109) (m 111) ((ma_u m 112 r1.toNatClampNeg s) 112) (m 113) (m 114) (m 94 55) (m 94 46) (m 94 11) (m 94 12) (m 94 62) (m 94 17) (m 94 9) (ma_u aa 72 r1.toNatClampNeg (qNo (m 100) s)) from by first | (exact RB_rt r_RB r_US) | (exfalso; omega; done) | (exfalso; contradiction; done)) (show qI (ma_u aa 72 r1.toNatClampNeg (qNo (m 100) s)) from by first | (exact I_u r_QI (Or.inl rfl)) | (exfalso; omega; done) | (exfalso; contradiction; done)) (show (ma_u aa 72 r1.toNatClampNeg (qNo (m 100) s)) 87 8 = (m 94 58) from by first | (exact (xu_o (by decide)).trans r_MK) | (rw [un (by decide)]; exact r_MK; done) | (exfalso; omega; done) | (exfalso; contradiction; done)) (show qU (m 99) (m 112 r1.toNatClampNeg) from by first | (exact (r_RB.2.2.1 r1.toNatClampNeg (by omega)).1) | (exfalso; omega; done) | (exfalso; contradiction; done)) (show qU (m 99) s from by first | (exact r_US) | (exfalso; omega; done) | (exfalso; contradiction; done)) (show qGQ (m 94 58) (m 106) (m 115) (m 94 57) (m 94 56) (m 99) (m 100) (ma_u aa 72 r1.toNatClampNeg (qNo (m 100) s)) from by first | (exact fun z => MQ_u (r_MG z).1 (by decide)) | (exfalso; omega; done) | (exfalso; contradiction; done)) (fun m1 hV_m1 p0_m1 p1_m1 p2_m1 p3_m1 p4_m1 => zmv_n ?_)
    have p0_m1 : zGG (m 94 58) (m1 94 56) (m 94 57) (m1 106) := p0_m1
    have p1_m1 : qRB (m 99) (m 100) (m 98) (m 101) (m 102) (m 103) (m 107) (m 108) (m 109) (m 111) ((ma_u m 112 r1.toNatClampNeg s) 112) (m 113) (m 114) (m 94 55) (m 94 46) (m 94 11) (m 94 12) (m 94 62) (m 94 17) (m 94 9) (aNc (ma_u aa 72 r1.toNatClampNeg (qNo (m 100) s)) (qNo (m 100) (m 112 r1.toNatClampNeg)) (qNo (m 100) s)) := p1_m1
    have p2_m1 : qI (aNc (ma_u aa 72 r1.toNatClampNeg (qNo (m 100) s)) (qNo (m 100) (m 112 r1.toNatClampNeg)) (qNo (m 100) s)) := p2_m1
    have p3_m1 : (aNc (ma_u aa 72 r1.toNatClampNeg (qNo (m 100) s)) (qNo (m 100) (m 112 r1.toNatClampNeg)) (qNo (m 100) s)) 87 8 = (m 94 58) := p3_m1
    have p4_m1 : qGQ (m 94 58) (m1 106) (m1 115) (m 94 57) (m1 94 56) (m 99) (m 100) (aNc (ma_u aa 72 r1.toNatClampNeg (qNo (m 100) s)) (qNo (m 100) (m 112 r1.toNatClampNeg)) (qNo (m 100) s)) := p4_m1
    refine sp_241r ((m 112 r1.toNatClampNeg)) hV_m1 (show (m 94 10).toInt = 5 from by omega) (fun m3 hV_m3 p0_m3 => zmv_n ?_)
    have p0_m3 : (m3 99) = (m 99) ∧ (m3 105) = (m 105) ∧ (m3 109) = (m 109) ∧ (m3 111) = (m 111) ∧ (m3 113) = (m 113) ∧ (m3 114) = (m 114) ∧ (m3 94 55) = (m 94 55) ∧ (m3 94 45) = (m 94 45) := p0_m3
    try have rgb := rs_94_64 hV
    try have lel := LE_lo p0_m3
    try have lex3 := LE_ex p0_m3 (lexi (by omega))
    try have lexi := LE_some p0_m3
    exact K _ (zF_zov (zF_zov (zF_u zF_rfl rfl) ws_240_238) ws_241_238) hV_m3 (show zGW T (m3 94 55) (m3 109) from by first | (rw [p0_m3.2.2.1, p0_m3.2.2.2.2.2.2.1]; exact r_GW; done) | (exfalso; omega; done) | (exfalso; contradiction; done)) (show zGU T (m 94 46) (m3 99) from by first | (rw [p0_m3.1]; exact r_GU; done) | (exact GU_0 r_GU) | (exfalso; omega; done) | (exfalso; contradiction; done)) (show zOw (m3 99) (m 103) (m3 111) from by first | (rw [p0_m3.1, p0_m3.2.2.2.1]; exact r_OW; done) | (exact Ow_rm r_OW (by decide) (tn_cast (by omega)).symm) | (exfalso; omega; done) | (exfalso; contradiction; done)) p0_m1 (show qRB (m3 99) (m 100) (m 98) (m 101) (m 102) (m 103) (m 107) (m 108) (m3 109) (m3 111) ((ma_u m 112 r1.toNatClampNeg s) 112) (m3 113) (m3 114) (m3 94 55) (m 94 46) (m 94 11) (m 94 12) (m 94 62) (m 94 17) (m 94 9) (aRt aa r1 (qNo (m 100) s)) from by first | (rw [(show aRt aa r1 (qNo (m 100) s) = aNc (ma_u aa 72 r1.toNatClampNeg (qNo (m 100) s)) (qNo (m 100) (m 112 r1.toNatClampNeg)) (qNo (m 100) s) from by unfold aRt; rw [Nm_no r_RB.1 r_US, (r_RB.2.2.1 r1.toNatClampNeg (by omega)).2]), p0_m3.1, p0_m3.2.2.1, p0_m3.2.2.2.1, p0_m3.2.2.2.2.1, p0_m3.2.2.2.2.2.1, p0_m3.2.2.2.2.2.2.1]; exact p1_m1; done) | (exfalso; omega; done) | (exfalso; contradiction; done)) (show qI (aRt aa r1 (qNo (m 100) s)) from by first | (rw [(show aRt aa r1 (qNo (m 100) s) = aNc (ma_u aa 72 r1.toNatClampNeg (qNo (m 100) s)) (qNo (m 100) (m 112 r1.toNatClampNeg)) (qNo (m 100) s) from by unfold aRt; rw [Nm_no r_RB.1 r_US, (r_RB.2.2.1 r1.toNatClampNeg (by omega)).2])]; exact p2_m1; done) | (exfalso; omega; done) | (exfalso; contradiction; done)) (show qMG (m 94 58) (m1 106) (m1 115) (m 94 57) (m1 94 56) (m3 99) (m 100) (aRt aa r1 (qNo (m 100) s)) from by first | (rw [(show aRt aa r1 (qNo (m 100) s) = aNc (ma_u aa 72 r1.toNatClampNeg (qNo (m 100) s)) (qNo (m 100) (m 112 r1.toNatClampNeg)) (qNo (m 100) s) from by unfold aRt; rw [Nm_no r_RB.1 r_US, (r_RB.2.2.1 r1.toNatClampNeg (by omega)).2]), p0_m3.1]; exact fun z => ⟨p4_m1 z, MI_rt (r_MG z).2 (r_MG z).1.2.2.2.2 (r_MS z)⟩; done) | (exfalso; omega; done) | (exfalso; contradiction; done)) (show (aRt aa r1 (qNo (m 100) s)) 87 8 = (m 94 58) from by first | (rw [(show aRt aa r1 (qNo (m 100) s) = aNc (ma_u aa 72 r1.toNatClampNeg (qNo (m 100) s)) (qNo (m 100) (m 112 r1.toNatClampNeg)) (qNo (m 100) s) from by unfold aRt; rw [Nm_no r_RB.1 r_US, (r_RB.2.2.1 r1.toNatClampNeg (by omega)).2])]; exact p3_m1; done) | (exfalso; omega; done) | (exfalso; contradiction; done)) (show (m3 94 45).toInt = sm (zbU (m3 99)) (m 102) 3100 from by first | (rw [p0_m3.1, p0_m3.2.2.2.2.2.2.2]; exact r_WTS; done) | (exfalso; omega; done) | (exfalso; contradiction; done))
  · skip
    have g12 := i_nlt h6
    have li13 : (4 : Int32).toInt = 4 := rfl
    refine zd (fun (h14 : (m 94 10) = (4 : Int32)) => ?_) (fun (h14 : ¬ (m 94 10) = (4 : Int32)) => ?_)
    · skip
      have g15 := i_eq h14
      exfalso; omega
    · skip
      have g16 := i_ne h14
      have hg17 : (0 ≤ r1 ∧ r1.toNatClampNeg < 16) := i_ix (by omega) (by omega)
      refine ⟨hg17, ?_⟩
      first | have f18 : -1 ≤ (m 112 r1.toNatClampNeg).toInt ∧ (m 112 r1.toNatClampNeg).toInt ≤ 3099 := ra_112 (m := m) hV (k := r1.toNatClampNeg) (i_ix (n := 16) (by omega) (by omega)).2 | have b19 := i_bd (m 112 r1.toNatClampNeg)
      have hV20 : zV (ma_u m 112 r1.toNatClampNeg s) := ua_112 hV (by omega) (by omega)
      refine sp_240r (aa := (ma_u aa 72 r1.toNatClampNeg (qNo (m 100) s))) ((m 112 r1.toNatClampNeg)) (s) hV20 (show (m 94 10).toInt = 5 from by omega) (by omega) (by omega) (by omega) (by omega) r_GG (show qRB (m 99) (m 100) (m 98) (m 101) (m 102) (m 103) (m 107) (m 108) (m 109) (m 111) ((ma_u m 112 r1.toNatClampNeg s) 112) (m 113) (m 114) (m 94 55) (m 94 46) (m 94 11) (m 94 12) (m 94 62) (m 94 17) (m 94 9) (ma_u aa 72 r1.toNatClampNeg (qNo (m 100) s)) from by first | (exact RB_rt r_RB r_US) | (exfalso; omega; done) | (exfalso; contradiction; done)) (show qI (ma_u aa 72 r1.toNatClampNeg (qNo (m 100) s)) from by first | (exact I_u r_QI (Or.inl rfl)) | (exfalso; omega; done) | (exfalso; contradiction; done)) (show (ma_u aa 72 r1.toNatClampNeg (qNo (m 100) s)) 87 8 = (m 94 58) from by first | (exact (xu_o (by decide)).trans r_MK) | (rw [un (by decide)]; exact r_MK; done) | (exfalso; omega; done) | (exfalso; contradiction; done)) (show qU (m 99) (m 112 r1.toNatClampNeg) from by first | (exact (r_RB.2.2.1 r1.toNatClampNeg (by omega)).1) | (exfalso; omega; done) | (exfalso; contradiction; done)) (show qU (m 99) s from by first | (exact r_US) | (exfalso; omega; done) | (exfalso; contradiction; done)) (show qGQ (m 94 58) (m 106) (m 115) (m 94 57) (m 94 56) (m 99) (m 100) (ma_u aa 72 r1.toNatClampNeg (qNo (m 100) s)) from by first | (exact fun z => MQ_u (r_MG z).1 (by decide)) | (exfalso; omega; done) | (exfalso; contradiction; done)) (fun m5 hV_m5 p0_m5 p1_m5 p2_m5 p3_m5 p4_m5 => zmv_n ?_)
      have p0_m5 : zGG (m 94 58) (m5 94 56) (m 94 57) (m5 106) := p0_m5
      have p1_m5 : qRB (m 99) (m 100) (m 98) (m 101) (m 102) (m 103) (m 107) (m 108) (m 109) (m 111) ((ma_u m 112 r1.toNatClampNeg s) 112) (m 113) (m 114) (m 94 55) (m 94 46) (m 94 11) (m 94 12) (m 94 62) (m 94 17) (m 94 9) (aNc (ma_u aa 72 r1.toNatClampNeg (qNo (m 100) s)) (qNo (m 100) (m 112 r1.toNatClampNeg)) (qNo (m 100) s)) := p1_m5
      have p2_m5 : qI (aNc (ma_u aa 72 r1.toNatClampNeg (qNo (m 100) s)) (qNo (m 100) (m 112 r1.toNatClampNeg)) (qNo (m 100) s)) := p2_m5
      have p3_m5 : (aNc (ma_u aa 72 r1.toNatClampNeg (qNo (m 100) s)) (qNo (m 100) (m 112 r1.toNatClampNeg)) (qNo (m 100) s)) 87 8 = (m 94 58) := p3_m5
      have p4_m5 : qGQ (m 94 58) (m5 106) (m5 115) (m 94 57) (m5 94 56) (m 99) (m 100) (aNc (ma_u aa 72 r1.toNatClampNeg (qNo (m 100) s)) (qNo (m 100) (m 112 r1.toNatClampNeg)) (qNo (m 100) s)) := p4_m5
      refine sp_241r ((m 112 r1.toNatClampNeg)) hV_m5 (show (m 94 10).toInt = 5 from by omega) (fun m7 hV_m7 p0_m7 => zmv_n ?_)
      have p0_m7 : (m7 99) = (m 99) ∧ (m7 105) = (m 105) ∧ (m7 109) = (m 109) ∧ (m7 111) = (m 111) ∧ (m7 113) = (m 113) ∧ (m7 114) = (m 114) ∧ (m7 94 55) = (m 94 55) ∧ (m7 94 45) = (m 94 45) := p0_m7
      try have rgb := rs_94_64 hV
      try have lel := LE_lo p0_m7
      try have lex3 := LE_ex p0_m7 (lexi (by omega))
      try have lexi := LE_some p0_m7
      exact K _ (zF_zov (zF_zov (zF_u zF_rfl rfl) ws_240_238) ws_241_238) hV_m7 (show zGW T (m7 94 55) (m7 109) from by first | (rw [p0_m7.2.2.1, p0_m7.2.2.2.2.2.2.1]; exact r_GW; done) | (exfalso; omega; done) | (exfalso; contradiction; done)) (show zGU T (m 94 46) (m7 99) from by first | (rw [p0_m7.1]; exact r_GU; done) | (exact GU_0 r_GU) | (exfalso; omega; done) | (exfalso; contradiction; done)) (show zOw (m7 99) (m 103) (m7 111) from by first | (rw [p0_m7.1, p0_m7.2.2.2.1]; exact r_OW; done) | (exact Ow_rm r_OW (by decide) (tn_cast (by omega)).symm) | (exfalso; omega; done) | (exfalso; contradiction; done)) p0_m5 (show qRB (m7 99) (m 100) (m 98) (m 101) (m 102) (m 103) (m 107) (m 108) (m7 109) (m7 111) ((ma_u m 112 r1.toNatClampNeg s) 112) (m7 113) (m7 114) (m7 94 55) (m 94 46) (m 94 11) (m 94 12) (m 94 62) (m 94 17) (m 94 9) (aRt aa r1 (qNo (m 100) s)) from by first | (rw [(show aRt aa r1 (qNo (m 100) s) = aNc (ma_u aa 72 r1.toNatClampNeg (qNo (m 100) s)) (qNo (m 100) (m 112 r1.toNatClampNeg)) (qNo (m 100) s) from by unfold aRt; rw [Nm_no r_RB.1 r_US, (r_RB.2.2.1 r1.toNatClampNeg (by omega)).2]), p0_m7.1, p0_m7.2.2.1, p0_m7.2.2.2.1, p0_m7.2.2.2.2.1, p0_m7.2.2.2.2.2.1, p0_m7.2.2.2.2.2.2.1]; exact p1_m5; done) | (exfalso; omega; done) | (exfalso; contradiction; done)) (show qI (aRt aa r1 (qNo (m 100) s)) from by first | (rw [(show aRt aa r1 (qNo (m 100) s) = aNc (ma_u aa 72 r1.toNatClampNeg (qNo (m 100) s)) (qNo (m 100) (m 112 r1.toNatClampNeg)) (qNo (m 100) s) from by unfold aRt; rw [Nm_no r_RB.1 r_US, (r_RB.2.2.1 r1.toNatClampNeg (by omega)).2])]; exact p2_m5; done) | (exfalso; omega; done) | (exfalso; contradiction; done)) (show qMG (m 94 58) (m5 106) (m5 115) (m 94 57) (m5 94 56) (m7 99) (m 100) (aRt aa r1 (qNo (m 100) s)) from by first | (rw [(show aRt aa r1 (qNo (m 100) s) = aNc (ma_u aa 72 r1.toNatClampNeg (qNo (m 100) s)) (qNo (m 100) (m 112 r1.toNatClampNeg)) (qNo (m 100) s) from by unfold aRt; rw [Nm_no r_RB.1 r_US, (r_RB.2.2.1 r1.toNatClampNeg (by omega)).2]), p0_m7.1]; exact fun z => ⟨p4_m5 z, MI_rt (r_MG z).2 (r_MG z).1.2.2.2.2 (r_MS z)⟩; done) | (exfalso; omega; done) | (exfalso; contradiction; done)) (show (aRt aa r1 (qNo (m 100) s)) 87 8 = (m 94 58) from by first | (rw [(show aRt aa r1 (qNo (m 100) s) = aNc (ma_u aa 72 r1.toNatClampNeg (qNo (m 100) s)) (qNo (m 100) (m 112 r1.toNatClampNeg)) (qNo (m 100) s) from by unfold aRt; rw [Nm_no r_RB.1 r_US, (r_RB.2.2.1 r1.toNatClampNeg (by omega)).2])]; exact p3_m5; done) | (exfalso; omega; done) | (exfalso; contradiction; done)) (show (m7 94 45).toInt = sm (zbU (m7 99)) (m 102) 3100 from by first | (rw [p0_m7.1, p0_m7.2.2.2.2.2.2.2]; exact r_WTS; done) | (exfalso; omega; done) | (exfalso; contradiction; done))

/-! from 95.h23 -/
/-! the reference by numbers (written by wip/tools/gen18r.py) -/
/-! WORDS ARE WRITTEN -/
section QW
variable {aa a b : Nat → Nat → Int32} {us nr kr kd ws at₉ ho wd wd₉ wi ow rt wk wl kp co gr : Nat → Int32} {wm nu ro fo le ra pi y x z i j ga gm r s v : Int32} {n k u t : Nat} {m m2 : Nat → Nat → Int32}
/-- an inner word of one that is there -/
def qWp (a : Nat → Nat → Int32) (n : Nat) (i : Int32) : Prop := xAl a n ∧ 0 ≤ i.toInt ∧ i.toInt < (a 128 n).toInt - 1
theorem wp_i (hI : qI a) (h : qWp a n i) : (a 130 n + 1 + i).toInt = (a 130 n).toInt + 1 + i.toInt ∧ 0 ≤ (a 130 n + 1 + i).toInt ∧ (a 130 n + 1 + i).toInt < 4500 := by
  have q := hI.1 n h.1
  have b4 := hI.2.2.2.1.2.2.1
  have h1 := h.2.1
  have h2 := h.2.2
  have e1 := i_p1 (i := a 130 n) (by omega)
  have e : (a 130 n + 1 + i).toInt = (a 130 n + 1).toInt + i.toInt := i_add (by omega) (by omega)
  omega
theorem Ci_eq (hI : qI a) (h : qWp a n i) : aCi a n i x = ma_u a 71 (a 130 n + 1 + i).toNatClampNeg x := by
  have q := wp_i hI h
  exact if_pos ⟨q.2.1, by omega⟩
theorem wp_ne (hI : qI a) (h : qWp a n i) (h2 : qWp a u j) (hne : ¬ (u = n ∧ j = i)) : (a 130 u + 1 + j).toNatClampNeg ≠ (a 130 n + 1 + i).toNatClampNeg := by
  have q := wp_i hI h
  have q2 := wp_i hI h2
  have c1 := tn_cast q.2.1
  have c2 := tn_cast q2.2.1
  intro e
  by_cases z : u = n
  · rw [z] at q2 c2 e
    exact hne ⟨z, Int32.toInt_inj.mp (by omega)⟩
  · have d := hI.2.1 u n h2.1 h.1 z
    have a1 := h.2
    have a2 := h2.2
    omega
theorem wp_rf (hI : qI a) (h : qWp a u j) : aRef a u j = if a (1000 + u) j.toNatClampNeg ≠ 0 then a 71 (a 130 u + 1 + j).toNatClampNeg else -1 := by
  have q := wp_i hI h
  unfold aRef
  by_cases z : a (1000 + u) j.toNatClampNeg ≠ 0
  · rw [if_pos z, if_pos ⟨z, q.2.1, by omega⟩]
  · rw [if_neg z, if_neg (fun w => z w.1)]
theorem Al_71 : xAl (ma_u a 71 k x) = xAl a := by
  funext n
  unfold xAl
  rw [un (by decide)]
theorem Wp_71 : qWp (ma_u a 71 k x) u j ↔ qWp a u j := by
  unfold qWp
  rw [Al_71, un (n := 128) (by decide)]
/-- one that is not there refers to nothing -/
theorem rf_dead (h : qI6 a) (hn : ¬ xAl a u) : aRef a u j = -1 := aRef_no (fun w => w.1 (h u hn _))
theorem I_w (hI : qI a) (h : qWp a n i) : qI (ma_u a 71 (a 130 n + 1 + i).toNatClampNeg x) := by
  have q := wp_i hI h
  have c := tn_cast q.2.1
  obtain ⟨h1, h2, h3, h4, h5, h6⟩ := hI
  have al := Al_71 (a := a) (k := (a 130 n + 1 + i).toNatClampNeg) (x := x)
  have iN := h1 n h.1
  have hi := h.2
  have su := Su_cg (a := ma_u a 71 (a 130 n + 1 + i).toNatClampNeg x) (b := a) (un (by decide)) (un (by decide)) 512
  refine ⟨fun u hu => ?_, fun u u₉ hu hu₉ hne => ?_, fun p hp hc => ?_, ?_, ?_, fun u hu k => ?_⟩
  · rw [al] at hu
    have w := h1 u hu
    have cu := tn_cast w.1.2
    rw [un (n := 69) (by decide), un (n := 130) (by decide), un (n := 128) (by decide), un (n := 87) (by decide), xu_o (fun z => ?_)]
    · exact w
    · by_cases z2 : u = n
      · rw [z2] at z cu
        omega
      · have d := h2 u n hu h.1 z2
        have e := z.2
        have iu := w.2.1
        omega
  · rw [al] at hu hu₉
    rw [un (n := 130) (by decide), un (n := 128) (by decide)]
    exact h2 u u₉ hu hu₉ hne
  · rw [al, un (n := 130) (by decide), un (n := 128) (by decide)] at hc
    rw [xu_o (fun z => hc n h.1 (by omega))]
    exact h3 p hp hc
  · unfold qI4 qGd at h4 ⊢
    rw [al, un (n := 69) (by decide), un (n := 130) (by decide), un (n := 128) (by decide), un (n := 87) (by decide)]
    exact h4
  · rw [su, un (by decide)]
    exact h5
  · rw [al] at hu
    rw [un (by omega)]
    exact h6 u hu k
theorem rf_w (hI : qI a) (h : qWp a n i) (h2 : qWp a u j) : aRef (ma_u a 71 (a 130 n + 1 + i).toNatClampNeg x) u j = if u = n ∧ j = i then (if a (1000 + n) i.toNatClampNeg ≠ 0 then x else -1) else aRef a u j := by
  have I2 := I_w (x := x) hI h
  rw [wp_rf I2 (Wp_71.mpr h2), un (n := 1000 + u) (by omega), un (n := 130) (by decide)]
  by_cases z : u = n ∧ j = i
  · rw [if_pos z, z.1, z.2, xu_s]
  · rw [if_neg z, xu_o (fun w => wp_ne hI h h2 z w.2), wp_rf hI h2]
theorem Ed_wp (h6 : qI6 a) : zEd a u t ↔ xAl a t ∧ ∃ j : Int32, qWp a u j ∧ aRef a u j = Int32.ofNat t := by
  unfold zEd
  constructor
  · rintro ⟨w1, j, w2, w3, w4⟩
    refine ⟨w1, j, ⟨?_, w2, w3⟩, w4⟩
    refine Classical.byContradiction (fun w5 => ?_)
    rw [rf_dead h6 w5] at w4
    have e := ofN_i w1.1
    rw [← w4] at e
    have m1 : (-1 : Int32).toInt = -1 := rfl
    omega
  · rintro ⟨w1, j, ⟨_, w2, w3⟩, w4⟩
    exact ⟨w1, j, w2, w3, w4⟩
theorem Ed_w (hI : qI a) (h : qWp a n i) : zEd (ma_u a 71 (a 130 n + 1 + i).toNatClampNeg x) u t ↔ xAl a t ∧ ∃ j : Int32, qWp a u j ∧ (if u = n ∧ j = i then (if a (1000 + n) i.toNatClampNeg ≠ 0 then x else -1) else aRef a u j) = Int32.ofNat t := by
  rw [Ed_wp (I_w hI h).2.2.2.2.2, Al_71]
  constructor
  · rintro ⟨w1, j, w2, w3⟩
    have w4 := Wp_71.mp w2
    rw [rf_w hI h w4] at w3
    exact ⟨w1, j, w4, w3⟩
  · rintro ⟨w1, j, w2, w3⟩
    refine ⟨w1, j, Wp_71.mpr w2, ?_⟩
    rw [rf_w hI h w2]
    exact w3
/-- an int: nothing refers otherwise -/
theorem Ed_pu (hI : qI a) (h : qWp a n i) (hr : a (1000 + n) i.toNatClampNeg = 0) : zEd (ma_u a 71 (a 130 n + 1 + i).toNatClampNeg x) = zEd a := by
  funext u t
  refine propext ?_
  rw [Ed_w hI h, Ed_wp hI.2.2.2.2.2]
  have e : ∀ j, (if u = n ∧ j = i then (if a (1000 + n) i.toNatClampNeg ≠ 0 then x else -1) else aRef a u j) = aRef a u j := fun j => by
    by_cases z : u = n ∧ j = i
    · rw [if_pos z, if_neg (fun w => w hr), z.1, z.2]
      exact (aRef_no (fun w => w.1 hr)).symm
    · rw [if_neg z]
  simp only [e]
theorem Wp_s (hR : qRB us nr kr kd ws at₉ ho wd wi ow rt wk wl wm nu ro fo le ra pi a) (h0 : t < 3100) (hu : us t ≠ 0) (hi : 0 ≤ i.toInt) (hi2 : i.toInt < (ws t).toInt) : qWp a (nr t).toNatClampNeg i := by
  have q := hR.1.1 t h0 hu
  refine ⟨R1_al hR.1 h0 hu, hi, ?_⟩
  rw [q.2.2.1, i_p1 (by have := q.2.2.2.2.2.1; omega)]
  omega
theorem RB_w (hR : qRB us nr kr kd ws at₉ ho wd wi ow rt wk wl wm nu ro fo le ra pi a) (hI : qI a) (hs : t < 3100) (hu : us t ≠ 0) (hi : 0 ≤ i.toInt) (hi2 : i.toInt < (ws t).toInt) (hz : ∀ t₉ : Nat, t₉ < 3100 → ∀ i₉ : Nat, (i₉ : Int) < (ws t₉).toInt → us t₉ ≠ 0 → ¬ (t₉ = t ∧ i₉ = i.toNatClampNeg) → zrf kr kd wd₉ t₉ i₉ = zrf kr kd wd t₉ i₉) (hx : qU us (zrf kr kd wd₉ t i.toNatClampNeg) ∧ (if a (1000 + (nr t).toNatClampNeg) i.toNatClampNeg ≠ 0 then x else -1) = qNo nr (zrf kr kd wd₉ t i.toNatClampNeg)) : qRB us nr kr kd ws at₉ ho wd₉ wi ow rt wk wl wm nu ro fo le ra pi (ma_u a 71 (a 130 (nr t).toNatClampNeg + 1 + i).toNatClampNeg x) := by
  have W := Wp_s hR hs hu hi hi2
  have ci := tn_cast hi
  refine ⟨R1_cg hR.1 (un (by decide)) (un (by decide)) (un (by decide)) (un (by decide)), fun t₉ ht hv i₉ hi₉ => ?_, R3_cg hR.2.2.1 (un (by decide)), R3_cg hR.2.2.2.1 (un (by decide)), R5_cg hR.2.2.2.2.1 (un (by decide)) (un (by decide)), R6_cg hR.2.2.2.2.2.1 (un (by decide)), hR.2.2.2.2.2.2.1, R8_cg hR.2.2.2.2.2.2.2 (by rw [un (by decide)]) (un (by decide))⟩
  have q := hR.2.1 t₉ ht hv i₉ hi₉
  have b := hR.1.1 t₉ ht hv
  have ei : (Int32.ofNat i₉).toInt = (i₉ : Int) := Int32.toInt_ofNat_of_lt (by have := b.2.2.2.2.2.1; omega)
  have W2 := Wp_s hR ht hv (i := Int32.ofNat i₉) (by omega) (by omega)
  rw [rf_w hI W W2, un (n := 1000 + (nr t₉).toNatClampNeg) (by omega)]
  by_cases z : t₉ = t ∧ i₉ = i.toNatClampNeg
  · rw [z.1, z.2, ofN_tn hi, if_pos ⟨rfl, rfl⟩]
    rw [z.1, z.2] at q
    exact ⟨hx.1, hx.2, q.2.2⟩
  · rw [hz t₉ ht i₉ hi₉ hv z, if_neg (fun w => z ?_)]
    · exact q
    · have e1 := R1_in hR.1 ht hs hv hu w.1
      refine ⟨e1, ?_⟩
      have e2 := congrArg Int32.toInt w.2
      omega
/-! the calls: what they make of a heap, also where they throw -/
noncomputable def qIf (P : Prop) (x y : Nat → Nat → Int32) : Nat → Nat → Int32 := @ite _ P (Classical.propDecidable P) x y
theorem qIf_y {P : Prop} {x y : Nat → Nat → Int32} (h : P) : qIf P x y = x := if_pos h
theorem qIf_n {P : Prop} {x y : Nat → Nat → Int32} (h : ¬ P) : qIf P x y = y := if_neg h
noncomputable def xPu (a : Nat → Nat → Int32) (o i v : Int32) : Nat → Nat → Int32 := qIf (zRq a o ∧ zHw a o i ∧ ¬ zIr a o i) (aCi a o.toNatClampNeg i v) a
noncomputable def xLi (a : Nat → Nat → Int32) (o i t : Int32) : Nat → Nat → Int32 := qIf (zRq a o ∧ (t = -1 ∨ zRq a t) ∧ zHw a o i ∧ zIr a o i) (aLn a o.toNatClampNeg i t) a
def zSl (i : Int32) : Prop := 0 ≤ i.toInt ∧ i.toInt ≤ 15
noncomputable def xRo (a : Nat → Nat → Int32) (i o : Int32) : Nat → Nat → Int32 := qIf (zSl i ∧ (o = -1 ∨ zRq a o)) (aRt a i o) a
noncomputable def xWe (a : Nat → Nat → Int32) (i o : Int32) : Nat → Nat → Int32 := qIf (zSl i ∧ (o = -1 ∨ zRq a o)) (ma_u a 73 i.toNatClampNeg (aNm a o)) a
noncomputable def xHo (a : Nat → Nat → Int32) (o b : Int32) : Nat → Nat → Int32 := qIf (zRq a o ∧ (¬ b = 0 ∨ ¬ a 133 o.toNatClampNeg = 0)) (ma_u a 133 o.toNatClampNeg (a 133 o.toNatClampNeg + (if b = 0 then -1 else 1))) a
noncomputable def xWi (a : Nat → Nat → Int32) (o : Int32) : Nat → Nat → Int32 := qIf (zRq a o) (ma_u a 134 o.toNatClampNeg 1) a
noncomputable def xGr (a : Nat → Nat → Int32) (r : Int32) : Nat → Nat → Int32 := qIf (zSl r) (qIf (aNm a (aTy a) = -1) (aTw a) (aRt (aTw a) r (aTy a))) a
/-- strong: the class's order, and the reference's -/
noncomputable def xSg (a : Nat → Nat → Int32) (i r : Int32) : Nat → Nat → Int32 := qIf (zSl i ∧ zSl r ∧ aNm a (a 73 i.toNatClampNeg) ≠ -1) (aSt (aRt a r (a 73 i.toNatClampNeg)) (a 73 i.toNatClampNeg)) a
noncomputable def ySg (a : Nat → Nat → Int32) (i r : Int32) : Nat → Nat → Int32 := qIf (zSl i ∧ zSl r ∧ aNm a (a 73 i.toNatClampNeg) ≠ -1) (aRt (aSt a (a 73 i.toNatClampNeg)) r (a 73 i.toNatClampNeg)) a
noncomputable def xSp (a : Nat → Nat → Int32) (n : Int32) : Nat → Nat → Int32 := qIf (0 ≤ n.toInt ∧ n.toInt ≤ 1000) (aGo a n.toInt.toNat) a
/-- put: an int -/
theorem RB_pu (hR : qRB us nr kr kd ws at₉ ho (m 108) wi ow rt wk wl wm nu ro fo le ra pi a) (hI : qI a) (h1 : 0 ≤ s.toInt) (h2 : s.toInt ≤ 3099) (hu : us s.toNatClampNeg ≠ 0) (hi : 0 ≤ i.toInt) (hi2 : i.toInt < (ws s.toNatClampNeg).toInt) (hk : ¬ kd s.toNatClampNeg = 16) (hk2 : ¬ (kd s.toNatClampNeg < 16 ∧ ((kr (kd s.toNatClampNeg).toNatClampNeg >>> (i &&& 31)) &&& 1) = 1)) (hn : nr s.toNatClampNeg = y) : qRB us nr kr kd ws at₉ ho (ma_u m 108 (s * (60 : Int32) + i).toNatClampNeg x 108) wi ow rt wk wl wm nu ro fo le ra pi (aCi a y.toNatClampNeg i x) ∧ a (1000 + y.toNatClampNeg) i.toNatClampNeg = 0 ∧ qWp a y.toNatClampNeg i := by
  have hs := tn_lt h1 (by omega)
  have ci := tn_cast hi
  have b := hR.1.1 _ hs hu
  have zp := zrf_put (kr := kr) (kd := kd) (m := m) (c := 108) (x := x) h1 h2 hi (by have := b.2.2.2.2.2.1; omega) hk hk2
  have q := hR.2.1 _ hs hu i.toNatClampNeg (by omega)
  have ir : ¬ qIr kr kd s.toNatClampNeg i.toNatClampNeg := by
    unfold qIr
    rw [ofN_tn hi]
    exact fun w => w.elim hk hk2
  have r0 : a (1000 + (nr s.toNatClampNeg).toNatClampNeg) i.toNatClampNeg = 0 := by
    by_cases z : a (1000 + (nr s.toNatClampNeg).toNatClampNeg) i.toNatClampNeg = 0
    · exact z
    · exact absurd (q.2.2.mp z) ir
  have W := Wp_s hR hs hu hi hi2
  rw [← hn]
  refine ⟨?_, r0, W⟩
  rw [Ci_eq hI W]
  refine RB_w hR hI hs hu hi hi2 (fun t₉ ht i₉ hi₉ hv _ => zp t₉ i₉ (by have := (hR.1.1 t₉ ht hv).2.2.2.2.2.1; omega)) ?_
  rw [zp _ _ (by have := b.2.2.2.2.2.1; omega)]
  refine ⟨q.1, ?_⟩
  rw [if_neg (fun w => w r0), ← q.2.1, ofN_tn hi]
  exact (aRef_no (fun w => w.1 r0)).symm
/-- link: a REFERENCE -/
theorem RB_li (hR : qRB us nr kr kd ws at₉ ho (m 108) wi ow rt wk wl wm nu ro fo le ra pi a) (hI : qI a) (h1 : 0 ≤ s.toInt) (h2 : s.toInt ≤ 3099) (hu : us s.toNatClampNeg ≠ 0) (hi : 0 ≤ i.toInt) (hi2 : i.toInt < (ws s.toNatClampNeg).toInt) (hk : kd s.toNatClampNeg = 16 ∨ (kd s.toNatClampNeg < 16 ∧ ((kr (kd s.toNatClampNeg).toNatClampNeg >>> (i &&& 31)) &&& 1) = 1)) (hn : nr s.toNatClampNeg = y) (uv : qU us v) : qRB us nr kr kd ws at₉ ho (ma_u m 108 (s * (60 : Int32) + i).toNatClampNeg v 108) wi ow rt wk wl wm nu ro fo le ra pi (aCi a y.toNatClampNeg i (qNo nr v)) ∧ a (1000 + y.toNatClampNeg) i.toNatClampNeg ≠ 0 ∧ qWp a y.toNatClampNeg i ∧ aRef a y.toNatClampNeg i = qNo nr (m 108 (s * (60 : Int32) + i).toNatClampNeg) ∧ qU us (m 108 (s * (60 : Int32) + i).toNatClampNeg) := by
  have hs := tn_lt h1 (by omega)
  have ci := tn_cast hi
  have b := hR.1.1 _ hs hu
  have zp := zrf_link (kr := kr) (kd := kd) (m := m) (c := 108) (x := v) h1 h2 hi (by have := b.2.2.2.2.2.1; omega) hk
  have q := hR.2.1 _ hs hu i.toNatClampNeg (by omega)
  have ir : qIr kr kd s.toNatClampNeg i.toNatClampNeg := by
    unfold qIr
    rw [ofN_tn hi]
    exact hk
  have r0 := q.2.2.mpr ir
  have W := Wp_s hR hs hu hi hi2
  have ew : zrf kr kd (m 108) s.toNatClampNeg i.toNatClampNeg = m 108 (s * (60 : Int32) + i).toNatClampNeg := by
    rw [zrf_eq h1 h2 hi (by have := b.2.2.2.2.2.1; omega)]
    rcases hk with w | w
    · rw [if_pos w]
    · by_cases w2 : kd s.toNatClampNeg = 16
      · rw [if_pos w2]
      · rw [if_neg w2, if_pos w]
  rw [← hn]
  rw [ew, ofN_tn hi] at q
  refine ⟨?_, r0, W, q.2.1, q.1⟩
  rw [Ci_eq hI W]
  refine RB_w hR hI hs hu hi hi2 (fun t₉ ht i₉ hi₉ hv hne => ?_) ?_
  · rw [zp t₉ i₉ (by have := (hR.1.1 t₉ ht hv).2.2.2.2.2.1; omega), if_neg hne]
  · rw [zp _ _ (by have := b.2.2.2.2.2.1; omega), if_pos ⟨rfl, rfl⟩]
    exact ⟨uv, by rw [if_pos r0]⟩
theorem MQ_71 (h : qMQ co gr ga gm us nr a) : qMQ co gr ga gm us nr (ma_u a 71 k x) := MQ_u h (by decide)
theorem MI_pu (h : qMI a) (hI : qI a) (W : qWp a n i) (hr : a (1000 + n) i.toNatClampNeg = 0) : qMI (aCi a n i x) := by
  rw [Ci_eq hI W]
  refine MI_cg h (un (by decide)) (Ed_pu hI W hr) (un (by decide)) (by rw [un (by decide)]) (fun _ u hu => Or.inl ?_)
  unfold zRt zRl zWl zHl at hu ⊢
  rw [Al_71, un (n := 72) (by decide), un (n := 74) (by decide), un (n := 69) (by decide), un (n := 133) (by decide)] at hu
  exact hu
/-- a REFERENCE is set: who refers to whom -/
theorem Ed_li (hI : qI a) (W : qWp a n i) (hr : a (1000 + n) i.toNatClampNeg ≠ 0) : (∀ u t, zEd (ma_u a 71 (a 130 n + 1 + i).toNatClampNeg x) u t → zEd a u t ∨ (u = n ∧ x = Int32.ofNat t ∧ xAl a t)) ∧ (∀ u t, zEd a u t → zEd (ma_u a 71 (a 130 n + 1 + i).toNatClampNeg x) u t ∨ (u = n ∧ aRef a n i = Int32.ofNat t)) := by
  refine ⟨fun u t h => ?_, fun u t h => ?_⟩
  · rw [Ed_w hI W] at h
    obtain ⟨h1, j, h2, h3⟩ := h
    by_cases z : u = n ∧ j = i
    · rw [if_pos z, if_pos hr] at h3
      exact Or.inr ⟨z.1, h3, h1⟩
    · rw [if_neg z] at h3
      exact Or.inl ((Ed_wp hI.2.2.2.2.2).mpr ⟨h1, j, h2, h3⟩)
  · have h₉ := (Ed_wp hI.2.2.2.2.2).mp h
    obtain ⟨h1, j, h2, h3⟩ := h₉
    by_cases z : u = n ∧ j = i
    · rw [z.1, z.2] at h3
      exact Or.inr ⟨z.1, h3⟩
    · refine Or.inl ((Ed_w hI W).mpr ⟨h1, j, h2, ?_⟩)
      rw [if_neg z]
      exact h3
/-- the word had h, it has x: M, where what it had has come and what it has is among those to come -/
theorem Mk_li (hI : qI a) (hw : zWQ a) (hm : qMI a) (h7 : a 87 7 ≠ 1) (W : qWp a n i) (hr : a (1000 + n) i.toNatClampNeg ≠ 0) (hx : x.toInt < 0 ∨ zMk a x.toNatClampNeg) : ∀ u, zMk (aCm (ma_u a 71 (a 130 n + 1 + i).toNatClampNeg x) (aRef a n i)) u ↔ zMk (aCm a (aRef a n i)) u := by
  intro u
  have ed := Ed_li (x := x) hI W hr
  have g := gr_cm (y := aRef a n i) hw
  have hw2 : zWQ (ma_u a 71 (a 130 n + 1 + i).toNatClampNeg x) := WQ_u hw (by decide)
  have g2 := gr_cm (y := aRef a n i) hw2
  have e77 : (ma_u a 71 (a 130 n + 1 + i).toNatClampNeg x) 77 = a 77 := un (by decide)
  have nn : zNn (ma_u a 71 (a 130 n + 1 + i).toNatClampNeg x) = zNn a := by
    funext v
    unfold zNn
    rw [e77]
  have dn : zDn (ma_u a 71 (a 130 n + 1 + i).toNatClampNeg x) = zDn a := by
    funext v
    unfold zDn
    rw [e77]
  have N2 : ∀ v, zNn (aCm (ma_u a 71 (a 130 n + 1 + i).toNatClampNeg x) (aRef a n i)) v ↔ zNn (aCm a (aRef a n i)) v := fun v => by
    rw [g2.2.2.2.1 v, g.2.2.2.1 v, nn, Al_71]
  have D2 : ∀ v, zDn (aCm (ma_u a 71 (a 130 n + 1 + i).toNatClampNeg x) (aRef a n i)) v ↔ zDn (aCm a (aRef a n i)) v := fun v => by
    rw [g2.2.2.1 v, g.2.2.1 v, dn]
  have q := MI_gr hm g
  have e7 := g.2.1 87 7 (by decide) (by decide) (by decide)
  have q2 := q.2 (by rw [← e7]; exact h7)
  refine (zM_cg N2 D2 (fun v t => Of_ed g2.2.1)).trans ?_
  refine (zM_ed (N := zNn (aCm a (aRef a n i))) (D := zDn (aCm a (aRef a n i))) (E := zEd (aCm a (aRef a n i))) (fun v t he => ?_) (fun v t hd hv he => ?_))
  · have he1 := (Of_ed g.2.1).mp he
    rcases ed.2 v t he1 with z | z
    · exact Or.inl z
    · exact Or.inr ((g.2.2.2.1 t).mpr (Or.inr ⟨he1.1, z.2⟩))
  · rcases ed.1 v t he with z | z
    · exact q2.2 v t hv ((Of_ed g.2.1).mpr z)
    · have et := ofN_i z.2.2.1
      rcases hx with w | w
      · rw [z.2.1] at w
        omega
      · rw [z.2.1, tn_of z.2.2.1] at w
        have w2 := (Mk_cm (y := aRef a n i) hw (x := t)).mpr (zM_in (Or.inl w))
        exact w2
theorem MI_li (hI : qI a) (hw : zWQ a) (hm : qMI a) (W : qWp a n i) (hr : a (1000 + n) i.toNatClampNeg ≠ 0) (h87 : a 87 8 ≠ 0) (hx : a 87 7 ≠ 1 → x.toInt < 0 ∨ zMk a x.toNatClampNeg) (hxa : x.toInt < 0 ∨ (x.toInt < 512 ∧ xAl a x.toNatClampNeg)) (h70 : a 87 7 = 0 ∨ a 87 7 = 1) (hh : aRef a n i = -1 ∨ (0 ≤ (aRef a n i).toInt ∧ (aRef a n i).toInt < 512 ∧ xAl a (aRef a n i).toNatClampNeg)) : qMI (aNc (aCi a n i x) (aRef a n i) x) := by
  rw [Ci_eq hI W]
  have ed := Ed_li (x := x) hI W hr
  have hw2 : zWQ (ma_u a 71 (a 130 n + 1 + i).toNatClampNeg x) := WQ_u hw (by decide)
  have m1 : (-1 : Int32).toInt = -1 := rfl
  have nmx : aNm (ma_u a 71 (a 130 n + 1 + i).toNatClampNeg x) x = (if x.toInt < 0 then -1 else x) := by
    unfold aNm
    rw [un (n := 126) (by decide)]
    rcases hxa with z | z
    · rw [if_neg (by omega), if_pos z]
    · by_cases z2 : x.toInt < 0
      · rw [if_neg (by omega), if_pos z2]
      · rw [if_pos ⟨by omega, z.1, z.2.2⟩, if_neg z2]
  have nmh : aNm (ma_u a 71 (a 130 n + 1 + i).toNatClampNeg x) (aRef a n i) = aRef a n i := by
    unfold aNm
    rw [un (n := 126) (by decide)]
    rcases hh with z | z
    · rw [z, if_neg (fun w => absurd w.1 (by decide))]
    · rw [if_pos ⟨z.1, z.2.1, z.2.2.2⟩]
  have rt : ∀ u, zRt (ma_u a 71 (a 130 n + 1 + i).toNatClampNeg x) u ↔ zRt a u := fun u => by
    unfold zRt zRl zWl zHl
    rw [Al_71, un (n := 72) (by decide), un (n := 74) (by decide), un (n := 69) (by decide), un (n := 133) (by decide)]
  have e7 : (ma_u a 71 (a 130 n + 1 + i).toNatClampNeg x) 87 7 = a 87 7 := by rw [un (by decide)]
  by_cases same : aRef a n i = (if x.toInt < 0 then -1 else x)
  · -- nothing changes
    rw [aNc_n (fun w => w.2 (by rw [nmh, nmx]; exact same))]
    have ee : zEd (ma_u a 71 (a 130 n + 1 + i).toNatClampNeg x) = zEd a := by
      funext u t
      refine propext ⟨fun w => ?_, fun w => ?_⟩
      · rcases ed.1 u t w with z | z
        · exact z
        · have et := ofN_i z.2.2.1
          have x0 : ¬ x.toInt < 0 := by
            rw [z.2.1]
            omega
          rw [if_neg x0] at same
          rw [z.1]
          exact (Ed_wp hI.2.2.2.2.2).mpr ⟨z.2.2, i, W, same.trans z.2.1⟩
      · rcases ed.2 u t w with z | z
        · exact z
        · have et := ofN_i w.1.1
          have x0 : ¬ x.toInt < 0 := fun w2 => by
            rw [if_pos w2] at same
            rw [z.2] at same
            rw [same] at et
            omega
          rw [if_neg x0] at same
          refine (Ed_w hI W).mpr ⟨w.1, i, by rw [z.1]; exact W, ?_⟩
          rw [if_pos ⟨z.1, rfl⟩, if_pos hr, ← same]
          exact z.2
    exact MI_cg hm (un (by decide)) ee (un (by decide)) e7 (fun _ u hu => Or.inl ((rt u).mp hu))
  · rw [aNc_y (by rw [un (by decide)]; exact h87) (by rw [nmh, nmx]; exact same), e7]
    rcases h70 with h7 | h7
    · rw [if_pos h7]
      have h71 : a 87 7 ≠ 1 := by
        rw [h7]
        decide
      have mk := Mk_li (x := x) hI hw hm h71 W hr (hx h71)
      have g := gr_cm (y := aRef a n i) hw
      have g2 := gr_cm (y := aRef a n i) hw2
      have q := (MI_gr hm g).2 (by rw [← g.2.1 87 7 (by decide) (by decide) (by decide)]; exact h71)
      refine ⟨fun w => absurd w ?_, fun _ => ⟨fun u hu => (mk u).mpr (q.1 u ((Rt_of g.2.1).mpr ((rt u).mp ((Rt_of g2.2.1).mp hu)))), fun u t hu he => (mk t).mpr ?_⟩⟩
      · rw [← g2.2.1 87 7 (by decide) (by decide) (by decide), e7]
        exact h71
      · rcases ed.1 u t ((Of_ed g2.2.1).mp he) with z | z
        · exact q.2 u t ((mk u).mp hu) ((Of_ed g.2.1).mpr z)
        · have et := ofN_i z.2.2.1
          rcases hx h71 with w | w
          · rw [z.2.1] at w
            omega
          · rw [z.2.1, tn_of z.2.2.1] at w
            exact (Mk_cm (y := aRef a n i) hw (x := t)).mpr (zM_in (Or.inl w))
    · rw [if_neg (by rw [h7]; decide)]
      have g2 := gr_cm (y := x) hw2
      have e77 : (ma_u a 71 (a 130 n + 1 + i).toNatClampNeg x) 77 = a 77 := un (by decide)
      refine ⟨fun _ u t hd ha he => ?_, fun w => absurd ?_ w⟩
      · refine (g2.2.2.2.1 t).mpr ?_
        have hd2 := (g2.2.2.1 u).mp hd
        have ha2 : xAl a u := by
          rw [← Al_of g2.2.1, Al_71] at ha
          exact ha
        have hd3 : zDn a u := by
          unfold zDn at hd2 ⊢
          rw [e77] at hd2
          exact hd2
        rcases ed.1 u t ((Of_ed g2.2.1).mp he) with z | z
        · refine Or.inl ?_
          have q := hm.1 h7 u t hd3 ha2 z
          unfold zNn at q ⊢
          rw [e77]
          exact q
        · exact Or.inr ⟨by rw [Al_71]; exact z.2.2, z.2.1⟩
      · rw [← g2.2.1 87 7 (by decide) (by decide) (by decide), e7]
        exact h7
end QW

/-! from 95.h24 -/
/-! the reference by numbers (written by wip/tools/gen18r.py) -/
theorem Re_n {us nr : Nat → Int32} {a : Nat → Nat → Int32} {x v : Int32} (h : qRe us nr a x v) (hv : v.toInt < 0) : ¬ zRq a x := h.elim (fun w => w.2) (fun w => absurd w.1 (by omega))
theorem Re_y {us nr : Nat → Int32} {a : Nat → Nat → Int32} {x v : Int32} (h : qRe us nr a x v) (hv : 0 ≤ v.toInt) : v.toInt ≤ 3099 ∧ us v.toNatClampNeg ≠ 0 ∧ nr v.toNatClampNeg = x ∧ zRq a x := h.elim (fun w => absurd hv (by rw [w.1]; decide)) (fun w => ⟨w.2.1, w.2.2.1, w.2.2.2.1, w.2.2.2.2⟩)
section CA1
variable {us nr kr kd ws at₉ ho wd wi ow rt wk wl : Nat → Int32} {wm nu ro fo le ra pi x v i : Int32} {a : Nat → Nat → Int32}
theorem Hw_y (hR : qRB us nr kr kd ws at₉ ho wd wi ow rt wk wl wm nu ro fo le ra pi a) (h : qRe us nr a x v) (hv : 0 ≤ v.toInt) : zHw a x i ↔ 0 ≤ i.toInt ∧ i.toInt < (ws v.toNatClampNeg).toInt := by
  have y := Re_y h hv
  have t := hR.1.1 _ (tn_lt hv (by omega)) y.2.1
  unfold zHw
  rw [← y.2.2.1, t.2.2.1, i_p1 (by have := t.2.2.2.2.2.1; omega)]
  constructor
  · rintro ⟨w1, w2⟩
    exact ⟨w1, by omega⟩
  · rintro ⟨w1, w2⟩
    exact ⟨w1, by omega⟩
theorem Ir_y (hR : qRB us nr kr kd ws at₉ ho wd wi ow rt wk wl wm nu ro fo le ra pi a) (h : qRe us nr a x v) (hv : 0 ≤ v.toInt) (h0 : 0 ≤ i.toInt) (h1 : i.toInt < (ws v.toNatClampNeg).toInt) : zIr a x i ↔ kd v.toNatClampNeg = 16 ∨ (kd v.toNatClampNeg < 16 ∧ ((kr (kd v.toNatClampNeg).toNatClampNeg >>> (i &&& 31)) &&& 1) = 1) := by
  have y := Re_y h hv
  have c := tn_cast h0
  have r := hR.2.1 _ (tn_lt hv (by omega)) y.2.1 i.toNatClampNeg (by omega)
  unfold zIr
  rw [← y.2.2.1, r.2.2]
  unfold qIr
  rw [ofN_tn h0]
end CA1
theorem sp_244r {X : Nat × (Nat → Int32)} {P : Option ma_V → (Nat → Nat → Int32) → Prop} {T : Nat} {aa : Nat→Nat→Int32} {m : Nat → Nat → Int32} (ob : Int32) (ix : Int32) (va : Int32) (hV : zV m) (hpre0 : T ≤ 512) (r_W : zW (m 94 7) (m 98) (m 101) (m 102) (m 108)) (r_GW : zGW T (m 94 55) (m 109)) (r_GU : zGU T (m 94 46) (m 99)) (r_OW : zOw (m 99) (m 103) (m 111)) (r_GG : zGG (m 94 58) (m 94 56) (m 94 57) (m 106)) (hpre6 : (m 94 10).toInt = 5) (hpre7 : (m 94 8).toInt = 1) (r_RB : qRB (m 99) (m 100) (m 98) (m 101) (m 102) (m 103) (m 107) (m 108) (m 109) (m 111) (m 112) (m 113) (m 114) (m 94 55) (m 94 46) (m 94 11) (m 94 12) (m 94 62) (m 94 17) (m 94 9) aa) (r_QI : qI aa) (r_MG : qMG (m 94 58) (m 106) (m 115) (m 94 57) (m 94 56) (m 99) (m 100) aa) (r_MK : aa 87 8 = (m 94 58)) (r_WTS : (m 94 45).toInt = sm (zbU (m 99)) (m 102) 3100) (KZ : ∀ v m₉, zV (zov wr_244 m m₉) → (zW (m 94 7) (m 98) (m 101) (m 102) (m₉ 108)) → (zGW T (m 94 55) (m 109)) → (zGU T (m 94 46) (m 99)) → (zOw (m 99) (m 103) (m 111)) → (zGG (m 94 58) (m 94 56) (m 94 57) (m 106)) → (qRB (m 99) (m 100) (m 98) (m 101) (m 102) (m 103) (m 107) (m₉ 108) (m 109) (m 111) (m 112) (m 113) (m 114) (m 94 55) (m 94 46) (m 94 11) (m 94 12) (m 94 62) (m 94 17) (m 94 9) (xPu aa ob ix va)) → (qI (xPu aa ob ix va)) → (qMG (m 94 58) (m 106) (m 115) (m 94 57) (m 94 56) (m 99) (m 100) (xPu aa ob ix va)) → ((xPu aa ob ix va) 87 8 = (m 94 58)) → ((m 94 45).toInt = sm (zbU (m 99)) (m 102) 3100) → P (some (.inl v)) (zov wr_244 m m₉)) : zm X 5 109 244 0 [(0, .inr (.inr (some 94))), (1, .inl ob), (2, .inl ix), (3, .inl va)] m P := by
  have K : ∀ v m₉, zF wr_244 m m₉ → zV m₉ → (zW (m₉ 94 7) (m₉ 98) (m₉ 101) (m₉ 102) (m₉ 108)) → (zGW T (m₉ 94 55) (m₉ 109)) → (zGU T (m₉ 94 46) (m₉ 99)) → (zOw (m₉ 99) (m₉ 103) (m₉ 111)) → (zGG (m₉ 94 58) (m₉ 94 56) (m₉ 94 57) (m₉ 106)) → (qRB (m₉ 99) (m₉ 100) (m₉ 98) (m₉ 101) (m₉ 102) (m₉ 103) (m₉ 107) (m₉ 108) (m₉ 109) (m₉ 111) (m₉ 112) (m₉ 113) (m₉ 114) (m₉ 94 55) (m₉ 94 46) (m₉ 94 11) (m₉ 94 12) (m₉ 94 62) (m₉ 94 17) (m₉ 94 9) (xPu aa ob ix va)) → (qI (xPu aa ob ix va)) → (qMG (m₉ 94 58) (m₉ 106) (m₉ 115) (m₉ 94 57) (m₉ 94 56) (m₉ 99) (m₉ 100) (xPu aa ob ix va)) → ((xPu aa ob ix va) 87 8 = (m₉ 94 58)) → ((m₉ 94 45).toInt = sm (zbU (m₉ 99)) (m₉ 102) 3100) → P (some (.inl v)) m₉ := by
    intro v m₉ hf z q0 q1 q2 q3 q4 q5 q6 q7 q8 q9
    have e := zov_eq hf
    rw [e] at z ⊢
    try rw [e] at q0
    try rw [e] at q1
    try rw [e] at q2
    try rw [e] at q3
    try rw [e] at q4
    try rw [e] at q5
    try rw [e] at q6
    try rw [e] at q7
    try rw [e] at q8
    try rw [e] at q9
    exact KZ v m₉ z q0 q1 q2 q3 q4 q5 q6 q7 q8 q9
  refine g_244_0 ob ix va ?_
  have f1 : 0 ≤ (m 94 10).toInt ∧ (m 94 10).toInt ≤ 6 := rs_94_10 (m := m) hV
  have f2 : 0 ≤ (m 94 8).toInt ∧ (m 94 8).toInt ≤ 1 := rs_94_8 (m := m) hV
  have li3 : (0 : Int32).toInt = 0 := rfl
  refine zd (fun (h4 : (m 94 8) = (0 : Int32)) => ?_) (fun (h4 : ¬ (m 94 8) = (0 : Int32)) => ?_)
  · skip
    have g5 := i_eq h4
    exfalso; omega
  · skip
    have g6 := i_ne h4
    have b7 := i_bd ob
    have hV8 : zV (ma_u m 94 0 (0 : Int32)) := uf_94_0 hV
    refine sp_245r (aa := aa) (ob) hV8 r_W r_RB r_QI (fun v2 m1 hV_m1 p0_m1 p1_m1 p2_m1 => zmi_n ?_)
    have p0_m1 : -1 ≤ v2.toInt ∧ v2.toInt ≤ 3099 := p0_m1
    have p1_m1 : v2.toInt < 0 ∨ (m 99) v2.toNatClampNeg ≠ 0 := p1_m1
    have p2_m1 : qRe (m 99) (m 100) aa ob v2 := p2_m1
    have b9 := i_bd v2
    refine zd (fun (h10 : (0 : Int32) ≤ v2) => ?_) (fun (h10 : ¬ (0 : Int32) ≤ v2) => ?_)
    · skip
      have g11 := i_le h10
      have b12 := i_bd ix
      refine zd (fun (h13 : ix < (0 : Int32)) => ?_) (fun (h13 : ¬ ix < (0 : Int32)) => ?_)
      · skip
        have g14 := i_lt h13
        have hV15 : zV (ma_u (zov wr_245 (ma_u m 94 0 (0 : Int32)) m1) 94 0 (3 : Int32)) := uf_94_0 hV_m1
        exact K ((0 : Int32)) _ (zF_u (zF_zov (zF_u zF_rfl rfl) ws_245_244) rfl) hV15 r_W r_GW r_GU r_OW r_GG (show qRB (m 99) (m 100) (m 98) (m 101) (m 102) (m 103) (m 107) (m 108) (m 109) (m 111) (m 112) (m 113) (m 114) (m 94 55) (m 94 46) (m 94 11) (m 94 12) (m 94 62) (m 94 17) (m 94 9) (xPu aa ob ix va) from by first | (unfold xPu; rw [qIf_n (show ¬ (zRq aa ob ∧ zHw aa ob ix ∧ ¬ zIr aa ob ix) from fun w => Re_n p2_m1 (by omega) w.1)]; exact r_RB; done) | (unfold xPu; rw [qIf_n (show ¬ (zRq aa ob ∧ zHw aa ob ix ∧ ¬ zIr aa ob ix) from fun w => by have w2 := (Hw_y r_RB p2_m1 (by omega)).mp w.2.1; omega)]; exact r_RB; done) | (unfold xPu; rw [qIf_n (show ¬ (zRq aa ob ∧ zHw aa ob ix ∧ ¬ zIr aa ob ix) from fun w => w.2.2 ((Ir_y r_RB p2_m1 (by omega) (by omega) (by omega)).mpr (Or.inl (by assumption))))]; exact r_RB; done) | (unfold xPu; rw [qIf_n (show ¬ (zRq aa ob ∧ zHw aa ob ix ∧ ¬ zIr aa ob ix) from fun w => w.2.2 ((Ir_y r_RB p2_m1 (by omega) (by omega) (by omega)).mpr (Or.inr ⟨Int32.lt_iff_toInt_lt.mpr (by omega), by assumption⟩)))]; exact r_RB; done) | (exfalso; omega; done) | (exfalso; contradiction; done)) (show qI (xPu aa ob ix va) from by first | (unfold xPu; rw [qIf_n (show ¬ (zRq aa ob ∧ zHw aa ob ix ∧ ¬ zIr aa ob ix) from fun w => Re_n p2_m1 (by omega) w.1)]; exact r_QI; done) | (unfold xPu; rw [qIf_n (show ¬ (zRq aa ob ∧ zHw aa ob ix ∧ ¬ zIr aa ob ix) from fun w => by have w2 := (Hw_y r_RB p2_m1 (by omega)).mp w.2.1; omega)]; exact r_QI; done) | (unfold xPu; rw [qIf_n (show ¬ (zRq aa ob ∧ zHw aa ob ix ∧ ¬ zIr aa ob ix) from fun w => w.2.2 ((Ir_y r_RB p2_m1 (by omega) (by omega) (by omega)).mpr (Or.inl (by assumption))))]; exact r_QI; done) | (unfold xPu; rw [qIf_n (show ¬ (zRq aa ob ∧ zHw aa ob ix ∧ ¬ zIr aa ob ix) from fun w => w.2.2 ((Ir_y r_RB p2_m1 (by omega) (by omega) (by omega)).mpr (Or.inr ⟨Int32.lt_iff_toInt_lt.mpr (by omega), by assumption⟩)))]; exact r_QI; done) | (exfalso; omega; done) | (exfalso; contradiction; done)) (show qMG (m 94 58) (m 106) (m 115) (m 94 57) (m 94 56) (m 99) (m 100) (xPu aa ob ix va) from by first | (unfold xPu; rw [qIf_n (show ¬ (zRq aa ob ∧ zHw aa ob ix ∧ ¬ zIr aa ob ix) from fun w => Re_n p2_m1 (by omega) w.1)]; exact r_MG; done) | (unfold xPu; rw [qIf_n (show ¬ (zRq aa ob ∧ zHw aa ob ix ∧ ¬ zIr aa ob ix) from fun w => by have w2 := (Hw_y r_RB p2_m1 (by omega)).mp w.2.1; omega)]; exact r_MG; done) | (unfold xPu; rw [qIf_n (show ¬ (zRq aa ob ∧ zHw aa ob ix ∧ ¬ zIr aa ob ix) from fun w => w.2.2 ((Ir_y r_RB p2_m1 (by omega) (by omega) (by omega)).mpr (Or.inl (by assumption))))]; exact r_MG; done) | (unfold xPu; rw [qIf_n (show ¬ (zRq aa ob ∧ zHw aa ob ix ∧ ¬ zIr aa ob ix) from fun w => w.2.2 ((Ir_y r_RB p2_m1 (by omega) (by omega) (by omega)).mpr (Or.inr ⟨Int32.lt_iff_toInt_lt.mpr (by omega), by assumption⟩)))]; exact r_MG; done) | (exfalso; omega; done) | (exfalso; contradiction; done)) (show (xPu aa ob ix va) 87 8 = (m 94 58) from by first | (unfold xPu; rw [qIf_n (show ¬ (zRq aa ob ∧ zHw aa ob ix ∧ ¬ zIr aa ob ix) from fun w => Re_n p2_m1 (by omega) w.1)]; exact r_MK; done) | (unfold xPu; rw [qIf_n (show ¬ (zRq aa ob ∧ zHw aa ob ix ∧ ¬ zIr aa ob ix) from fun w => by have w2 := (Hw_y r_RB p2_m1 (by omega)).mp w.2.1; omega)]; exact r_MK; done) | (unfold xPu; rw [qIf_n (show ¬ (zRq aa ob ∧ zHw aa ob ix ∧ ¬ zIr aa ob ix) from fun w => w.2.2 ((Ir_y r_RB p2_m1 (by omega) (by omega) (by omega)).mpr (Or.inl (by assumption))))]; exact r_MK; done) | (unfold xPu; rw [qIf_n (show ¬ (zRq aa ob ∧ zHw aa ob ix ∧ ¬ zIr aa ob ix) from fun w => w.2.2 ((Ir_y r_RB p2_m1 (by omega) (by omega) (by omega)).mpr (Or.inr ⟨Int32.lt_iff_toInt_lt.mpr (by omega), by assumption⟩)))]; exact r_MK; done) | (exfalso; omega; done) | (exfalso; contradiction; done)) r_WTS
      · skip
        have g16 := i_nlt h13
        have hg17 : (0 ≤ v2 ∧ v2.toNatClampNeg < 3100) := i_ix (by omega) (by omega)
        refine ⟨hg17, ?_⟩
        first | have f18 : 0 ≤ (m 102 v2.toNatClampNeg).toInt ∧ (m 102 v2.toNatClampNeg).toInt ≤ 60 := ra_102 (m := m) hV (k := v2.toNatClampNeg) (i_ix (n := 3100) (by omega) (by omega)).2 | have b19 := i_bd (m 102 v2.toNatClampNeg)
        refine zd (fun (h20 : ix < (m 102 v2.toNatClampNeg)) => ?_) (fun (h20 : ¬ ix < (m 102 v2.toNatClampNeg)) => ?_)
        · skip
          have g21 := i_lt h20
          have hg22 : (0 ≤ v2 ∧ v2.toNatClampNeg < 3100) := i_ix (by omega) (by omega)
          refine ⟨hg22, ?_⟩
          first | have f23 : 0 ≤ (m 101 v2.toNatClampNeg).toInt ∧ (m 101 v2.toNatClampNeg).toInt ≤ 17 := ra_101 (m := m) hV (k := v2.toNatClampNeg) (i_ix (n := 3100) (by omega) (by omega)).2 | have b24 := i_bd (m 101 v2.toNatClampNeg)
          have li25 : (16 : Int32).toInt = 16 := rfl
          refine zd (fun (h26 : (m 101 v2.toNatClampNeg) = (16 : Int32)) => ?_) (fun (h26 : ¬ (m 101 v2.toNatClampNeg) = (16 : Int32)) => ?_)
          · skip
            have g27 := i_eq h26
            have hV28 : zV (ma_u (zov wr_245 (ma_u m 94 0 (0 : Int32)) m1) 94 0 (4 : Int32)) := uf_94_0 hV_m1
            exact K ((0 : Int32)) _ (zF_u (zF_zov (zF_u zF_rfl rfl) ws_245_244) rfl) hV28 r_W r_GW r_GU r_OW r_GG (show qRB (m 99) (m 100) (m 98) (m 101) (m 102) (m 103) (m 107) (m 108) (m 109) (m 111) (m 112) (m 113) (m 114) (m 94 55) (m 94 46) (m 94 11) (m 94 12) (m 94 62) (m 94 17) (m 94 9) (xPu aa ob ix va) from by first | (unfold xPu; rw [qIf_n (show ¬ (zRq aa ob ∧ zHw aa ob ix ∧ ¬ zIr aa ob ix) from fun w => Re_n p2_m1 (by omega) w.1)]; exact r_RB; done) | (unfold xPu; rw [qIf_n (show ¬ (zRq aa ob ∧ zHw aa ob ix ∧ ¬ zIr aa ob ix) from fun w => by have w2 := (Hw_y r_RB p2_m1 (by omega)).mp w.2.1; omega)]; exact r_RB; done) | (unfold xPu; rw [qIf_n (show ¬ (zRq aa ob ∧ zHw aa ob ix ∧ ¬ zIr aa ob ix) from fun w => w.2.2 ((Ir_y r_RB p2_m1 (by omega) (by omega) (by omega)).mpr (Or.inl (by assumption))))]; exact r_RB; done) | (unfold xPu; rw [qIf_n (show ¬ (zRq aa ob ∧ zHw aa ob ix ∧ ¬ zIr aa ob ix) from fun w => w.2.2 ((Ir_y r_RB p2_m1 (by omega) (by omega) (by omega)).mpr (Or.inr ⟨Int32.lt_iff_toInt_lt.mpr (by omega), by assumption⟩)))]; exact r_RB; done) | (exfalso; omega; done) | (exfalso; contradiction; done)) (show qI (xPu aa ob ix va) from by first | (unfold xPu; rw [qIf_n (show ¬ (zRq aa ob ∧ zHw aa ob ix ∧ ¬ zIr aa ob ix) from fun w => Re_n p2_m1 (by omega) w.1)]; exact r_QI; done) | (unfold xPu; rw [qIf_n (show ¬ (zRq aa ob ∧ zHw aa ob ix ∧ ¬ zIr aa ob ix) from fun w => by have w2 := (Hw_y r_RB p2_m1 (by omega)).mp w.2.1; omega)]; exact r_QI; done) | (unfold xPu; rw [qIf_n (show ¬ (zRq aa ob ∧ zHw aa ob ix ∧ ¬ zIr aa ob ix) from fun w => w.2.2 ((Ir_y r_RB p2_m1 (by omega) (by omega) (by omega)).mpr (Or.inl (by assumption))))]; exact r_QI; done) | (unfold xPu; rw [qIf_n (show ¬ (zRq aa ob ∧ zHw aa ob ix ∧ ¬ zIr aa ob ix) from fun w => w.2.2 ((Ir_y r_RB p2_m1 (by omega) (by omega) (by omega)).mpr (Or.inr ⟨Int32.lt_iff_toInt_lt.mpr (by omega), by assumption⟩)))]; exact r_QI; done) | (exfalso; omega; done) | (exfalso; contradiction; done)) (show qMG (m 94 58) (m 106) (m 115) (m 94 57) (m 94 56) (m 99) (m 100) (xPu aa ob ix va) from by first | (unfold xPu; rw [qIf_n (show ¬ (zRq aa ob ∧ zHw aa ob ix ∧ ¬ zIr aa ob ix) from fun w => Re_n p2_m1 (by omega) w.1)]; exact r_MG; done) | (unfold xPu; rw [qIf_n (show ¬ (zRq aa ob ∧ zHw aa ob ix ∧ ¬ zIr aa ob ix) from fun w => by have w2 := (Hw_y r_RB p2_m1 (by omega)).mp w.2.1; omega)]; exact r_MG; done) | (unfold xPu; rw [qIf_n (show ¬ (zRq aa ob ∧ zHw aa ob ix ∧ ¬ zIr aa ob ix) from fun w => w.2.2 ((Ir_y r_RB p2_m1 (by omega) (by omega) (by omega)).mpr (Or.inl (by assumption))))]; exact r_MG; done) | (unfold xPu; rw [qIf_n (show ¬ (zRq aa ob ∧ zHw aa ob ix ∧ ¬ zIr aa ob ix) from fun w => w.2.2 ((Ir_y r_RB p2_m1 (by omega) (by omega) (by omega)).mpr (Or.inr ⟨Int32.lt_iff_toInt_lt.mpr (by omega), by assumption⟩)))]; exact r_MG; done) | (exfalso; omega; done) | (exfalso; contradiction; done)) (show (xPu aa ob ix va) 87 8 = (m 94 58) from by first | (unfold xPu; rw [qIf_n (show ¬ (zRq aa ob ∧ zHw aa ob ix ∧ ¬ zIr aa ob ix) from fun w => Re_n p2_m1 (by omega) w.1)]; exact r_MK; done) | (unfold xPu; rw [qIf_n (show ¬ (zRq aa ob ∧ zHw aa ob ix ∧ ¬ zIr aa ob ix) from fun w => by have w2 := (Hw_y r_RB p2_m1 (by omega)).mp w.2.1; omega)]; exact r_MK; done) | (unfold xPu; rw [qIf_n (show ¬ (zRq aa ob ∧ zHw aa ob ix ∧ ¬ zIr aa ob ix) from fun w => w.2.2 ((Ir_y r_RB p2_m1 (by omega) (by omega) (by omega)).mpr (Or.inl (by assumption))))]; exact r_MK; done) | (unfold xPu; rw [qIf_n (show ¬ (zRq aa ob ∧ zHw aa ob ix ∧ ¬ zIr aa ob ix) from fun w => w.2.2 ((Ir_y r_RB p2_m1 (by omega) (by omega) (by omega)).mpr (Or.inr ⟨Int32.lt_iff_toInt_lt.mpr (by omega), by assumption⟩)))]; exact r_MK; done) | (exfalso; omega; done) | (exfalso; contradiction; done)) r_WTS
          · skip
            have g29 := i_ne h26
            have hg30 : (0 ≤ v2 ∧ v2.toNatClampNeg < 3100) := i_ix (by omega) (by omega)
            refine ⟨hg30, ?_⟩
            refine zd (fun (h31 : (16 : Int32) ≤ (m 101 v2.toNatClampNeg)) => ?_) (fun (h31 : ¬ (16 : Int32) ≤ (m 101 v2.toNatClampNeg)) => ?_)
            · skip
              have g32 := i_le h31
              have li33 : (60 : Int32).toInt = 60 := rfl
              first | have e34 : (v2 * (60 : Int32)).toInt = v2.toInt * 60 := i_mulk rfl (by omega) (by omega) | have b35 := i_bd (v2 * (60 : Int32))
              first | have e36 : ((v2 * (60 : Int32)) + ix).toInt = (v2 * (60 : Int32)).toInt + ix.toInt := i_add (by omega) (by omega) | have b37 := i_bd ((v2 * (60 : Int32)) + ix)
              have hg38 : (0 ≤ ((v2 * (60 : Int32)) + ix) ∧ ((v2 * (60 : Int32)) + ix).toNatClampNeg < 186000) := i_ix (by omega) (by omega)
              refine ⟨hg38, ?_⟩
              have hg39 : (0 ≤ ((v2 * (60 : Int32)) + ix) ∧ ((v2 * (60 : Int32)) + ix).toNatClampNeg < 186000) := i_ix (by omega) (by omega)
              refine ⟨hg39, ?_⟩
              have hV40 : zV (ma_u (zov wr_245 (ma_u m 94 0 (0 : Int32)) m1) 94 0 (0 : Int32)) := uf_94_0 hV_m1
              have hV41 : zV (ma_u (ma_u (zov wr_245 (ma_u m 94 0 (0 : Int32)) m1) 94 0 (0 : Int32)) 108 ((v2 * (60 : Int32)) + ix).toNatClampNeg va) := ua_108 hV40
              have b42 := i_bd (m 108 ((v2 * (60 : Int32)) + ix).toNatClampNeg)
              exact K ((m 108 ((v2 * (60 : Int32)) + ix).toNatClampNeg)) _ (zF_u (zF_u (zF_zov (zF_u zF_rfl rfl) ws_245_244) rfl) rfl) hV41 (show zW (m 94 7) (m 98) (m 101) (m 102) ((ma_u m 108 ((v2 * (60 : Int32)) + ix).toNatClampNeg va) 108) from by first | (exact W_same r_W (by omega) (fun s2 i2 hs2 hi2 => zrf_put (by omega) (by omega) (by omega) (by omega) (by assumption) (fun z => by first | exact absurd (Int32.lt_iff_toInt_lt.mp z.1) (by omega) | exact absurd z.2 (by assumption)) s2 i2 (by have := (ra_102 hV hs2).2; omega))) | (exfalso; omega; done) | (exfalso; contradiction; done)) r_GW r_GU r_OW r_GG (show qRB (m 99) (m 100) (m 98) (m 101) (m 102) (m 103) (m 107) ((ma_u m 108 ((v2 * (60 : Int32)) + ix).toNatClampNeg va) 108) (m 109) (m 111) (m 112) (m 113) (m 114) (m 94 55) (m 94 46) (m 94 11) (m 94 12) (m 94 62) (m 94 17) (m 94 9) (xPu aa ob ix va) from by first | (unfold xPu; rw [qIf_y (show zRq aa ob ∧ zHw aa ob ix ∧ ¬ zIr aa ob ix from ⟨(Re_y p2_m1 (by omega)).2.2.2, (Hw_y r_RB p2_m1 (by omega)).mpr ⟨by omega, by omega⟩, fun w => ((Ir_y r_RB p2_m1 (by omega) (by omega) (by omega)).mp w).elim (fun z => absurd z (by assumption)) (fun z => by first | exact absurd (Int32.lt_iff_toInt_lt.mp z.1) (by omega) | exact absurd z.2 (by assumption))⟩)]; exact (RB_pu (x := va) r_RB r_QI (s := v2) (by omega) (by omega) (Re_y p2_m1 (by omega)).2.1 (i := ix) (by omega) (by omega) (by assumption) (fun z => by first | exact absurd (Int32.lt_iff_toInt_lt.mp z.1) (by omega) | exact absurd z.2 (by assumption)) (Re_y p2_m1 (by omega)).2.2.1).1; done) | (exfalso; omega; done) | (exfalso; contradiction; done)) (show qI (xPu aa ob ix va) from by first | (unfold xPu; rw [qIf_y (show zRq aa ob ∧ zHw aa ob ix ∧ ¬ zIr aa ob ix from ⟨(Re_y p2_m1 (by omega)).2.2.2, (Hw_y r_RB p2_m1 (by omega)).mpr ⟨by omega, by omega⟩, fun w => ((Ir_y r_RB p2_m1 (by omega) (by omega) (by omega)).mp w).elim (fun z => absurd z (by assumption)) (fun z => by first | exact absurd (Int32.lt_iff_toInt_lt.mp z.1) (by omega) | exact absurd z.2 (by assumption))⟩)]; have pw := (RB_pu (x := va) r_RB r_QI (s := v2) (by omega) (by omega) (Re_y p2_m1 (by omega)).2.1 (i := ix) (by omega) (by omega) (by assumption) (fun z => by first | exact absurd (Int32.lt_iff_toInt_lt.mp z.1) (by omega) | exact absurd z.2 (by assumption)) (Re_y p2_m1 (by omega)).2.2.1); rw [Ci_eq r_QI pw.2.2]; exact I_w r_QI pw.2.2; done) | (exfalso; omega; done) | (exfalso; contradiction; done)) (show qMG (m 94 58) (m 106) (m 115) (m 94 57) (m 94 56) (m 99) (m 100) (xPu aa ob ix va) from by first | (unfold xPu; rw [qIf_y (show zRq aa ob ∧ zHw aa ob ix ∧ ¬ zIr aa ob ix from ⟨(Re_y p2_m1 (by omega)).2.2.2, (Hw_y r_RB p2_m1 (by omega)).mpr ⟨by omega, by omega⟩, fun w => ((Ir_y r_RB p2_m1 (by omega) (by omega) (by omega)).mp w).elim (fun z => absurd z (by assumption)) (fun z => by first | exact absurd (Int32.lt_iff_toInt_lt.mp z.1) (by omega) | exact absurd z.2 (by assumption))⟩)]; have pw := (RB_pu (x := va) r_RB r_QI (s := v2) (by omega) (by omega) (Re_y p2_m1 (by omega)).2.1 (i := ix) (by omega) (by omega) (by assumption) (fun z => by first | exact absurd (Int32.lt_iff_toInt_lt.mp z.1) (by omega) | exact absurd z.2 (by assumption)) (Re_y p2_m1 (by omega)).2.2.1); exact fun z => ⟨by rw [Ci_eq r_QI pw.2.2]; exact MQ_71 (r_MG z).1, MI_pu (r_MG z).2 r_QI pw.2.2 pw.2.1⟩; done) | (exfalso; omega; done) | (exfalso; contradiction; done)) (show (xPu aa ob ix va) 87 8 = (m 94 58) from by first | (unfold xPu; rw [qIf_y (show zRq aa ob ∧ zHw aa ob ix ∧ ¬ zIr aa ob ix from ⟨(Re_y p2_m1 (by omega)).2.2.2, (Hw_y r_RB p2_m1 (by omega)).mpr ⟨by omega, by omega⟩, fun w => ((Ir_y r_RB p2_m1 (by omega) (by omega) (by omega)).mp w).elim (fun z => absurd z (by assumption)) (fun z => by first | exact absurd (Int32.lt_iff_toInt_lt.mp z.1) (by omega) | exact absurd z.2 (by assumption))⟩)]; have pw := (RB_pu (x := va) r_RB r_QI (s := v2) (by omega) (by omega) (Re_y p2_m1 (by omega)).2.1 (i := ix) (by omega) (by omega) (by assumption) (fun z => by first | exact absurd (Int32.lt_iff_toInt_lt.mp z.1) (by omega) | exact absurd z.2 (by assumption)) (Re_y p2_m1 (by omega)).2.2.1); rw [Ci_eq r_QI pw.2.2, un (by decide)]; exact r_MK; done) | (exfalso; omega; done) | (exfalso; contradiction; done)) r_WTS
            · skip
              have g43 := i_nle h31
              have hg44 : (0 ≤ v2 ∧ v2.toNatClampNeg < 3100) := i_ix (by omega) (by omega)
              refine ⟨hg44, ?_⟩
              have hg45 : (0 ≤ (m 101 v2.toNatClampNeg) ∧ (m 101 v2.toNatClampNeg).toNatClampNeg < 16) := i_ix (by omega) (by omega)
              refine ⟨hg45, ?_⟩
              have b46 := i_bd (((m 98 (m 101 v2.toNatClampNeg).toNatClampNeg) >>> (ix &&& 31)) &&& (1 : Int32))
              have li47 : (1 : Int32).toInt = 1 := rfl
              refine zd (fun (h48 : (((m 98 (m 101 v2.toNatClampNeg).toNatClampNeg) >>> (ix &&& 31)) &&& (1 : Int32)) = (1 : Int32)) => ?_) (fun (h48 : ¬ (((m 98 (m 101 v2.toNatClampNeg).toNatClampNeg) >>> (ix &&& 31)) &&& (1 : Int32)) = (1 : Int32)) => ?_)
              · skip
                have g49 := i_eq h48
                have hV50 : zV (ma_u (zov wr_245 (ma_u m 94 0 (0 : Int32)) m1) 94 0 (4 : Int32)) := uf_94_0 hV_m1
                exact K ((0 : Int32)) _ (zF_u (zF_zov (zF_u zF_rfl rfl) ws_245_244) rfl) hV50 r_W r_GW r_GU r_OW r_GG (show qRB (m 99) (m 100) (m 98) (m 101) (m 102) (m 103) (m 107) (m 108) (m 109) (m 111) (m 112) (m 113) (m 114) (m 94 55) (m 94 46) (m 94 11) (m 94 12) (m 94 62) (m 94 17) (m 94 9) (xPu aa ob ix va) from by first | (unfold xPu; rw [qIf_n (show ¬ (zRq aa ob ∧ zHw aa ob ix ∧ ¬ zIr aa ob ix) from fun w => Re_n p2_m1 (by omega) w.1)]; exact r_RB; done) | (unfold xPu; rw [qIf_n (show ¬ (zRq aa ob ∧ zHw aa ob ix ∧ ¬ zIr aa ob ix) from fun w => by have w2 := (Hw_y r_RB p2_m1 (by omega)).mp w.2.1; omega)]; exact r_RB; done) | (unfold xPu; rw [qIf_n (show ¬ (zRq aa ob ∧ zHw aa ob ix ∧ ¬ zIr aa ob ix) from fun w => w.2.2 ((Ir_y r_RB p2_m1 (by omega) (by omega) (by omega)).mpr (Or.inl (by assumption))))]; exact r_RB; done) | (unfold xPu; rw [qIf_n (show ¬ (zRq aa ob ∧ zHw aa ob ix ∧ ¬ zIr aa ob ix) from fun w => w.2.2 ((Ir_y r_RB p2_m1 (by omega) (by omega) (by omega)).mpr (Or.inr ⟨Int32.lt_iff_toInt_lt.mpr (by omega), by assumption⟩)))]; exact r_RB; done) | (exfalso; omega; done) | (exfalso; contradiction; done)) (show qI (xPu aa ob ix va) from by first | (unfold xPu; rw [qIf_n (show ¬ (zRq aa ob ∧ zHw aa ob ix ∧ ¬ zIr aa ob ix) from fun w => Re_n p2_m1 (by omega) w.1)]; exact r_QI; done) | (unfold xPu; rw [qIf_n (show ¬ (zRq aa ob ∧ zHw aa ob ix ∧ ¬ zIr aa ob ix) from fun w => by have w2 := (Hw_y r_RB p2_m1 (by omega)).mp w.2.1; omega)]; exact r_QI; done) | (unfold xPu; rw [qIf_n (show ¬ (zRq aa ob ∧ zHw aa ob ix ∧ ¬ zIr aa ob ix) from fun w => w.2.2 ((Ir_y r_RB p2_m1 (by omega) (by omega) (by omega)).mpr (Or.inl (by assumption))))]; exact r_QI; done) | (unfold xPu; rw [qIf_n (show ¬ (zRq aa ob ∧ zHw aa ob ix ∧ ¬ zIr aa ob ix) from fun w => w.2.2 ((Ir_y r_RB p2_m1 (by omega) (by omega) (by omega)).mpr (Or.inr ⟨Int32.lt_iff_toInt_lt.mpr (by omega), by assumption⟩)))]; exact r_QI; done) | (exfalso; omega; done) | (exfalso; contradiction; done)) (show qMG (m 94 58) (m 106) (m 115) (m 94 57) (m 94 56) (m 99) (m 100) (xPu aa ob ix va) from by first | (unfold xPu; rw [qIf_n (show ¬ (zRq aa ob ∧ zHw aa ob ix ∧ ¬ zIr aa ob ix) from fun w => Re_n p2_m1 (by omega) w.1)]; exact r_MG; done) | (unfold xPu; rw [qIf_n (show ¬ (zRq aa ob ∧ zHw aa ob ix ∧ ¬ zIr aa ob ix) from fun w => by have w2 := (Hw_y r_RB p2_m1 (by omega)).mp w.2.1; omega)]; exact r_MG; done) | (unfold xPu; rw [qIf_n (show ¬ (zRq aa ob ∧ zHw aa ob ix ∧ ¬ zIr aa ob ix) from fun w => w.2.2 ((Ir_y r_RB p2_m1 (by omega) (by omega) (by omega)).mpr (Or.inl (by assumption))))]; exact r_MG; done) | (unfold xPu; rw [qIf_n (show ¬ (zRq aa ob ∧ zHw aa ob ix ∧ ¬ zIr aa ob ix) from fun w => w.2.2 ((Ir_y r_RB p2_m1 (by omega) (by omega) (by omega)).mpr (Or.inr ⟨Int32.lt_iff_toInt_lt.mpr (by omega), by assumption⟩)))]; exact r_MG; done) | (exfalso; omega; done) | (exfalso; contradiction; done)) (show (xPu aa ob ix va) 87 8 = (m 94 58) from by first | (unfold xPu; rw [qIf_n (show ¬ (zRq aa ob ∧ zHw aa ob ix ∧ ¬ zIr aa ob ix) from fun w => Re_n p2_m1 (by omega) w.1)]; exact r_MK; done) | (unfold xPu; rw [qIf_n (show ¬ (zRq aa ob ∧ zHw aa ob ix ∧ ¬ zIr aa ob ix) from fun w => by have w2 := (Hw_y r_RB p2_m1 (by omega)).mp w.2.1; omega)]; exact r_MK; done) | (unfold xPu; rw [qIf_n (show ¬ (zRq aa ob ∧ zHw aa ob ix ∧ ¬ zIr aa ob ix) from fun w => w.2.2 ((Ir_y r_RB p2_m1 (by omega) (by omega) (by omega)).mpr (Or.inl (by assumption))))]; exact r_MK; done) | (unfold xPu; rw [qIf_n (show ¬ (zRq aa ob ∧ zHw aa ob ix ∧ ¬ zIr aa ob ix) from fun w => w.2.2 ((Ir_y r_RB p2_m1 (by omega) (by omega) (by omega)).mpr (Or.inr ⟨Int32.lt_iff_toInt_lt.mpr (by omega), by assumption⟩)))]; exact r_MK; done) | (exfalso; omega; done) | (exfalso; contradiction; done)) r_WTS
              · skip
                have g51 := i_ne h48
                have li52 : (60 : Int32).toInt = 60 := rfl
                first | have e53 : (v2 * (60 : Int32)).toInt = v2.toInt * 60 := i_mulk rfl (by omega) (by omega) | have b54 := i_bd (v2 * (60 : Int32))
                first | have e55 : ((v2 * (60 : Int32)) + ix).toInt = (v2 * (60 : Int32)).toInt + ix.toInt := i_add (by omega) (by omega) | have b56 := i_bd ((v2 * (60 : Int32)) + ix)
                have hg57 : (0 ≤ ((v2 * (60 : Int32)) + ix) ∧ ((v2 * (60 : Int32)) + ix).toNatClampNeg < 186000) := i_ix (by omega) (by omega)
                refine ⟨hg57, ?_⟩
                have hg58 : (0 ≤ ((v2 * (60 : Int32)) + ix) ∧ ((v2 * (60 : Int32)) + ix).toNatClampNeg < 186000) := i_ix (by omega) (by omega)
                refine ⟨hg58, ?_⟩
                have hV59 : zV (ma_u (zov wr_245 (ma_u m 94 0 (0 : Int32)) m1) 94 0 (0 : Int32)) := uf_94_0 hV_m1
                have hV60 : zV (ma_u (ma_u (zov wr_245 (ma_u m 94 0 (0 : Int32)) m1) 94 0 (0 : Int32)) 108 ((v2 * (60 : Int32)) + ix).toNatClampNeg va) := ua_108 hV59
                have b61 := i_bd (m 108 ((v2 * (60 : Int32)) + ix).toNatClampNeg)
                exact K ((m 108 ((v2 * (60 : Int32)) + ix).toNatClampNeg)) _ (zF_u (zF_u (zF_zov (zF_u zF_rfl rfl) ws_245_244) rfl) rfl) hV60 (show zW (m 94 7) (m 98) (m 101) (m 102) ((ma_u m 108 ((v2 * (60 : Int32)) + ix).toNatClampNeg va) 108) from by first | (exact W_same r_W (by omega) (fun s2 i2 hs2 hi2 => zrf_put (by omega) (by omega) (by omega) (by omega) (by assumption) (fun z => by first | exact absurd (Int32.lt_iff_toInt_lt.mp z.1) (by omega) | exact absurd z.2 (by assumption)) s2 i2 (by have := (ra_102 hV hs2).2; omega))) | (exfalso; omega; done) | (exfalso; contradiction; done)) r_GW r_GU r_OW r_GG (show qRB (m 99) (m 100) (m 98) (m 101) (m 102) (m 103) (m 107) ((ma_u m 108 ((v2 * (60 : Int32)) + ix).toNatClampNeg va) 108) (m 109) (m 111) (m 112) (m 113) (m 114) (m 94 55) (m 94 46) (m 94 11) (m 94 12) (m 94 62) (m 94 17) (m 94 9) (xPu aa ob ix va) from by first | (unfold xPu; rw [qIf_y (show zRq aa ob ∧ zHw aa ob ix ∧ ¬ zIr aa ob ix from ⟨(Re_y p2_m1 (by omega)).2.2.2, (Hw_y r_RB p2_m1 (by omega)).mpr ⟨by omega, by omega⟩, fun w => ((Ir_y r_RB p2_m1 (by omega) (by omega) (by omega)).mp w).elim (fun z => absurd z (by assumption)) (fun z => by first | exact absurd (Int32.lt_iff_toInt_lt.mp z.1) (by omega) | exact absurd z.2 (by assumption))⟩)]; exact (RB_pu (x := va) r_RB r_QI (s := v2) (by omega) (by omega) (Re_y p2_m1 (by omega)).2.1 (i := ix) (by omega) (by omega) (by assumption) (fun z => by first | exact absurd (Int32.lt_iff_toInt_lt.mp z.1) (by omega) | exact absurd z.2 (by assumption)) (Re_y p2_m1 (by omega)).2.2.1).1; done) | (exfalso; omega; done) | (exfalso; contradiction; done)) (show qI (xPu aa ob ix va) from by first | (unfold xPu; rw [qIf_y (show zRq aa ob ∧ zHw aa ob ix ∧ ¬ zIr aa ob ix from ⟨(Re_y p2_m1 (by omega)).2.2.2, (Hw_y r_RB p2_m1 (by omega)).mpr ⟨by omega, by omega⟩, fun w => ((Ir_y r_RB p2_m1 (by omega) (by omega) (by omega)).mp w).elim (fun z => absurd z (by assumption)) (fun z => by first | exact absurd (Int32.lt_iff_toInt_lt.mp z.1) (by omega) | exact absurd z.2 (by assumption))⟩)]; have pw := (RB_pu (x := va) r_RB r_QI (s := v2) (by omega) (by omega) (Re_y p2_m1 (by omega)).2.1 (i := ix) (by omega) (by omega) (by assumption) (fun z => by first | exact absurd (Int32.lt_iff_toInt_lt.mp z.1) (by omega) | exact absurd z.2 (by assumption)) (Re_y p2_m1 (by omega)).2.2.1); rw [Ci_eq r_QI pw.2.2]; exact I_w r_QI pw.2.2; done) | (exfalso; omega; done) | (exfalso; contradiction; done)) (show qMG (m 94 58) (m 106) (m 115) (m 94 57) (m 94 56) (m 99) (m 100) (xPu aa ob ix va) from by first | (unfold xPu; rw [qIf_y (show zRq aa ob ∧ zHw aa ob ix ∧ ¬ zIr aa ob ix from ⟨(Re_y p2_m1 (by omega)).2.2.2, (Hw_y r_RB p2_m1 (by omega)).mpr ⟨by omega, by omega⟩, fun w => ((Ir_y r_RB p2_m1 (by omega) (by omega) (by omega)).mp w).elim (fun z => absurd z (by assumption)) (fun z => by first | exact absurd (Int32.lt_iff_toInt_lt.mp z.1) (by omega) | exact absurd z.2 (by assumption))⟩)]; have pw := (RB_pu (x := va) r_RB r_QI (s := v2) (by omega) (by omega) (Re_y p2_m1 (by omega)).2.1 (i := ix) (by omega) (by omega) (by assumption) (fun z => by first | exact absurd (Int32.lt_iff_toInt_lt.mp z.1) (by omega) | exact absurd z.2 (by assumption)) (Re_y p2_m1 (by omega)).2.2.1); exact fun z => ⟨by rw [Ci_eq r_QI pw.2.2]; exact MQ_71 (r_MG z).1, MI_pu (r_MG z).2 r_QI pw.2.2 pw.2.1⟩; done) | (exfalso; omega; done) | (exfalso; contradiction; done)) (show (xPu aa ob ix va) 87 8 = (m 94 58) from by first | (unfold xPu; rw [qIf_y (show zRq aa ob ∧ zHw aa ob ix ∧ ¬ zIr aa ob ix from ⟨(Re_y p2_m1 (by omega)).2.2.2, (Hw_y r_RB p2_m1 (by omega)).mpr ⟨by omega, by omega⟩, fun w => ((Ir_y r_RB p2_m1 (by omega) (by omega) (by omega)).mp w).elim (fun z => absurd z (by assumption)) (fun z => by first | exact absurd (Int32.lt_iff_toInt_lt.mp z.1) (by omega) | exact absurd z.2 (by assumption))⟩)]; have pw := (RB_pu (x := va) r_RB r_QI (s := v2) (by omega) (by omega) (Re_y p2_m1 (by omega)).2.1 (i := ix) (by omega) (by omega) (by assumption) (fun z => by first | exact absurd (Int32.lt_iff_toInt_lt.mp z.1) (by omega) | exact absurd z.2 (by assumption)) (Re_y p2_m1 (by omega)).2.2.1); rw [Ci_eq r_QI pw.2.2, un (by decide)]; exact r_MK; done) | (exfalso; omega; done) | (exfalso; contradiction; done)) r_WTS
        · skip
          have g62 := i_nlt h20
          have hV63 : zV (ma_u (zov wr_245 (ma_u m 94 0 (0 : Int32)) m1) 94 0 (3 : Int32)) := uf_94_0 hV_m1
          exact K ((0 : Int32)) _ (zF_u (zF_zov (zF_u zF_rfl rfl) ws_245_244) rfl) hV63 r_W r_GW r_GU r_OW r_GG (show qRB (m 99) (m 100) (m 98) (m 101) (m 102) (m 103) (m 107) (m 108) (m 109) (m 111) (m 112) (m 113) (m 114) (m 94 55) (m 94 46) (m 94 11) (m 94 12) (m 94 62) (m 94 17) (m 94 9) (xPu aa ob ix va) from by first | (unfold xPu; rw [qIf_n (show ¬ (zRq aa ob ∧ zHw aa ob ix ∧ ¬ zIr aa ob ix) from fun w => Re_n p2_m1 (by omega) w.1)]; exact r_RB; done) | (unfold xPu; rw [qIf_n (show ¬ (zRq aa ob ∧ zHw aa ob ix ∧ ¬ zIr aa ob ix) from fun w => by have w2 := (Hw_y r_RB p2_m1 (by omega)).mp w.2.1; omega)]; exact r_RB; done) | (unfold xPu; rw [qIf_n (show ¬ (zRq aa ob ∧ zHw aa ob ix ∧ ¬ zIr aa ob ix) from fun w => w.2.2 ((Ir_y r_RB p2_m1 (by omega) (by omega) (by omega)).mpr (Or.inl (by assumption))))]; exact r_RB; done) | (unfold xPu; rw [qIf_n (show ¬ (zRq aa ob ∧ zHw aa ob ix ∧ ¬ zIr aa ob ix) from fun w => w.2.2 ((Ir_y r_RB p2_m1 (by omega) (by omega) (by omega)).mpr (Or.inr ⟨Int32.lt_iff_toInt_lt.mpr (by omega), by assumption⟩)))]; exact r_RB; done) | (exfalso; omega; done) | (exfalso; contradiction; done)) (show qI (xPu aa ob ix va) from by first | (unfold xPu; rw [qIf_n (show ¬ (zRq aa ob ∧ zHw aa ob ix ∧ ¬ zIr aa ob ix) from fun w => Re_n p2_m1 (by omega) w.1)]; exact r_QI; done) | (unfold xPu; rw [qIf_n (show ¬ (zRq aa ob ∧ zHw aa ob ix ∧ ¬ zIr aa ob ix) from fun w => by have w2 := (Hw_y r_RB p2_m1 (by omega)).mp w.2.1; omega)]; exact r_QI; done) | (unfold xPu; rw [qIf_n (show ¬ (zRq aa ob ∧ zHw aa ob ix ∧ ¬ zIr aa ob ix) from fun w => w.2.2 ((Ir_y r_RB p2_m1 (by omega) (by omega) (by omega)).mpr (Or.inl (by assumption))))]; exact r_QI; done) | (unfold xPu; rw [qIf_n (show ¬ (zRq aa ob ∧ zHw aa ob ix ∧ ¬ zIr aa ob ix) from fun w => w.2.2 ((Ir_y r_RB p2_m1 (by omega) (by omega) (by omega)).mpr (Or.inr ⟨Int32.lt_iff_toInt_lt.mpr (by omega), by assumption⟩)))]; exact r_QI; done) | (exfalso; omega; done) | (exfalso; contradiction; done)) (show qMG (m 94 58) (m 106) (m 115) (m 94 57) (m 94 56) (m 99) (m 100) (xPu aa ob ix va) from by first | (unfold xPu; rw [qIf_n (show ¬ (zRq aa ob ∧ zHw aa ob ix ∧ ¬ zIr aa ob ix) from fun w => Re_n p2_m1 (by omega) w.1)]; exact r_MG; done) | (unfold xPu; rw [qIf_n (show ¬ (zRq aa ob ∧ zHw aa ob ix ∧ ¬ zIr aa ob ix) from fun w => by have w2 := (Hw_y r_RB p2_m1 (by omega)).mp w.2.1; omega)]; exact r_MG; done) | (unfold xPu; rw [qIf_n (show ¬ (zRq aa ob ∧ zHw aa ob ix ∧ ¬ zIr aa ob ix) from fun w => w.2.2 ((Ir_y r_RB p2_m1 (by omega) (by omega) (by omega)).mpr (Or.inl (by assumption))))]; exact r_MG; done) | (unfold xPu; rw [qIf_n (show ¬ (zRq aa ob ∧ zHw aa ob ix ∧ ¬ zIr aa ob ix) from fun w => w.2.2 ((Ir_y r_RB p2_m1 (by omega) (by omega) (by omega)).mpr (Or.inr ⟨Int32.lt_iff_toInt_lt.mpr (by omega), by assumption⟩)))]; exact r_MG; done) | (exfalso; omega; done) | (exfalso; contradiction; done)) (show (xPu aa ob ix va) 87 8 = (m 94 58) from by first | (unfold xPu; rw [qIf_n (show ¬ (zRq aa ob ∧ zHw aa ob ix ∧ ¬ zIr aa ob ix) from fun w => Re_n p2_m1 (by omega) w.1)]; exact r_MK; done) | (unfold xPu; rw [qIf_n (show ¬ (zRq aa ob ∧ zHw aa ob ix ∧ ¬ zIr aa ob ix) from fun w => by have w2 := (Hw_y r_RB p2_m1 (by omega)).mp w.2.1; omega)]; exact r_MK; done) | (unfold xPu; rw [qIf_n (show ¬ (zRq aa ob ∧ zHw aa ob ix ∧ ¬ zIr aa ob ix) from fun w => w.2.2 ((Ir_y r_RB p2_m1 (by omega) (by omega) (by omega)).mpr (Or.inl (by assumption))))]; exact r_MK; done) | (unfold xPu; rw [qIf_n (show ¬ (zRq aa ob ∧ zHw aa ob ix ∧ ¬ zIr aa ob ix) from fun w => w.2.2 ((Ir_y r_RB p2_m1 (by omega) (by omega) (by omega)).mpr (Or.inr ⟨Int32.lt_iff_toInt_lt.mpr (by omega), by assumption⟩)))]; exact r_MK; done) | (exfalso; omega; done) | (exfalso; contradiction; done)) r_WTS
    · skip
      have g64 := i_nle h10
      have hV65 : zV (ma_u (zov wr_245 (ma_u m 94 0 (0 : Int32)) m1) 94 0 (2 : Int32)) := uf_94_0 hV_m1
      exact K ((0 : Int32)) _ (zF_u (zF_zov (zF_u zF_rfl rfl) ws_245_244) rfl) hV65 r_W r_GW r_GU r_OW r_GG (show qRB (m 99) (m 100) (m 98) (m 101) (m 102) (m 103) (m 107) (m 108) (m 109) (m 111) (m 112) (m 113) (m 114) (m 94 55) (m 94 46) (m 94 11) (m 94 12) (m 94 62) (m 94 17) (m 94 9) (xPu aa ob ix va) from by first | (unfold xPu; rw [qIf_n (show ¬ (zRq aa ob ∧ zHw aa ob ix ∧ ¬ zIr aa ob ix) from fun w => Re_n p2_m1 (by omega) w.1)]; exact r_RB; done) | (unfold xPu; rw [qIf_n (show ¬ (zRq aa ob ∧ zHw aa ob ix ∧ ¬ zIr aa ob ix) from fun w => by have w2 := (Hw_y r_RB p2_m1 (by omega)).mp w.2.1; omega)]; exact r_RB; done) | (unfold xPu; rw [qIf_n (show ¬ (zRq aa ob ∧ zHw aa ob ix ∧ ¬ zIr aa ob ix) from fun w => w.2.2 ((Ir_y r_RB p2_m1 (by omega) (by omega) (by omega)).mpr (Or.inl (by assumption))))]; exact r_RB; done) | (unfold xPu; rw [qIf_n (show ¬ (zRq aa ob ∧ zHw aa ob ix ∧ ¬ zIr aa ob ix) from fun w => w.2.2 ((Ir_y r_RB p2_m1 (by omega) (by omega) (by omega)).mpr (Or.inr ⟨Int32.lt_iff_toInt_lt.mpr (by omega), by assumption⟩)))]; exact r_RB; done) | (exfalso; omega; done) | (exfalso; contradiction; done)) (show qI (xPu aa ob ix va) from by first | (unfold xPu; rw [qIf_n (show ¬ (zRq aa ob ∧ zHw aa ob ix ∧ ¬ zIr aa ob ix) from fun w => Re_n p2_m1 (by omega) w.1)]; exact r_QI; done) | (unfold xPu; rw [qIf_n (show ¬ (zRq aa ob ∧ zHw aa ob ix ∧ ¬ zIr aa ob ix) from fun w => by have w2 := (Hw_y r_RB p2_m1 (by omega)).mp w.2.1; omega)]; exact r_QI; done) | (unfold xPu; rw [qIf_n (show ¬ (zRq aa ob ∧ zHw aa ob ix ∧ ¬ zIr aa ob ix) from fun w => w.2.2 ((Ir_y r_RB p2_m1 (by omega) (by omega) (by omega)).mpr (Or.inl (by assumption))))]; exact r_QI; done) | (unfold xPu; rw [qIf_n (show ¬ (zRq aa ob ∧ zHw aa ob ix ∧ ¬ zIr aa ob ix) from fun w => w.2.2 ((Ir_y r_RB p2_m1 (by omega) (by omega) (by omega)).mpr (Or.inr ⟨Int32.lt_iff_toInt_lt.mpr (by omega), by assumption⟩)))]; exact r_QI; done) | (exfalso; omega; done) | (exfalso; contradiction; done)) (show qMG (m 94 58) (m 106) (m 115) (m 94 57) (m 94 56) (m 99) (m 100) (xPu aa ob ix va) from by first | (unfold xPu; rw [qIf_n (show ¬ (zRq aa ob ∧ zHw aa ob ix ∧ ¬ zIr aa ob ix) from fun w => Re_n p2_m1 (by omega) w.1)]; exact r_MG; done) | (unfold xPu; rw [qIf_n (show ¬ (zRq aa ob ∧ zHw aa ob ix ∧ ¬ zIr aa ob ix) from fun w => by have w2 := (Hw_y r_RB p2_m1 (by omega)).mp w.2.1; omega)]; exact r_MG; done) | (unfold xPu; rw [qIf_n (show ¬ (zRq aa ob ∧ zHw aa ob ix ∧ ¬ zIr aa ob ix) from fun w => w.2.2 ((Ir_y r_RB p2_m1 (by omega) (by omega) (by omega)).mpr (Or.inl (by assumption))))]; exact r_MG; done) | (unfold xPu; rw [qIf_n (show ¬ (zRq aa ob ∧ zHw aa ob ix ∧ ¬ zIr aa ob ix) from fun w => w.2.2 ((Ir_y r_RB p2_m1 (by omega) (by omega) (by omega)).mpr (Or.inr ⟨Int32.lt_iff_toInt_lt.mpr (by omega), by assumption⟩)))]; exact r_MG; done) | (exfalso; omega; done) | (exfalso; contradiction; done)) (show (xPu aa ob ix va) 87 8 = (m 94 58) from by first | (unfold xPu; rw [qIf_n (show ¬ (zRq aa ob ∧ zHw aa ob ix ∧ ¬ zIr aa ob ix) from fun w => Re_n p2_m1 (by omega) w.1)]; exact r_MK; done) | (unfold xPu; rw [qIf_n (show ¬ (zRq aa ob ∧ zHw aa ob ix ∧ ¬ zIr aa ob ix) from fun w => by have w2 := (Hw_y r_RB p2_m1 (by omega)).mp w.2.1; omega)]; exact r_MK; done) | (unfold xPu; rw [qIf_n (show ¬ (zRq aa ob ∧ zHw aa ob ix ∧ ¬ zIr aa ob ix) from fun w => w.2.2 ((Ir_y r_RB p2_m1 (by omega) (by omega) (by omega)).mpr (Or.inl (by assumption))))]; exact r_MK; done) | (unfold xPu; rw [qIf_n (show ¬ (zRq aa ob ∧ zHw aa ob ix ∧ ¬ zIr aa ob ix) from fun w => w.2.2 ((Ir_y r_RB p2_m1 (by omega) (by omega) (by omega)).mpr (Or.inr ⟨Int32.lt_iff_toInt_lt.mpr (by omega), by assumption⟩)))]; exact r_MK; done) | (exfalso; omega; done) | (exfalso; contradiction; done)) r_WTS

/-! from 95.h25 -/
/-! the reference by numbers (written by wip/tools/gen18r.py) -/
section QX
variable {aa a b : Nat → Nat → Int32} {us nr kr kd ws at₉ ho wd wi ow rt wk wl kp co gr : Nat → Int32} {wm nu ro fo le ra pi y x z i j ga gm r s v mk o t : Int32} {n k u : Nat} {m m2 : Nat → Nat → Int32}
/-- what is reached is among those to come -/
theorem MS_y (hG : qMG mk co gr ga gm us nr a) (hI : qI a) (h : zRq a x) (e : y = x) : qMS mk a y := fun z h7 => Or.inr (by
  rw [e]
  have q := (hG z).2.2 h7
  exact zM_rch q.1 q.2 ((Rq_ch hI).mp h).2.2.2)
theorem MS_n (e : y = -1) : qMS mk a y := fun _ _ => Or.inl (by rw [e]; decide)
/-- the slot that was asked for, or none -/
def qAs (us nr : Nat → Int32) (a : Nat → Nat → Int32) (o s : Int32) : Prop := (o = -1 ∧ s = -1) ∨ (0 ≤ s.toInt ∧ s.toInt ≤ 3099 ∧ us s.toNatClampNeg ≠ 0 ∧ nr s.toNatClampNeg = o ∧ zRq a o)
theorem As_n (h : o = -1) : qAs us nr a o (-1) := Or.inl ⟨h, rfl⟩
theorem As_y (h : qRe us nr a o s) (h0 : 0 ≤ s.toInt) : qAs us nr a o s := by
  have q := Re_y h h0
  exact Or.inr ⟨h0, q.1, q.2.1, q.2.2.1, q.2.2.2⟩
theorem As_c (h : qAs us nr a o s) : o = -1 ∨ zRq a o := h.imp (fun w => w.1) (fun w => w.2.2.2.2)
theorem As_u (h : qAs us nr a o s) : qU us s := h.elim (fun w => Or.inl (by rw [w.2]; decide)) (fun w => Or.inr ⟨by omega, w.2.2.1⟩)
theorem As_o (h : qAs us nr a o s) : qNo nr s = o := h.elim (fun w => by rw [w.2, w.1]; exact No_n (by decide)) (fun w => by rw [No_y w.1]; exact w.2.2.2.1)
theorem As_s (h : qAs us nr a o s) (hG : qMG mk co gr ga gm us nr a) (hI : qI a) : qMS mk a (qNo nr s) := by
  rw [As_o h]
  rcases h with w | w
  · exact MS_n w.1
  · exact MS_y hG hI w.2.2.2.2 rfl
theorem As_m (h1 : qR1 us nr ws at₉ ho a) (h : qAs us nr a o s) : aNm a o = qNo nr s := by
  rw [← As_o h]
  exact Nm_no h1 (As_u h)
theorem Ro_y (hi : 0 ≤ i.toInt) (h2 : i.toInt ≤ 15) (h : qAs us nr a o s) : xRo a i o = aRt a i (qNo nr s) := by
  rw [As_o h]
  exact qIf_y ⟨⟨hi, h2⟩, As_c h⟩
theorem We_y (h1 : qR1 us nr ws at₉ ho a) (hi : 0 ≤ i.toInt) (h2 : i.toInt ≤ 15) (h : qAs us nr a o s) : xWe a i o = ma_u a 73 i.toNatClampNeg (qNo nr s) := by
  rw [← As_m h1 h]
  exact qIf_y ⟨⟨hi, h2⟩, As_c h⟩
theorem Sl_n {P : Prop} (h : i.toInt < 0 ∨ 16 ≤ i.toInt) : ¬ (zSl i ∧ P) := fun w => by
  have w1 := w.1.1
  have w2 := w.1.2
  omega
theorem Sl_r (h : ¬ o = -1) (hn : ¬ zRq a o) : ¬ (zSl i ∧ (o = -1 ∨ zRq a o)) := fun w => w.2.elim h hn
/-- a hold -/
theorem MI_ho (h : qMI a) (hm : a 87 7 ≠ 1 → zMk a n) : qMI (ma_u a 133 n x) := by
  refine MI_cg h (un (by decide)) (Ed_u (by decide)) (un (by decide)) (by rw [un (by decide)]) (fun h7 u hu => ?_)
  by_cases z : u = n
  · rw [z]
    exact Or.inr (hm h7)
  · refine Or.inl ?_
    unfold zRt zRl zWl zHl xAl at hu ⊢
    rw [un (n := 126) (by decide), un (n := 72) (by decide), un (n := 74) (by decide), un (n := 69) (by decide), xu_o (fun w => z w.2)] at hu
    exact hu
theorem MI_u (h : qMI a) (hn : n = 73 ∨ n = 134) : qMI (ma_u a n k x) := by
  refine MI_cg h (un (by omega)) (Ed_u (by omega)) (un (by omega)) (by rw [un (by omega)]) (fun h7 u hu => Or.inl ?_)
  unfold zRt zRl zWl zHl xAl at hu ⊢
  rw [un (n := 126) (by omega), un (n := 72) (by omega), un (n := 74) (by omega), un (n := 69) (by omega), un (n := 133) (by omega)] at hu
  exact hu
theorem MG_u (h : qMG mk co gr ga gm us nr a) (hn : n = 73 ∨ n = 134) : qMG mk co gr ga gm us nr (ma_u a n k x) := fun z => ⟨MQ_u (h z).1 (by omega), MI_u (h z).2 hn⟩
theorem MG_ho (h : qMG mk co gr ga gm us nr a) (hI : qI a) (hq : zRq a o) : qMG mk co gr ga gm us nr (ma_u a 133 o.toNatClampNeg x) := fun z => ⟨MQ_u (h z).1 (by decide), MI_ho (h z).2 (fun h7 => by
  have q := (h z).2.2 h7
  exact zM_rch q.1 q.2 ((Rq_ch hI).mp hq).2.2.2)⟩
theorem Ho_y (hR : qRB us nr kr kd ws at₉ ho wd wi ow rt wk wl wm nu ro fo le ra pi a) (h : qRe us nr a o v) (hv : 0 ≤ v.toInt) (hb : ¬ y = 0 ∨ ¬ ho v.toNatClampNeg = 0) (e : x = ho v.toNatClampNeg + (if y = 0 then -1 else 1)) : xHo a o y = ma_u a 133 (nr v.toNatClampNeg).toNatClampNeg x := by
  have q := Re_y h hv
  have t := (hR.1.1 _ (tn_lt hv (by omega)) q.2.1).2.2.2.2.1
  rw [q.2.2.1] at t
  rw [q.2.2.1, e, ← t]
  rw [← t] at hb
  exact qIf_y ⟨q.2.2.2, hb⟩
theorem Wi_y (h : qRe us nr a o v) (hv : 0 ≤ v.toInt) : xWi a o = ma_u a 134 (nr v.toNatClampNeg).toNatClampNeg 1 := by
  have q := Re_y h hv
  rw [q.2.2.1]
  exact qIf_y q.2.2.2
theorem Ho_x (hR : qRB us nr kr kd ws at₉ ho wd wi ow rt wk wl wm nu ro fo le ra pi a) (h : qRe us nr a o v) (hv : 0 ≤ v.toInt) (h0 : y = 0) (h1 : ho v.toNatClampNeg = 0) : xHo a o y = a := by
  have q := Re_y h hv
  have t := (hR.1.1 _ (tn_lt hv (by omega)) q.2.1).2.2.2.2.1
  rw [q.2.2.1] at t
  exact qIf_n (fun w => w.2.elim (fun w2 => w2 h0) (fun w2 => w2 (by rw [t]; exact h1)))
/-- link -/
theorem Li_y (hR : qRB us nr kr kd ws at₉ ho wd wi ow rt wk wl wm nu ro fo le ra pi a) (h : qRe us nr a o v) (hv : 0 ≤ v.toInt) (h0 : 0 ≤ i.toInt) (h1 : i.toInt < (ws v.toNatClampNeg).toInt) (hk : kd v.toNatClampNeg = 16 ∨ (kd v.toNatClampNeg < 16 ∧ ((kr (kd v.toNatClampNeg).toNatClampNeg >>> (i &&& 31)) &&& 1) = 1)) (ht : qAs us nr a t s) : xLi a o i t = aNc (aCi a o.toNatClampNeg i (qNo nr s)) (aRef a o.toNatClampNeg i) (qNo nr s) := by
  have q := Re_y h hv
  unfold xLi
  rw [qIf_y ⟨q.2.2.2, As_c ht, (Hw_y hR h hv).mpr ⟨h0, h1⟩, (Ir_y hR h hv h0 h1).mpr hk⟩]
  unfold aLn
  rw [As_m hR.1 ht, As_o ht]
end QX
theorem sp_250r {X : Nat × (Nat → Int32)} {P : Option ma_V → (Nat → Nat → Int32) → Prop} {T : Nat} {aa : Nat→Nat→Int32} {m : Nat → Nat → Int32} (ix : Int32) (ob : Int32) (hV : zV m) (hpre0 : T ≤ 512) (r_W : zW (m 94 7) (m 98) (m 101) (m 102) (m 108)) (r_GW : zGW T (m 94 55) (m 109)) (r_GU : zGU T (m 94 46) (m 99)) (r_OW : zOw (m 99) (m 103) (m 111)) (r_GG : zGG (m 94 58) (m 94 56) (m 94 57) (m 106)) (hpre6 : (m 94 10).toInt = 5) (hpre7 : (m 94 8).toInt = 1) (r_RB : qRB (m 99) (m 100) (m 98) (m 101) (m 102) (m 103) (m 107) (m 108) (m 109) (m 111) (m 112) (m 113) (m 114) (m 94 55) (m 94 46) (m 94 11) (m 94 12) (m 94 62) (m 94 17) (m 94 9) aa) (r_QI : qI aa) (r_MG : qMG (m 94 58) (m 106) (m 115) (m 94 57) (m 94 56) (m 99) (m 100) aa) (r_MK : aa 87 8 = (m 94 58)) (r_WTS : (m 94 45).toInt = sm (zbU (m 99)) (m 102) 3100) (KZ : ∀ v m₉, zV (zov wr_250 m m₉) → (zW (m 94 7) (m 98) (m 101) (m 102) (m 108)) → (zGW T (m₉ 94 55) (m₉ 109)) → (zGU T (m 94 46) (m₉ 99)) → (zOw (m₉ 99) (m 103) (m₉ 111)) → (zGG (m 94 58) (m₉ 94 56) (m 94 57) (m₉ 106)) → (qRB (m₉ 99) (m 100) (m 98) (m 101) (m 102) (m 103) (m 107) (m 108) (m₉ 109) (m₉ 111) (m₉ 112) (m₉ 113) (m₉ 114) (m₉ 94 55) (m 94 46) (m 94 11) (m 94 12) (m 94 62) (m 94 17) (m 94 9) (xRo aa ix ob)) → (qI (xRo aa ix ob)) → (qMG (m 94 58) (m₉ 106) (m₉ 115) (m 94 57) (m₉ 94 56) (m₉ 99) (m 100) (xRo aa ix ob)) → ((xRo aa ix ob) 87 8 = (m 94 58)) → ((m₉ 94 45).toInt = sm (zbU (m₉ 99)) (m 102) 3100) → P (some (.inl v)) (zov wr_250 m m₉)) : zm X 5 111 250 0 [(0, .inr (.inr (some 94))), (1, .inl ix), (2, .inl ob)] m P := by
  have K : ∀ v m₉, zF wr_250 m m₉ → zV m₉ → (zW (m₉ 94 7) (m₉ 98) (m₉ 101) (m₉ 102) (m₉ 108)) → (zGW T (m₉ 94 55) (m₉ 109)) → (zGU T (m₉ 94 46) (m₉ 99)) → (zOw (m₉ 99) (m₉ 103) (m₉ 111)) → (zGG (m₉ 94 58) (m₉ 94 56) (m₉ 94 57) (m₉ 106)) → (qRB (m₉ 99) (m₉ 100) (m₉ 98) (m₉ 101) (m₉ 102) (m₉ 103) (m₉ 107) (m₉ 108) (m₉ 109) (m₉ 111) (m₉ 112) (m₉ 113) (m₉ 114) (m₉ 94 55) (m₉ 94 46) (m₉ 94 11) (m₉ 94 12) (m₉ 94 62) (m₉ 94 17) (m₉ 94 9) (xRo aa ix ob)) → (qI (xRo aa ix ob)) → (qMG (m₉ 94 58) (m₉ 106) (m₉ 115) (m₉ 94 57) (m₉ 94 56) (m₉ 99) (m₉ 100) (xRo aa ix ob)) → ((xRo aa ix ob) 87 8 = (m₉ 94 58)) → ((m₉ 94 45).toInt = sm (zbU (m₉ 99)) (m₉ 102) 3100) → P (some (.inl v)) m₉ := by
    intro v m₉ hf z q0 q1 q2 q3 q4 q5 q6 q7 q8 q9
    have e := zov_eq hf
    rw [e] at z ⊢
    try rw [e] at q0
    try rw [e] at q1
    try rw [e] at q2
    try rw [e] at q3
    try rw [e] at q4
    try rw [e] at q5
    try rw [e] at q6
    try rw [e] at q7
    try rw [e] at q8
    try rw [e] at q9
    exact KZ v m₉ z q0 q1 q2 q3 q4 q5 q6 q7 q8 q9
  refine g_250_0 ix ob ?_
  have f1 : 0 ≤ (m 94 10).toInt ∧ (m 94 10).toInt ≤ 6 := rs_94_10 (m := m) hV
  have f2 : 0 ≤ (m 94 8).toInt ∧ (m 94 8).toInt ≤ 1 := rs_94_8 (m := m) hV
  have b3 := i_bd ix
  have li4 : (0 : Int32).toInt = 0 := rfl
  refine zd (fun (h5 : ix < (0 : Int32)) => ?_) (fun (h5 : ¬ ix < (0 : Int32)) => ?_)
  · skip
    have g6 := i_lt h5
    have hV7 : zV (ma_u m 94 0 (1 : Int32)) := uf_94_0 hV
    exact K ((0 : Int32)) _ (zF_u zF_rfl rfl) hV7 r_W r_GW r_GU r_OW r_GG (show qRB (m 99) (m 100) (m 98) (m 101) (m 102) (m 103) (m 107) (m 108) (m 109) (m 111) (m 112) (m 113) (m 114) (m 94 55) (m 94 46) (m 94 11) (m 94 12) (m 94 62) (m 94 17) (m 94 9) (xRo aa ix ob) from by first | (unfold xRo; rw [qIf_n (Sl_n (Or.inl (by omega)))]; exact r_RB; done) | (unfold xRo; rw [qIf_n (Sl_n (Or.inr (by omega)))]; exact r_RB; done) | (exfalso; omega; done) | (exfalso; contradiction; done)) (show qI (xRo aa ix ob) from by first | (unfold xRo; rw [qIf_n (Sl_n (Or.inl (by omega)))]; exact r_QI; done) | (unfold xRo; rw [qIf_n (Sl_n (Or.inr (by omega)))]; exact r_QI; done) | (exfalso; omega; done) | (exfalso; contradiction; done)) (show qMG (m 94 58) (m 106) (m 115) (m 94 57) (m 94 56) (m 99) (m 100) (xRo aa ix ob) from by first | (unfold xRo; rw [qIf_n (Sl_n (Or.inl (by omega)))]; exact r_MG; done) | (unfold xRo; rw [qIf_n (Sl_n (Or.inr (by omega)))]; exact r_MG; done) | (exfalso; omega; done) | (exfalso; contradiction; done)) (show (xRo aa ix ob) 87 8 = (m 94 58) from by first | (unfold xRo; rw [qIf_n (Sl_n (Or.inl (by omega)))]; exact r_MK; done) | (unfold xRo; rw [qIf_n (Sl_n (Or.inr (by omega)))]; exact r_MK; done) | (exfalso; omega; done) | (exfalso; contradiction; done)) r_WTS
  · skip
    have g8 := i_nlt h5
    have li9 : (16 : Int32).toInt = 16 := rfl
    refine zd (fun (h10 : (16 : Int32) ≤ ix) => ?_) (fun (h10 : ¬ (16 : Int32) ≤ ix) => ?_)
    · skip
      have g11 := i_le h10
      have hV12 : zV (ma_u m 94 0 (1 : Int32)) := uf_94_0 hV
      exact K ((0 : Int32)) _ (zF_u zF_rfl rfl) hV12 r_W r_GW r_GU r_OW r_GG (show qRB (m 99) (m 100) (m 98) (m 101) (m 102) (m 103) (m 107) (m 108) (m 109) (m 111) (m 112) (m 113) (m 114) (m 94 55) (m 94 46) (m 94 11) (m 94 12) (m 94 62) (m 94 17) (m 94 9) (xRo aa ix ob) from by first | (unfold xRo; rw [qIf_n (Sl_n (Or.inl (by omega)))]; exact r_RB; done) | (unfold xRo; rw [qIf_n (Sl_n (Or.inr (by omega)))]; exact r_RB; done) | (exfalso; omega; done) | (exfalso; contradiction; done)) (show qI (xRo aa ix ob) from by first | (unfold xRo; rw [qIf_n (Sl_n (Or.inl (by omega)))]; exact r_QI; done) | (unfold xRo; rw [qIf_n (Sl_n (Or.inr (by omega)))]; exact r_QI; done) | (exfalso; omega; done) | (exfalso; contradiction; done)) (show qMG (m 94 58) (m 106) (m 115) (m 94 57) (m 94 56) (m 99) (m 100) (xRo aa ix ob) from by first | (unfold xRo; rw [qIf_n (Sl_n (Or.inl (by omega)))]; exact r_MG; done) | (unfold xRo; rw [qIf_n (Sl_n (Or.inr (by omega)))]; exact r_MG; done) | (exfalso; omega; done) | (exfalso; contradiction; done)) (show (xRo aa ix ob) 87 8 = (m 94 58) from by first | (unfold xRo; rw [qIf_n (Sl_n (Or.inl (by omega)))]; exact r_MK; done) | (unfold xRo; rw [qIf_n (Sl_n (Or.inr (by omega)))]; exact r_MK; done) | (exfalso; omega; done) | (exfalso; contradiction; done)) r_WTS
    · skip
      have g13 := i_nle h10
      refine zd (fun (h14 : (m 94 8) = (0 : Int32)) => ?_) (fun (h14 : ¬ (m 94 8) = (0 : Int32)) => ?_)
      · skip
        have g15 := i_eq h14
        exfalso; omega
      · skip
        have g16 := i_ne h14
        have b17 := i_bd ob
        have li18 : (-1 : Int32).toInt = -1 := rfl
        refine zd (fun (h19 : ob = (-1 : Int32)) => ?_) (fun (h19 : ¬ ob = (-1 : Int32)) => ?_)
        · skip
          have g20 := i_eq h19
          refine zd (fun (h21 : ob = (-1 : Int32)) => ?_) (fun (h21 : ¬ ob = (-1 : Int32)) => ?_)
          · skip
            have g22 := i_eq h21
            have hg23 : (0 ≤ ix ∧ ix.toNatClampNeg < 16) := i_ix (by omega) (by omega)
            refine ⟨hg23, ?_⟩
            first | have f24 : -1 ≤ (m 112 ix.toNatClampNeg).toInt ∧ (m 112 ix.toNatClampNeg).toInt ≤ 3099 := ra_112 (m := m) hV (k := ix.toNatClampNeg) (i_ix (n := 16) (by omega) (by omega)).2 | have b25 := i_bd (m 112 ix.toNatClampNeg)
            refine zd (fun (h26 : (0 : Int32) ≤ (m 112 ix.toNatClampNeg)) => ?_) (fun (h26 : ¬ (0 : Int32) ≤ (m 112 ix.toNatClampNeg)) => ?_)
            · skip
              have g27 := i_le h26
              have hg28 : (0 ≤ (m 112 ix.toNatClampNeg) ∧ (m 112 ix.toNatClampNeg).toNatClampNeg < 3100) := i_ix (by omega) (by omega)
              refine ⟨hg28, ?_⟩
              have hV29 : zV (ma_u m 94 0 (0 : Int32)) := uf_94_0 hV
              have hV30 : zV (ma_u (ma_u m 94 0 (0 : Int32)) 94 0 (0 : Int32)) := uf_94_0 hV29
              refine sp_238r (aa := aa) (ix) ((-1 : Int32)) hV30 (by omega) (by omega) (by omega) (by omega) (show (m 94 10).toInt = 5 from by omega) r_W r_GW r_GU r_OW r_GG r_RB r_QI r_MG r_MK r_WTS (show qU (m 99) (-1 : Int32) from by first | (exact As_u (As_n (us := (m 99)) (nr := (m 100)) (a := aa) (o := ob) (by assumption))) | (assumption; done) | (exact ow5.1) | (exact ow3.1) | (exfalso; omega; done) | (exfalso; contradiction; done)) (show qMS (m 94 58) aa (qNo (m 100) (-1 : Int32)) from by first | (exact As_s (As_n (us := (m 99)) (nr := (m 100)) (a := aa) (o := ob) (by assumption)) r_MG r_QI) | (exfalso; omega; done) | (exfalso; contradiction; done)) (fun m11 hV_m11 p0_m11 p1_m11 p2_m11 p3_m11 p4_m11 p5_m11 p6_m11 p7_m11 p8_m11 => zmv_n ?_)
              have p0_m11 : zGW T (m11 94 55) (m11 109) := p0_m11
              have p1_m11 : zGU T (m 94 46) (m11 99) := p1_m11
              have p2_m11 : zOw (m11 99) (m 103) (m11 111) := p2_m11
              have p3_m11 : zGG (m 94 58) (m11 94 56) (m 94 57) (m11 106) := p3_m11
              have p4_m11 : qRB (m11 99) (m 100) (m 98) (m 101) (m 102) (m 103) (m 107) (m 108) (m11 109) (m11 111) (m11 112) (m11 113) (m11 114) (m11 94 55) (m 94 46) (m 94 11) (m 94 12) (m 94 62) (m 94 17) (m 94 9) (aRt aa ix (qNo (m 100) (-1 : Int32))) := p4_m11
              have p5_m11 : qI (aRt aa ix (qNo (m 100) (-1 : Int32))) := p5_m11
              have p6_m11 : qMG (m 94 58) (m11 106) (m11 115) (m 94 57) (m11 94 56) (m11 99) (m 100) (aRt aa ix (qNo (m 100) (-1 : Int32))) := p6_m11
              have p7_m11 : (aRt aa ix (qNo (m 100) (-1 : Int32))) 87 8 = (m 94 58) := p7_m11
              have p8_m11 : (m11 94 45).toInt = sm (zbU (m11 99)) (m 102) 3100 := p8_m11
              first | have f31 : 0 ≤ (m 100 (m 112 ix.toNatClampNeg).toNatClampNeg).toInt ∧ (m 100 (m 112 ix.toNatClampNeg).toNatClampNeg).toInt ≤ 100000 := ra_100 (m := m) hV (k := (m 112 ix.toNatClampNeg).toNatClampNeg) (i_ix (n := 3100) (by omega) (by omega)).2 | have b32 := i_bd (m 100 (m 112 ix.toNatClampNeg).toNatClampNeg)
              exact K ((m 100 (m 112 ix.toNatClampNeg).toNatClampNeg)) _ (zF_zov (zF_u (zF_u zF_rfl rfl) rfl) ws_238_250) hV_m11 r_W p0_m11 p1_m11 p2_m11 p3_m11 (show qRB (m11 99) (m 100) (m 98) (m 101) (m 102) (m 103) (m 107) (m 108) (m11 109) (m11 111) (m11 112) (m11 113) (m11 114) (m11 94 55) (m 94 46) (m 94 11) (m 94 12) (m 94 62) (m 94 17) (m 94 9) (xRo aa ix ob) from by first | (rw [Ro_y (by omega) (by omega) (As_n (us := (m 99)) (nr := (m 100)) (a := aa) (o := ob) (by assumption))]; exact p4_m11; done) | (exfalso; omega; done) | (exfalso; contradiction; done)) (show qI (xRo aa ix ob) from by first | (rw [Ro_y (by omega) (by omega) (As_n (us := (m 99)) (nr := (m 100)) (a := aa) (o := ob) (by assumption))]; exact p5_m11; done) | (exfalso; omega; done) | (exfalso; contradiction; done)) (show qMG (m 94 58) (m11 106) (m11 115) (m 94 57) (m11 94 56) (m11 99) (m 100) (xRo aa ix ob) from by first | (rw [Ro_y (by omega) (by omega) (As_n (us := (m 99)) (nr := (m 100)) (a := aa) (o := ob) (by assumption))]; exact p6_m11; done) | (exfalso; omega; done) | (exfalso; contradiction; done)) (show (xRo aa ix ob) 87 8 = (m 94 58) from by first | (rw [Ro_y (by omega) (by omega) (As_n (us := (m 99)) (nr := (m 100)) (a := aa) (o := ob) (by assumption))]; exact p7_m11; done) | (exfalso; omega; done) | (exfalso; contradiction; done)) p8_m11
            · skip
              have g33 := i_nle h26
              have hV34 : zV (ma_u m 94 0 (0 : Int32)) := uf_94_0 hV
              have hV35 : zV (ma_u (ma_u m 94 0 (0 : Int32)) 94 0 (0 : Int32)) := uf_94_0 hV34
              refine sp_238r (aa := aa) (ix) ((-1 : Int32)) hV35 (by omega) (by omega) (by omega) (by omega) (show (m 94 10).toInt = 5 from by omega) r_W r_GW r_GU r_OW r_GG r_RB r_QI r_MG r_MK r_WTS (show qU (m 99) (-1 : Int32) from by first | (exact As_u (As_n (us := (m 99)) (nr := (m 100)) (a := aa) (o := ob) (by assumption))) | (assumption; done) | (exact ow5.1) | (exact ow3.1) | (exfalso; omega; done) | (exfalso; contradiction; done)) (show qMS (m 94 58) aa (qNo (m 100) (-1 : Int32)) from by first | (exact As_s (As_n (us := (m 99)) (nr := (m 100)) (a := aa) (o := ob) (by assumption)) r_MG r_QI) | (exfalso; omega; done) | (exfalso; contradiction; done)) (fun m13 hV_m13 p0_m13 p1_m13 p2_m13 p3_m13 p4_m13 p5_m13 p6_m13 p7_m13 p8_m13 => zmv_n ?_)
              have p0_m13 : zGW T (m13 94 55) (m13 109) := p0_m13
              have p1_m13 : zGU T (m 94 46) (m13 99) := p1_m13
              have p2_m13 : zOw (m13 99) (m 103) (m13 111) := p2_m13
              have p3_m13 : zGG (m 94 58) (m13 94 56) (m 94 57) (m13 106) := p3_m13
              have p4_m13 : qRB (m13 99) (m 100) (m 98) (m 101) (m 102) (m 103) (m 107) (m 108) (m13 109) (m13 111) (m13 112) (m13 113) (m13 114) (m13 94 55) (m 94 46) (m 94 11) (m 94 12) (m 94 62) (m 94 17) (m 94 9) (aRt aa ix (qNo (m 100) (-1 : Int32))) := p4_m13
              have p5_m13 : qI (aRt aa ix (qNo (m 100) (-1 : Int32))) := p5_m13
              have p6_m13 : qMG (m 94 58) (m13 106) (m13 115) (m 94 57) (m13 94 56) (m13 99) (m 100) (aRt aa ix (qNo (m 100) (-1 : Int32))) := p6_m13
              have p7_m13 : (aRt aa ix (qNo (m 100) (-1 : Int32))) 87 8 = (m 94 58) := p7_m13
              have p8_m13 : (m13 94 45).toInt = sm (zbU (m13 99)) (m 102) 3100 := p8_m13
              exact K ((-1 : Int32)) _ (zF_zov (zF_u (zF_u zF_rfl rfl) rfl) ws_238_250) hV_m13 r_W p0_m13 p1_m13 p2_m13 p3_m13 (show qRB (m13 99) (m 100) (m 98) (m 101) (m 102) (m 103) (m 107) (m 108) (m13 109) (m13 111) (m13 112) (m13 113) (m13 114) (m13 94 55) (m 94 46) (m 94 11) (m 94 12) (m 94 62) (m 94 17) (m 94 9) (xRo aa ix ob) from by first | (rw [Ro_y (by omega) (by omega) (As_n (us := (m 99)) (nr := (m 100)) (a := aa) (o := ob) (by assumption))]; exact p4_m13; done) | (exfalso; omega; done) | (exfalso; contradiction; done)) (show qI (xRo aa ix ob) from by first | (rw [Ro_y (by omega) (by omega) (As_n (us := (m 99)) (nr := (m 100)) (a := aa) (o := ob) (by assumption))]; exact p5_m13; done) | (exfalso; omega; done) | (exfalso; contradiction; done)) (show qMG (m 94 58) (m13 106) (m13 115) (m 94 57) (m13 94 56) (m13 99) (m 100) (xRo aa ix ob) from by first | (rw [Ro_y (by omega) (by omega) (As_n (us := (m 99)) (nr := (m 100)) (a := aa) (o := ob) (by assumption))]; exact p6_m13; done) | (exfalso; omega; done) | (exfalso; contradiction; done)) (show (xRo aa ix ob) 87 8 = (m 94 58) from by first | (rw [Ro_y (by omega) (by omega) (As_n (us := (m 99)) (nr := (m 100)) (a := aa) (o := ob) (by assumption))]; exact p7_m13; done) | (exfalso; omega; done) | (exfalso; contradiction; done)) p8_m13
          · skip
            have g36 := i_ne h21
            have hV37 : zV (ma_u m 94 0 (0 : Int32)) := uf_94_0 hV
            have hV38 : zV (ma_u (ma_u m 94 0 (0 : Int32)) 94 0 (3 : Int32)) := uf_94_0 hV37
            exact K ((0 : Int32)) _ (zF_u (zF_u zF_rfl rfl) rfl) hV38 r_W r_GW r_GU r_OW r_GG (show qRB (m 99) (m 100) (m 98) (m 101) (m 102) (m 103) (m 107) (m 108) (m 109) (m 111) (m 112) (m 113) (m 114) (m 94 55) (m 94 46) (m 94 11) (m 94 12) (m 94 62) (m 94 17) (m 94 9) (xRo aa ix ob) from by first | (unfold xRo; rw [qIf_n (Sl_n (Or.inl (by omega)))]; exact r_RB; done) | (unfold xRo; rw [qIf_n (Sl_n (Or.inr (by omega)))]; exact r_RB; done) | (exfalso; omega; done) | (exfalso; contradiction; done)) (show qI (xRo aa ix ob) from by first | (unfold xRo; rw [qIf_n (Sl_n (Or.inl (by omega)))]; exact r_QI; done) | (unfold xRo; rw [qIf_n (Sl_n (Or.inr (by omega)))]; exact r_QI; done) | (exfalso; omega; done) | (exfalso; contradiction; done)) (show qMG (m 94 58) (m 106) (m 115) (m 94 57) (m 94 56) (m 99) (m 100) (xRo aa ix ob) from by first | (unfold xRo; rw [qIf_n (Sl_n (Or.inl (by omega)))]; exact r_MG; done) | (unfold xRo; rw [qIf_n (Sl_n (Or.inr (by omega)))]; exact r_MG; done) | (exfalso; omega; done) | (exfalso; contradiction; done)) (show (xRo aa ix ob) 87 8 = (m 94 58) from by first | (unfold xRo; rw [qIf_n (Sl_n (Or.inl (by omega)))]; exact r_MK; done) | (unfold xRo; rw [qIf_n (Sl_n (Or.inr (by omega)))]; exact r_MK; done) | (exfalso; omega; done) | (exfalso; contradiction; done)) r_WTS
        · skip
          have g39 := i_ne h19
          have hV40 : zV (ma_u m 94 0 (0 : Int32)) := uf_94_0 hV
          refine sp_245r (aa := aa) (ob) hV40 r_W r_RB r_QI (fun v2 m1 hV_m1 p0_m1 p1_m1 p2_m1 => zmi_n ?_)
          have p0_m1 : -1 ≤ v2.toInt ∧ v2.toInt ≤ 3099 := p0_m1
          have p1_m1 : v2.toInt < 0 ∨ (m 99) v2.toNatClampNeg ≠ 0 := p1_m1
          have p2_m1 : qRe (m 99) (m 100) aa ob v2 := p2_m1
          refine zd (fun (h41 : ob = (-1 : Int32)) => ?_) (fun (h41 : ¬ ob = (-1 : Int32)) => ?_)
          · skip
            have g42 := i_eq h41
            have hg43 : (0 ≤ ix ∧ ix.toNatClampNeg < 16) := i_ix (by omega) (by omega)
            refine ⟨hg43, ?_⟩
            first | have f44 : -1 ≤ (m 112 ix.toNatClampNeg).toInt ∧ (m 112 ix.toNatClampNeg).toInt ≤ 3099 := ra_112 (m := m) hV (k := ix.toNatClampNeg) (i_ix (n := 16) (by omega) (by omega)).2 | have b45 := i_bd (m 112 ix.toNatClampNeg)
            refine zd (fun (h46 : (0 : Int32) ≤ (m 112 ix.toNatClampNeg)) => ?_) (fun (h46 : ¬ (0 : Int32) ≤ (m 112 ix.toNatClampNeg)) => ?_)
            · skip
              have g47 := i_le h46
              have hg48 : (0 ≤ (m 112 ix.toNatClampNeg) ∧ (m 112 ix.toNatClampNeg).toNatClampNeg < 3100) := i_ix (by omega) (by omega)
              refine ⟨hg48, ?_⟩
              have b49 := i_bd v2
              have hV50 : zV (ma_u (zov wr_245 (ma_u m 94 0 (0 : Int32)) m1) 94 0 (0 : Int32)) := uf_94_0 hV_m1
              refine sp_238r (aa := aa) (ix) (v2) hV50 (by omega) (by omega) (by omega) (by omega) (show (m 94 10).toInt = 5 from by omega) r_W r_GW r_GU r_OW r_GG r_RB r_QI r_MG r_MK r_WTS (show qU (m 99) v2 from by first | (exact As_u (As_y p2_m1 (by omega))) | (assumption; done) | (exact ow5.1) | (exact ow3.1) | (exfalso; omega; done) | (exfalso; contradiction; done)) (show qMS (m 94 58) aa (qNo (m 100) v2) from by first | (exact As_s (As_y p2_m1 (by omega)) r_MG r_QI) | (exfalso; omega; done) | (exfalso; contradiction; done)) (fun m3 hV_m3 p0_m3 p1_m3 p2_m3 p3_m3 p4_m3 p5_m3 p6_m3 p7_m3 p8_m3 => zmv_n ?_)
              have p0_m3 : zGW T (m3 94 55) (m3 109) := p0_m3
              have p1_m3 : zGU T (m 94 46) (m3 99) := p1_m3
              have p2_m3 : zOw (m3 99) (m 103) (m3 111) := p2_m3
              have p3_m3 : zGG (m 94 58) (m3 94 56) (m 94 57) (m3 106) := p3_m3
              have p4_m3 : qRB (m3 99) (m 100) (m 98) (m 101) (m 102) (m 103) (m 107) (m 108) (m3 109) (m3 111) (m3 112) (m3 113) (m3 114) (m3 94 55) (m 94 46) (m 94 11) (m 94 12) (m 94 62) (m 94 17) (m 94 9) (aRt aa ix (qNo (m 100) v2)) := p4_m3
              have p5_m3 : qI (aRt aa ix (qNo (m 100) v2)) := p5_m3
              have p6_m3 : qMG (m 94 58) (m3 106) (m3 115) (m 94 57) (m3 94 56) (m3 99) (m 100) (aRt aa ix (qNo (m 100) v2)) := p6_m3
              have p7_m3 : (aRt aa ix (qNo (m 100) v2)) 87 8 = (m 94 58) := p7_m3
              have p8_m3 : (m3 94 45).toInt = sm (zbU (m3 99)) (m 102) 3100 := p8_m3
              first | have f51 : 0 ≤ (m 100 (m 112 ix.toNatClampNeg).toNatClampNeg).toInt ∧ (m 100 (m 112 ix.toNatClampNeg).toNatClampNeg).toInt ≤ 100000 := ra_100 (m := m) hV (k := (m 112 ix.toNatClampNeg).toNatClampNeg) (i_ix (n := 3100) (by omega) (by omega)).2 | have b52 := i_bd (m 100 (m 112 ix.toNatClampNeg).toNatClampNeg)
              exact K ((m 100 (m 112 ix.toNatClampNeg).toNatClampNeg)) _ (zF_zov (zF_u (zF_zov (zF_u zF_rfl rfl) ws_245_250) rfl) ws_238_250) hV_m3 r_W p0_m3 p1_m3 p2_m3 p3_m3 (show qRB (m3 99) (m 100) (m 98) (m 101) (m 102) (m 103) (m 107) (m 108) (m3 109) (m3 111) (m3 112) (m3 113) (m3 114) (m3 94 55) (m 94 46) (m 94 11) (m 94 12) (m 94 62) (m 94 17) (m 94 9) (xRo aa ix ob) from by first | (rw [Ro_y (by omega) (by omega) (As_y p2_m1 (by omega))]; exact p4_m3; done) | (exfalso; omega; done) | (exfalso; contradiction; done)) (show qI (xRo aa ix ob) from by first | (rw [Ro_y (by omega) (by omega) (As_y p2_m1 (by omega))]; exact p5_m3; done) | (exfalso; omega; done) | (exfalso; contradiction; done)) (show qMG (m 94 58) (m3 106) (m3 115) (m 94 57) (m3 94 56) (m3 99) (m 100) (xRo aa ix ob) from by first | (rw [Ro_y (by omega) (by omega) (As_y p2_m1 (by omega))]; exact p6_m3; done) | (exfalso; omega; done) | (exfalso; contradiction; done)) (show (xRo aa ix ob) 87 8 = (m 94 58) from by first | (rw [Ro_y (by omega) (by omega) (As_y p2_m1 (by omega))]; exact p7_m3; done) | (exfalso; omega; done) | (exfalso; contradiction; done)) p8_m3
            · skip
              have g53 := i_nle h46
              have b54 := i_bd v2
              have hV55 : zV (ma_u (zov wr_245 (ma_u m 94 0 (0 : Int32)) m1) 94 0 (0 : Int32)) := uf_94_0 hV_m1
              refine sp_238r (aa := aa) (ix) (v2) hV55 (by omega) (by omega) (by omega) (by omega) (show (m 94 10).toInt = 5 from by omega) r_W r_GW r_GU r_OW r_GG r_RB r_QI r_MG r_MK r_WTS (show qU (m 99) v2 from by first | (exact As_u (As_y p2_m1 (by omega))) | (assumption; done) | (exact ow5.1) | (exact ow3.1) | (exfalso; omega; done) | (exfalso; contradiction; done)) (show qMS (m 94 58) aa (qNo (m 100) v2) from by first | (exact As_s (As_y p2_m1 (by omega)) r_MG r_QI) | (exfalso; omega; done) | (exfalso; contradiction; done)) (fun m5 hV_m5 p0_m5 p1_m5 p2_m5 p3_m5 p4_m5 p5_m5 p6_m5 p7_m5 p8_m5 => zmv_n ?_)
              have p0_m5 : zGW T (m5 94 55) (m5 109) := p0_m5
              have p1_m5 : zGU T (m 94 46) (m5 99) := p1_m5
              have p2_m5 : zOw (m5 99) (m 103) (m5 111) := p2_m5
              have p3_m5 : zGG (m 94 58) (m5 94 56) (m 94 57) (m5 106) := p3_m5
              have p4_m5 : qRB (m5 99) (m 100) (m 98) (m 101) (m 102) (m 103) (m 107) (m 108) (m5 109) (m5 111) (m5 112) (m5 113) (m5 114) (m5 94 55) (m 94 46) (m 94 11) (m 94 12) (m 94 62) (m 94 17) (m 94 9) (aRt aa ix (qNo (m 100) v2)) := p4_m5
              have p5_m5 : qI (aRt aa ix (qNo (m 100) v2)) := p5_m5
              have p6_m5 : qMG (m 94 58) (m5 106) (m5 115) (m 94 57) (m5 94 56) (m5 99) (m 100) (aRt aa ix (qNo (m 100) v2)) := p6_m5
              have p7_m5 : (aRt aa ix (qNo (m 100) v2)) 87 8 = (m 94 58) := p7_m5
              have p8_m5 : (m5 94 45).toInt = sm (zbU (m5 99)) (m 102) 3100 := p8_m5
              exact K ((-1 : Int32)) _ (zF_zov (zF_u (zF_zov (zF_u zF_rfl rfl) ws_245_250) rfl) ws_238_250) hV_m5 r_W p0_m5 p1_m5 p2_m5 p3_m5 (show qRB (m5 99) (m 100) (m 98) (m 101) (m 102) (m 103) (m 107) (m 108) (m5 109) (m5 111) (m5 112) (m5 113) (m5 114) (m5 94 55) (m 94 46) (m 94 11) (m 94 12) (m 94 62) (m 94 17) (m 94 9) (xRo aa ix ob) from by first | (rw [Ro_y (by omega) (by omega) (As_y p2_m1 (by omega))]; exact p4_m5; done) | (exfalso; omega; done) | (exfalso; contradiction; done)) (show qI (xRo aa ix ob) from by first | (rw [Ro_y (by omega) (by omega) (As_y p2_m1 (by omega))]; exact p5_m5; done) | (exfalso; omega; done) | (exfalso; contradiction; done)) (show qMG (m 94 58) (m5 106) (m5 115) (m 94 57) (m5 94 56) (m5 99) (m 100) (xRo aa ix ob) from by first | (rw [Ro_y (by omega) (by omega) (As_y p2_m1 (by omega))]; exact p6_m5; done) | (exfalso; omega; done) | (exfalso; contradiction; done)) (show (xRo aa ix ob) 87 8 = (m 94 58) from by first | (rw [Ro_y (by omega) (by omega) (As_y p2_m1 (by omega))]; exact p7_m5; done) | (exfalso; omega; done) | (exfalso; contradiction; done)) p8_m5
          · skip
            have g56 := i_ne h41
            have b57 := i_bd v2
            refine zd (fun (h58 : (0 : Int32) ≤ v2) => ?_) (fun (h58 : ¬ (0 : Int32) ≤ v2) => ?_)
            · skip
              have g59 := i_le h58
              have hg60 : (0 ≤ ix ∧ ix.toNatClampNeg < 16) := i_ix (by omega) (by omega)
              refine ⟨hg60, ?_⟩
              first | have f61 : -1 ≤ (m 112 ix.toNatClampNeg).toInt ∧ (m 112 ix.toNatClampNeg).toInt ≤ 3099 := ra_112 (m := m) hV (k := ix.toNatClampNeg) (i_ix (n := 16) (by omega) (by omega)).2 | have b62 := i_bd (m 112 ix.toNatClampNeg)
              refine zd (fun (h63 : (0 : Int32) ≤ (m 112 ix.toNatClampNeg)) => ?_) (fun (h63 : ¬ (0 : Int32) ≤ (m 112 ix.toNatClampNeg)) => ?_)
              · skip
                have g64 := i_le h63
                have hg65 : (0 ≤ (m 112 ix.toNatClampNeg) ∧ (m 112 ix.toNatClampNeg).toNatClampNeg < 3100) := i_ix (by omega) (by omega)
                refine ⟨hg65, ?_⟩
                have hV66 : zV (ma_u (zov wr_245 (ma_u m 94 0 (0 : Int32)) m1) 94 0 (0 : Int32)) := uf_94_0 hV_m1
                refine sp_238r (aa := aa) (ix) (v2) hV66 (by omega) (by omega) (by omega) (by omega) (show (m 94 10).toInt = 5 from by omega) r_W r_GW r_GU r_OW r_GG r_RB r_QI r_MG r_MK r_WTS (show qU (m 99) v2 from by first | (exact As_u (As_y p2_m1 (by omega))) | (assumption; done) | (exact ow5.1) | (exact ow3.1) | (exfalso; omega; done) | (exfalso; contradiction; done)) (show qMS (m 94 58) aa (qNo (m 100) v2) from by first | (exact As_s (As_y p2_m1 (by omega)) r_MG r_QI) | (exfalso; omega; done) | (exfalso; contradiction; done)) (fun m7 hV_m7 p0_m7 p1_m7 p2_m7 p3_m7 p4_m7 p5_m7 p6_m7 p7_m7 p8_m7 => zmv_n ?_)
                have p0_m7 : zGW T (m7 94 55) (m7 109) := p0_m7
                have p1_m7 : zGU T (m 94 46) (m7 99) := p1_m7
                have p2_m7 : zOw (m7 99) (m 103) (m7 111) := p2_m7
                have p3_m7 : zGG (m 94 58) (m7 94 56) (m 94 57) (m7 106) := p3_m7
                have p4_m7 : qRB (m7 99) (m 100) (m 98) (m 101) (m 102) (m 103) (m 107) (m 108) (m7 109) (m7 111) (m7 112) (m7 113) (m7 114) (m7 94 55) (m 94 46) (m 94 11) (m 94 12) (m 94 62) (m 94 17) (m 94 9) (aRt aa ix (qNo (m 100) v2)) := p4_m7
                have p5_m7 : qI (aRt aa ix (qNo (m 100) v2)) := p5_m7
                have p6_m7 : qMG (m 94 58) (m7 106) (m7 115) (m 94 57) (m7 94 56) (m7 99) (m 100) (aRt aa ix (qNo (m 100) v2)) := p6_m7
                have p7_m7 : (aRt aa ix (qNo (m 100) v2)) 87 8 = (m 94 58) := p7_m7
                have p8_m7 : (m7 94 45).toInt = sm (zbU (m7 99)) (m 102) 3100 := p8_m7
                first | have f67 : 0 ≤ (m 100 (m 112 ix.toNatClampNeg).toNatClampNeg).toInt ∧ (m 100 (m 112 ix.toNatClampNeg).toNatClampNeg).toInt ≤ 100000 := ra_100 (m := m) hV (k := (m 112 ix.toNatClampNeg).toNatClampNeg) (i_ix (n := 3100) (by omega) (by omega)).2 | have b68 := i_bd (m 100 (m 112 ix.toNatClampNeg).toNatClampNeg)
                exact K ((m 100 (m 112 ix.toNatClampNeg).toNatClampNeg)) _ (zF_zov (zF_u (zF_zov (zF_u zF_rfl rfl) ws_245_250) rfl) ws_238_250) hV_m7 r_W p0_m7 p1_m7 p2_m7 p3_m7 (show qRB (m7 99) (m 100) (m 98) (m 101) (m 102) (m 103) (m 107) (m 108) (m7 109) (m7 111) (m7 112) (m7 113) (m7 114) (m7 94 55) (m 94 46) (m 94 11) (m 94 12) (m 94 62) (m 94 17) (m 94 9) (xRo aa ix ob) from by first | (rw [Ro_y (by omega) (by omega) (As_y p2_m1 (by omega))]; exact p4_m7; done) | (exfalso; omega; done) | (exfalso; contradiction; done)) (show qI (xRo aa ix ob) from by first | (rw [Ro_y (by omega) (by omega) (As_y p2_m1 (by omega))]; exact p5_m7; done) | (exfalso; omega; done) | (exfalso; contradiction; done)) (show qMG (m 94 58) (m7 106) (m7 115) (m 94 57) (m7 94 56) (m7 99) (m 100) (xRo aa ix ob) from by first | (rw [Ro_y (by omega) (by omega) (As_y p2_m1 (by omega))]; exact p6_m7; done) | (exfalso; omega; done) | (exfalso; contradiction; done)) (show (xRo aa ix ob) 87 8 = (m 94 58) from by first | (rw [Ro_y (by omega) (by omega) (As_y p2_m1 (by omega))]; exact p7_m7; done) | (exfalso; omega; done) | (exfalso; contradiction; done)) p8_m7
              · skip
                have g69 := i_nle h63
                have hV70 : zV (ma_u (zov wr_245 (ma_u m 94 0 (0 : Int32)) m1) 94 0 (0 : Int32)) := uf_94_0 hV_m1
                refine sp_238r (aa := aa) (ix) (v2) hV70 (by omega) (by omega) (by omega) (by omega) (show (m 94 10).toInt = 5 from by omega) r_W r_GW r_GU r_OW r_GG r_RB r_QI r_MG r_MK r_WTS (show qU (m 99) v2 from by first | (exact As_u (As_y p2_m1 (by omega))) | (assumption; done) | (exact ow5.1) | (exact ow3.1) | (exfalso; omega; done) | (exfalso; contradiction; done)) (show qMS (m 94 58) aa (qNo (m 100) v2) from by first | (exact As_s (As_y p2_m1 (by omega)) r_MG r_QI) | (exfalso; omega; done) | (exfalso; contradiction; done)) (fun m9 hV_m9 p0_m9 p1_m9 p2_m9 p3_m9 p4_m9 p5_m9 p6_m9 p7_m9 p8_m9 => zmv_n ?_)
                have p0_m9 : zGW T (m9 94 55) (m9 109) := p0_m9
                have p1_m9 : zGU T (m 94 46) (m9 99) := p1_m9
                have p2_m9 : zOw (m9 99) (m 103) (m9 111) := p2_m9
                have p3_m9 : zGG (m 94 58) (m9 94 56) (m 94 57) (m9 106) := p3_m9
                have p4_m9 : qRB (m9 99) (m 100) (m 98) (m 101) (m 102) (m 103) (m 107) (m 108) (m9 109) (m9 111) (m9 112) (m9 113) (m9 114) (m9 94 55) (m 94 46) (m 94 11) (m 94 12) (m 94 62) (m 94 17) (m 94 9) (aRt aa ix (qNo (m 100) v2)) := p4_m9
                have p5_m9 : qI (aRt aa ix (qNo (m 100) v2)) := p5_m9
                have p6_m9 : qMG (m 94 58) (m9 106) (m9 115) (m 94 57) (m9 94 56) (m9 99) (m 100) (aRt aa ix (qNo (m 100) v2)) := p6_m9
                have p7_m9 : (aRt aa ix (qNo (m 100) v2)) 87 8 = (m 94 58) := p7_m9
                have p8_m9 : (m9 94 45).toInt = sm (zbU (m9 99)) (m 102) 3100 := p8_m9
                exact K ((-1 : Int32)) _ (zF_zov (zF_u (zF_zov (zF_u zF_rfl rfl) ws_245_250) rfl) ws_238_250) hV_m9 r_W p0_m9 p1_m9 p2_m9 p3_m9 (show qRB (m9 99) (m 100) (m 98) (m 101) (m 102) (m 103) (m 107) (m 108) (m9 109) (m9 111) (m9 112) (m9 113) (m9 114) (m9 94 55) (m 94 46) (m 94 11) (m 94 12) (m 94 62) (m 94 17) (m 94 9) (xRo aa ix ob) from by first | (rw [Ro_y (by omega) (by omega) (As_y p2_m1 (by omega))]; exact p4_m9; done) | (exfalso; omega; done) | (exfalso; contradiction; done)) (show qI (xRo aa ix ob) from by first | (rw [Ro_y (by omega) (by omega) (As_y p2_m1 (by omega))]; exact p5_m9; done) | (exfalso; omega; done) | (exfalso; contradiction; done)) (show qMG (m 94 58) (m9 106) (m9 115) (m 94 57) (m9 94 56) (m9 99) (m 100) (xRo aa ix ob) from by first | (rw [Ro_y (by omega) (by omega) (As_y p2_m1 (by omega))]; exact p6_m9; done) | (exfalso; omega; done) | (exfalso; contradiction; done)) (show (xRo aa ix ob) 87 8 = (m 94 58) from by first | (rw [Ro_y (by omega) (by omega) (As_y p2_m1 (by omega))]; exact p7_m9; done) | (exfalso; omega; done) | (exfalso; contradiction; done)) p8_m9
            · skip
              have g71 := i_nle h58
              have hV72 : zV (ma_u (zov wr_245 (ma_u m 94 0 (0 : Int32)) m1) 94 0 (3 : Int32)) := uf_94_0 hV_m1
              exact K ((0 : Int32)) _ (zF_u (zF_zov (zF_u zF_rfl rfl) ws_245_250) rfl) hV72 r_W r_GW r_GU r_OW r_GG (show qRB (m 99) (m 100) (m 98) (m 101) (m 102) (m 103) (m 107) (m 108) (m 109) (m 111) (m 112) (m 113) (m 114) (m 94 55) (m 94 46) (m 94 11) (m 94 12) (m 94 62) (m 94 17) (m 94 9) (xRo aa ix ob) from by first | (unfold xRo; rw [qIf_n (Sl_n (Or.inl (by omega)))]; exact r_RB; done) | (unfold xRo; rw [qIf_n (Sl_n (Or.inr (by omega)))]; exact r_RB; done) | (unfold xRo; rw [qIf_n (Sl_r (by assumption) (Re_n p2_m1 (by omega)))]; exact r_RB; done) | (exfalso; omega; done) | (exfalso; contradiction; done)) (show qI (xRo aa ix ob) from by first | (unfold xRo; rw [qIf_n (Sl_n (Or.inl (by omega)))]; exact r_QI; done) | (unfold xRo; rw [qIf_n (Sl_n (Or.inr (by omega)))]; exact r_QI; done) | (unfold xRo; rw [qIf_n (Sl_r (by assumption) (Re_n p2_m1 (by omega)))]; exact r_QI; done) | (exfalso; omega; done) | (exfalso; contradiction; done)) (show qMG (m 94 58) (m 106) (m 115) (m 94 57) (m 94 56) (m 99) (m 100) (xRo aa ix ob) from by first | (unfold xRo; rw [qIf_n (Sl_n (Or.inl (by omega)))]; exact r_MG; done) | (unfold xRo; rw [qIf_n (Sl_n (Or.inr (by omega)))]; exact r_MG; done) | (unfold xRo; rw [qIf_n (Sl_r (by assumption) (Re_n p2_m1 (by omega)))]; exact r_MG; done) | (exfalso; omega; done) | (exfalso; contradiction; done)) (show (xRo aa ix ob) 87 8 = (m 94 58) from by first | (unfold xRo; rw [qIf_n (Sl_n (Or.inl (by omega)))]; exact r_MK; done) | (unfold xRo; rw [qIf_n (Sl_n (Or.inr (by omega)))]; exact r_MK; done) | (unfold xRo; rw [qIf_n (Sl_r (by assumption) (Re_n p2_m1 (by omega)))]; exact r_MK; done) | (exfalso; omega; done) | (exfalso; contradiction; done)) r_WTS

