/-! REGIONS, the reference (written by wip/tools/gen15t.py) -/
/-! REGIONS: the reference's cleaning -/
def qK0 (kw hl dn : Nat → Int32) (n : Int) : Prop := ∀ r : Nat, (r : Int) < n → kw r = 0 ∧ hl r = 0 ∧ dn r = 0
def qKS (us ws ho at' kw hl dn : Nat → Int32) (si rg : Int) (n : Nat) : Prop := ∀ r : Nat, (r : Int) < rg → (kw r).toInt = zKs us ws at' si (r : Int) n ∧ (hl r ≠ 0 ↔ zHs us ho at' si (r : Int) n) ∧ dn r = 0
def qTZ (tp0 tp kw : Nat → Int32) (rg n : Int) : Prop := ∀ r : Nat, (r : Int) < rg → tp r = if (r : Int) < n ∧ (kw r).toInt = 0 then 0 else tp0 r
section F17
variable {a b c aa : Nat → Nat → Int32} {us nr kr kd ws at' at2 ho wd wi ow ow2 rt wk wl tp tp0 tp2 kw hl dn kw2 hl2 dn2 : Nat → Int32} {wm nu ro fo le ra pi si rg sh pr pr2 to s x x2 y y2 v z w l l2 u : Int32} {t t2 g q p e r : Int} {n m k f : Nat} {T : (Nat → Nat → Int32) × Int} {U : (Nat → Nat → Int32) × Int × Bool}
theorem K0_0 : qK0 kw hl dn (0 : Int32).toInt := fun r h => absurd h (by have : (0 : Int32).toInt = 0 := rfl; omega)
theorem K0_nx (h : qK0 kw hl dn x.toInt) (h0 : 0 ≤ x.toInt) (hx : x2.toInt = x.toInt + 1) (e1 : ∀ r, kw2 r = if r = x.toNatClampNeg then 0 else kw r) (e2 : ∀ r, hl2 r = if r = x.toNatClampNeg then 0 else hl r) (e3 : ∀ r, dn2 r = if r = x.toNatClampNeg then 0 else dn r) : qK0 kw2 hl2 dn2 x2.toInt := fun r hr => by
  have tc := tn_cast h0
  rw [e1, e2, e3]
  by_cases w : r = x.toNatClampNeg
  · rw [if_pos w, if_pos w, if_pos w]
    exact ⟨rfl, rfl, rfl⟩
  · rw [if_neg w, if_neg w, if_neg w]
    exact h r (by omega)
theorem KZ_0 (h : qK0 kw hl dn x.toInt) (h1 : ¬ x.toInt < rg.toInt) : qKS us ws ho at' kw hl dn si.toInt rg.toInt (0 : Int32).toNatClampNeg := fun r hr => by
  have q := h r (by omega)
  rw [q.1, q.2.1, q.2.2]
  refine ⟨rfl, ⟨fun w => absurd rfl w, fun w => ?_⟩, rfl⟩
  obtain ⟨s, hs, _⟩ := w
  exact absurd hs (Nat.not_lt_zero _)
theorem KS_n (h : qKS us ws ho at' kw hl dn si.toInt rg.toInt x.toNatClampNeg) (h0 : 0 ≤ x.toInt) (hu : us x.toNatClampNeg = 0) (hx : x2.toInt = x.toInt + 1) : qKS us ws ho at' kw hl dn si.toInt rg.toInt x2.toNatClampNeg := fun r hr => by
  have tc := tn_cast h0
  have tc2 := tn_cast (x := x2) (by omega)
  have q := h r hr
  rw [show x2.toNatClampNeg = x.toNatClampNeg + 1 from by omega, Ks_s, if_neg (fun z => z.1 hu), Int.add_zero]
  refine ⟨q.1, ⟨fun w => ?_, fun w => q.2.1.mpr ?_⟩, q.2.2⟩
  · obtain ⟨s, h1, h2⟩ := q.2.1.mp w
    exact ⟨s, by omega, h2⟩
  · obtain ⟨s, h1, h2⟩ := w
    refine ⟨s, ?_, h2⟩
    by_cases z : s = x.toNatClampNeg
    · rw [z] at h2
      exact absurd hu h2.1
    · omega
theorem KS_y (hR : qR1 us nr ws at' ho a) (h : qKS us ws ho at' kw hl dn si.toInt rg.toInt x.toNatClampNeg) (h0 : 0 ≤ x.toInt) (h3 : x.toInt < 3100) (hs : 16 ≤ si.toInt) (hu : us x.toNatClampNeg ≠ 0) (hx : x2.toInt = x.toInt + 1) (e1 : ∀ r, kw2 r = if r = (at' x.toNatClampNeg / si).toNatClampNeg then kw (at' x.toNatClampNeg / si).toNatClampNeg + (ws x.toNatClampNeg + 1) else kw r) (e2 : (0 < (ho x.toNatClampNeg).toInt ∧ ∀ r, hl2 r = if r = (at' x.toNatClampNeg / si).toNatClampNeg then 1 else hl r) ∨ (¬ 0 < (ho x.toNatClampNeg).toInt ∧ hl2 = hl)) : qKS us ws ho at' kw2 hl2 dn si.toInt rg.toInt x2.toNatClampNeg := fun r hr => by
  have tc := tn_cast h0
  have tc2 := tn_cast (x := x2) (by omega)
  have rq := hR.1 x.toNatClampNeg (by omega) hu
  have dv := i_div (x := at' x.toNatClampNeg) (y := si) rq.2.2.2.2.2.2 (by omega)
  have ix : ((at' x.toNatClampNeg / si).toNatClampNeg : Int) = (at' x.toNatClampNeg).toInt / si.toInt := by
    rw [tn_cast dv.1]
    exact dv.2.2.1
  have q := h r hr
  have bd := Ks_bd (si := si) (us := us) (nr := nr) (ws := ws) (at' := at') hR (r : Int) x.toNatClampNeg (by omega)
  have w1 : (ws x.toNatClampNeg + 1).toInt = (ws x.toNatClampNeg).toInt + 1 := i_addk rfl (by omega) (by omega)
  rw [show x2.toNatClampNeg = x.toNatClampNeg + 1 from by omega, Ks_s]
  have ip : r = (at' x.toNatClampNeg / si).toNatClampNeg ↔ (at' x.toNatClampNeg).toInt / si.toInt = (r : Int) := by omega
  refine ⟨?_, ?_, q.2.2⟩
  · rw [e1]
    by_cases w : r = (at' x.toNatClampNeg / si).toNatClampNeg
    · rw [if_pos w, if_pos ⟨hu, ip.mp w⟩, ← w]
      rw [i_add (by omega) (by omega), q.1, w1]
    · rw [if_neg w, if_neg (fun z => w (ip.mpr z.2)), Int.add_zero]
      exact q.1
  · have st : zHs us ho at' si.toInt (r : Int) (x.toNatClampNeg + 1) ↔ (zHs us ho at' si.toInt (r : Int) x.toNatClampNeg ∨ (0 < (ho x.toNatClampNeg).toInt ∧ (at' x.toNatClampNeg).toInt / si.toInt = (r : Int))) := by
      constructor
      · rintro ⟨s, h1, h2⟩
        by_cases z : s = x.toNatClampNeg
        · rw [z] at h2
          exact Or.inr h2.2
        · exact Or.inl ⟨s, by omega, h2⟩
      · rintro (⟨s, h1, h2⟩ | w)
        · exact ⟨s, by omega, h2⟩
        · exact ⟨x.toNatClampNeg, by omega, hu, w⟩
    rw [st]
    rcases e2 with ⟨hh, e2⟩ | ⟨hh, e2⟩
    · rw [e2]
      by_cases w : r = (at' x.toNatClampNeg / si).toNatClampNeg
      · rw [if_pos w]
        exact ⟨fun _ => Or.inr ⟨hh, ip.mp w⟩, fun _ => by decide⟩
      · rw [if_neg w]
        exact ⟨fun z => Or.inl (q.2.1.mp z), fun z => z.elim (fun z => q.2.1.mpr z) (fun z => absurd (ip.mpr z.2) w)⟩
    · rw [e2]
      exact ⟨fun z => Or.inl (q.2.1.mp z), fun z => z.elim (fun z => q.2.1.mpr z) (fun z => absurd z.1 hh)⟩
theorem TZ_0 : qTZ tp tp kw rg.toInt (0 : Int32).toInt := fun r _ => (if_neg (fun z => by have : (0 : Int32).toInt = 0 := rfl; omega)).symm
theorem TZ_1 (h : tp = tp0) : qTZ tp0 tp kw rg.toInt (0 : Int32).toInt := by
  rw [h]
  exact TZ_0
theorem TZ_y (h : qTZ tp0 tp kw rg.toInt x.toInt) (h0 : 0 ≤ x.toInt) (hx : x2.toInt = x.toInt + 1) (hk : (kw x.toNatClampNeg).toInt = 0) (e : ∀ r, tp2 r = if r = x.toNatClampNeg then 0 else tp r) : qTZ tp0 tp2 kw rg.toInt x2.toInt := fun r hr => by
  have tc := tn_cast h0
  rw [e]
  by_cases w : r = x.toNatClampNeg
  · rw [if_pos w, if_pos ⟨by omega, by rw [w]; exact hk⟩]
  · rw [if_neg w, h r hr]
    by_cases z : (r : Int) < x.toInt ∧ (kw r).toInt = 0
    · rw [if_pos z, if_pos ⟨by omega, z.2⟩]
    · rw [if_neg z, if_neg (fun y => z ⟨by omega, y.2⟩)]
theorem TZ_n (h : qTZ tp0 tp kw rg.toInt x.toInt) (h0 : 0 ≤ x.toInt) (hx : x2.toInt = x.toInt + 1) (hk : (kw x.toNatClampNeg).toInt ≠ 0) : qTZ tp0 tp kw rg.toInt x2.toInt := fun r hr => by
  have tc := tn_cast h0
  rw [h r hr]
  by_cases z : (r : Int) < x.toInt ∧ (kw r).toInt = 0
  · rw [if_pos z, if_pos ⟨by omega, z.2⟩]
  · rw [if_neg z, if_neg (fun y => z ⟨?_, y.2⟩)]
    by_cases w : r = x.toNatClampNeg
    · rw [w] at y
      exact absurd y.2 hk
    · omega
/-! what leaves, exactly -/
theorem Cb_none (hn : ∀ m, m < n → a 126 m ≠ 0 → 0 < (a 133 m).toInt → ((a 130 m).toInt / (a 87 3).toInt).toNat ≠ k) : rCb a n 93 k = a 93 k := by
  induction n with
  | zero => rfl
  | succ n ih =>
    have i := ih (fun m hm => hn m (by omega))
    by_cases w : a 126 n ≠ 0 ∧ 0 < (a 133 n).toInt
    · rw [Cb_y w, xu_o (fun z => hn n (by omega) w.1 w.2 z.2.symm)]
      exact i
    · rw [Cb_n w]
      exact i
theorem LR_b0 (hR : qR1 us nr ws at' ho (aSw aa)) (hv : qRv aa) (hL : qRL aa si rg sh pr tp0) (hK : qKS us ws ho at' kw hl dn si.toInt rg.toInt n) (hn : 3100 ≤ n) (hn2 : n ≤ 3100) : qLR (rB0 aa) rg sh si pr kw hl dn := fun r hr => by
  obtain ⟨hI, h2, h3, h4, h5⟩ := Rv_sw hv
  have b := RL_b hL hv
  have e3 : aSw aa 87 3 = si := sw_87.trans hL.1
  have e5 : aSw aa 87 5 = sh := sw_87.trans hL.2.2.1
  have e9 : aSw aa 87 9 = pr := sw_87.trans hL.2.2.2.1
  have q := hK r hr
  rw [show n = 3100 from by omega, Ks_all hR hI e3] at q
  have kb := Kf_b (r := (r : Int)) hI 512 (by omega)
  refine ⟨by omega, ?_⟩
  have r9 : r < 93 := by omega
  have t9 : rEm (rSk (aSw aa) 512) 93 93 r = Int32.ofInt (rKf (aSw aa) (r : Int) 512) := T0_93 r9
  have oo : ∀ c, c ≠ 92 → c ≠ 93 → rCa (rEm (rSk (aSw aa) 512) 93) 93 c = aSw aa c := fun c w w2 => funext (fun k => by rw [Ca_o w2, T0_o w w2])
  have hd : hl r ≠ 0 → rB0 aa 93 r = 0 := fun hh => by
    obtain ⟨s, h1, hu, hp, hd⟩ := q.2.1.mp hh
    have w := hR.1 s h1 hu
    have z := Cb_h (a := rCa (rEm (rSk (aSw aa) 512) 93) 93) 512 (nr s).toNatClampNeg (by have := tn_cast (x := nr s) w.1.1; omega) (by rw [oo 126 (by decide) (by decide)]; exact w.2.1) (by rw [oo 133 (by decide) (by decide), w.2.2.2.2.1]; exact hp)
    rw [oo 130 (by decide) (by decide), oo 87 (by decide) (by decide), w.2.2.2.1, e3, hd, Int.toNat_natCast] at z
    exact z
  have hn0 : ¬ hl r ≠ 0 → rB0 aa 93 r = rCa (rEm (rSk (aSw aa) 512) 93) 93 93 r := fun hh => by
    refine Cb_none (fun m hm h6 h33 w => hh (q.2.1.mpr ?_))
    rw [oo 126 (by decide) (by decide)] at h6
    rw [oo 133 (by decide) (by decide)] at h33
    rw [oo 130 (by decide) (by decide), oo 87 (by decide) (by decide)] at w
    obtain ⟨s, h1, hu, hs⟩ := hR.2.2 m hm h6
    have w2 := hR.1 s h1 hu
    have tm : (nr s).toNatClampNeg = m := by
      have i1 : (nr s).toInt = (m : Int) := by
        rw [hs]
        exact Int32.toInt_ofNat_of_lt (by omega)
      have := tn_cast (x := nr s) (by omega)
      omega
    rw [tm] at w2
    refine ⟨s, h1, hu, by rw [← w2.2.2.2.2.1]; exact h33, ?_⟩
    rw [e3, w2.2.2.2.1] at w
    have d0 : 0 ≤ (at' s).toInt / si.toInt := Int.ediv_nonneg w2.2.2.2.2.2.2 (by omega)
    omega
  unfold rLw
  by_cases hh : hl r ≠ 0
  · rw [hd hh, if_neg (fun z => hh z.2.1)]
    rfl
  · rw [hn0 hh]
    have hl0 : hl r = 0 := by
      by_cases z : hl r = 0
      · exact z
      · exact absurd z hh
    unfold rCa
    rw [t9, T0_o (by decide) (by decide), T0_o (by decide) (by decide), T0_o (by decide) (by decide), e3, e5, e9, Kf_i hI, ← q.1]
    by_cases w : dn r = 0 ∧ hl r = 0 ∧ (r : Int) ≠ pr.toInt ∧ (kw r).toInt * 100 ≤ sh.toInt * si.toInt
    · rw [if_pos w, if_neg (fun z => by rcases z.2.2 with y | y <;> omega), Int32.ofInt_toInt]
    · have z2 : (r : Int) = pr.toInt ∨ sh.toInt * si.toInt < (kw r).toInt * 100 := by
        by_cases y : (r : Int) = pr.toInt
        · exact Or.inl y
        · refine Or.inr ?_
          by_cases y2 : (kw r).toInt * 100 ≤ sh.toInt * si.toInt
          · exact absurd ⟨q.2.2, hl0, y, y2⟩ w
          · omega
      rw [if_neg w, if_pos ⟨rfl, r9, z2⟩]
      rfl
theorem RL_b0 (hR : qR1 us nr ws at' ho (aSw aa)) (hv : qRv aa) (hL : qRL aa si rg sh pr tp0) (hK : qKS us ws ho at' kw hl dn si.toInt rg.toInt n) (hn : 3100 ≤ n) (hn2 : n ≤ 3100) (hT : qTZ tp0 tp kw rg.toInt e) (he : ¬ e < rg.toInt) : qRL (rB0 aa) si rg sh pr tp := by
  obtain ⟨hI, h2, h3, h4, h5⟩ := Rv_sw hv
  have b := RL_b hL hv
  have e7 : rB0 aa 87 = aa 87 := (B0_o (by decide) (by decide)).trans (funext (fun _ => sw_87))
  have e3 : aSw aa 87 3 = si := sw_87.trans hL.1
  unfold qRL
  rw [e7]
  refine ⟨hL.1, hL.2.1, hL.2.2.1, hL.2.2.2.1, fun r hr => ?_⟩
  have q := (hK r hr).1
  rw [show n = 3100 from by omega, Ks_all hR hI e3] at q
  rw [B0_92 (by omega), Kf_i hI, ← q, hT r hr, sw_9 (by decide), hL.2.2.2.2 r hr]
  by_cases w : (kw r).toInt = 0
  · rw [if_pos w, if_pos ⟨by omega, w⟩]
  · rw [if_neg w, if_neg (fun z => w z.2)]
/-! fuel -/
theorem M1_93 : rM1 a n t 93 k = a 93 k := M1_r (by decide) (by decide) (by decide)
theorem Mf_93 : ∀ (f : Nat) (a : Nat → Nat → Int32) (p t : Int), (rMf e f a p t).1 93 k = a 93 k := by
  intro f
  induction f with
  | zero => intro a p t; rfl
  | succ f ih =>
    intro a p t
    by_cases c : p < e
    · by_cases d : (zOb a p).toInt < 0
      · rw [rMf_fr c d]
        exact ih _ _ _
      · by_cases w : rTo a t (a 128 (zOb a p).toNatClampNeg).toInt = -1
        · rw [rMf_no c (by omega) w]
        · rw [rMf_go c (by omega) w, ih, M1_93]
    · rw [rMf_e c]
theorem M2_93 : (rM2 a q t).1 93 k = a 93 k := Mf_93 _ _ _ _
theorem Cn_le : ∀ n, rCn a n ≤ n := by
  intro n
  induction n with
  | zero => exact Nat.le_refl _
  | succ n ih =>
    show rCn a n + (if 0 < (a 93 n).toInt then 1 else 0) ≤ n + 1
    split <;> omega
theorem Cn_lt (hk : k < n) (h0 : (a 93 k).toInt ≤ 0) : rCn a n + 1 ≤ n := by
  induction n with
  | zero => omega
  | succ n ih =>
    show rCn a n + (if 0 < (a 93 n).toInt then 1 else 0) + 1 ≤ n + 1
    by_cases w : k = n
    · rw [← w, if_neg (by omega)]
      have := Cn_le (a := a) k
      omega
    · have := ih (by omega)
      split <;> omega
theorem Cn_0 : ∀ n, rCn a n = 0 → rFg (fun k => (a 93 k).toInt) n = -1 := by
  intro n
  induction n with
  | zero => intro _; rfl
  | succ n ih =>
    intro h
    have h2 : rCn a n + (if 0 < (a 93 n).toInt then 1 else 0) = 0 := h
    by_cases w : 0 < (a 93 n).toInt
    · rw [if_pos w] at h2
      omega
    · rw [Fg_s, if_neg (fun z => w z.1)]
      exact ih (by omega)
theorem Cn_st : ∀ n, (∀ j, j ≠ k → b 93 j = a 93 j) → (b 93 k).toInt = 0 → 0 < (a 93 k).toInt → rCn b n + (if k < n then 1 else 0) = rCn a n := by
  intro n h1 h2 h3
  induction n with
  | zero => rfl
  | succ n ih =>
    show rCn b n + (if 0 < (b 93 n).toInt then 1 else 0) + (if k < n + 1 then 1 else 0) = rCn a n + (if 0 < (a 93 n).toInt then 1 else 0)
    by_cases w : n = k
    · rw [w] at ih ⊢
      rw [if_neg (by omega)] at ih
      rw [if_neg (by omega), if_pos (by omega), if_pos h3]
      omega
    · rw [h1 n w]
      by_cases z : k < n
      · rw [if_pos z] at ih
        rw [if_pos (by omega : k < n + 1)]
        omega
      · rw [if_neg z] at ih
        rw [if_neg (by omega : ¬ k < n + 1)]
        omega
theorem Of_fu : ∀ (f : Nat) (a : Nat → Nat → Int32) (t : Int), rCn a 93 ≤ f → rOf f a t = rOf (f + 1) a t := by
  intro f
  induction f with
  | zero =>
    intro a t h
    have z : rFw a = -1 := Cn_0 93 (by omega)
    rw [Of_e z, Of_e z]
  | succ f ih =>
    intro a t h
    by_cases z : rFw a = -1
    · rw [Of_e z, Of_e z]
    · have fy := Fw_y z
      cases ok : (rM2 a (rFw a) t).2.2 with
      | false => rw [Of_n rfl z ok, Of_n rfl z ok]
      | true =>
        rw [Of_y rfl z ok, Of_y (f := f + 1) rfl z ok]
        refine ih _ _ ?_
        have c := Cn_st (a := a) (b := ma_u (ma_u (rM2 a (rFw a) t).1 93 (rFw a).toNat 0) 92 (rFw a).toNat 0) (k := (rFw a).toNat) 93 (fun j hj => by rw [xu_o (by omega), xu_o (fun w => hj w.2), M2_93]) (by rw [xu_o (by omega), xu_s]; rfl) fy.2.2
        rw [if_pos (by omega)] at c
        omega
theorem Of_93 (h0 : 0 ≤ q) (h9 : q < 93) (h : (a 93 q.toNat).toInt = 0) : rOf 92 a t = rOf 93 a t := Of_fu 92 a t (by have := Cn_lt (a := a) (k := q.toNat) (n := 93) (by omega) (by omega); omega)
end F17
