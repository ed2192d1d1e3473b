/-! a heap that was just opened, under the moving collectors -/
/-- nothing is there -/
def zEmp (a : Nat → Nat → Int32) : Prop := (∀ n, ¬ xAl a n) ∧ (∀ p : Nat, p < 4500 → a 71 p = -1) ∧ (∀ p : Nat, p < 16 → a 72 p = -1) ∧ (∀ p : Nat, p < 16 → a 73 p = -1) ∧ (∀ n k, a (1000 + n) k = 0) ∧ a 69 5 = 0 ∧ a 69 6 = 0 ∧ a 69 8 = 0
/-- the reference has nothing -/
def zEmr (m : Nat → Nat → Int32) : Prop := (∀ s : Nat, s < 3100 → m 99 s = 0) ∧ (∀ s : Nat, (s : Int) < 16 → (m 112 s).toInt < 0) ∧ (∀ s : Nat, (s : Int) < 16 → (m 113 s).toInt < 0) ∧ (m 94 45).toInt = 0 ∧ (m 94 46).toInt = 0 ∧ (m 94 55).toInt = 0 ∧ (m 94 58).toInt = 0 ∧ (m 94 62).toInt = 0
section F45
variable {a b a8 m : Nat → Nat → Int32} {ro fo le ra pi : Int32} {S' : ma_S}
theorem z0_i {x : Int32} (h : x.toInt = 0) : x = 0 := Int32.toInt_inj.mp h
theorem fg_o {c k : Nat} (h : c ≠ 69) (h1 : c ≠ 71) (h2 : c ≠ 72) (h3 : c ≠ 73) : aFg a8 c k = zDe a8 512 c k := by
  unfold aFg zFl
  rw [xu_o (by omega), xu_o (by omega), xu_o (by omega), xu_o (by omega), if_neg (by omega), if_neg (by omega), if_neg (by omega)]
theorem Em_fg (ha : ∀ n k, 512 ≤ n → a8 (1000 + n) k = 0) : zEmp (aFg a8) := by
  refine ⟨fun n h => h.2 ?_, fun p hp => ?_, fun p hp => ?_, fun p hp => ?_, fun n k => ?_, rfl, rfl, rfl⟩
  · have := h.1
    rw [fg_o (by decide) (by decide) (by decide) (by decide)]
    unfold zDe
    rw [if_pos (Or.inl ⟨by omega, by omega, by omega⟩)]
  · unfold aFg zFl
    rw [xu_o (by omega), xu_o (by omega), xu_o (by omega), xu_o (by omega), if_neg (by omega), if_neg (by omega), if_pos ⟨rfl, by omega⟩]
  · show (if 72 = 73 ∧ (p : Int) < 16 then (-1 : Int32) else if 72 = 72 ∧ (p : Int) < 16 then -1 else zFl (zDe a8 512) 71 (-1) 4500 72 p) = -1
    rw [if_neg (by omega), if_pos ⟨rfl, by omega⟩]
  · show (if 73 = 73 ∧ (p : Int) < 16 then (-1 : Int32) else zFl (zFl (zDe a8 512) 71 (-1) 4500) 72 (-1) 16 73 p) = -1
    rw [if_pos ⟨rfl, by omega⟩]
  · rw [fg_o (by omega) (by omega) (by omega) (by omega)]
    unfold zDe
    by_cases w : n < 512
    · rw [if_pos (Or.inr ⟨by omega, by omega⟩)]
    · rw [if_neg (by omega)]
      exact ha n k (by omega)
theorem Em_6 (h : zEmp a) (o : zO6 b a) : zEmp b := by
  obtain ⟨h1, h2, h3, h4, h5, h6, h7, h8⟩ := h
  refine ⟨fun n hn => h1 n ⟨hn.1, ?_⟩, fun p hp => ?_, fun p hp => ?_, fun p hp => ?_, fun n k => ?_, ?_, ?_, ?_⟩
  · rw [← o 126 n (by decide) (by decide) (by decide) (by decide)]
    exact hn.2
  · rw [o 71 p (by decide) (by decide) (by decide) (by decide)]
    exact h2 p hp
  · rw [o 72 p (by decide) (by decide) (by decide) (by decide)]
    exact h3 p hp
  · rw [o 73 p (by decide) (by decide) (by decide) (by decide)]
    exact h4 p hp
  · rw [o (1000 + n) k (by omega) (by omega) (by omega) (by omega)]
    exact h5 n k
  · rw [o 69 5 (by decide) (by decide) (by decide) (by decide)]
    exact h6
  · rw [o 69 6 (by decide) (by decide) (by decide) (by decide)]
    exact h7
  · rw [o 69 8 (by decide) (by decide) (by decide) (by decide)]
    exact h8
theorem Em_RB (h : zEmp a) (r : zEmr m) (e0 : a 87 0 = ro) (e1 : a 87 1 = fo) (e2 : a 87 2 = le) (e6 : a 87 6 = ra) (e7 : a 87 7 = if pi = 0 then 1 else 0) : qRB (m 99) (m 100) (m 98) (m 101) (m 102) (m 103) (m 107) (m 108) (m 109) (m 111) (m 112) (m 113) (m 114) (m 94 55) (m 94 46) ro fo le ra pi a := by
  obtain ⟨al, i71, i72, i73, i1, g5, g6, g8⟩ := h
  obtain ⟨h9, h2, h3, f45, f46, f55, f58, f62⟩ := r
  refine ⟨⟨fun s hs hu => absurd (h9 s hs) hu, fun s t hs _ hu => absurd (h9 s hs) hu, fun n hn hx => absurd ⟨hn, hx⟩ (al n)⟩, fun s hs hu => absurd (h9 s hs) hu, fun k hk => ?_, fun k hk => ?_, ⟨?_, fun k hk => ?_⟩, fun s hs hu => absurd (h9 s hs) hu, fun s hs hu => absurd (h9 s hs) hu, ?_, e0, e1, e2, e6, e7⟩
  · have q := h2 k (by omega)
    refine ⟨Or.inl q, ?_⟩
    rw [i72 k hk, No_n q]
  · have q := h3 k (by omega)
    refine ⟨Or.inl q, ?_⟩
    rw [i73 k hk, No_n q]
  · rw [g5, z0_i f55]
  · rw [f55] at hk
    omega
  · rw [g6, z0_i f46]
theorem Em_I (h : zEmp a) (h0 : 0 ≤ (a 87 0).toInt) (h1 : (a 87 0).toInt ≤ 4500) (e2 : a 87 2 = 0) (e6 : a 87 6 = 0) : qI a := by
  obtain ⟨al, i71, i72, i73, i1, g5, g6, g8⟩ := h
  have i0 : (0 : Int32).toInt = 0 := rfl
  refine ⟨fun n hn => absurd hn (al n), fun n n' hn => absurd hn (al n), fun p hp _ => i71 p hp, ?_, ?_, fun n _ k => i1 n k⟩
  · unfold qI4
    rw [g6, g5, e2, e6]
    exact ⟨⟨by omega, by omega⟩, ⟨by omega, by omega⟩, ⟨by omega, by omega⟩, ⟨by omega, by omega⟩, fun n hn => absurd hn (al n), by omega⟩
  · rw [g8, Su_0 512 (fun x hx => Decidable.byContradiction (fun w => al x ⟨hx, w⟩))]
    rfl
theorem Em_su (h : zEmp a) : qSu a 512 = 0 := Su_0 512 (fun x hx => Decidable.byContradiction (fun w => h.1 x ⟨hx, w⟩))
theorem Em_wt (r : zEmr m) : (m 94 45).toInt = sm (zbU (m 99)) (m 102) 3100 := by
  rw [r.2.2.2.1, sm_zero (fun t ht => by
      unfold zbU
      rw [r.1 t ht]
      rfl)]
theorem op_1 (hV : zV m) (ha : ∀ n k, 512 ≤ n → a8 (1000 + n) k = 0) (hs : aS 88 S' = aFg a8) (r : zEmr m) (e : mI S' 80 2 = m 94 11) (e3 : mI S' 80 3 = 0) (f59 : (m 94 59).toInt = 0) : zN1 m (aL S') := by
  have E : zEmp (aL S') := Em_6 (Em_fg ha) (by rw [← hs]; exact M_88)
  have k0 : aL S' 87 0 = m 94 11 := by
    rw [← e]
    exact aM_7
  have k2 : aL S' 87 2 = 0 := by
    rw [← e3]
    exact aM_7
  have k1 : aL S' 87 1 = 0 := aM_7
  have k6 : aL S' 87 6 = 0 := aM_7
  have k7 : aL S' 87 7 = 0 := aM_7
  have k8 : aL S' 87 8 = 0 := aM_7
  have rr := rs_94_11 hV
  refine ⟨Em_RB E r k0 k1 (k2.trans (z0_i f59).symm) k6 k7, Em_I E (by rw [k0]; omega) (by rw [k0]; omega) k2 k6, fun n hn => absurd hn (E.1 n), ?_, Em_wt r, r.2.2.2.2.2.2.1⟩
  rw [k8, z0_i r.2.2.2.2.2.2.1]
theorem op_2 (hV : zV m) (ha : ∀ n k, 512 ≤ n → a8 (1000 + n) k = 0) (hs : aS 88 S' = aFg a8) (r : zEmr m) (e : mI S' 81 2 = m 94 11) (e3 : mI S' 81 3 = 0) (e4 : mI S' 81 4 = 0) (f59 : (m 94 59).toInt = 0) (f61 : (m 94 61).toInt = 0) : zN2 m (aH S') := by
  have E : zEmp (aH S') := Em_6 (Em_fg ha) (by rw [← hs]; exact M_88)
  have i0 : (0 : Int32).toInt = 0 := rfl
  have k5 : aH S' 87 5 = m 94 11 := by
    rw [← e]
    exact aM_7
  have k0 : aH S' 87 0 = m 94 11 + m 94 11 := by
    rw [← e]
    exact aM_7
  have k3 : aH S' 87 3 = 0 := by
    rw [← e3]
    exact aM_7
  have k4 : aH S' 87 4 = 0 := by
    rw [← e4]
    exact aM_7
  have k2 : aH S' 87 2 = 0 := aM_7
  have k1 : aH S' 87 1 = 0 := aM_7
  have k6 : aH S' 87 6 = 0 := aM_7
  have k7 : aH S' 87 7 = 0 := aM_7
  have k8 : aH S' 87 8 = 0 := aM_7
  have rr := rs_94_11 hV
  have ad : (m 94 11 + m 94 11).toInt = (m 94 11).toInt + (m 94 11).toInt := i_add (by omega) (by omega)
  have hI : qI (aH S') := Em_I E (by rw [k0]; omega) (by rw [k0]; omega) k2 k6
  refine ⟨Em_RB E r rfl k1 k2 k6 k7, ⟨hI, k2, ?_, ?_, ?_, fun n hn => absurd hn (E.1 n), fun n hn => absurd hn (E.1 n)⟩, ⟨k5, Or.inl f61, fun _ => by rw [k3]; rfl, fun z => by omega, k4.trans (z0_i f59).symm⟩, ?_, Em_wt r, r.2.2.2.2.2.2.1⟩
  · rw [k0, k5]
    omega
  · rw [k3]
    exact Or.inl rfl
  · rw [Em_su E, k3, k4, k5]
    omega
  · rw [k8, z0_i r.2.2.2.2.2.2.1]
end F45
/-! a heap that was just opened: AGES, REGIONS -/
section F46
variable {a a8 m : Nat → Nat → Int32} {S' : ma_S}
theorem Em_sy (h : zEmp a) : ∀ n, n ≤ 512 → gSy a n = 0 := by
  intro n
  induction n with
  | zero => intro _; rfl
  | succ n ih =>
    intro hn
    have e := ih (by omega)
    have z : ¬ a 126 n ≠ 0 := fun w => h.1 n ⟨by omega, w⟩
    show gSy a n + (if a 126 n ≠ 0 ∧ (a 87 9).toInt ≤ (a 130 n).toInt then (a 128 n).toInt else 0) = 0
    rw [e, if_neg (fun w => z w.1)]
    rfl
theorem rg_b {ro si q : Int} (h1 : 16 ≤ si) (h2 : 4 * si ≤ ro) (h3 : ro ≤ 1500) (e : q = ro / si) : 1 ≤ q ∧ q ≤ 93 ∧ q * si ≤ 1500 := by
  have a1 : q * si ≤ ro := by
    rw [e]
    exact Int.ediv_mul_le ro (by omega)
  have a2 : 1 ≤ q := by
    rw [e]
    exact (Int.le_ediv_iff_mul_le (by omega)).mpr (by omega)
  have a3 : q * 16 ≤ q * si := Int.mul_le_mul_of_nonneg_left h1 (by omega)
  exact ⟨a2, by omega, by omega⟩
theorem op_3 (hV : zV m) (ha : ∀ n k, 512 ≤ n → a8 (1000 + n) k = 0) (hs : aS 88 S' = aFg a8) (r : zEmr m) (e2 : mI S' 82 2 = m 94 13) (e3 : mI S' 82 3 = m 94 14) (e4 : mI S' 82 4 = m 94 15) (e5 : mI S' 82 5 = m 94 16) (e6 : mI S' 82 6 = 0) (e7 : mI S' 82 7 = m 94 14) (e8 : mI S' 82 8 = m 94 14) (e83 : ∀ k : Nat, k < 375 → mI S' 83 k = 0) (d0 : ∀ s : Nat, s < 512 → m 117 s = 0) (f59 : (m 94 59).toInt = (m 94 14).toInt) (f60 : (m 94 60).toInt = 0) (f61 : (m 94 61).toInt = 0) (ba : 1 ≤ (m 94 15).toInt ∧ (m 94 15).toInt ≤ 1000) (bc : 4 ≤ (m 94 16).toInt) : zN3 m (aG S') := by
  have E : zEmp (aG S') := Em_6 (Em_fg ha) (by rw [← hs]; exact G_88)
  have i0 : (0 : Int32).toInt = 0 := rfl
  have k0 : aG S' 87 0 = m 94 14 + (m 94 13 + m 94 13) := by
    rw [← e2, ← e3]
    exact aG_7
  have k3 : aG S' 87 3 = m 94 14 := by
    rw [← e7]
    exact aG_7
  have k4 : aG S' 87 4 = m 94 14 := by
    rw [← e8]
    exact aG_7
  have k5 : aG S' 87 5 = m 94 13 := by
    rw [← e2]
    exact aG_7
  have k9 : aG S' 87 9 = m 94 14 := by
    rw [← e3]
    exact aG_7
  have k10 : aG S' 87 10 = 0 := by
    rw [← e6]
    exact aG_7
  have k11 : aG S' 87 11 = m 94 15 := by
    rw [← e4]
    exact aG_7
  have k12 : aG S' 87 12 = m 94 16 := by
    rw [← e5]
    exact aG_7
  have k2 : aG S' 87 2 = 0 := aG_7
  have k1 : aG S' 87 1 = 0 := aG_7
  have k6 : aG S' 87 6 = 0 := aG_7
  have k7 : aG S' 87 7 = 0 := aG_7
  have k8 : aG S' 87 8 = 0 := aG_7
  have r3 := rs_94_13 hV
  have r4 := rs_94_14 hV
  have d1 : (m 94 13 + m 94 13).toInt = (m 94 13).toInt + (m 94 13).toInt := i_add (by omega) (by omega)
  have d2 : (m 94 14 + (m 94 13 + m 94 13)).toInt = (m 94 14).toInt + (m 94 13 + m 94 13).toInt := i_add (by omega) (by omega)
  have hI : qI (aG S') := Em_I E (by rw [k0]; omega) (by rw [k0]; omega) k2 k6
  refine ⟨Em_RB E r rfl k1 k2 k6 k7, ⟨hI, k2, ?_, ?_, ?_, ?_, fun n hn => absurd hn (E.1 n), fun n hn => absurd hn (E.1 n)⟩, ⟨⟨k5, k9, k11, k12⟩, k4.trans (Int32.toInt_inj.mp f59).symm, k10.trans (z0_i f60).symm, Or.inl f61, fun _ => by rw [k3], fun z => by omega⟩, fun s hs u => absurd (r.1 s hs) u, fun k hk => ?_, ?_, Em_wt r, r.2.2.2.2.2.2.1⟩
  · rw [k0, k5, k9, k11, k12]
    exact ⟨⟨by omega, by omega⟩, ⟨by omega, by omega⟩, by omega, ba, bc⟩
  · rw [k3, k9]
    exact Or.inl rfl
  · rw [Em_sy E 512 (Nat.le_refl _), k3, k4, k5]
    omega
  · rw [k10, k9]
    omega
  · rw [d0 k (by omega), aG_8, e83 k hk]
  · rw [k8, z0_i r.2.2.2.2.2.2.1]
theorem op_6 (hV : zV m) (ha : ∀ n k, 512 ≤ n → a8 (1000 + n) k = 0) (hs : aS 88 S' = aFg a8) (r : zEmr m) (e2 : mI S' 91 2 = m 94 18) (e3 : mI S' 91 3 = m 94 64) (e4 : mI S' 91 4 = m 94 19) (e5 : mI S' 91 5 = 0) (e92 : ∀ k : Nat, k < 93 → mI S' 92 k = 0) (t0 : ∀ s : Nat, s < 128 → m 116 s = 0) (f63 : (m 94 63).toInt = 0) (dv : (m 94 64).toInt = (m 94 11).toInt / (m 94 18).toInt) (b1 : 16 ≤ (m 94 18).toInt) (b4 : 4 * (m 94 18).toInt ≤ (m 94 11).toInt) (bh : 0 ≤ (m 94 19).toInt ∧ (m 94 19).toInt ≤ 100) : zN6 m (aZ S') := by
  have E : zEmp (aZ S') := Em_6 (Em_fg ha) (by rw [← hs]; exact Z_88)
  have i0 : (0 : Int32).toInt = 0 := rfl
  have k0 : aZ S' 87 0 = m 94 64 * m 94 18 := by
    rw [← e2, ← e3]
    exact aZ_7
  have k3 : aZ S' 87 3 = m 94 18 := by
    rw [← e2]
    exact aZ_7
  have k4 : aZ S' 87 4 = m 94 64 := by
    rw [← e3]
    exact aZ_7
  have k5 : aZ S' 87 5 = m 94 19 := by
    rw [← e4]
    exact aZ_7
  have k9 : aZ S' 87 9 = 0 := by
    rw [← e5]
    exact aZ_7
  have k2 : aZ S' 87 2 = 0 := aZ_7
  have k1 : aZ S' 87 1 = 0 := aZ_7
  have k6 : aZ S' 87 6 = 0 := aZ_7
  have k7 : aZ S' 87 7 = 0 := aZ_7
  have k8 : aZ S' 87 8 = 0 := aZ_7
  have k92 : ∀ k : Nat, k < 93 → aZ S' 92 k = 0 := fun k hk => (aZ_9 (Or.inl rfl)).trans (e92 k hk)
  have r1 := rs_94_11 hV
  have r8 := rs_94_18 hV
  have g := rg_b b1 b4 r1.2 dv
  have g0 : 0 ≤ (m 94 64).toInt * (m 94 18).toInt := Int.mul_nonneg (by omega) (by omega)
  have d0 : (m 94 64 * m 94 18).toInt = (m 94 64).toInt * (m 94 18).toInt := i_mul (by omega) (by omega)
  have hI : qI (aZ S') := Em_I E (by rw [k0, d0]; exact g0) (by rw [k0, d0]; omega) k2 k6
  refine ⟨Em_RB E r rfl k1 k2 k6 k7, ⟨hI, k2, ?_, fun q hq => ?_, fun n hn => absurd hn (E.1 n)⟩, ⟨k3, k4, k5, k9.trans (z0_i f63).symm, fun q hq => ?_⟩, ?_, Em_wt r, r.2.2.2.2.2.2.1⟩
  · rw [k0, k3, k4, k5, k9, d0]
    exact ⟨⟨b1, r8.2⟩, ⟨g.1, g.2.1⟩, ⟨by omega, by omega⟩, bh, rfl, g.2.2⟩
  · rw [k92 q hq, k3]
    exact ⟨⟨by omega, by omega⟩, fun _ => rfl⟩
  · rw [k92 q (by omega), t0 q (by omega)]
  · rw [k8, z0_i r.2.2.2.2.2.2.1]
end F46
