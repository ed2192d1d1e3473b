/-! BETWEEN THE CALLS: what holds of the reference, of the class, of both -/
def zRef (T : Nat) (m : Nat → Nat → Int32) : Prop := zV m ∧ (zW (m 94 7) (m 98) (m 101) (m 102) (m 108)) ∧ (zGW T (m 94 55) (m 109)) ∧ ((m 94 8).toInt = 0 ∨ ((zGU T (m 94 46) (m 99)) ∧ (zOw (m 99) (m 103) (m 111)) ∧ (zDX (m 94 10) (m 99) (m 112) (m 113) (m 114) (m 94 55) (m 98) (m 101) (m 102) (m 108)) ∧ (zGG (m 94 58) (m 94 56) (m 94 57) (m 106)) ∧ (zHA (m 94 10) (m 94 11) (m 94 13) (m 94 14) (m 94 16) (m 94 61) (m 94 59) (m 94 60) (m 99) (m 102) (m 103) (m 111) (m 117) (m 98) (m 101) (m 108)) ∧ (zRG (m 94 10) (m 94 18) (m 94 64) (m 94 63) (m 99) (m 103) (m 102) (m 116)) ∧ ((m 94 58).toInt = 0 ∨ (m 94 10).toInt = 5)))
theorem zV_tr {m m₉ : Nat → Nat → Int32} (H : zV m) (h : ∀ c k, 94 ≤ c → c ≤ 125 → m₉ c k = m c k) : zV m₉ := by
  have s94 : ∀ q ∈ zV_s, 94 ≤ q.1 ∧ q.1 ≤ 125 := by decide
  have a94 : ∀ q ∈ zV_a, 94 ≤ q.1 ∧ q.1 ≤ 125 := by decide
  refine ⟨fun q hq => ?_, fun q hq k hk => ?_⟩
  · rw [h _ _ (s94 q hq).1 (s94 q hq).2]; exact H.1 q hq
  · rw [h _ _ (a94 q hq).1 (a94 q hq).2]; exact H.2 q hq k hk
theorem ref_tr {T : Nat} {m m₉ : Nat → Nat → Int32} (H : zRef T m) (h : ∀ c k, 94 ≤ c → c ≤ 125 → m₉ c k = m c k) : zRef T m₉ := by
  have e98 : m₉ 98 = m 98 := funext (fun k => h 98 k (by decide) (by decide))
  have e99 : m₉ 99 = m 99 := funext (fun k => h 99 k (by decide) (by decide))
  have e101 : m₉ 101 = m 101 := funext (fun k => h 101 k (by decide) (by decide))
  have e102 : m₉ 102 = m 102 := funext (fun k => h 102 k (by decide) (by decide))
  have e103 : m₉ 103 = m 103 := funext (fun k => h 103 k (by decide) (by decide))
  have e106 : m₉ 106 = m 106 := funext (fun k => h 106 k (by decide) (by decide))
  have e108 : m₉ 108 = m 108 := funext (fun k => h 108 k (by decide) (by decide))
  have e109 : m₉ 109 = m 109 := funext (fun k => h 109 k (by decide) (by decide))
  have e111 : m₉ 111 = m 111 := funext (fun k => h 111 k (by decide) (by decide))
  have e112 : m₉ 112 = m 112 := funext (fun k => h 112 k (by decide) (by decide))
  have e113 : m₉ 113 = m 113 := funext (fun k => h 113 k (by decide) (by decide))
  have e114 : m₉ 114 = m 114 := funext (fun k => h 114 k (by decide) (by decide))
  have e116 : m₉ 116 = m 116 := funext (fun k => h 116 k (by decide) (by decide))
  have e117 : m₉ 117 = m 117 := funext (fun k => h 117 k (by decide) (by decide))
  have f7 : m₉ 94 7 = m 94 7 := h 94 7 (by decide) (by decide)
  have f8 : m₉ 94 8 = m 94 8 := h 94 8 (by decide) (by decide)
  have f10 : m₉ 94 10 = m 94 10 := h 94 10 (by decide) (by decide)
  have f11 : m₉ 94 11 = m 94 11 := h 94 11 (by decide) (by decide)
  have f13 : m₉ 94 13 = m 94 13 := h 94 13 (by decide) (by decide)
  have f14 : m₉ 94 14 = m 94 14 := h 94 14 (by decide) (by decide)
  have f16 : m₉ 94 16 = m 94 16 := h 94 16 (by decide) (by decide)
  have f18 : m₉ 94 18 = m 94 18 := h 94 18 (by decide) (by decide)
  have f46 : m₉ 94 46 = m 94 46 := h 94 46 (by decide) (by decide)
  have f55 : m₉ 94 55 = m 94 55 := h 94 55 (by decide) (by decide)
  have f56 : m₉ 94 56 = m 94 56 := h 94 56 (by decide) (by decide)
  have f57 : m₉ 94 57 = m 94 57 := h 94 57 (by decide) (by decide)
  have f58 : m₉ 94 58 = m 94 58 := h 94 58 (by decide) (by decide)
  have f59 : m₉ 94 59 = m 94 59 := h 94 59 (by decide) (by decide)
  have f60 : m₉ 94 60 = m 94 60 := h 94 60 (by decide) (by decide)
  have f61 : m₉ 94 61 = m 94 61 := h 94 61 (by decide) (by decide)
  have f63 : m₉ 94 63 = m 94 63 := h 94 63 (by decide) (by decide)
  have f64 : m₉ 94 64 = m 94 64 := h 94 64 (by decide) (by decide)
  have hv := zV_tr H.1 h
  unfold zRef at H ⊢
  rw [e98, e99, e101, e102, e103, e106, e108, e109, e111, e112, e113, e114, e116, e117, f7, f8, f10, f11, f13, f14, f16, f18, f46, f55, f56, f57, f58, f59, f60, f61, f63, f64]
  exact ⟨hv, H.2⟩
theorem zov_lo {wr : Nat → Nat → Bool} {m m₉ : Nat → Nat → Int32} {c k : Nat} (h : wr c k = true → 94 ≤ c ∧ c ≤ 124) (hc : c < 94 ∨ 124 < c) : zov wr m m₉ c k = m c k := by
  show cond (wr c k) (m₉ c k) (m c k) = m c k
  cases e : wr c k with
  | false => rfl
  | true => have := h e; omega
/-- the class: its invariant, and who is present -/
def zHsm (S : ma_S) : Prop := zA (mI S) (mR S) (mC S) (mZ S) (mN S) S ∧ (mR S 64 11 = none ∨ ∃ p, p ∈ zcl7 ∧ mR S 64 11 = some p)
/-- what a call of the class leaves -/
def zCl (S S₉ : ma_S) : Prop := zHsm S₉ ∧ (∀ c k, 94 ≤ c → c ≤ 125 → mI S₉ c k = mI S c k) ∧ mC S₉ ≤ mC S + 2 ∧ mZ S₉ ≤ mZ S + 15
section LW1
variable {S S₉ : ma_S} {f : Nat → Nat → Int32} {r : Nat → Nat → Option Nat} {C Z N p : Nat} {m₉ : Nat → Nat → Int32}
theorem zHs_T (h : zHsm S) : zT S := h.1.1
theorem hs_of (h : zA f r C Z N S) (hp : r 64 11 = none ∨ ∃ p, p ∈ zcl7 ∧ r 64 11 = some p) : zHsm S := by
  have e := h.2.1
  have e2 : mR S 64 11 = r 64 11 := zG_r h (by decide)
  refine ⟨?_, ?_⟩
  · rw [e.1, e.2.1, e.2.2]
    exact zG_dn h (fun _ z => z) (fun _ z => z) (fun _ z => z) (fun z => z)
  · rw [e2]; exact hp
theorem fr_A (h : zA f r C Z N S) : ∀ c k, 94 ≤ c → c ≤ 125 → mI S c k = f c k := by
  intro c k h1 h2
  refine zG_z h ?_
  simp only [zA_f, zfz, Bool.and_eq_true, Bool.or_eq_true, decide_eq_true_eq]
  omega
theorem fr_B (h : zB f r C Z N S) : mI S 64 1 = f 64 1 := zG_z h rfl
theorem zN_of (h : zA f r C Z N S) : zAn f r C Z N S := by
  obtain ⟨a1, a2, a3, a4, a5, a6, a9, a7, a8⟩ := h
  refine ⟨a1, a2, fun c k z => a3 c k ?_, a4, a5, a6, a9, a7, a8⟩
  simp only [zA_f, zAn_f, Bool.and_eq_true, Bool.or_eq_true, decide_eq_true_eq] at z ⊢
  simp only [z, and_self, true_or, ne_eq, not_false_eq_true]
theorem fr_B7 (h : zB f r C Z N S) : mI S 64 7 = f 64 7 := zG_z h rfl
theorem fr_B7b (h : zB f r C Z N S) : mI (ma_bump S) 64 7 = f 64 7 := (fr_B7 h : mI S 64 7 = f 64 7)
theorem fr_A7 (h : zA f r C Z N S) : mI S 64 7 = f 64 7 := zG_z h rfl
theorem fr_A7b (h : zA f r C Z N S) : mI (ma_bump S) 64 7 = f 64 7 := (fr_A7 h : mI S 64 7 = f 64 7)
theorem fr_N (h : zAn f r C Z N S) : ∀ c k, 94 ≤ c → c ≤ 125 → mI S c k = f c k := by
  intro c k h1 h2
  refine zG_z h ?_
  simp only [zAn_f, zfz, Bool.and_eq_true, Bool.or_eq_true, decide_eq_true_eq]
  omega
theorem hs_ofN (h : zAn f r C Z N S) (hp : r 64 11 = none ∨ ∃ p, p ∈ zcl7 ∧ r 64 11 = some p) : zHsm S := by
  have e := h.2.1
  have e2 : mR S 64 11 = r 64 11 := zG_r h (by decide)
  refine ⟨?_, ?_⟩
  · rw [e.1, e.2.1, e.2.2]
    exact zG_dn h (by decide) (by decide) (by decide) (fun z => z)
  · rw [e2]; exact hp
theorem zG_bN (h : zAn f r C Z N S) : zAn f r (C + 1) (Z + 6) N (ma_bump S) := by
  obtain ⟨a1, a2, a3, a4, a5, a6, a9, a7, a8⟩ := h
  refine ⟨a1, ⟨?_, ?_, a2.2.2⟩, a3, a4, a5, a6, a9, a7, a8⟩
  · show mC S + 1 = C + 1
    rw [a2.1]
  · show mZ S + 6 = Z + 6
    rw [a2.2.1]
theorem cl_N (h1 : zAn (mI S) r C Z N S₉) (hp : r 64 11 = none ∨ ∃ p, p ∈ zcl7 ∧ r 64 11 = some p) (hC : C ≤ mC S + 1) (hZ : Z ≤ mZ S + 9) : zCl S S₉ := by
  have e := h1.2.1
  exact ⟨hs_ofN h1 hp, fr_N h1, by rw [e.1]; omega, by rw [e.2.1]; omega⟩
theorem cl_XN (h1 : zAn (mI S) r C Z N S₉) (hp : r 64 11 = none ∨ ∃ p, p ∈ zcl7 ∧ r 64 11 = some p) (hC : C ≤ mC S) (hZ : Z ≤ mZ S) : zCl S (ma_bump S₉) := by
  have h2 := zG_bN h1
  have e := h2.2.1
  exact ⟨hs_ofN h2 hp, fr_N h2, by rw [e.1]; omega, by rw [e.2.1]; omega⟩
theorem fr_Bb (h : zB f r C Z N S) : mI (ma_bump S) 64 1 = f 64 1 := (fr_B h : mI S 64 1 = f 64 1)
theorem zG_b (h : zA f r C Z N S) : zA f r (C + 1) (Z + 6) N (ma_bump S) := by
  obtain ⟨a1, a2, a3, a4, a5, a6, a9, a7, a8⟩ := h
  refine ⟨a1, ⟨?_, ?_, a2.2.2⟩, a3, a4, a5, a6, a9, a7, a8⟩
  · show mC S + 1 = C + 1
    rw [a2.1]
  · show mZ S + 6 = Z + 6
    rw [a2.2.1]
theorem cl_A (h : zHsm S) (h1 : zA (mI S) r C Z N S₉) (hp : r 64 11 = none ∨ ∃ p, p ∈ zcl7 ∧ r 64 11 = some p) (hC : C ≤ mC S + 1) (hZ : Z ≤ mZ S + 9) : zCl S S₉ := by
  have e := h1.2.1
  exact ⟨hs_of h1 hp, fr_A h1, by rw [e.1]; omega, by rw [e.2.1]; omega⟩
theorem cl_X (h : zHsm S) (h1 : zA (mI S) r C Z N S₉) (hp : r 64 11 = none ∨ ∃ p, p ∈ zcl7 ∧ r 64 11 = some p) (hC : C ≤ mC S) (hZ : Z ≤ mZ S) : zCl S (ma_bump S₉) := by
  have h2 := zG_b h1
  have e := h2.2.1
  exact ⟨hs_of h2 hp, fr_A h2, by rw [e.1]; omega, by rw [e.2.1]; omega⟩
theorem cl_put (h : zCl S S₉) {x : Int64} : zCl S (ma_put S₉ 125 0 (.inr (.inl x))) := h
theorem hs_zst (h : zHsm S) (ho : ∀ c k, c < 94 ∨ 124 < c → m₉ c k = mI S c k) : zHsm (zst S m₉) := by
  obtain ⟨⟨a1, a2, a3, a4, a5, a6, a9, a7, a8⟩, hp⟩ := h
  refine ⟨⟨a1, ⟨rfl, rfl, rfl⟩, fun _ _ _ => rfl, fun _ _ _ => rfl, ?_, fun q hq => ?_, fun q hq k hk => ?_, fun c hc i b e => a7 c hc i b e, fun c hc1 hc2 => ?_⟩, hp⟩
  · show zA_x m₉
    unfold zA_x at a5 ⊢
    simp only [ho 81 _ (Or.inl (by decide)), ho 82 _ (Or.inl (by decide))]
    exact a5
  · have e := ho q.1 q.2.1 (Or.inl ((by decide : ∀ q ∈ zA_s, q.1 < 94) q hq))
    show q.2.2.1 ≤ (m₉ q.1 q.2.1).toInt ∧ (m₉ q.1 q.2.1).toInt ≤ q.2.2.2
    rw [e]
    exact a6 q hq
  · have e := ho q.1 k (Or.inl ((by decide : ∀ q ∈ zA_a, q.1 < 94) q hq))
    show q.2.2.1 ≤ (m₉ q.1 k).toInt ∧ (m₉ q.1 k).toInt ≤ q.2.2.2
    rw [e]
    exact a9 q hq k hk
  · show (0 ≤ (m₉ c 0).toInt ∧ (m₉ c 0).toInt ≤ 511) ∧ (1 ≤ (m₉ c 2).toInt ∧ (m₉ c 2).toInt ≤ 61) ∧ (0 ≤ (m₉ c 4).toInt ∧ (m₉ c 4).toInt ≤ 200000)
    rw [ho c 0 (Or.inr (by omega)), ho c 2 (Or.inr (by omega)), ho c 4 (Or.inr (by omega))]
    exact a8 c hc1 hc2
/-- the reference held against a heap by numbers -/
def zR5 (m : Nat → Nat → Int32) (aa : Nat → Nat → Int32) : Prop := (qRB (m 99) (m 100) (m 98) (m 101) (m 102) (m 103) (m 107) (m 108) (m 109) (m 111) (m 112) (m 113) (m 114) (m 94 55) (m 94 46) (m 94 11) (m 94 12) (m 94 62) (m 94 17) (m 94 9) aa) ∧ (qI aa) ∧ (qMG (m 94 58) (m 106) (m 115) (m 94 57) (m 94 56) (m 99) (m 100) aa) ∧ (aa 87 8 = (m 94 58)) ∧ ((m 94 45).toInt = sm (zbU (m 99)) (m 102) 3100)
theorem z5_tr {m m₉ aa : Nat → Nat → Int32} (H : zR5 m aa) (h : ∀ c k, 94 ≤ c → c ≤ 125 → m₉ c k = m c k) : zR5 m₉ aa := by
  have e98 : m₉ 98 = m 98 := funext (fun k => h 98 k (by decide) (by decide))
  have e99 : m₉ 99 = m 99 := funext (fun k => h 99 k (by decide) (by decide))
  have e100 : m₉ 100 = m 100 := funext (fun k => h 100 k (by decide) (by decide))
  have e101 : m₉ 101 = m 101 := funext (fun k => h 101 k (by decide) (by decide))
  have e102 : m₉ 102 = m 102 := funext (fun k => h 102 k (by decide) (by decide))
  have e103 : m₉ 103 = m 103 := funext (fun k => h 103 k (by decide) (by decide))
  have e106 : m₉ 106 = m 106 := funext (fun k => h 106 k (by decide) (by decide))
  have e107 : m₉ 107 = m 107 := funext (fun k => h 107 k (by decide) (by decide))
  have e108 : m₉ 108 = m 108 := funext (fun k => h 108 k (by decide) (by decide))
  have e109 : m₉ 109 = m 109 := funext (fun k => h 109 k (by decide) (by decide))
  have e111 : m₉ 111 = m 111 := funext (fun k => h 111 k (by decide) (by decide))
  have e112 : m₉ 112 = m 112 := funext (fun k => h 112 k (by decide) (by decide))
  have e113 : m₉ 113 = m 113 := funext (fun k => h 113 k (by decide) (by decide))
  have e114 : m₉ 114 = m 114 := funext (fun k => h 114 k (by decide) (by decide))
  have e115 : m₉ 115 = m 115 := funext (fun k => h 115 k (by decide) (by decide))
  have f9 : m₉ 94 9 = m 94 9 := h 94 9 (by decide) (by decide)
  have f11 : m₉ 94 11 = m 94 11 := h 94 11 (by decide) (by decide)
  have f12 : m₉ 94 12 = m 94 12 := h 94 12 (by decide) (by decide)
  have f17 : m₉ 94 17 = m 94 17 := h 94 17 (by decide) (by decide)
  have f45 : m₉ 94 45 = m 94 45 := h 94 45 (by decide) (by decide)
  have f46 : m₉ 94 46 = m 94 46 := h 94 46 (by decide) (by decide)
  have f55 : m₉ 94 55 = m 94 55 := h 94 55 (by decide) (by decide)
  have f56 : m₉ 94 56 = m 94 56 := h 94 56 (by decide) (by decide)
  have f57 : m₉ 94 57 = m 94 57 := h 94 57 (by decide) (by decide)
  have f58 : m₉ 94 58 = m 94 58 := h 94 58 (by decide) (by decide)
  have f62 : m₉ 94 62 = m 94 62 := h 94 62 (by decide) (by decide)
  unfold zR5 at H ⊢
  rw [e98, e99, e100, e101, e102, e103, e106, e107, e108, e109, e111, e112, e113, e114, e115, f9, f11, f12, f17, f45, f46, f55, f56, f57, f58, f62]
  exact H
def zS5 (S : ma_S) : Prop := xB S (mR S 70) ∧ ∃ aa, qSm (aS 88 S) aa ∧ zR5 (mI S) aa
/-- the reference held against a heap by numbers, where nothing is marked -/
def zRz (m : Nat → Nat → Int32) (aa : Nat → Nat → Int32) : Prop := (qRB (m 99) (m 100) (m 98) (m 101) (m 102) (m 103) (m 107) (m 108) (m 109) (m 111) (m 112) (m 113) (m 114) (m 94 55) (m 94 46) (m 94 11) (m 94 12) (m 94 62) (m 94 17) (m 94 9) aa) ∧ (qI aa) ∧ (aa 87 8 = (m 94 58)) ∧ ((m 94 45).toInt = sm (zbU (m 99)) (m 102) 3100)
def zRk (m : Nat → Nat → Int32) (aa : Nat → Nat → Int32) : Prop := qCt (m 105) (m 99) (m 100) aa [] (-1) (-1)
theorem zz_tr {m m₉ aa : Nat → Nat → Int32} (H : zRz m aa) (h : ∀ c k, 94 ≤ c → c ≤ 125 → m₉ c k = m c k) : zRz m₉ aa := by
  have e98 : m₉ 98 = m 98 := funext (fun k => h 98 k (by decide) (by decide))
  have e99 : m₉ 99 = m 99 := funext (fun k => h 99 k (by decide) (by decide))
  have e100 : m₉ 100 = m 100 := funext (fun k => h 100 k (by decide) (by decide))
  have e101 : m₉ 101 = m 101 := funext (fun k => h 101 k (by decide) (by decide))
  have e102 : m₉ 102 = m 102 := funext (fun k => h 102 k (by decide) (by decide))
  have e103 : m₉ 103 = m 103 := funext (fun k => h 103 k (by decide) (by decide))
  have e107 : m₉ 107 = m 107 := funext (fun k => h 107 k (by decide) (by decide))
  have e108 : m₉ 108 = m 108 := funext (fun k => h 108 k (by decide) (by decide))
  have e109 : m₉ 109 = m 109 := funext (fun k => h 109 k (by decide) (by decide))
  have e111 : m₉ 111 = m 111 := funext (fun k => h 111 k (by decide) (by decide))
  have e112 : m₉ 112 = m 112 := funext (fun k => h 112 k (by decide) (by decide))
  have e113 : m₉ 113 = m 113 := funext (fun k => h 113 k (by decide) (by decide))
  have e114 : m₉ 114 = m 114 := funext (fun k => h 114 k (by decide) (by decide))
  have f9 : m₉ 94 9 = m 94 9 := h 94 9 (by decide) (by decide)
  have f11 : m₉ 94 11 = m 94 11 := h 94 11 (by decide) (by decide)
  have f12 : m₉ 94 12 = m 94 12 := h 94 12 (by decide) (by decide)
  have f17 : m₉ 94 17 = m 94 17 := h 94 17 (by decide) (by decide)
  have f45 : m₉ 94 45 = m 94 45 := h 94 45 (by decide) (by decide)
  have f46 : m₉ 94 46 = m 94 46 := h 94 46 (by decide) (by decide)
  have f55 : m₉ 94 55 = m 94 55 := h 94 55 (by decide) (by decide)
  have f58 : m₉ 94 58 = m 94 58 := h 94 58 (by decide) (by decide)
  have f62 : m₉ 94 62 = m 94 62 := h 94 62 (by decide) (by decide)
  unfold zRz at H ⊢
  rw [e98, e99, e100, e101, e102, e103, e107, e108, e109, e111, e112, e113, e114, f9, f11, f12, f17, f45, f46, f55, f58, f62]
  exact H
theorem zk_tr {m m₉ aa : Nat → Nat → Int32} (H : zRk m aa) (h : ∀ c k, 94 ≤ c → c ≤ 125 → m₉ c k = m c k) : zRk m₉ aa := by
  have e99 : m₉ 99 = m 99 := funext (fun k => h 99 k (by decide) (by decide))
  have e100 : m₉ 100 = m 100 := funext (fun k => h 100 k (by decide) (by decide))
  have e105 : m₉ 105 = m 105 := funext (fun k => h 105 k (by decide) (by decide))
  unfold zRk at H ⊢
  rw [e99, e100, e105]
  exact H
def zS0 (S : ma_S) : Prop := xB S (mR S 70) ∧ ∃ aa, zQ aa (aT 79 S) ∧ zRz (mI S) aa
def zS4 (T : Nat) (S : ma_S) : Prop := xB S (mR S 70) ∧ cC (aT 84 S) [] (kC S) (T : Int) ∧ ∃ aa, zQ aa (aT 84 S) ∧ zRz (mI S) aa ∧ zRk (mI S) aa
/-- nothing that the moving collectors' likeness speaks of has changed -/
def zNk (m m₉ : Nat → Nat → Int32) : Prop := (∀ aa, zN1 m aa → zN1 m₉ aa) ∧ (∀ aa, zN2 m aa → zN2 m₉ aa) ∧ (∀ aa, zN3 m aa → zN3 m₉ aa) ∧ (∀ aa, zN6 m aa → zN6 m₉ aa)
def zIv (S : ma_S) : Prop := (mR S 64 11 = some 80 → qI (aL S)) ∧ (mR S 64 11 = some 81 → qHv (aH S)) ∧ (mR S 64 11 = some 82 → qAv (aG S)) ∧ (mR S 64 11 = some 91 → qRv (aZ S))
def zMod (T : Nat) (S S₉ : ma_S) : Prop := (mR S 64 11 = some 87 → zS5 S₉) ∧ (mR S 64 11 = some 79 → zS0 S₉) ∧ (mR S 64 11 = some 84 → zS4 T S₉) ∧ (mR S 64 11 = some 80 → zS1m S₉) ∧ (mR S 64 11 = some 81 → zS2m S₉) ∧ (mR S 64 11 = some 82 → zS3m S₉) ∧ (mR S 64 11 = some 91 → zS6m S₉)
def zSim (T : Nat) (S : ma_S) : Prop := ((mR S 64 11 = none ↔ (mI S 94 8).toInt = 0) ∧ (mR S 64 11 = some 87 ↔ ((mI S 94 8).toInt ≠ 0 ∧ (mI S 94 10).toInt = 5)) ∧ (mR S 64 11 = some 79 ↔ ((mI S 94 8).toInt ≠ 0 ∧ (mI S 94 10).toInt = 0)) ∧ (mR S 64 11 = some 84 ↔ ((mI S 94 8).toInt ≠ 0 ∧ (mI S 94 10).toInt = 4)) ∧ (mR S 64 11 = some 80 ↔ ((mI S 94 8).toInt ≠ 0 ∧ (mI S 94 10).toInt = 1)) ∧ (mR S 64 11 = some 81 ↔ ((mI S 94 8).toInt ≠ 0 ∧ (mI S 94 10).toInt = 2)) ∧ (mR S 64 11 = some 82 ↔ ((mI S 94 8).toInt ≠ 0 ∧ (mI S 94 10).toInt = 3)) ∧ (mR S 64 11 = some 91 ↔ ((mI S 94 8).toInt ≠ 0 ∧ (mI S 94 10).toInt = 6))) ∧ zMod T S S ∧ 0 ≤ (mI S 94 17).toInt ∧ 0 ≤ (mI S 94 27).toInt
def zKR (m : Nat → Nat → Int32) : Prop := ∀ k : Nat, (k : Int) < (m 94 7).toInt → m 67 k = m 97 k ∧ m 68 k = m 98 k
/-- both, T calls behind -/
def zAL (m : Nat → Nat → Int32) : Prop := ∀ k : Nat, (k : Int) < (m 94 3).toInt → m 65 k = m 95 k ∧ vp_nar .byte (m 95 k) = m 95 k
def zLw (C0 Z0 T : Nat) (S : ma_S) : Prop := zHsm S ∧ zRef T (mI S) ∧ mI S 64 1 = mI S 94 3 ∧ mI S 64 7 = mI S 94 7 ∧ mC S ≤ C0 + 2 * T ∧ mZ S ≤ Z0 + 15 * T ∧ zAL (mI S) ∧ zKR (mI S) ∧ zSim T S
theorem lw_step {C0 Z0 T : Nat} {S2 : ma_S} (H : zLw C0 Z0 T S) (hc : zCl S S2) (hr : zRef (T + 1) m₉) (ho : ∀ c k, c < 94 ∨ 124 < c → m₉ c k = mI S2 c k) (h3 : m₉ 64 1 = m₉ 94 3) (h7 : m₉ 64 7 = m₉ 94 7) (hal : zAL m₉) (hkr : zKR m₉) (hsm : zSim (T + 1) (zst S2 m₉)) : zLw C0 Z0 (T + 1) (zst S2 m₉) := by
  refine ⟨hs_zst hc.1 ho, hr, h3, h7, ?_, ?_, hal, hkr, hsm⟩
  · show mC S2 ≤ _
    have := hc.2.2.1
    have := H.2.2.2.2.1
    omega
  · show mZ S2 ≤ _
    have := hc.2.2.2
    have := H.2.2.2.2.2.1
    omega
theorem lw_te {C0 Z0 T : Nat} {S2 : ma_S} (H : zLw C0 Z0 T S) (hc : zCl S S2) (ht : mI S2 64 1 = mI S 64 1) (ho : ∀ c k, c < 94 ∨ 124 < c → m₉ c k = mI S2 c k) (h3 : m₉ 94 3 = mI S2 94 3) : m₉ 64 1 = m₉ 94 3 := by
  rw [ho 64 1 (Or.inl (by decide)), ht, h3, hc.2.1 94 3 (by decide) (by decide)]
  exact H.2.2.1
theorem lw_ke {C0 Z0 T : Nat} {S2 : ma_S} (H : zLw C0 Z0 T S) (hc : zCl S S2) (ht : mI S2 64 7 = mI S 64 7) (ho : ∀ c k, c < 94 ∨ 124 < c → m₉ c k = mI S2 c k) (h7 : m₉ 94 7 = mI S2 94 7) : m₉ 64 7 = m₉ 94 7 := by
  rw [ho 64 7 (Or.inl (by decide)), ht, h7, hc.2.1 94 7 (by decide) (by decide)]
  exact H.2.2.2.1
theorem lw_al {C0 Z0 T : Nat} {S2 : ma_S} (H : zLw C0 Z0 T S) (hc : zCl S S2) (h65 : mI S2 65 = mI S 65) (ho : ∀ c k, c < 94 ∨ 124 < c → m₉ c k = mI S2 c k) (h3 : (m₉ 94 3).toInt ≤ (mI S2 94 3).toInt) (h95 : m₉ 95 = mI S2 95) : zAL m₉ := by
  intro k hk
  have e3 : mI S2 94 3 = mI S 94 3 := hc.2.1 94 3 (by decide) (by decide)
  rw [e3] at h3
  have z := H.2.2.2.2.2.2.1 k (by omega)
  rw [ho 65 k (Or.inl (by decide)), h65, h95, hc.2.1 95 k (by decide) (by decide)]
  exact z
theorem lw_fd {C0 Z0 T : Nat} {S2 : ma_S} {w : Nat → Int32} (H : zLw C0 Z0 T S) (hc : zCl S S2) (hfd : zFd (mI S 65) (mI S2 65) (mI S 94 3).toInt 5 w) (hfr : zFd (mI S2 95) (m₉ 95) (mI S2 94 3).toInt 5 w) (ho : ∀ c k, c < 94 ∨ 124 < c → m₉ c k = mI S2 c k) (h3 : (m₉ 94 3).toInt = (mI S2 94 3).toInt + 20) : zAL m₉ := by
  have e3 : mI S2 94 3 = mI S 94 3 := hc.2.1 94 3 (by decide) (by decide)
  have e95 : mI S2 95 = mI S 95 := funext (fun k => hc.2.1 95 k (by decide) (by decide))
  have b := rs_94_3 H.2.1.1
  rw [e95, e3] at hfr
  rw [e3] at h3
  intro k hk
  rw [ho 65 k (Or.inl (by decide))]
  exact ⟨fd_al hfd hfr b.1 (fun j hj => (H.2.2.2.2.2.2.1 j hj).1) k (by omega), fd_by hfr b.1 (fun j hj => (H.2.2.2.2.2.2.1 j hj).2) k (by omega)⟩
theorem lw_an {C0 Z0 T : Nat} {S2 : ma_S} {v v2 : Int32} (H : zLw C0 Z0 T S) (hc : zCl S S2) (h1 : v.toInt = zAns (mI S 65) (mI S 64 1).toInt) (h2 : v2.toInt = zAns (mI S2 95) (mI S2 94 3).toInt) : v = v2 := by
  have e3 : mI S2 94 3 = mI S 94 3 := hc.2.1 94 3 (by decide) (by decide)
  have e95 : mI S2 95 = mI S 95 := funext (fun k => hc.2.1 95 k (by decide) (by decide))
  have b := rs_94_3 H.2.1.1
  refine Int32.toInt_inj.mp ?_
  rw [h1, h2, e95, e3, H.2.2.1]
  exact zAns_cg (fun j hj => (H.2.2.2.2.2.2.1 j hj).1) b.1 b.2
theorem lw_by {C0 Z0 T : Nat} {S2 : ma_S} (H : zLw C0 Z0 T S) (hc : zCl S S2) : ∀ k : Nat, (k : Int) < (mI S2 94 3).toInt → vp_nar .byte ((mI S2 95) k) = (mI S2 95) k := by
  intro k hk
  rw [hc.2.1 94 3 (by decide) (by decide)] at hk
  rw [hc.2.1 95 k (by decide) (by decide)]
  exact (H.2.2.2.2.2.2.1 k hk).2
theorem al_0 (h : (m₉ 94 3).toInt = 0) : zAL m₉ := fun k hk => by omega
theorem fr_B65 (h : zB f r C Z N S) : mI S 65 = f 65 := funext (fun _ => zG_z h rfl)
theorem fr_B65b (h : zB f r C Z N S) : mI (ma_bump S) 65 = f 65 := (fr_B65 h : mI S 65 = f 65)
theorem fr_X65 (h : zX f r C Z N S) : mI S 65 = f 65 := funext (fun _ => zG_z h rfl)
theorem fr_X65b (h : zX f r C Z N S) : mI (ma_bump S) 65 = f 65 := (fr_X65 h : mI S 65 = f 65)
theorem fr_K65 (h : zKd f r C Z N S) : mI S 65 = f 65 := funext (fun _ => zG_z h rfl)
theorem fr_K65b (h : zKd f r C Z N S) : mI (ma_bump S) 65 = f 65 := (fr_K65 h : mI S 65 = f 65)
theorem fr_B67 (h : zB f r C Z N S) : mI S 67 = f 67 ∧ mI S 68 = f 68 := ⟨funext (fun _ => zG_z h rfl), funext (fun _ => zG_z h rfl)⟩
theorem fr_X67 (h : zX f r C Z N S) : mI S 67 = f 67 ∧ mI S 68 = f 68 := ⟨funext (fun _ => zG_z h rfl), funext (fun _ => zG_z h rfl)⟩
theorem fr_F67 (h : zFe f r C Z N S) : mI S 67 = f 67 ∧ mI S 68 = f 68 := ⟨funext (fun _ => zG_z h rfl), funext (fun _ => zG_z h rfl)⟩
theorem fr_B67b (h : zB f r C Z N S) : mI (ma_bump S) 67 = f 67 ∧ mI (ma_bump S) 68 = f 68 := (fr_B67 h : mI S 67 = f 67 ∧ mI S 68 = f 68)
theorem fr_X67b (h : zX f r C Z N S) : mI (ma_bump S) 67 = f 67 ∧ mI (ma_bump S) 68 = f 68 := (fr_X67 h : mI S 67 = f 67 ∧ mI S 68 = f 68)
theorem fr_F67b (h : zFe f r C Z N S) : mI (ma_bump S) 67 = f 67 ∧ mI (ma_bump S) 68 = f 68 := (fr_F67 h : mI S 67 = f 67 ∧ mI S 68 = f 68)
theorem pr_B (h : zB f r C Z N S) : mR S 64 11 = r 64 11 := zG_r h (by decide)
theorem pr_Bb (h : zB f r C Z N S) : mR (ma_bump S) 64 11 = r 64 11 := (pr_B h : mR S 64 11 = r 64 11)
theorem pr_A (h : zA f r C Z N S) : mR S 64 11 = r 64 11 := zG_r h (by decide)
theorem pr_Ab (h : zA f r C Z N S) : mR (ma_bump S) 64 11 = r 64 11 := (pr_A h : mR S 64 11 = r 64 11)
theorem pr_N (h : zAn f r C Z N S) : mR S 64 11 = r 64 11 := zG_r h (by decide)
theorem pr_Nb (h : zAn f r C Z N S) : mR (ma_bump S) 64 11 = r 64 11 := (pr_N h : mR S 64 11 = r 64 11)
theorem lw_kr {C0 Z0 T : Nat} {S2 : ma_S} (H : zLw C0 Z0 T S) (hc : zCl S S2) (h67 : mI S2 67 = mI S 67 ∧ mI S2 68 = mI S 68) (ho : ∀ c k, c < 94 ∨ 124 < c → m₉ c k = mI S2 c k) (h7 : m₉ 94 7 = mI S2 94 7) (h97 : m₉ 97 = mI S2 97) (h98 : m₉ 98 = mI S2 98) : zKR m₉ := by
  intro k hk
  rw [h7, hc.2.1 94 7 (by decide) (by decide)] at hk
  have z := H.2.2.2.2.2.2.2.1 k hk
  rw [ho 67 k (Or.inl (by decide)), ho 68 k (Or.inl (by decide)), h67.1, h67.2, h97, h98, hc.2.1 97 k (by decide) (by decide), hc.2.1 98 k (by decide) (by decide)]
  exact z
theorem sim_st {T : Nat} {S2 : ma_S} (H : zSim T S) (hc : zCl S S2) (hp : mR S2 64 11 = mR S 64 11) (e8 : m₉ 94 8 = mI S2 94 8) (e10 : m₉ 94 10 = mI S2 94 10) (e17 : m₉ 94 17 = mI S2 94 17) (e27 : m₉ 94 27 = mI S2 94 27) (hm : zMod (T + 1) S (zst S2 m₉)) : zSim (T + 1) (zst S2 m₉) := by
  have a8 : mI (zst S2 m₉) 94 8 = mI S 94 8 := e8.trans (hc.2.1 94 8 (by decide) (by decide))
  have a10 : mI (zst S2 m₉) 94 10 = mI S 94 10 := e10.trans (hc.2.1 94 10 (by decide) (by decide))
  have a17 : mI (zst S2 m₉) 94 17 = mI S 94 17 := e17.trans (hc.2.1 94 17 (by decide) (by decide))
  have a27 : mI (zst S2 m₉) 94 27 = mI S 94 27 := e27.trans (hc.2.1 94 27 (by decide) (by decide))
  have ap : mR (zst S2 m₉) 64 11 = mR S 64 11 := hp
  unfold zSim zMod
  rw [a8, a10, a17, a27, ap]
  exact ⟨H.1, hm, H.2.2⟩
theorem s0_st {S2 : ma_S} {bb : Nat → Nat → Int32} (hc : zCl S S2) (hB : xB S2 (mR S2 70)) (ho : ∀ c k, c < 94 ∨ 124 < c → m₉ c k = mI S2 c k) (hq : zQ bb (aT 79 S2)) (hz : zRz m₉ bb) : zS0 (zst S2 m₉) := ⟨xB_zst hB ho, bb, by rw [T_zst (by decide) hc.1.1 ho]; exact hq, hz⟩
theorem s4_st {T : Nat} {S2 : ma_S} {bb : Nat → Nat → Int32} (hc : zCl S S2) (hB : xB S2 (mR S2 70)) (ho : ∀ c k, c < 94 ∨ 124 < c → m₉ c k = mI S2 c k) (hC : cC (aT 84 S2) [] (kC S2) (T : Int)) (hq : zQ bb (aT 84 S2)) (hz : zRz m₉ bb) (hk : zRk m₉ bb) : zS4 T (zst S2 m₉) := ⟨xB_zst hB ho, by rw [T_zst (by decide) hc.1.1 ho, kC_zst hc.1.1 ho]; exact hC, bb, by rw [T_zst (by decide) hc.1.1 ho]; exact hq, hz, hk⟩
theorem s5_st {S2 : ma_S} {bb : Nat → Nat → Int32} (hc : zCl S S2) (hB : xB S2 (mR S2 70)) (ho : ∀ c k, c < 94 ∨ 124 < c → m₉ c k = mI S2 c k) (hsm : qSm (aS 88 S2) bb) (hz : zR5 m₉ bb) : zS5 (zst S2 m₉) := ⟨xB_zst hB ho, bb, by rw [aS_zst hc.1.1 ho]; exact hsm, hz⟩
theorem sm_z : ∀ n, ∀ {b : Nat → Bool} {ws : Nat → Int32}, (∀ t, t < n → b t = false) → sm b ws n = 0 := by
  intro n
  induction n with
  | zero => intro b ws _; rfl
  | succ n ih =>
    intro b ws h
    unfold sm
    rw [ih (fun t ht => h t (by omega)), h n (by omega)]
    rfl
theorem DX_5 {po : Int32} {us rt wk wi : Nat → Int32} {wm : Int32} {kr kd ws wd : Nat → Int32} (h : po.toInt = 5) : zDX po us rt wk wi wm kr kd ws wd := fun z => by omega
theorem HA_5 {po ro yo ol ca hf tp ot : Int32} {us ws at₉ ow di kr kd wd : Nat → Int32} (h : po.toInt = 5) : zHA po ro yo ol ca hf tp ot us ws at₉ ow di kr kd wd := ⟨fun z => by omega, fun z => by omega⟩
theorem RG_5 {po si rg pr : Int32} {us at₉ ws rt : Nat → Int32} (h : po.toInt = 5) : zRG po si rg pr us at₉ ws rt := fun z => by omega
/-- what likeness asks of the reference's heap -/
theorem K_5 {aa : Nat → Nat → Int32} (h : zR5 m₉ aa) : qK aa ∧ (aa 87 8 ≠ 0 → qMI aa) ∧ (aa 87 7 = 0 ∨ aa 87 7 = 1) ∧ ∀ n i, qWp aa n i → aNm aa (aRef aa n i) = aRef aa n i := by
  obtain ⟨hR, hI, hG, hK, hW⟩ := h
  have mk : aa 87 8 ≠ 0 → (m₉ 94 58).toInt ≠ 0 := fun w z => w (by rw [hK]; exact Int32.toInt_inj.mp (by rw [z]; rfl))
  refine ⟨⟨hI, fun w => (hG (mk w)).1.2.2.2.2⟩, fun w => (hG (mk w)).2, ?_, fun n i W => ?_⟩
  · have e := hR.2.2.2.2.2.2.2.2.2.2.2.2
    rw [e]
    split
    · exact Or.inr rfl
    · exact Or.inl rfl
  · obtain ⟨t, ht, hv, en⟩ := R1_ex hR.1 W.1
    have tt := hR.1.1 t ht hv
    rw [en] at tt
    have ci := tn_cast W.2.1
    have sz : i.toInt < (m₉ 102 t).toInt := by
      have := W.2.2
      rw [tt.2.2.1, i_p1 (by have := tt.2.2.2.2.2.1; omega)] at this
      omega
    have q := hR.2.1 t ht hv i.toNatClampNeg (by omega)
    rw [en, ofN_tn W.2.1] at q
    rw [q.2.1]
    exact Nm_no hR.1 q.1
/-- a heap that was opened -/
theorem R5_op {a8 : Nat → Nat → Int32} {u : Nat → Int32} (hV : zV m₉) (ha : ∀ n k, 512 ≤ n → a8 (1000 + n) k = 0) (h9 : ∀ s : Nat, s < 3100 → m₉ 99 s = 0) (h2 : ∀ s : Nat, (s : Int) < 16 → (m₉ 112 s).toInt < 0) (h3 : ∀ s : Nat, (s : Int) < 16 → (m₉ 113 s).toInt < 0) (f45 : (m₉ 94 45).toInt = 0) (f46 : (m₉ 94 46).toInt = 0) (f55 : (m₉ 94 55).toInt = 0) (f58 : (m₉ 94 58).toInt = 0) (f62 : (m₉ 94 62).toInt = 0) (h17 : 0 ≤ (m₉ 94 17).toInt) (e0 : u 0 = m₉ 94 11) (e1 : u 1 = m₉ 94 12) (e2 : u 2 = m₉ 94 17) (e3 : u 3 = if m₉ 94 9 = 0 then 1 else 0) : zR5 m₉ (aO2 (aFg a8) u) := by
  have z0 : ∀ x : Int32, x.toInt = 0 → x = 0 := fun x h => Int32.toInt_inj.mp h
  have al : ∀ n, ¬ xAl (aO2 (aFg a8) u) n := fun n h => h.2 (by
    have := h.1
    unfold aO2 aO1 aFg zFl
    rw [xu_o (by omega), xu_o (by omega), xu_o (by omega), xu_o (by omega), xu_o (by omega), xu_o (by omega), xu_o (by omega), xu_o (by omega), xu_o (by omega), xu_o (by omega), if_neg (by omega), if_neg (by omega), if_neg (by omega)]
    unfold zDe
    rw [if_pos (Or.inl ⟨by omega, by omega, by omega⟩)])
  have r12 := rs_94_11 hV
  have i71 : ∀ p : Nat, p < 4500 → aO2 (aFg a8) u 71 p = -1 := fun p hp => by
    unfold aO2 aO1 aFg zFl
    rw [xu_o (by omega), xu_o (by omega), xu_o (by omega), xu_o (by omega), xu_o (by omega), xu_o (by omega), xu_o (by omega), xu_o (by omega), xu_o (by omega), xu_o (by omega), if_neg (by omega), if_neg (by omega), if_pos ⟨rfl, by omega⟩]
  have i72 : ∀ p : Nat, p < 16 → aO2 (aFg a8) u 72 p = -1 := fun p hp => by
    show (if 72 = 73 ∧ (p : Int) < 16 then (-1 : Int32) else if 72 = 72 ∧ (p : Int) < 16 then -1 else zFl (zDe a8 512) 71 (-1) 4500 72 p) = -1
    rw [if_neg (by omega), if_pos ⟨rfl, by omega⟩]
  have i73 : ∀ p : Nat, p < 16 → aO2 (aFg a8) u 73 p = -1 := fun p hp => by
    show (if 73 = 73 ∧ (p : Int) < 16 then (-1 : Int32) else zFl (zFl (zDe a8 512) 71 (-1) 4500) 72 (-1) 16 73 p) = -1
    rw [if_pos ⟨rfl, by omega⟩]
  have i1 : ∀ n k, aO2 (aFg a8) u (1000 + n) k = 0 := fun n k => by
    have e : aO2 (aFg a8) u (1000 + n) k = zDe a8 512 (1000 + n) k := by
      unfold aO2 aO1 aFg zFl
      rw [xu_o (by omega), xu_o (by omega), xu_o (by omega), xu_o (by omega), xu_o (by omega), xu_o (by omega), xu_o (by omega), xu_o (by omega), xu_o (by omega), xu_o (by omega), if_neg (by omega), if_neg (by omega), if_neg (by omega)]
    rw [e]
    unfold zDe
    by_cases w : n < 512
    · rw [if_pos (Or.inr ⟨by omega, by omega⟩)]
    · rw [if_neg (by omega)]
      exact ha n k (by omega)
  have g5 : aO2 (aFg a8) u 69 5 = 0 := rfl
  have g6 : aO2 (aFg a8) u 69 6 = 0 := rfl
  have g8 : aO2 (aFg a8) u 69 8 = 0 := rfl
  have k0 : aO2 (aFg a8) u 87 0 = u 0 := rfl
  have k1 : aO2 (aFg a8) u 87 1 = u 1 := rfl
  have k2 : aO2 (aFg a8) u 87 2 = 0 := rfl
  have k6 : aO2 (aFg a8) u 87 6 = u 2 := rfl
  have k7 : aO2 (aFg a8) u 87 7 = u 3 := rfl
  have k8 : aO2 (aFg a8) u 87 8 = 0 := rfl
  generalize aO2 (aFg a8) u = a at *
  have i0 : (0 : Int32).toInt = 0 := rfl
  refine ⟨⟨⟨fun s hs hu => absurd (h9 s hs) hu, fun s t hs _ hu => absurd (h9 s hs) hu, fun n hn hx => absurd ⟨hn, hx⟩ (al n)⟩, fun s hs hu => absurd (h9 s hs) hu, fun k hk => ?_, fun k hk => ?_, ⟨?_, fun k hk => ?_⟩, fun s hs hu => absurd (h9 s hs) hu, fun s hs hu => absurd (h9 s hs) hu, ?_, ?_, ?_, ?_, ?_, ?_⟩, ⟨fun n hn => absurd hn (al n), fun n n₉ hn => absurd hn (al n), fun p hp _ => i71 p hp, ?_, ?_, fun n _ k => i1 n k⟩, fun w => absurd f58 w, ?_, ?_⟩
  · have q := h2 k (by omega)
    refine ⟨Or.inl q, ?_⟩
    rw [i72 k hk, No_n q]
  · have q := h3 k (by omega)
    refine ⟨Or.inl q, ?_⟩
    rw [i73 k hk, No_n q]
  · rw [g5, z0 _ f55]
  · rw [f55] at hk
    omega
  · rw [g6, z0 _ f46]
  · rw [k0, e0]
  · rw [k1, e1]
  · rw [k2, z0 _ f62]
  · rw [k6, e2]
  · rw [k7, e3]
  · unfold qI4
    rw [g6, g5, k0, k2, k6, e0, e2]
    exact ⟨⟨by omega, by omega⟩, ⟨by omega, by omega⟩, ⟨by omega, by omega⟩, ⟨by omega, by omega⟩, fun n hn => absurd hn (al n), by omega⟩
  · rw [g8, Su_0 512 (fun x hx => Decidable.byContradiction (fun w => al x ⟨hx, w⟩))]
    rfl
  · rw [k8, z0 _ f58]
  · rw [f45, sm_z 3100 (fun t ht => by
      unfold zbU
      rw [h9 t ht]
      rfl)]
theorem DX_9 {po : Int32} {us rt wk wi : Nat → Int32} {wm : Int32} {kr kd ws wd : Nat → Int32} (h : po.toInt = 0 ∨ po.toInt = 4) : zDX po us rt wk wi wm kr kd ws wd := fun z => by omega
theorem HA_9 {po ro yo ol ca hf tp ot : Int32} {us ws at₉ ow di kr kd wd : Nat → Int32} (h : po.toInt = 0 ∨ po.toInt = 4) : zHA po ro yo ol ca hf tp ot us ws at₉ ow di kr kd wd := ⟨fun z => by omega, fun z => by omega⟩
theorem RG_9 {po si rg pr : Int32} {us at₉ ws rt : Nat → Int32} (h : po.toInt = 0 ∨ po.toInt = 4) : zRG po si rg pr us at₉ ws rt := fun z => by omega
theorem z5_z {aa : Nat → Nat → Int32} (h : zR5 m₉ aa) : zRz m₉ aa := ⟨h.1, h.2.1, h.2.2.2.1, h.2.2.2.2⟩
theorem zz_58 {aa : Nat → Nat → Int32} (h : zRz m₉ aa) (h8 : aa 87 8 = 0) : (m₉ 94 58).toInt = 0 := by
  have e := h.2.2.1
  rw [h8] at e
  rw [← e]
  rfl
end LW1
