/-! BETWEEN THE CALLS: what holds of the reference, of the class, of both -/
def zRef (T : Nat) (m : Nat → Nat → Int32) : Prop := zV m ∧ (zW (m 94 7) (m 98) (m 101) (m 102) (m 108)) ∧ (zGW T (m 94 55) (m 109)) ∧ ((m 94 8).toInt = 0 ∨ ((zGU T (m 94 46) (m 99)) ∧ (zOw (m 99) (m 103) (m 111)) ∧ (zDX (m 94 10) (m 99) (m 112) (m 113) (m 114) (m 94 55) (m 98) (m 101) (m 102) (m 108)) ∧ (zGG (m 94 58) (m 94 56) (m 94 57) (m 106)) ∧ (zHA (m 94 10) (m 94 11) (m 94 13) (m 94 14) (m 94 16) (m 94 61) (m 94 59) (m 94 60) (m 99) (m 102) (m 103) (m 111) (m 117) (m 98) (m 101) (m 108)) ∧ (zRG (m 94 10) (m 94 18) (m 94 64) (m 94 63) (m 99) (m 103) (m 102) (m 116)) ∧ ((m 94 58).toInt = 0 ∨ (m 94 10).toInt = 5)))
theorem zV_tr {m m' : Nat → Nat → Int32} (H : zV m) (h : ∀ c k, 94 ≤ c → c ≤ 125 → m' c k = m c k) : zV m' := by
  have s94 : ∀ q ∈ zV_s, 94 ≤ q.1 ∧ q.1 ≤ 125 := by decide
  have a94 : ∀ q ∈ zV_a, 94 ≤ q.1 ∧ q.1 ≤ 125 := by decide
  refine ⟨fun q hq => ?_, fun q hq k hk => ?_⟩
  · rw [h _ _ (s94 q hq).1 (s94 q hq).2]; exact H.1 q hq
  · rw [h _ _ (a94 q hq).1 (a94 q hq).2]; exact H.2 q hq k hk
theorem ref_tr {T : Nat} {m m' : Nat → Nat → Int32} (H : zRef T m) (h : ∀ c k, 94 ≤ c → c ≤ 125 → m' c k = m c k) : zRef T m' := by
  have e98 : m' 98 = m 98 := funext (fun k => h 98 k (by decide) (by decide))
  have e99 : m' 99 = m 99 := funext (fun k => h 99 k (by decide) (by decide))
  have e101 : m' 101 = m 101 := funext (fun k => h 101 k (by decide) (by decide))
  have e102 : m' 102 = m 102 := funext (fun k => h 102 k (by decide) (by decide))
  have e103 : m' 103 = m 103 := funext (fun k => h 103 k (by decide) (by decide))
  have e106 : m' 106 = m 106 := funext (fun k => h 106 k (by decide) (by decide))
  have e108 : m' 108 = m 108 := funext (fun k => h 108 k (by decide) (by decide))
  have e109 : m' 109 = m 109 := funext (fun k => h 109 k (by decide) (by decide))
  have e111 : m' 111 = m 111 := funext (fun k => h 111 k (by decide) (by decide))
  have e112 : m' 112 = m 112 := funext (fun k => h 112 k (by decide) (by decide))
  have e113 : m' 113 = m 113 := funext (fun k => h 113 k (by decide) (by decide))
  have e114 : m' 114 = m 114 := funext (fun k => h 114 k (by decide) (by decide))
  have e116 : m' 116 = m 116 := funext (fun k => h 116 k (by decide) (by decide))
  have e117 : m' 117 = m 117 := funext (fun k => h 117 k (by decide) (by decide))
  have f7 : m' 94 7 = m 94 7 := h 94 7 (by decide) (by decide)
  have f8 : m' 94 8 = m 94 8 := h 94 8 (by decide) (by decide)
  have f10 : m' 94 10 = m 94 10 := h 94 10 (by decide) (by decide)
  have f11 : m' 94 11 = m 94 11 := h 94 11 (by decide) (by decide)
  have f13 : m' 94 13 = m 94 13 := h 94 13 (by decide) (by decide)
  have f14 : m' 94 14 = m 94 14 := h 94 14 (by decide) (by decide)
  have f16 : m' 94 16 = m 94 16 := h 94 16 (by decide) (by decide)
  have f18 : m' 94 18 = m 94 18 := h 94 18 (by decide) (by decide)
  have f46 : m' 94 46 = m 94 46 := h 94 46 (by decide) (by decide)
  have f55 : m' 94 55 = m 94 55 := h 94 55 (by decide) (by decide)
  have f56 : m' 94 56 = m 94 56 := h 94 56 (by decide) (by decide)
  have f57 : m' 94 57 = m 94 57 := h 94 57 (by decide) (by decide)
  have f58 : m' 94 58 = m 94 58 := h 94 58 (by decide) (by decide)
  have f59 : m' 94 59 = m 94 59 := h 94 59 (by decide) (by decide)
  have f60 : m' 94 60 = m 94 60 := h 94 60 (by decide) (by decide)
  have f61 : m' 94 61 = m 94 61 := h 94 61 (by decide) (by decide)
  have f63 : m' 94 63 = m 94 63 := h 94 63 (by decide) (by decide)
  have f64 : m' 94 64 = m 94 64 := h 94 64 (by decide) (by decide)
  have hv := zV_tr H.1 h
  unfold zRef at H ⊢
  rw [e98, e99, e101, e102, e103, e106, e108, e109, e111, e112, e113, e114, e116, e117, f7, f8, f10, f11, f13, f14, f16, f18, f46, f55, f56, f57, f58, f59, f60, f61, f63, f64]
  exact ⟨hv, H.2⟩
theorem zov_lo {wr : Nat → Nat → Bool} {m m' : Nat → Nat → Int32} {c k : Nat} (h : wr c k = true → 94 ≤ c ∧ c ≤ 124) (hc : c < 94 ∨ 124 < c) : zov wr m m' c k = m c k := by
  show cond (wr c k) (m' c k) (m c k) = m c k
  cases e : wr c k with
  | false => rfl
  | true => have := h e; omega
/-- the class: its invariant, and who is present -/
def zHs (S : ma_S) : Prop := zA (mI S) (mR S) (mC S) (mZ S) (mN S) S ∧ (mR S 64 11 = none ∨ ∃ p, p ∈ zcl7 ∧ mR S 64 11 = some p)
/-- what a call of the class leaves -/
def zCl (S S' : ma_S) : Prop := zHs S' ∧ (∀ c k, 94 ≤ c → c ≤ 125 → mI S' c k = mI S c k) ∧ mC S' ≤ mC S + 2 ∧ mZ S' ≤ mZ S + 15
section LW1
variable {S S' : ma_S} {f : Nat → Nat → Int32} {r : Nat → Nat → Option Nat} {C Z N p : Nat} {m' : Nat → Nat → Int32}
theorem zHs_T (h : zHs S) : zT S := h.1.1
theorem hs_of (h : zA f r C Z N S) (hp : r 64 11 = none ∨ ∃ p, p ∈ zcl7 ∧ r 64 11 = some p) : zHs S := by
  have e := h.2.1
  have e2 : mR S 64 11 = r 64 11 := zG_r h (by decide)
  refine ⟨?_, ?_⟩
  · rw [e.1, e.2.1, e.2.2]
    exact zG_dn h (fun _ z => z) (fun _ z => z) (fun _ z => z) (fun z => z)
  · rw [e2]; exact hp
theorem fr_A (h : zA f r C Z N S) : ∀ c k, 94 ≤ c → c ≤ 125 → mI S c k = f c k := by
  intro c k h1 h2
  refine zG_z h ?_
  simp only [zA_f, zfz, Bool.and_eq_true, Bool.or_eq_true, decide_eq_true_eq]
  omega
theorem fr_B (h : zB f r C Z N S) : mI S 64 1 = f 64 1 := zG_z h rfl
theorem zN_of (h : zA f r C Z N S) : zAn f r C Z N S := by
  obtain ⟨a1, a2, a3, a4, a5, a6, a9, a7, a8⟩ := h
  refine ⟨a1, a2, fun c k z => a3 c k ?_, a4, a5, a6, a9, a7, a8⟩
  simp only [zA_f, zAn_f, Bool.and_eq_true, Bool.or_eq_true, decide_eq_true_eq] at z ⊢
  simp only [z, and_self, true_or, ne_eq, not_false_eq_true]
theorem fr_B7 (h : zB f r C Z N S) : mI S 64 7 = f 64 7 := zG_z h rfl
theorem fr_B7b (h : zB f r C Z N S) : mI (ma_bump S) 64 7 = f 64 7 := (fr_B7 h : mI S 64 7 = f 64 7)
theorem fr_A7 (h : zA f r C Z N S) : mI S 64 7 = f 64 7 := zG_z h rfl
theorem fr_A7b (h : zA f r C Z N S) : mI (ma_bump S) 64 7 = f 64 7 := (fr_A7 h : mI S 64 7 = f 64 7)
theorem fr_N (h : zAn f r C Z N S) : ∀ c k, 94 ≤ c → c ≤ 125 → mI S c k = f c k := by
  intro c k h1 h2
  refine zG_z h ?_
  simp only [zAn_f, zfz, Bool.and_eq_true, Bool.or_eq_true, decide_eq_true_eq]
  omega
theorem hs_ofN (h : zAn f r C Z N S) (hp : r 64 11 = none ∨ ∃ p, p ∈ zcl7 ∧ r 64 11 = some p) : zHs S := by
  have e := h.2.1
  have e2 : mR S 64 11 = r 64 11 := zG_r h (by decide)
  refine ⟨?_, ?_⟩
  · rw [e.1, e.2.1, e.2.2]
    exact zG_dn h (by decide) (by decide) (by decide) (fun z => z)
  · rw [e2]; exact hp
theorem zG_bN (h : zAn f r C Z N S) : zAn f r (C + 1) (Z + 6) N (ma_bump S) := by
  obtain ⟨a1, a2, a3, a4, a5, a6, a9, a7, a8⟩ := h
  refine ⟨a1, ⟨?_, ?_, a2.2.2⟩, a3, a4, a5, a6, a9, a7, a8⟩
  · show mC S + 1 = C + 1
    rw [a2.1]
  · show mZ S + 6 = Z + 6
    rw [a2.2.1]
theorem cl_N (h1 : zAn (mI S) r C Z N S') (hp : r 64 11 = none ∨ ∃ p, p ∈ zcl7 ∧ r 64 11 = some p) (hC : C ≤ mC S + 1) (hZ : Z ≤ mZ S + 9) : zCl S S' := by
  have e := h1.2.1
  exact ⟨hs_ofN h1 hp, fr_N h1, by rw [e.1]; omega, by rw [e.2.1]; omega⟩
theorem cl_XN (h1 : zAn (mI S) r C Z N S') (hp : r 64 11 = none ∨ ∃ p, p ∈ zcl7 ∧ r 64 11 = some p) (hC : C ≤ mC S) (hZ : Z ≤ mZ S) : zCl S (ma_bump S') := by
  have h2 := zG_bN h1
  have e := h2.2.1
  exact ⟨hs_ofN h2 hp, fr_N h2, by rw [e.1]; omega, by rw [e.2.1]; omega⟩
theorem fr_Bb (h : zB f r C Z N S) : mI (ma_bump S) 64 1 = f 64 1 := (fr_B h : mI S 64 1 = f 64 1)
theorem zG_b (h : zA f r C Z N S) : zA f r (C + 1) (Z + 6) N (ma_bump S) := by
  obtain ⟨a1, a2, a3, a4, a5, a6, a9, a7, a8⟩ := h
  refine ⟨a1, ⟨?_, ?_, a2.2.2⟩, a3, a4, a5, a6, a9, a7, a8⟩
  · show mC S + 1 = C + 1
    rw [a2.1]
  · show mZ S + 6 = Z + 6
    rw [a2.2.1]
theorem cl_A (h : zHs S) (h1 : zA (mI S) r C Z N S') (hp : r 64 11 = none ∨ ∃ p, p ∈ zcl7 ∧ r 64 11 = some p) (hC : C ≤ mC S + 1) (hZ : Z ≤ mZ S + 9) : zCl S S' := by
  have e := h1.2.1
  exact ⟨hs_of h1 hp, fr_A h1, by rw [e.1]; omega, by rw [e.2.1]; omega⟩
theorem cl_X (h : zHs S) (h1 : zA (mI S) r C Z N S') (hp : r 64 11 = none ∨ ∃ p, p ∈ zcl7 ∧ r 64 11 = some p) (hC : C ≤ mC S) (hZ : Z ≤ mZ S) : zCl S (ma_bump S') := by
  have h2 := zG_b h1
  have e := h2.2.1
  exact ⟨hs_of h2 hp, fr_A h2, by rw [e.1]; omega, by rw [e.2.1]; omega⟩
theorem cl_put (h : zCl S S') {x : Int64} : zCl S (ma_put S' 125 0 (.inr (.inl x))) := h
theorem hs_zst (h : zHs S) (ho : ∀ c k, c < 94 ∨ 124 < c → m' c k = mI S c k) : zHs (zst S m') := by
  obtain ⟨⟨a1, a2, a3, a4, a5, a6, a9, a7, a8⟩, hp⟩ := h
  refine ⟨⟨a1, ⟨rfl, rfl, rfl⟩, fun _ _ _ => rfl, fun _ _ _ => rfl, ?_, fun q hq => ?_, fun q hq k hk => ?_, fun c hc i b e => a7 c hc i b e, fun c hc1 hc2 => ?_⟩, hp⟩
  · show zA_x m'
    unfold zA_x at a5 ⊢
    simp only [ho 81 _ (Or.inl (by decide)), ho 82 _ (Or.inl (by decide))]
    exact a5
  · have e := ho q.1 q.2.1 (Or.inl ((by decide : ∀ q ∈ zA_s, q.1 < 94) q hq))
    show q.2.2.1 ≤ (m' q.1 q.2.1).toInt ∧ (m' q.1 q.2.1).toInt ≤ q.2.2.2
    rw [e]
    exact a6 q hq
  · have e := ho q.1 k (Or.inl ((by decide : ∀ q ∈ zA_a, q.1 < 94) q hq))
    show q.2.2.1 ≤ (m' q.1 k).toInt ∧ (m' q.1 k).toInt ≤ q.2.2.2
    rw [e]
    exact a9 q hq k hk
  · show (0 ≤ (m' c 0).toInt ∧ (m' c 0).toInt ≤ 511) ∧ (1 ≤ (m' c 2).toInt ∧ (m' c 2).toInt ≤ 61) ∧ (0 ≤ (m' c 4).toInt ∧ (m' c 4).toInt ≤ 200000)
    rw [ho c 0 (Or.inr (by omega)), ho c 2 (Or.inr (by omega)), ho c 4 (Or.inr (by omega))]
    exact a8 c hc1 hc2
/-- both, T calls behind -/
def zAL (m : Nat → Nat → Int32) : Prop := ∀ k : Nat, (k : Int) < (m 94 3).toInt → m 65 k = m 95 k ∧ vp_nar .byte (m 95 k) = m 95 k
def zLw (C0 Z0 T : Nat) (S : ma_S) : Prop := zHs S ∧ zRef T (mI S) ∧ mI S 64 1 = mI S 94 3 ∧ mI S 64 7 = mI S 94 7 ∧ mC S ≤ C0 + 2 * T ∧ mZ S ≤ Z0 + 15 * T ∧ zAL (mI S)
theorem lw_step {C0 Z0 T : Nat} {S2 : ma_S} (H : zLw C0 Z0 T S) (hc : zCl S S2) (hr : zRef (T + 1) m') (ho : ∀ c k, c < 94 ∨ 124 < c → m' c k = mI S2 c k) (h3 : m' 64 1 = m' 94 3) (h7 : m' 64 7 = m' 94 7) (hal : zAL m') : zLw C0 Z0 (T + 1) (zst S2 m') := by
  refine ⟨hs_zst hc.1 ho, hr, h3, h7, ?_, ?_, hal⟩
  · show mC S2 ≤ _
    have := hc.2.2.1
    have := H.2.2.2.2.1
    omega
  · show mZ S2 ≤ _
    have := hc.2.2.2
    have := H.2.2.2.2.2.1
    omega
theorem lw_te {C0 Z0 T : Nat} {S2 : ma_S} (H : zLw C0 Z0 T S) (hc : zCl S S2) (ht : mI S2 64 1 = mI S 64 1) (ho : ∀ c k, c < 94 ∨ 124 < c → m' c k = mI S2 c k) (h3 : m' 94 3 = mI S2 94 3) : m' 64 1 = m' 94 3 := by
  rw [ho 64 1 (Or.inl (by decide)), ht, h3, hc.2.1 94 3 (by decide) (by decide)]
  exact H.2.2.1
theorem lw_ke {C0 Z0 T : Nat} {S2 : ma_S} (H : zLw C0 Z0 T S) (hc : zCl S S2) (ht : mI S2 64 7 = mI S 64 7) (ho : ∀ c k, c < 94 ∨ 124 < c → m' c k = mI S2 c k) (h7 : m' 94 7 = mI S2 94 7) : m' 64 7 = m' 94 7 := by
  rw [ho 64 7 (Or.inl (by decide)), ht, h7, hc.2.1 94 7 (by decide) (by decide)]
  exact H.2.2.2.1
theorem lw_al {C0 Z0 T : Nat} {S2 : ma_S} (H : zLw C0 Z0 T S) (hc : zCl S S2) (h65 : mI S2 65 = mI S 65) (ho : ∀ c k, c < 94 ∨ 124 < c → m' c k = mI S2 c k) (h3 : (m' 94 3).toInt ≤ (mI S2 94 3).toInt) (h95 : m' 95 = mI S2 95) : zAL m' := by
  intro k hk
  have e3 : mI S2 94 3 = mI S 94 3 := hc.2.1 94 3 (by decide) (by decide)
  rw [e3] at h3
  have z := H.2.2.2.2.2.2 k (by omega)
  rw [ho 65 k (Or.inl (by decide)), h65, h95, hc.2.1 95 k (by decide) (by decide)]
  exact z
theorem lw_fd {C0 Z0 T : Nat} {S2 : ma_S} {w : Nat → Int32} (H : zLw C0 Z0 T S) (hc : zCl S S2) (hfd : zFd (mI S 65) (mI S2 65) (mI S 94 3).toInt 5 w) (hfr : zFd (mI S2 95) (m' 95) (mI S2 94 3).toInt 5 w) (ho : ∀ c k, c < 94 ∨ 124 < c → m' c k = mI S2 c k) (h3 : (m' 94 3).toInt = (mI S2 94 3).toInt + 20) : zAL m' := by
  have e3 : mI S2 94 3 = mI S 94 3 := hc.2.1 94 3 (by decide) (by decide)
  have e95 : mI S2 95 = mI S 95 := funext (fun k => hc.2.1 95 k (by decide) (by decide))
  have b := rs_94_3 H.2.1.1
  rw [e95, e3] at hfr
  rw [e3] at h3
  intro k hk
  rw [ho 65 k (Or.inl (by decide))]
  exact ⟨fd_al hfd hfr b.1 (fun j hj => (H.2.2.2.2.2.2 j hj).1) k (by omega), fd_by hfr b.1 (fun j hj => (H.2.2.2.2.2.2 j hj).2) k (by omega)⟩
theorem lw_an {C0 Z0 T : Nat} {S2 : ma_S} {v v2 : Int32} (H : zLw C0 Z0 T S) (hc : zCl S S2) (h1 : v.toInt = zAns (mI S 65) (mI S 64 1).toInt) (h2 : v2.toInt = zAns (mI S2 95) (mI S2 94 3).toInt) : v = v2 := by
  have e3 : mI S2 94 3 = mI S 94 3 := hc.2.1 94 3 (by decide) (by decide)
  have e95 : mI S2 95 = mI S 95 := funext (fun k => hc.2.1 95 k (by decide) (by decide))
  have b := rs_94_3 H.2.1.1
  refine Int32.toInt_inj.mp ?_
  rw [h1, h2, e95, e3, H.2.2.1]
  exact zAns_cg (fun j hj => (H.2.2.2.2.2.2 j hj).1) b.1 b.2
theorem lw_by {C0 Z0 T : Nat} {S2 : ma_S} (H : zLw C0 Z0 T S) (hc : zCl S S2) : ∀ k : Nat, (k : Int) < (mI S2 94 3).toInt → vp_nar .byte ((mI S2 95) k) = (mI S2 95) k := by
  intro k hk
  rw [hc.2.1 94 3 (by decide) (by decide)] at hk
  rw [hc.2.1 95 k (by decide) (by decide)]
  exact (H.2.2.2.2.2.2 k hk).2
theorem al_0 (h : (m' 94 3).toInt = 0) : zAL m' := fun k hk => by omega
theorem fr_B65 (h : zB f r C Z N S) : mI S 65 = f 65 := funext (fun _ => zG_z h rfl)
theorem fr_B65b (h : zB f r C Z N S) : mI (ma_bump S) 65 = f 65 := (fr_B65 h : mI S 65 = f 65)
theorem fr_X65 (h : zX f r C Z N S) : mI S 65 = f 65 := funext (fun _ => zG_z h rfl)
theorem fr_X65b (h : zX f r C Z N S) : mI (ma_bump S) 65 = f 65 := (fr_X65 h : mI S 65 = f 65)
theorem fr_K65 (h : zKd f r C Z N S) : mI S 65 = f 65 := funext (fun _ => zG_z h rfl)
theorem fr_K65b (h : zKd f r C Z N S) : mI (ma_bump S) 65 = f 65 := (fr_K65 h : mI S 65 = f 65)
end LW1
