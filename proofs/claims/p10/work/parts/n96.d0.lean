/-! A CALL OF EACH KIND, AND THE LOOP -/
def zUu (m : Nat → Nat → Int32) : Nat → Int32 := fun j => if j = 0 then m 94 11 else if j = 1 then m 94 12 else if j = 2 then m 94 17 else (if m 94 9 = 0 then 1 else 0)
section LWD
variable {C0 Z0 T : Nat} {S S2 : ma_S} {m₉ aa bb : Nat → Nat → Int32} {P : Nat}
theorem C_T {a : Nat → Nat → Int32} {K : Nat → Int32} (h : cC a [] K ((T : Int) + 1)) : cC a [] K ((T + 1 : Nat) : Int) := by
  have e : ((T + 1 : Nat) : Int) = (T : Int) + 1 := by omega
  rw [e]
  exact h
theorem md_87 {S₉ : ma_S} (e : mR S 64 11 = some 87) (h : zS5 S₉) : zMod T S S₉ := ⟨fun _ => h, fun z => absurd (e.symm.trans z) (by decide), fun z => absurd (e.symm.trans z) (by decide), fun z => absurd (e.symm.trans z) (by decide), fun z => absurd (e.symm.trans z) (by decide), fun z => absurd (e.symm.trans z) (by decide), fun z => absurd (e.symm.trans z) (by decide)⟩
theorem md_79 {S₉ : ma_S} (e : mR S 64 11 = some 79) (h : zS0 S₉) : zMod T S S₉ := ⟨fun z => absurd (e.symm.trans z) (by decide), fun _ => h, fun z => absurd (e.symm.trans z) (by decide), fun z => absurd (e.symm.trans z) (by decide), fun z => absurd (e.symm.trans z) (by decide), fun z => absurd (e.symm.trans z) (by decide), fun z => absurd (e.symm.trans z) (by decide)⟩
theorem md_84 {S₉ : ma_S} (e : mR S 64 11 = some 84) (h : zS4 T S₉) : zMod T S S₉ := ⟨fun z => absurd (e.symm.trans z) (by decide), fun z => absurd (e.symm.trans z) (by decide), fun _ => h, fun z => absurd (e.symm.trans z) (by decide), fun z => absurd (e.symm.trans z) (by decide), fun z => absurd (e.symm.trans z) (by decide), fun z => absurd (e.symm.trans z) (by decide)⟩
theorem md_80 {S₉ : ma_S} (e : mR S 64 11 = some 80) (h : zS1m S₉) : zMod T S S₉ := ⟨fun z => absurd (e.symm.trans z) (by decide), fun z => absurd (e.symm.trans z) (by decide), fun z => absurd (e.symm.trans z) (by decide), fun _ => h, fun z => absurd (e.symm.trans z) (by decide), fun z => absurd (e.symm.trans z) (by decide), fun z => absurd (e.symm.trans z) (by decide)⟩
theorem md_81 {S₉ : ma_S} (e : mR S 64 11 = some 81) (h : zS2m S₉) : zMod T S S₉ := ⟨fun z => absurd (e.symm.trans z) (by decide), fun z => absurd (e.symm.trans z) (by decide), fun z => absurd (e.symm.trans z) (by decide), fun z => absurd (e.symm.trans z) (by decide), fun _ => h, fun z => absurd (e.symm.trans z) (by decide), fun z => absurd (e.symm.trans z) (by decide)⟩
theorem md_82 {S₉ : ma_S} (e : mR S 64 11 = some 82) (h : zS3m S₉) : zMod T S S₉ := ⟨fun z => absurd (e.symm.trans z) (by decide), fun z => absurd (e.symm.trans z) (by decide), fun z => absurd (e.symm.trans z) (by decide), fun z => absurd (e.symm.trans z) (by decide), fun z => absurd (e.symm.trans z) (by decide), fun _ => h, fun z => absurd (e.symm.trans z) (by decide)⟩
theorem md_91 {S₉ : ma_S} (e : mR S 64 11 = some 91) (h : zS6m S₉) : zMod T S S₉ := ⟨fun z => absurd (e.symm.trans z) (by decide), fun z => absurd (e.symm.trans z) (by decide), fun z => absurd (e.symm.trans z) (by decide), fun z => absurd (e.symm.trans z) (by decide), fun z => absurd (e.symm.trans z) (by decide), fun z => absurd (e.symm.trans z) (by decide), fun _ => h⟩
theorem md_no {S₉ : ma_S} (n87 : mR S 64 11 ≠ some 87) (n79 : mR S 64 11 ≠ some 79) (n84 : mR S 64 11 ≠ some 84) (n80 : mR S 64 11 ≠ some 80) (n81 : mR S 64 11 ≠ some 81) (n82 : mR S 64 11 ≠ some 82) (n91 : mR S 64 11 ≠ some 91) : zMod T S S₉ := ⟨fun z => absurd z n87, fun z => absurd z n79, fun z => absurd z n84, fun z => absurd z n80, fun z => absurd z n81, fun z => absurd z n82, fun z => absurd z n91⟩
theorem lw_more (H : zLw C0 Z0 T S) (ht : T + 1 ≤ 512) : zLw C0 Z0 (T + 1) S := by
  obtain ⟨h1, ⟨hV, r_W, r_GW, h⟩, h3, h7, h4, h5, h6, h8, s1, s5, s6⟩ := H
  refine ⟨h1, ⟨hV, r_W, GW_up r_GW (by omega), h.imp id (fun z => ⟨GU_up z.1 (by omega), z.2⟩)⟩, h3, h7, by omega, by omega, h6, h8, s1, ⟨s5.1, s5.2.1, fun e => ?_, s5.2.2.2⟩, s6⟩
  obtain ⟨hB, hC, q⟩ := s5.2.2.1 e
  exact ⟨hB, C_T (C_up hC), q⟩
theorem lw_q (H : zLw C0 Z0 T S) (hc : zCl S S2) (hpr : mR S2 64 11 = mR S 64 11) (hte : mI S2 64 1 = mI S 64 1) (hke : mI S2 64 7 = mI S 64 7) (h65 : mI S2 65 = mI S 65) (h67 : mI S2 67 = mI S 67 ∧ mI S2 68 = mI S 68) (hr : zRef (T + 1) m₉) (ho : ∀ c k, c < 94 ∨ 124 < c → m₉ c k = mI S2 c k) (h3 : m₉ 94 3 = mI S2 94 3) (h7 : m₉ 94 7 = mI S2 94 7) (h95 : m₉ 95 = mI S2 95) (e8 : m₉ 94 8 = mI S2 94 8) (e10 : m₉ 94 10 = mI S2 94 10) (e97 : m₉ 97 = mI S2 97) (e98 : m₉ 98 = mI S2 98) (e17 : m₉ 94 17 = mI S2 94 17) (e27 : m₉ 94 27 = mI S2 94 27) (hm : zMod (T + 1) S (zst S2 m₉)) : zLw C0 Z0 (T + 1) (zst S2 m₉) := lw_step H hc hr ho (lw_te H hc hte ho h3) (lw_ke H hc hke ho h7) (lw_al H hc h65 ho (by rw [h3]; exact Int.le_refl _) h95) (lw_kr H hc h67 ho h7 e97 e98) (sim_st H.2.2.2.2.2.2.2.2 hc hpr e8 e10 e17 e27 hm)
theorem lw_17 (H : zLw C0 Z0 T S) (hc : zCl S S2) : 0 ≤ (mI S2 94 17).toInt := by
  rw [hc.2.1 94 17 (by decide) (by decide)]
  exact H.2.2.2.2.2.2.2.2.2.2.1
theorem lw_27 (H : zLw C0 Z0 T S) (hc : zCl S S2) : 0 ≤ (mI S2 94 27).toInt := by
  rw [hc.2.1 94 27 (by decide) (by decide)]
  exact H.2.2.2.2.2.2.2.2.2.2.2
theorem lw_cl (H : zLw C0 Z0 T S) (w : mR S 64 11 ≠ none) : mR S 64 11 = some 87 ∨ mR S 64 11 = some 79 ∨ mR S 64 11 = some 84 ∨ mR S 64 11 = some 80 ∨ mR S 64 11 = some 81 ∨ mR S 64 11 = some 82 ∨ mR S 64 11 = some 91 := by
  rcases H.1.2 with e | ⟨p, hp, e⟩
  · exact absurd e w
  · simp only [zcl7, List.mem_cons, List.not_mem_nil, or_false] at hp
    rcases hp with rfl | rfl | rfl | rfl | rfl | rfl | rfl <;> simp [e]
theorem lw_xb (H : zLw C0 Z0 T S) (w : mR S 64 11 ≠ none) : xB S (mR S 70) := by
  rcases lw_cl H w with w | w | w | w | w | w | w
  · exact (H.2.2.2.2.2.2.2.2.2.1.1 w).1
  · exact (H.2.2.2.2.2.2.2.2.2.1.2.1 w).1
  · exact (H.2.2.2.2.2.2.2.2.2.1.2.2.1 w).1
  · exact (H.2.2.2.2.2.2.2.2.2.1.2.2.2.1 w).1
  · exact (H.2.2.2.2.2.2.2.2.2.1.2.2.2.2.1 w).1
  · exact (H.2.2.2.2.2.2.2.2.2.1.2.2.2.2.2.1 w).1
  · exact (H.2.2.2.2.2.2.2.2.2.1.2.2.2.2.2.2 w).1
theorem lw_cc (H : zLw C0 Z0 T S) (e : mR S 64 11 = some 84) : cC (aT 84 S) [] (kC S) (T : Int) ∧ qI (aT 84 S) := by
  obtain ⟨hB, hC, aa, hq, hz, hk⟩ := H.2.2.2.2.2.2.2.2.2.1.2.2.1 e
  exact ⟨hC, I_q hq hz.2.1 T_6⟩
theorem lw_iv (H : zLw C0 Z0 T S) : zIv S := ⟨fun e => (H.2.2.2.2.2.2.2.2.2.1.2.2.2.1 e).2.2.1, fun e => (H.2.2.2.2.2.2.2.2.2.1.2.2.2.2.1 e).2.2.1, fun e => (H.2.2.2.2.2.2.2.2.2.1.2.2.2.2.2.1 e).2.2.1, fun e => (H.2.2.2.2.2.2.2.2.2.1.2.2.2.2.2.2 e).2.2.1⟩
theorem e5_of (H : zLw C0 Z0 T S) (hc : zCl S S2) (e : mR S 64 11 = some 87) : (mI S2 94 8).toInt = 1 ∧ (mI S2 94 10).toInt = 5 := by
  have q := H.2.2.2.2.2.2.2.2.1.2.1.mp e
  have b := rs_94_8 H.2.1.1
  rw [hc.2.1 94 8 (by decide) (by decide), hc.2.1 94 10 (by decide) (by decide)]
  exact ⟨by omega, q.2⟩
theorem e0_of (H : zLw C0 Z0 T S) (hc : zCl S S2) (e : mR S 64 11 = some 79) : (mI S2 94 8).toInt = 1 ∧ (mI S2 94 10).toInt = 0 := by
  have q := H.2.2.2.2.2.2.2.2.1.2.2.1.mp e
  have b := rs_94_8 H.2.1.1
  rw [hc.2.1 94 8 (by decide) (by decide), hc.2.1 94 10 (by decide) (by decide)]
  exact ⟨by omega, q.2⟩
theorem e4_of (H : zLw C0 Z0 T S) (hc : zCl S S2) (e : mR S 64 11 = some 84) : (mI S2 94 8).toInt = 1 ∧ (mI S2 94 10).toInt = 4 := by
  have q := H.2.2.2.2.2.2.2.2.1.2.2.2.1.mp e
  have b := rs_94_8 H.2.1.1
  rw [hc.2.1 94 8 (by decide) (by decide), hc.2.1 94 10 (by decide) (by decide)]
  exact ⟨by omega, q.2⟩
theorem e80_of (H : zLw C0 Z0 T S) (hc : zCl S S2) (e : mR S 64 11 = some 80) : (mI S2 94 8).toInt = 1 ∧ (mI S2 94 10).toInt = 1 := by
  have q := H.2.2.2.2.2.2.2.2.1.2.2.2.2.1.mp e
  have b := rs_94_8 H.2.1.1
  rw [hc.2.1 94 8 (by decide) (by decide), hc.2.1 94 10 (by decide) (by decide)]
  exact ⟨by omega, q.2⟩
theorem e81_of (H : zLw C0 Z0 T S) (hc : zCl S S2) (e : mR S 64 11 = some 81) : (mI S2 94 8).toInt = 1 ∧ (mI S2 94 10).toInt = 2 := by
  have q := H.2.2.2.2.2.2.2.2.1.2.2.2.2.2.1.mp e
  have b := rs_94_8 H.2.1.1
  rw [hc.2.1 94 8 (by decide) (by decide), hc.2.1 94 10 (by decide) (by decide)]
  exact ⟨by omega, q.2⟩
theorem e82_of (H : zLw C0 Z0 T S) (hc : zCl S S2) (e : mR S 64 11 = some 82) : (mI S2 94 8).toInt = 1 ∧ (mI S2 94 10).toInt = 3 := by
  have q := H.2.2.2.2.2.2.2.2.1.2.2.2.2.2.2.1.mp e
  have b := rs_94_8 H.2.1.1
  rw [hc.2.1 94 8 (by decide) (by decide), hc.2.1 94 10 (by decide) (by decide)]
  exact ⟨by omega, q.2⟩
theorem e91_of (H : zLw C0 Z0 T S) (hc : zCl S S2) (e : mR S 64 11 = some 91) : (mI S2 94 8).toInt = 1 ∧ (mI S2 94 10).toInt = 6 := by
  have q := H.2.2.2.2.2.2.2.2.1.2.2.2.2.2.2.2.mp e
  have b := rs_94_8 H.2.1.1
  rw [hc.2.1 94 8 (by decide) (by decide), hc.2.1 94 10 (by decide) (by decide)]
  exact ⟨by omega, q.2⟩
theorem lw_h6 (H : zLw C0 Z0 T S) (e : mR S 64 11 = some 87) : 0 ≤ (aS 88 S 87 6).toInt := by
  obtain ⟨_, aa, hsm, hz⟩ := H.2.2.2.2.2.2.2.2.2.1.1 e
  rw [hsm.1 87 6 (by decide) (by decide) (by decide)]
  exact (K_5 hz).1.1.2.2.2.1.2.2.2.2.2
theorem lw_ki (H : zLw C0 Z0 T S) {x : Int32} (h0 : 0 ≤ x.toInt) (h1 : x.toInt < (mI S 64 7).toInt) : x.toNatClampNeg < 16 ∧ mI S 67 x.toNatClampNeg = mI S 97 x.toNatClampNeg ∧ mI S 68 x.toNatClampNeg = mI S 98 x.toNatClampNeg := by
  have c := tn_cast h0
  have b := rs_94_7 H.2.1.1
  rw [H.2.2.2.1] at h1
  exact ⟨by omega, H.2.2.2.2.2.2.2.1 _ (by omega)⟩
theorem lw_mk (H : zLw C0 Z0 T S) (hc : zCl S S2) {x0 x1 : Int32} (hsm : qSm (aS 88 S) aa) (hK : qK aa) : qSm (qIf (0 ≤ x0.toInt ∧ x0.toInt < (mI S 64 7).toInt ∧ zSl x1) (aMk (aS 88 S) x0 (mI S 67 x0.toNatClampNeg) (mI S 68 x0.toNatClampNeg).toInt64 x1) (aS 88 S)) (qIf (0 ≤ x0.toInt ∧ x0.toInt < (mI S2 94 7).toInt ∧ zSl x1) (aMk aa x0 ((mI S2 97) x0.toNatClampNeg) (mI S 68 x0.toNatClampNeg).toInt64 x1) aa) := by
  have e7 : mI S2 94 7 = mI S 64 7 := (hc.2.1 94 7 (by decide) (by decide)).trans H.2.2.2.1.symm
  rw [e7]
  refine Sm_if Iff.rfl (fun w => ?_) hsm
  have q := lw_ki H w.1 w.2.1
  have b := ra_97 H.2.1.1 q.1
  rw [hc.2.1 97 _ (by decide) (by decide), ← q.2.1]
  rw [← q.2.1] at b
  exact Sm_mk hsm hK b.1 (by omega)
theorem lw_rw {x0 x1 x2 : Int32} (hsm : qSm (aS 88 S) aa) (hK : qK aa) : qSm (qIf (0 ≤ x1.toInt ∧ x1.toInt ≤ 60 ∧ zSl x2) (if x0 = 0 then aMk (aS 88 S) 17 x1 0 x2 else aMk (aS 88 S) 16 x1 (-1) x2) (aS 88 S)) (qIf (0 ≤ x1.toInt ∧ x1.toInt ≤ 60 ∧ zSl x2) (if x0 = 0 then aMk aa 17 x1 0 x2 else aMk aa 16 x1 (-1) x2) aa) := by
  refine Sm_if Iff.rfl (fun w => ?_) hsm
  by_cases q : x0 = 0
  · rw [if_pos q, if_pos q]
    exact Sm_mk hsm hK w.1 w.2.1
  · rw [if_neg q, if_neg q]
    exact Sm_mk hsm hK w.1 w.2.1
theorem lw_bt (H : zLw C0 Z0 T S) (hc : zCl S S2) {kk : Int32} : (0 ≤ kk.toInt ∧ kk.toInt < (mI S2 94 7).toInt) → ∀ j : Nat, (j : Int) < ((mI S2 97) kk.toNatClampNeg).toInt → (zbit (mI S 68 kk.toNatClampNeg).toInt64 (Int32.ofNat j) ≠ 0 ↔ (kk = 16 ∨ (kk < 16 ∧ (((mI S2 98) kk.toNatClampNeg >>> (Int32.ofNat j &&& 31)) &&& 1) = 1))) := by
  intro h j hj
  have e7 : mI S2 94 7 = mI S 64 7 := (hc.2.1 94 7 (by decide) (by decide)).trans H.2.2.2.1.symm
  rw [e7] at h
  have q := lw_ki H h.1 h.2
  have c := tn_cast h.1
  have b7 := ra_97 H.2.1.1 q.1
  have b8 := ra_98 H.2.1.1 q.1
  rw [hc.2.1 97 _ (by decide) (by decide)] at hj
  rw [hc.2.1 98 _ (by decide) (by decide), q.2.2]
  have z := zb_k (x := mI S 98 kk.toNatClampNeg) b8.1 b8.2 (j := j) (by omega)
  have l16 : kk < 16 := Int32.lt_iff_toInt_lt.mpr (by
    have : (16 : Int32).toInt = 16 := rfl
    omega)
  constructor
  · intro w
    exact Or.inr ⟨l16, z.mp w⟩
  · intro w
    rcases w with w | w
    · rw [w] at c
      have : (16 : Int32).toInt = 16 := rfl
      have := q.1
      rw [w] at this
      omega
    · exact z.mpr w.2
theorem lw_k1 (H : zLw C0 Z0 T S) (hc : zCl S S2) {x0 x1 : Int32} (h67 : mI S2 67 = zUp (mI S 67) (mI S 64 7).toNatClampNeg x0 ∧ mI S2 68 = zUp (mI S 68) (mI S 64 7).toNatClampNeg x1) (ho : ∀ c k, c < 94 ∨ 124 < c → m₉ c k = mI S2 c k) {P : Prop} (_ : P) (hk : ((m₉ 94 7).toInt = (mI S2 94 7).toInt ∧ m₉ 97 = mI S2 97 ∧ m₉ 98 = mI S2 98) ∨ ((m₉ 94 7).toInt = (mI S2 94 7).toInt + 1 ∧ m₉ 97 = zUp (mI S2 97) (mI S2 94 7).toNatClampNeg x0 ∧ m₉ 98 = zUp (mI S2 98) (mI S2 94 7).toNatClampNeg x1)) (h1 : (m₉ 94 7).toInt = (mI S2 94 7).toInt + 1) : zKR m₉ := by
  have e7 : mI S2 94 7 = mI S 94 7 := hc.2.1 94 7 (by decide) (by decide)
  rcases hk with w | w
  · omega
  · intro k hk
    have b := rs_94_7 H.2.1.1
    have c := tn_cast (x := mI S 94 7) b.1
    rw [ho 67 k (Or.inl (by decide)), ho 68 k (Or.inl (by decide)), h67.1, h67.2, w.2.1, w.2.2, H.2.2.2.1, e7]
    unfold zUp
    by_cases q : k = (mI S 94 7).toNatClampNeg
    · rw [if_pos q, if_pos q, if_pos q, if_pos q]
      exact ⟨rfl, rfl⟩
    · rw [if_neg q, if_neg q, if_neg q, if_neg q, hc.2.1 97 k (by decide) (by decide), hc.2.1 98 k (by decide) (by decide)]
      rw [h1, e7] at hk
      exact H.2.2.2.2.2.2.2.1 k (by omega)
theorem lw_k0 (H : zLw C0 Z0 T S) (hc : zCl S S2) {x0 x1 : Int32} (h67 : mI S2 67 = mI S 67 ∧ mI S2 68 = mI S 68) (ho : ∀ c k, c < 94 ∨ 124 < c → m₉ c k = mI S2 c k) (hk : ((m₉ 94 7).toInt = (mI S2 94 7).toInt ∧ m₉ 97 = mI S2 97 ∧ m₉ 98 = mI S2 98) ∨ ((m₉ 94 7).toInt = (mI S2 94 7).toInt + 1 ∧ m₉ 97 = zUp (mI S2 97) (mI S2 94 7).toNatClampNeg x0 ∧ m₉ 98 = zUp (mI S2 98) (mI S2 94 7).toNatClampNeg x1)) (h1 : (m₉ 94 7).toInt = (mI S2 94 7).toInt) : zKR m₉ := by
  rcases hk with w | w
  · exact lw_kr H hc h67 ho (Int32.toInt_inj.mp h1) w.2.1 w.2.2
  · omega
theorem q_if {P Q : Prop} {a b a₉ b₉ : Nat → Nat → Int32} (e : P ↔ Q) (h1 : Q → zQ a₉ b₉) (h2 : zQ a b) : zQ (qIf P a₉ a) (qIf Q b₉ b) := by
  by_cases w : Q
  · rw [qIf_y (e.mpr w), qIf_y w]
    exact h1 w
  · rw [qIf_n (fun q => w (e.mp q)), qIf_n w]
    exact h2
theorem lw_mkq (H : zLw C0 Z0 T S) (hc : zCl S S2) {x0 x1 : Int32} {f : (Nat → Nat → Int32) → Int32 → Int32 → Int64 → Int32 → Nat → Nat → Int32} (hq : zQ aa (aT P S)) (hf : ∀ (w : Int32) (L : Int64), 0 ≤ w.toInt → w.toInt ≤ 60 → zSl x1 → zQ (f aa x0 w L x1) (f (aT P S) x0 w L x1)) : zQ (qIf (0 ≤ x0.toInt ∧ x0.toInt < (mI S2 94 7).toInt ∧ zSl x1) (f aa x0 ((mI S2 97) x0.toNatClampNeg) (mI S 68 x0.toNatClampNeg).toInt64 x1) aa) (qIf (0 ≤ x0.toInt ∧ x0.toInt < (mI S 64 7).toInt ∧ zSl x1) (f (aT P S) x0 (mI S 67 x0.toNatClampNeg) (mI S 68 x0.toNatClampNeg).toInt64 x1) (aT P S)) := by
  have e7 : mI S2 94 7 = mI S 64 7 := (hc.2.1 94 7 (by decide) (by decide)).trans H.2.2.2.1.symm
  rw [e7]
  refine q_if Iff.rfl (fun w => ?_) hq
  have q := lw_ki H w.1 w.2.1
  have b := ra_97 H.2.1.1 q.1
  rw [hc.2.1 97 _ (by decide) (by decide), ← q.2.1]
  rw [← q.2.1] at b
  exact hf _ _ b.1 (by omega) w.2.2
theorem lw_mk0 (H : zLw C0 Z0 T S) (hc : zCl S S2) {x0 x1 : Int32} (hq : zQ aa (aT 79 S)) (hI : qI aa) : zQ (qIf (0 ≤ x0.toInt ∧ x0.toInt < (mI S2 94 7).toInt ∧ zSl x1) (sMk aa x0 ((mI S2 97) x0.toNatClampNeg) (mI S 68 x0.toNatClampNeg).toInt64 x1) aa) (qIf (0 ≤ x0.toInt ∧ x0.toInt < (mI S 64 7).toInt ∧ zSl x1) (sMk (aT 79 S) x0 (mI S 67 x0.toNatClampNeg) (mI S 68 x0.toNatClampNeg).toInt64 x1) (aT 79 S)) := lw_mkq (f := sMk) H hc hq (fun w L _ _ _ => (Q_smk hq hI (Q_80 hq)).1)
theorem lw_mk4 (H : zLw C0 Z0 T S) (hc : zCl S S2) {x0 x1 : Int32} (hq : zQ aa (aT 84 S)) (hI : qI aa) (hv : cV aa [] (T : Int)) : zQ (qIf (0 ≤ x0.toInt ∧ x0.toInt < (mI S2 94 7).toInt ∧ zSl x1) (kMk aa x0 ((mI S2 97) x0.toNatClampNeg) (mI S 68 x0.toNatClampNeg).toInt64 x1) aa) (qIf (0 ≤ x0.toInt ∧ x0.toInt < (mI S 64 7).toInt ∧ zSl x1) (kMk (aT 84 S) x0 (mI S 67 x0.toNatClampNeg) (mI S 68 x0.toNatClampNeg).toInt64 x1) (aT 84 S)) := lw_mkq (f := kMk) H hc hq (fun w L h0 h6 hs => (Q_kmk hq hI hv (by omega) h0 h6 hs.1 hs.2).1)
theorem lw_rwq {x0 x1 x2 : Int32} {f : (Nat → Nat → Int32) → Int32 → Int32 → Int64 → Int32 → Nat → Nat → Int32} (hq : zQ aa (aT P S)) (hf : ∀ (k w : Int32) (L : Int64), 0 ≤ w.toInt → w.toInt ≤ 60 → zSl x2 → zQ (f aa k w L x2) (f (aT P S) k w L x2)) : zQ (qIf (0 ≤ x1.toInt ∧ x1.toInt ≤ 60 ∧ zSl x2) (if x0 = 0 then f aa 17 x1 0 x2 else f aa 16 x1 (-1) x2) aa) (qIf (0 ≤ x1.toInt ∧ x1.toInt ≤ 60 ∧ zSl x2) (if x0 = 0 then f (aT P S) 17 x1 0 x2 else f (aT P S) 16 x1 (-1) x2) (aT P S)) := by
  refine q_if Iff.rfl (fun w => ?_) hq
  by_cases q : x0 = 0
  · rw [if_pos q, if_pos q]
    exact hf _ _ _ w.1 w.2.1 w.2.2
  · rw [if_neg q, if_neg q]
    exact hf _ _ _ w.1 w.2.1 w.2.2
theorem lw_rw0 {x0 x1 x2 : Int32} (hq : zQ aa (aT 79 S)) (hI : qI aa) : zQ (qIf (0 ≤ x1.toInt ∧ x1.toInt ≤ 60 ∧ zSl x2) (if x0 = 0 then sMk aa 17 x1 0 x2 else sMk aa 16 x1 (-1) x2) aa) (qIf (0 ≤ x1.toInt ∧ x1.toInt ≤ 60 ∧ zSl x2) (if x0 = 0 then sMk (aT 79 S) 17 x1 0 x2 else sMk (aT 79 S) 16 x1 (-1) x2) (aT 79 S)) := lw_rwq (f := sMk) hq (fun _ _ _ _ _ _ => (Q_smk hq hI (Q_80 hq)).1)
theorem lw_rw4 {x0 x1 x2 : Int32} (hq : zQ aa (aT 84 S)) (hI : qI aa) (hv : cV aa [] (T : Int)) : zQ (qIf (0 ≤ x1.toInt ∧ x1.toInt ≤ 60 ∧ zSl x2) (if x0 = 0 then kMk aa 17 x1 0 x2 else kMk aa 16 x1 (-1) x2) aa) (qIf (0 ≤ x1.toInt ∧ x1.toInt ≤ 60 ∧ zSl x2) (if x0 = 0 then kMk (aT 84 S) 17 x1 0 x2 else kMk (aT 84 S) 16 x1 (-1) x2) (aT 84 S)) := lw_rwq (f := kMk) hq (fun _ _ _ h0 h6 hs => (Q_kmk hq hI hv (by omega) h0 h6 hs.1 hs.2).1)
theorem lw_mkm (H : zLw C0 Z0 T S) (hc : zCl S S2) {x0 x1 : Int32} {L : Int64} {a : Nat → Nat → Int32} {f : (Nat → Nat → Int32) → Int32 → Int32 → Int64 → Int32 → Nat → Nat → Int32} : qIf (0 ≤ x0.toInt ∧ x0.toInt < (mI S2 94 7).toInt ∧ zSl x1) (f a x0 ((mI S2 97) x0.toNatClampNeg) L x1) a = qIf (0 ≤ x0.toInt ∧ x0.toInt < (mI S 64 7).toInt ∧ zSl x1) (f a x0 (mI S 67 x0.toNatClampNeg) L x1) a := by
  have e7 : mI S2 94 7 = mI S 64 7 := (hc.2.1 94 7 (by decide) (by decide)).trans H.2.2.2.1.symm
  rw [e7]
  by_cases w : 0 ≤ x0.toInt ∧ x0.toInt < (mI S 64 7).toInt ∧ zSl x1
  · rw [qIf_y w, qIf_y w]
    have q := lw_ki H w.1 w.2.1
    rw [hc.2.1 97 _ (by decide) (by decide), ← q.2.1]
  · rw [qIf_n w, qIf_n w]
/-- all is kept -/
theorem k0_st (H : zLw C0 Z0 T S) (e : mR S 64 11 = some 79) (hc : zCl S S2) (ho : ∀ c k, c < 94 ∨ 124 < c → m₉ c k = mI S2 c k) (hH : zKp S S2) (fy : ∀ aa, zRz (mI S2) aa → zRz m₉ aa) : zS0 (zst S2 m₉) := by
  obtain ⟨hB, aa, hq, hz⟩ := H.2.2.2.2.2.2.2.2.2.1.2.1 e
  exact s0_st hc (hH.2.1 hB) ho (by rw [hH.2.2.1]; exact hq) (fy aa (zz_tr hz hc.2.1))
theorem k4_st (H : zLw C0 Z0 T S) (e : mR S 64 11 = some 84) (hc : zCl S S2) (ho : ∀ c k, c < 94 ∨ 124 < c → m₉ c k = mI S2 c k) (hH : zKp S S2) (fy : ∀ aa, zRz (mI S2) aa → zRz m₉ aa) (fx : ∀ aa, zRk (mI S2) aa → zRk m₉ aa) : zS4 (T + 1) (zst S2 m₉) := by
  obtain ⟨hB, hC, aa, hq, hz, hk⟩ := H.2.2.2.2.2.2.2.2.2.1.2.2.1 e
  exact s4_st hc (hH.2.1 hB) ho (by rw [hH.2.2.2.1, hH.2.2.2.2]; exact C_T (C_up hC)) (by rw [hH.2.2.2.1]; exact hq) (fy aa (zz_tr hz hc.2.1)) (fx aa (zk_tr hk hc.2.1))
theorem kp_mod (H : zLw C0 Z0 T S) (hc : zCl S S2) (ho : ∀ c k, c < 94 ∨ 124 < c → m₉ c k = mI S2 c k) (hH : zKp S S2) (hM : zKm S S2) (fz : ∀ aa, zR5 (mI S2) aa → zR5 m₉ aa) (fy : ∀ aa, zRz (mI S2) aa → zRz m₉ aa) (fx : ∀ aa, zRk (mI S2) aa → zRk m₉ aa) (fn : zNk (mI S2) m₉) : zMod (T + 1) S (zst S2 m₉) := by
  refine ⟨fun e => ?_, fun e => k0_st H e hc ho hH fy, fun e => k4_st H e hc ho hH fy fx, fun e => s1_kp (H.2.2.2.2.2.2.2.2.2.1.2.2.2.1 e) hM hc.1.1 ho (fn.1 _ (n1_tr (H.2.2.2.2.2.2.2.2.2.1.2.2.2.1 e).2 hc.2.1)), fun e => s2_kp (H.2.2.2.2.2.2.2.2.2.1.2.2.2.2.1 e) hM hc.1.1 ho (fn.2.1 _ (n2_tr (H.2.2.2.2.2.2.2.2.2.1.2.2.2.2.1 e).2 hc.2.1)), fun e => s3_kp (H.2.2.2.2.2.2.2.2.2.1.2.2.2.2.2.1 e) hM hc.1.1 ho (fn.2.2.1 _ (n3_tr (H.2.2.2.2.2.2.2.2.2.1.2.2.2.2.2.1 e).2 hc.2.1)), fun e => s6_kp (H.2.2.2.2.2.2.2.2.2.1.2.2.2.2.2.2 e) hM hc.1.1 ho (fn.2.2.2 _ (n6_tr (H.2.2.2.2.2.2.2.2.2.1.2.2.2.2.2.2 e).2 hc.2.1))⟩
  obtain ⟨hB, aa, hsm, hz⟩ := H.2.2.2.2.2.2.2.2.2.1.1 e
  exact s5_st hc (hH.2.1 hB) ho (by rw [hH.1]; exact hsm) (fz aa (z5_tr hz hc.2.1))
theorem bk_mod (H : zLw C0 Z0 T S) (hc : zCl S S2) (ho : ∀ c k, c < 94 ∨ 124 < c → m₉ c k = mI S2 c k) (k87 : mR S 64 11 = some 87 → xB S2 (mR S2 70) ∧ aS 88 S2 = aS 88 S) (k79 : mR S 64 11 = some 79 → xB S2 (mR S2 70) ∧ aT 79 S2 = aT 79 S) (k84 : mR S 64 11 = some 84 → xB S2 (mR S2 70) ∧ aT 84 S2 = aT 84 S ∧ cC (aT 84 S2) [] (kC S2) (T : Int)) (km : mR S 64 11 ≠ none → mR S 64 11 ≠ some 87 → mR S 64 11 ≠ some 79 → mR S 64 11 ≠ some 84 → zKm S S2) (fz : ∀ aa, zR5 (mI S2) aa → zR5 m₉ aa) (fy : ∀ aa, zRz (mI S2) aa → zRz m₉ aa) (fx : ∀ aa, zRk (mI S2) aa → zRk m₉ aa) (fn : zNk (mI S2) m₉) : zMod (T + 1) S (zst S2 m₉) := by
  have no : ∀ {p q : Nat}, mR S 64 11 = some p → p ≠ q → mR S 64 11 ≠ some q := fun e n w => n (Option.some.inj (e.symm.trans w))
  have nn : ∀ {p : Nat}, mR S 64 11 = some p → mR S 64 11 ≠ none := fun e w => by rw [e] at w; cases w
  refine ⟨fun e => ?_, fun e => ?_, fun e => ?_, fun e => s1_kp (H.2.2.2.2.2.2.2.2.2.1.2.2.2.1 e) (km (nn e) (no e (by decide)) (no e (by decide)) (no e (by decide))) hc.1.1 ho (fn.1 _ (n1_tr (H.2.2.2.2.2.2.2.2.2.1.2.2.2.1 e).2 hc.2.1)), fun e => s2_kp (H.2.2.2.2.2.2.2.2.2.1.2.2.2.2.1 e) (km (nn e) (no e (by decide)) (no e (by decide)) (no e (by decide))) hc.1.1 ho (fn.2.1 _ (n2_tr (H.2.2.2.2.2.2.2.2.2.1.2.2.2.2.1 e).2 hc.2.1)), fun e => s3_kp (H.2.2.2.2.2.2.2.2.2.1.2.2.2.2.2.1 e) (km (nn e) (no e (by decide)) (no e (by decide)) (no e (by decide))) hc.1.1 ho (fn.2.2.1 _ (n3_tr (H.2.2.2.2.2.2.2.2.2.1.2.2.2.2.2.1 e).2 hc.2.1)), fun e => s6_kp (H.2.2.2.2.2.2.2.2.2.1.2.2.2.2.2.2 e) (km (nn e) (no e (by decide)) (no e (by decide)) (no e (by decide))) hc.1.1 ho (fn.2.2.2 _ (n6_tr (H.2.2.2.2.2.2.2.2.2.1.2.2.2.2.2.2 e).2 hc.2.1))⟩
  · obtain ⟨hB, aa, hsm, hz⟩ := H.2.2.2.2.2.2.2.2.2.1.1 e
    exact s5_st hc (k87 e).1 ho (by rw [(k87 e).2]; exact hsm) (fz aa (z5_tr hz hc.2.1))
  · obtain ⟨hB, aa, hq, hz⟩ := H.2.2.2.2.2.2.2.2.2.1.2.1 e
    exact s0_st hc (k79 e).1 ho (by rw [(k79 e).2]; exact hq) (fy aa (zz_tr hz hc.2.1))
  · obtain ⟨hB, hC, aa, hq, hz, hk⟩ := H.2.2.2.2.2.2.2.2.2.1.2.2.1 e
    exact s4_st hc (k84 e).1 ho (C_T (C_up (k84 e).2.2)) (by rw [(k84 e).2.1]; exact hq) (fy aa (zz_tr hz hc.2.1)) (fx aa (zk_tr hk hc.2.1))
theorem bk_of (H : zLw C0 Z0 T S) (hc : zCl S S2) (hw : mR S 64 11 = some 87 ∨ mR S 64 11 = some 79 ∨ mR S 64 11 = some 84) : ∃ bb, zRz (mI S2) bb ∧ (mI S2 94 8).toInt = 1 ∧ ((mI S2 94 10).toInt = 0 ∨ (mI S2 94 10).toInt = 4 ∨ (mI S2 94 10).toInt = 5) := by
  rcases hw with e | e | e
  · obtain ⟨hB, aa, hsm, hz⟩ := H.2.2.2.2.2.2.2.2.2.1.1 e
    have e5 := e5_of H hc e
    exact ⟨aa, z5_z (z5_tr hz hc.2.1), e5.1, Or.inr (Or.inr e5.2)⟩
  · obtain ⟨hB, aa, hq, hz⟩ := H.2.2.2.2.2.2.2.2.2.1.2.1 e
    have e5 := e0_of H hc e
    exact ⟨aa, zz_tr hz hc.2.1, e5.1, Or.inl e5.2⟩
  · obtain ⟨hB, hC, aa, hq, hz, hk⟩ := H.2.2.2.2.2.2.2.2.2.1.2.2.1 e
    have e5 := e4_of H hc e
    exact ⟨aa, zz_tr hz hc.2.1, e5.1, Or.inr (Or.inl e5.2)⟩
theorem bk_n (H : zLw C0 Z0 T S) (hc : zCl S S2) (n87 : mR S 64 11 ≠ some 87) (n79 : mR S 64 11 ≠ some 79) (n84 : mR S 64 11 ≠ some 84) : (mI S2 94 8).toInt ≠ 0 → (mI S2 94 10).toInt ≠ 0 ∧ (mI S2 94 10).toInt ≠ 4 ∧ (mI S2 94 10).toInt ≠ 5 := by
  rw [hc.2.1 94 8 (by decide) (by decide), hc.2.1 94 10 (by decide) (by decide)]
  exact fun w => ⟨fun z => n79 (H.2.2.2.2.2.2.2.2.1.2.2.1.mpr ⟨w, z⟩), fun z => n84 (H.2.2.2.2.2.2.2.2.1.2.2.2.1.mpr ⟨w, z⟩), fun z => n87 (H.2.2.2.2.2.2.2.2.1.2.1.mpr ⟨w, z⟩)⟩
/-- the reference against the class's heap, under any collector -/
theorem lw_aq (H : zLw C0 Z0 T S) (w : mR S 64 11 ≠ none) : ∃ bb ro fo le ra pi, qRB (mI S 99) (mI S 100) (mI S 98) (mI S 101) (mI S 102) (mI S 103) (mI S 107) (mI S 108) (mI S 109) (mI S 111) (mI S 112) (mI S 113) (mI S 114) (mI S 94 55) (mI S 94 46) ro fo le ra pi bb ∧ qI bb ∧ zO6 bb (aS 88 S) := by
  rcases lw_cl H w with e | e | e | e | e | e | e
  · obtain ⟨hB, aa, hsm, hz⟩ := H.2.2.2.2.2.2.2.2.2.1.1 e
    exact ⟨aa, _, _, _, _, _, hz.1, hz.2.1, fun c k h1 h2 h3 _ => (hsm.1 c k h1 h2 h3).symm⟩
  · obtain ⟨hB, aa, hq, hz⟩ := H.2.2.2.2.2.2.2.2.2.1.2.1 e
    exact ⟨aa, _, _, _, _, _, hz.1, hz.2.1, fun c k h1 h2 h3 h4 => Q_88o hq c k h1 h2 h3 (by omega)⟩
  · obtain ⟨hB, hC, aa, hq, hz, hk⟩ := H.2.2.2.2.2.2.2.2.2.1.2.2.1 e
    exact ⟨aa, _, _, _, _, _, hz.1, hz.2.1, fun c k h1 h2 h3 h4 => Q_88o hq c k h1 h2 h3 (by omega)⟩
  · obtain ⟨hB, hz⟩ := H.2.2.2.2.2.2.2.2.2.1.2.2.2.1 e
    exact ⟨aL S, _, _, _, _, _, hz.1, hz.2.1, M_88⟩
  · obtain ⟨hB, hz⟩ := H.2.2.2.2.2.2.2.2.2.1.2.2.2.2.1 e
    exact ⟨aH S, _, _, _, _, _, hz.1, hz.2.1.1, M_88⟩
  · obtain ⟨hB, hz⟩ := H.2.2.2.2.2.2.2.2.2.1.2.2.2.2.2.1 e
    exact ⟨aG S, _, _, _, _, _, hz.1, hz.2.1.1, G_88⟩
  · obtain ⟨hB, hz⟩ := H.2.2.2.2.2.2.2.2.2.1.2.2.2.2.2.2 e
    exact ⟨aZ S, _, _, _, _, _, hz.1, hz.2.1.1, Z_88⟩
theorem rb_tr {m : Nat → Nat → Int32} {ro fo le ra pi : Int32} (H : qRB (m 99) (m 100) (m 98) (m 101) (m 102) (m 103) (m 107) (m 108) (m 109) (m 111) (m 112) (m 113) (m 114) (m 94 55) (m 94 46) ro fo le ra pi bb) (h : ∀ c k, 94 ≤ c → c ≤ 125 → m₉ c k = m c k) : qRB (m₉ 99) (m₉ 100) (m₉ 98) (m₉ 101) (m₉ 102) (m₉ 103) (m₉ 107) (m₉ 108) (m₉ 109) (m₉ 111) (m₉ 112) (m₉ 113) (m₉ 114) (m₉ 94 55) (m₉ 94 46) ro fo le ra pi bb := by
  have e99 : m₉ 99 = m 99 := funext (fun k => h 99 k (by decide) (by decide))
  have e100 : m₉ 100 = m 100 := funext (fun k => h 100 k (by decide) (by decide))
  have e98 : m₉ 98 = m 98 := funext (fun k => h 98 k (by decide) (by decide))
  have e101 : m₉ 101 = m 101 := funext (fun k => h 101 k (by decide) (by decide))
  have e102 : m₉ 102 = m 102 := funext (fun k => h 102 k (by decide) (by decide))
  have e103 : m₉ 103 = m 103 := funext (fun k => h 103 k (by decide) (by decide))
  have e107 : m₉ 107 = m 107 := funext (fun k => h 107 k (by decide) (by decide))
  have e108 : m₉ 108 = m 108 := funext (fun k => h 108 k (by decide) (by decide))
  have e109 : m₉ 109 = m 109 := funext (fun k => h 109 k (by decide) (by decide))
  have e111 : m₉ 111 = m 111 := funext (fun k => h 111 k (by decide) (by decide))
  have e112 : m₉ 112 = m 112 := funext (fun k => h 112 k (by decide) (by decide))
  have e113 : m₉ 113 = m 113 := funext (fun k => h 113 k (by decide) (by decide))
  have e114 : m₉ 114 = m 114 := funext (fun k => h 114 k (by decide) (by decide))
  rw [e99, e100, e98, e101, e102, e103, e107, e108, e109, e111, e112, e113, e114, h 94 55 (by decide) (by decide), h 94 46 (by decide) (by decide)]
  exact H
/-- a heap that is opened -/
theorem op_q {a8 : Nat → Nat → Int32} {u : Nat → Int32} (ha : aS 88 S2 = aFg a8) (e0 : zfP P (mI S2) 0 = u 0) (e1 : zfP P (mI S2) 1 = u 1) (e2 : zfP P (mI S2) 2 = 0) : zQ (aO2 (aFg a8) u) (aT P S2) := by
  refine Q_of (fun c k h1 h2 h3 h4 => ?_) (fun k hk => ?_)
  · rw [T_88 c k h1 h2 h3 h4, ha]
    unfold aO2 aO1
    rw [xu_o (by omega), xu_o (by omega), xu_o (by omega), xu_o (by omega), xu_o (by omega), xu_o (by omega)]
  · have k4 : k = 0 ∨ k = 1 ∨ k = 2 ∨ k = 8 := by omega
    rcases k4 with w | w | w | w
    · rw [w, T_7, e0]
      rfl
    · rw [w, T_7, e1]
      rfl
    · rw [w, T_7, e2]
      rfl
    · rw [w, T_8]
      rfl
theorem op_c {K : Nat → Int32} (hz : zRz m₉ bb) (hq : zQ bb (aT 84 S2)) (h9 : ∀ s : Nat, s < 3100 → m₉ 99 s = 0) (h2 : ∀ s : Nat, (s : Int) < 16 → (m₉ 112 s).toInt < 0) (f55 : (m₉ 94 55).toInt = 0) : cC (aT 84 S2) [] K ((T + 1 : Nat) : Int) := by
  have o := Q_8 hq
  have al : ∀ n, ¬ xAl bb n := fun n w => by
    obtain ⟨s, hs, hu, _⟩ := hz.1.1.2.2 n w.1 w.2
    exact hu (h9 s hs)
  have al2 : ∀ n, ¬ xAl (aT 84 S2) n := fun n w => by
    rw [← o8_al o] at w
    exact al n w
  refine C0_mk (cQ_I (I_q hq hz.2.1 T_6)) ⟨fun k hk => ?_, fun k hk => ?_, fun u j w => absurd w.1 (al2 u)⟩ (fun n w => absurd w (al2 n)) ?_ (fun n w => absurd w (al2 n))
  · rw [← O8_c (c := 72) o (by decide) (by decide) (by decide) (by decide), (hz.1.2.2.1 k hk).2, No_n (h2 k (by omega))]
    exact Or.inl (by decide)
  · rw [← O8_c (c := 69) o (by decide) (by decide) (by decide) (by decide), hz.1.2.2.2.2.1.1, f55] at hk
    omega
  · rw [← O8_c (c := 69) o (by decide) (by decide) (by decide) (by decide), hz.1.2.2.2.2.1.1, f55]
    omega
theorem z5_fr {S2 : ma_S} {m₉ aa : Nat → Nat → Int32} (H : zR5 (mI S2) aa) (hf : (m₉ 98) = (mI S2 98) ∧ (m₉ 99) = (mI S2 99) ∧ (m₉ 100) = (mI S2 100) ∧ (m₉ 101) = (mI S2 101) ∧ (m₉ 102) = (mI S2 102) ∧ (m₉ 103) = (mI S2 103) ∧ (m₉ 104) = (mI S2 104) ∧ (m₉ 105) = (mI S2 105) ∧ (m₉ 106) = (mI S2 106) ∧ (m₉ 107) = (mI S2 107) ∧ (m₉ 108) = (mI S2 108) ∧ (m₉ 109) = (mI S2 109) ∧ (m₉ 110) = (mI S2 110) ∧ (m₉ 111) = (mI S2 111) ∧ (m₉ 112) = (mI S2 112) ∧ (m₉ 113) = (mI S2 113) ∧ (m₉ 114) = (mI S2 114) ∧ (m₉ 115) = (mI S2 115) ∧ (m₉ 116) = (mI S2 116) ∧ (m₉ 117) = (mI S2 117) ∧ (m₉ 94 8) = (mI S2 94 8) ∧ (m₉ 94 9) = (mI S2 94 9) ∧ (m₉ 94 10) = (mI S2 94 10) ∧ (m₉ 94 11) = (mI S2 94 11) ∧ (m₉ 94 12) = (mI S2 94 12) ∧ (m₉ 94 13) = (mI S2 94 13) ∧ (m₉ 94 14) = (mI S2 94 14) ∧ (m₉ 94 15) = (mI S2 94 15) ∧ (m₉ 94 16) = (mI S2 94 16) ∧ (m₉ 94 17) = (mI S2 94 17) ∧ (m₉ 94 18) = (mI S2 94 18) ∧ (m₉ 94 19) = (mI S2 94 19) ∧ (m₉ 94 45) = (mI S2 94 45) ∧ (m₉ 94 46) = (mI S2 94 46) ∧ (m₉ 94 55) = (mI S2 94 55) ∧ (m₉ 94 56) = (mI S2 94 56) ∧ (m₉ 94 57) = (mI S2 94 57) ∧ (m₉ 94 58) = (mI S2 94 58) ∧ (m₉ 94 59) = (mI S2 94 59) ∧ (m₉ 94 60) = (mI S2 94 60) ∧ (m₉ 94 61) = (mI S2 94 61) ∧ (m₉ 94 62) = (mI S2 94 62) ∧ (m₉ 94 63) = (mI S2 94 63) ∧ (m₉ 94 64) = (mI S2 94 64)) : zR5 m₉ aa := by
  obtain ⟨r98, r99, r100, r101, r102, r103, r104, r105, r106, r107, r108, r109, r110, r111, r112, r113, r114, r115, r116, r117, f8, f9, f10, f11, f12, f13, f14, f15, f16, f17, f18, f19, f45, f46, f55, f56, f57, f58, f59, f60, f61, f62, f63, f64⟩ := hf
  unfold zR5 at H ⊢
  rw [r98, r99, r100, r101, r102, r103, r106, r107, r108, r109, r111, r112, r113, r114, r115, f9, f11, f12, f17, f45, f46, f55, f56, f57, f58, f62]
  exact H
theorem zz_fr {S2 : ma_S} {m₉ aa : Nat → Nat → Int32} (H : zRz (mI S2) aa) (hf : (m₉ 98) = (mI S2 98) ∧ (m₉ 99) = (mI S2 99) ∧ (m₉ 100) = (mI S2 100) ∧ (m₉ 101) = (mI S2 101) ∧ (m₉ 102) = (mI S2 102) ∧ (m₉ 103) = (mI S2 103) ∧ (m₉ 104) = (mI S2 104) ∧ (m₉ 105) = (mI S2 105) ∧ (m₉ 106) = (mI S2 106) ∧ (m₉ 107) = (mI S2 107) ∧ (m₉ 108) = (mI S2 108) ∧ (m₉ 109) = (mI S2 109) ∧ (m₉ 110) = (mI S2 110) ∧ (m₉ 111) = (mI S2 111) ∧ (m₉ 112) = (mI S2 112) ∧ (m₉ 113) = (mI S2 113) ∧ (m₉ 114) = (mI S2 114) ∧ (m₉ 115) = (mI S2 115) ∧ (m₉ 116) = (mI S2 116) ∧ (m₉ 117) = (mI S2 117) ∧ (m₉ 94 8) = (mI S2 94 8) ∧ (m₉ 94 9) = (mI S2 94 9) ∧ (m₉ 94 10) = (mI S2 94 10) ∧ (m₉ 94 11) = (mI S2 94 11) ∧ (m₉ 94 12) = (mI S2 94 12) ∧ (m₉ 94 13) = (mI S2 94 13) ∧ (m₉ 94 14) = (mI S2 94 14) ∧ (m₉ 94 15) = (mI S2 94 15) ∧ (m₉ 94 16) = (mI S2 94 16) ∧ (m₉ 94 17) = (mI S2 94 17) ∧ (m₉ 94 18) = (mI S2 94 18) ∧ (m₉ 94 19) = (mI S2 94 19) ∧ (m₉ 94 45) = (mI S2 94 45) ∧ (m₉ 94 46) = (mI S2 94 46) ∧ (m₉ 94 55) = (mI S2 94 55) ∧ (m₉ 94 56) = (mI S2 94 56) ∧ (m₉ 94 57) = (mI S2 94 57) ∧ (m₉ 94 58) = (mI S2 94 58) ∧ (m₉ 94 59) = (mI S2 94 59) ∧ (m₉ 94 60) = (mI S2 94 60) ∧ (m₉ 94 61) = (mI S2 94 61) ∧ (m₉ 94 62) = (mI S2 94 62) ∧ (m₉ 94 63) = (mI S2 94 63) ∧ (m₉ 94 64) = (mI S2 94 64)) : zRz m₉ aa := by
  obtain ⟨r98, r99, r100, r101, r102, r103, r104, r105, r106, r107, r108, r109, r110, r111, r112, r113, r114, r115, r116, r117, f8, f9, f10, f11, f12, f13, f14, f15, f16, f17, f18, f19, f45, f46, f55, f56, f57, f58, f59, f60, f61, f62, f63, f64⟩ := hf
  unfold zRz at H ⊢
  rw [r98, r99, r100, r101, r102, r103, r107, r108, r109, r111, r112, r113, r114, f9, f11, f12, f17, f45, f46, f55, f58, f62]
  exact H
theorem zk_fr {S2 : ma_S} {m₉ aa : Nat → Nat → Int32} (H : zRk (mI S2) aa) (hf : (m₉ 98) = (mI S2 98) ∧ (m₉ 99) = (mI S2 99) ∧ (m₉ 100) = (mI S2 100) ∧ (m₉ 101) = (mI S2 101) ∧ (m₉ 102) = (mI S2 102) ∧ (m₉ 103) = (mI S2 103) ∧ (m₉ 104) = (mI S2 104) ∧ (m₉ 105) = (mI S2 105) ∧ (m₉ 106) = (mI S2 106) ∧ (m₉ 107) = (mI S2 107) ∧ (m₉ 108) = (mI S2 108) ∧ (m₉ 109) = (mI S2 109) ∧ (m₉ 110) = (mI S2 110) ∧ (m₉ 111) = (mI S2 111) ∧ (m₉ 112) = (mI S2 112) ∧ (m₉ 113) = (mI S2 113) ∧ (m₉ 114) = (mI S2 114) ∧ (m₉ 115) = (mI S2 115) ∧ (m₉ 116) = (mI S2 116) ∧ (m₉ 117) = (mI S2 117) ∧ (m₉ 94 8) = (mI S2 94 8) ∧ (m₉ 94 9) = (mI S2 94 9) ∧ (m₉ 94 10) = (mI S2 94 10) ∧ (m₉ 94 11) = (mI S2 94 11) ∧ (m₉ 94 12) = (mI S2 94 12) ∧ (m₉ 94 13) = (mI S2 94 13) ∧ (m₉ 94 14) = (mI S2 94 14) ∧ (m₉ 94 15) = (mI S2 94 15) ∧ (m₉ 94 16) = (mI S2 94 16) ∧ (m₉ 94 17) = (mI S2 94 17) ∧ (m₉ 94 18) = (mI S2 94 18) ∧ (m₉ 94 19) = (mI S2 94 19) ∧ (m₉ 94 45) = (mI S2 94 45) ∧ (m₉ 94 46) = (mI S2 94 46) ∧ (m₉ 94 55) = (mI S2 94 55) ∧ (m₉ 94 56) = (mI S2 94 56) ∧ (m₉ 94 57) = (mI S2 94 57) ∧ (m₉ 94 58) = (mI S2 94 58) ∧ (m₉ 94 59) = (mI S2 94 59) ∧ (m₉ 94 60) = (mI S2 94 60) ∧ (m₉ 94 61) = (mI S2 94 61) ∧ (m₉ 94 62) = (mI S2 94 62) ∧ (m₉ 94 63) = (mI S2 94 63) ∧ (m₉ 94 64) = (mI S2 94 64)) : zRk m₉ aa := by
  obtain ⟨r98, r99, r100, r101, r102, r103, r104, r105, r106, r107, r108, r109, r110, r111, r112, r113, r114, r115, r116, r117, f8, f9, f10, f11, f12, f13, f14, f15, f16, f17, f18, f19, f45, f46, f55, f56, f57, f58, f59, f60, f61, f62, f63, f64⟩ := hf
  unfold zRk at H ⊢
  rw [r99, r100, r105]
  exact H
theorem n1_fr {S2 : ma_S} {m₉ aa : Nat → Nat → Int32} (H : zN1 (mI S2) aa) (hf : (m₉ 98) = (mI S2 98) ∧ (m₉ 99) = (mI S2 99) ∧ (m₉ 100) = (mI S2 100) ∧ (m₉ 101) = (mI S2 101) ∧ (m₉ 102) = (mI S2 102) ∧ (m₉ 103) = (mI S2 103) ∧ (m₉ 104) = (mI S2 104) ∧ (m₉ 105) = (mI S2 105) ∧ (m₉ 106) = (mI S2 106) ∧ (m₉ 107) = (mI S2 107) ∧ (m₉ 108) = (mI S2 108) ∧ (m₉ 109) = (mI S2 109) ∧ (m₉ 110) = (mI S2 110) ∧ (m₉ 111) = (mI S2 111) ∧ (m₉ 112) = (mI S2 112) ∧ (m₉ 113) = (mI S2 113) ∧ (m₉ 114) = (mI S2 114) ∧ (m₉ 115) = (mI S2 115) ∧ (m₉ 116) = (mI S2 116) ∧ (m₉ 117) = (mI S2 117) ∧ (m₉ 94 8) = (mI S2 94 8) ∧ (m₉ 94 9) = (mI S2 94 9) ∧ (m₉ 94 10) = (mI S2 94 10) ∧ (m₉ 94 11) = (mI S2 94 11) ∧ (m₉ 94 12) = (mI S2 94 12) ∧ (m₉ 94 13) = (mI S2 94 13) ∧ (m₉ 94 14) = (mI S2 94 14) ∧ (m₉ 94 15) = (mI S2 94 15) ∧ (m₉ 94 16) = (mI S2 94 16) ∧ (m₉ 94 17) = (mI S2 94 17) ∧ (m₉ 94 18) = (mI S2 94 18) ∧ (m₉ 94 19) = (mI S2 94 19) ∧ (m₉ 94 45) = (mI S2 94 45) ∧ (m₉ 94 46) = (mI S2 94 46) ∧ (m₉ 94 55) = (mI S2 94 55) ∧ (m₉ 94 56) = (mI S2 94 56) ∧ (m₉ 94 57) = (mI S2 94 57) ∧ (m₉ 94 58) = (mI S2 94 58) ∧ (m₉ 94 59) = (mI S2 94 59) ∧ (m₉ 94 60) = (mI S2 94 60) ∧ (m₉ 94 61) = (mI S2 94 61) ∧ (m₉ 94 62) = (mI S2 94 62) ∧ (m₉ 94 63) = (mI S2 94 63) ∧ (m₉ 94 64) = (mI S2 94 64)) : zN1 m₉ aa := by
  obtain ⟨r98, r99, r100, r101, r102, r103, r104, r105, r106, r107, r108, r109, r110, r111, r112, r113, r114, r115, r116, r117, f8, f9, f10, f11, f12, f13, f14, f15, f16, f17, f18, f19, f45, f46, f55, f56, f57, f58, f59, f60, f61, f62, f63, f64⟩ := hf
  unfold zN1 at H ⊢
  rw [r98, r99, r100, r101, r102, r103, r107, r108, r109, r111, r112, r113, r114, f11, f45, f46, f55, f58, f59]
  exact H
theorem n2_fr {S2 : ma_S} {m₉ aa : Nat → Nat → Int32} (H : zN2 (mI S2) aa) (hf : (m₉ 98) = (mI S2 98) ∧ (m₉ 99) = (mI S2 99) ∧ (m₉ 100) = (mI S2 100) ∧ (m₉ 101) = (mI S2 101) ∧ (m₉ 102) = (mI S2 102) ∧ (m₉ 103) = (mI S2 103) ∧ (m₉ 104) = (mI S2 104) ∧ (m₉ 105) = (mI S2 105) ∧ (m₉ 106) = (mI S2 106) ∧ (m₉ 107) = (mI S2 107) ∧ (m₉ 108) = (mI S2 108) ∧ (m₉ 109) = (mI S2 109) ∧ (m₉ 110) = (mI S2 110) ∧ (m₉ 111) = (mI S2 111) ∧ (m₉ 112) = (mI S2 112) ∧ (m₉ 113) = (mI S2 113) ∧ (m₉ 114) = (mI S2 114) ∧ (m₉ 115) = (mI S2 115) ∧ (m₉ 116) = (mI S2 116) ∧ (m₉ 117) = (mI S2 117) ∧ (m₉ 94 8) = (mI S2 94 8) ∧ (m₉ 94 9) = (mI S2 94 9) ∧ (m₉ 94 10) = (mI S2 94 10) ∧ (m₉ 94 11) = (mI S2 94 11) ∧ (m₉ 94 12) = (mI S2 94 12) ∧ (m₉ 94 13) = (mI S2 94 13) ∧ (m₉ 94 14) = (mI S2 94 14) ∧ (m₉ 94 15) = (mI S2 94 15) ∧ (m₉ 94 16) = (mI S2 94 16) ∧ (m₉ 94 17) = (mI S2 94 17) ∧ (m₉ 94 18) = (mI S2 94 18) ∧ (m₉ 94 19) = (mI S2 94 19) ∧ (m₉ 94 45) = (mI S2 94 45) ∧ (m₉ 94 46) = (mI S2 94 46) ∧ (m₉ 94 55) = (mI S2 94 55) ∧ (m₉ 94 56) = (mI S2 94 56) ∧ (m₉ 94 57) = (mI S2 94 57) ∧ (m₉ 94 58) = (mI S2 94 58) ∧ (m₉ 94 59) = (mI S2 94 59) ∧ (m₉ 94 60) = (mI S2 94 60) ∧ (m₉ 94 61) = (mI S2 94 61) ∧ (m₉ 94 62) = (mI S2 94 62) ∧ (m₉ 94 63) = (mI S2 94 63) ∧ (m₉ 94 64) = (mI S2 94 64)) : zN2 m₉ aa := by
  obtain ⟨r98, r99, r100, r101, r102, r103, r104, r105, r106, r107, r108, r109, r110, r111, r112, r113, r114, r115, r116, r117, f8, f9, f10, f11, f12, f13, f14, f15, f16, f17, f18, f19, f45, f46, f55, f56, f57, f58, f59, f60, f61, f62, f63, f64⟩ := hf
  unfold zN2 at H ⊢
  rw [r98, r99, r100, r101, r102, r103, r107, r108, r109, r111, r112, r113, r114, f11, f45, f46, f55, f58, f59, f61]
  exact H
theorem n3_fr {S2 : ma_S} {m₉ aa : Nat → Nat → Int32} (H : zN3 (mI S2) aa) (hf : (m₉ 98) = (mI S2 98) ∧ (m₉ 99) = (mI S2 99) ∧ (m₉ 100) = (mI S2 100) ∧ (m₉ 101) = (mI S2 101) ∧ (m₉ 102) = (mI S2 102) ∧ (m₉ 103) = (mI S2 103) ∧ (m₉ 104) = (mI S2 104) ∧ (m₉ 105) = (mI S2 105) ∧ (m₉ 106) = (mI S2 106) ∧ (m₉ 107) = (mI S2 107) ∧ (m₉ 108) = (mI S2 108) ∧ (m₉ 109) = (mI S2 109) ∧ (m₉ 110) = (mI S2 110) ∧ (m₉ 111) = (mI S2 111) ∧ (m₉ 112) = (mI S2 112) ∧ (m₉ 113) = (mI S2 113) ∧ (m₉ 114) = (mI S2 114) ∧ (m₉ 115) = (mI S2 115) ∧ (m₉ 116) = (mI S2 116) ∧ (m₉ 117) = (mI S2 117) ∧ (m₉ 94 8) = (mI S2 94 8) ∧ (m₉ 94 9) = (mI S2 94 9) ∧ (m₉ 94 10) = (mI S2 94 10) ∧ (m₉ 94 11) = (mI S2 94 11) ∧ (m₉ 94 12) = (mI S2 94 12) ∧ (m₉ 94 13) = (mI S2 94 13) ∧ (m₉ 94 14) = (mI S2 94 14) ∧ (m₉ 94 15) = (mI S2 94 15) ∧ (m₉ 94 16) = (mI S2 94 16) ∧ (m₉ 94 17) = (mI S2 94 17) ∧ (m₉ 94 18) = (mI S2 94 18) ∧ (m₉ 94 19) = (mI S2 94 19) ∧ (m₉ 94 45) = (mI S2 94 45) ∧ (m₉ 94 46) = (mI S2 94 46) ∧ (m₉ 94 55) = (mI S2 94 55) ∧ (m₉ 94 56) = (mI S2 94 56) ∧ (m₉ 94 57) = (mI S2 94 57) ∧ (m₉ 94 58) = (mI S2 94 58) ∧ (m₉ 94 59) = (mI S2 94 59) ∧ (m₉ 94 60) = (mI S2 94 60) ∧ (m₉ 94 61) = (mI S2 94 61) ∧ (m₉ 94 62) = (mI S2 94 62) ∧ (m₉ 94 63) = (mI S2 94 63) ∧ (m₉ 94 64) = (mI S2 94 64)) : zN3 m₉ aa := by
  obtain ⟨r98, r99, r100, r101, r102, r103, r104, r105, r106, r107, r108, r109, r110, r111, r112, r113, r114, r115, r116, r117, f8, f9, f10, f11, f12, f13, f14, f15, f16, f17, f18, f19, f45, f46, f55, f56, f57, f58, f59, f60, f61, f62, f63, f64⟩ := hf
  unfold zN3 at H ⊢
  rw [r98, r99, r100, r101, r102, r103, r104, r107, r108, r109, r111, r112, r113, r114, r117, f13, f14, f15, f16, f45, f46, f55, f58, f59, f60, f61]
  exact H
theorem n6_fr {S2 : ma_S} {m₉ aa : Nat → Nat → Int32} (H : zN6 (mI S2) aa) (hf : (m₉ 98) = (mI S2 98) ∧ (m₉ 99) = (mI S2 99) ∧ (m₉ 100) = (mI S2 100) ∧ (m₉ 101) = (mI S2 101) ∧ (m₉ 102) = (mI S2 102) ∧ (m₉ 103) = (mI S2 103) ∧ (m₉ 104) = (mI S2 104) ∧ (m₉ 105) = (mI S2 105) ∧ (m₉ 106) = (mI S2 106) ∧ (m₉ 107) = (mI S2 107) ∧ (m₉ 108) = (mI S2 108) ∧ (m₉ 109) = (mI S2 109) ∧ (m₉ 110) = (mI S2 110) ∧ (m₉ 111) = (mI S2 111) ∧ (m₉ 112) = (mI S2 112) ∧ (m₉ 113) = (mI S2 113) ∧ (m₉ 114) = (mI S2 114) ∧ (m₉ 115) = (mI S2 115) ∧ (m₉ 116) = (mI S2 116) ∧ (m₉ 117) = (mI S2 117) ∧ (m₉ 94 8) = (mI S2 94 8) ∧ (m₉ 94 9) = (mI S2 94 9) ∧ (m₉ 94 10) = (mI S2 94 10) ∧ (m₉ 94 11) = (mI S2 94 11) ∧ (m₉ 94 12) = (mI S2 94 12) ∧ (m₉ 94 13) = (mI S2 94 13) ∧ (m₉ 94 14) = (mI S2 94 14) ∧ (m₉ 94 15) = (mI S2 94 15) ∧ (m₉ 94 16) = (mI S2 94 16) ∧ (m₉ 94 17) = (mI S2 94 17) ∧ (m₉ 94 18) = (mI S2 94 18) ∧ (m₉ 94 19) = (mI S2 94 19) ∧ (m₉ 94 45) = (mI S2 94 45) ∧ (m₉ 94 46) = (mI S2 94 46) ∧ (m₉ 94 55) = (mI S2 94 55) ∧ (m₉ 94 56) = (mI S2 94 56) ∧ (m₉ 94 57) = (mI S2 94 57) ∧ (m₉ 94 58) = (mI S2 94 58) ∧ (m₉ 94 59) = (mI S2 94 59) ∧ (m₉ 94 60) = (mI S2 94 60) ∧ (m₉ 94 61) = (mI S2 94 61) ∧ (m₉ 94 62) = (mI S2 94 62) ∧ (m₉ 94 63) = (mI S2 94 63) ∧ (m₉ 94 64) = (mI S2 94 64)) : zN6 m₉ aa := by
  obtain ⟨r98, r99, r100, r101, r102, r103, r104, r105, r106, r107, r108, r109, r110, r111, r112, r113, r114, r115, r116, r117, f8, f9, f10, f11, f12, f13, f14, f15, f16, f17, f18, f19, f45, f46, f55, f56, f57, f58, f59, f60, f61, f62, f63, f64⟩ := hf
  unfold zN6 at H ⊢
  rw [r98, r99, r100, r101, r102, r103, r107, r108, r109, r111, r112, r113, r114, r116, f18, f19, f45, f46, f55, f58, f63, f64]
  exact H
theorem kp_zz {S2 : ma_S} {m₉ : Nat → Nat → Int32} (hf : (m₉ 98) = (mI S2 98) ∧ (m₉ 99) = (mI S2 99) ∧ (m₉ 100) = (mI S2 100) ∧ (m₉ 101) = (mI S2 101) ∧ (m₉ 102) = (mI S2 102) ∧ (m₉ 103) = (mI S2 103) ∧ (m₉ 105) = (mI S2 105) ∧ (m₉ 107) = (mI S2 107) ∧ (m₉ 108) = (mI S2 108) ∧ (m₉ 109) = (mI S2 109) ∧ (m₉ 111) = (mI S2 111) ∧ (m₉ 112) = (mI S2 112) ∧ (m₉ 113) = (mI S2 113) ∧ (m₉ 114) = (mI S2 114) ∧ (m₉ 94 55) = (mI S2 94 55) ∧ (m₉ 94 46) = (mI S2 94 46) ∧ (m₉ 94 11) = (mI S2 94 11) ∧ (m₉ 94 12) = (mI S2 94 12) ∧ (m₉ 94 62) = (mI S2 94 62) ∧ (m₉ 94 17) = (mI S2 94 17) ∧ (m₉ 94 9) = (mI S2 94 9) ∧ (m₉ 94 58) = (mI S2 94 58) ∧ (m₉ 94 45) = (mI S2 94 45)) : ∀ aa, zRz (mI S2) aa → zRz m₉ aa := by
  intro aa H
  obtain ⟨r98,r99,r100,r101,r102,r103,r105,r107,r108,r109,r111,r112,r113,r114, f55,f46,f11,f12,f62,f17,f9,f58,f45⟩ := hf
  unfold zRz at H ⊢
  rw [r98, r99, r100, r101, r102, r103, r107, r108, r109, r111, r112, r113, r114, f9, f11, f12, f17, f45, f46, f55, f58, f62]
  exact H
theorem kp_zk {S2 : ma_S} {m₉ : Nat → Nat → Int32} (hf : (m₉ 98) = (mI S2 98) ∧ (m₉ 99) = (mI S2 99) ∧ (m₉ 100) = (mI S2 100) ∧ (m₉ 101) = (mI S2 101) ∧ (m₉ 102) = (mI S2 102) ∧ (m₉ 103) = (mI S2 103) ∧ (m₉ 105) = (mI S2 105) ∧ (m₉ 107) = (mI S2 107) ∧ (m₉ 108) = (mI S2 108) ∧ (m₉ 109) = (mI S2 109) ∧ (m₉ 111) = (mI S2 111) ∧ (m₉ 112) = (mI S2 112) ∧ (m₉ 113) = (mI S2 113) ∧ (m₉ 114) = (mI S2 114) ∧ (m₉ 94 55) = (mI S2 94 55) ∧ (m₉ 94 46) = (mI S2 94 46) ∧ (m₉ 94 11) = (mI S2 94 11) ∧ (m₉ 94 12) = (mI S2 94 12) ∧ (m₉ 94 62) = (mI S2 94 62) ∧ (m₉ 94 17) = (mI S2 94 17) ∧ (m₉ 94 9) = (mI S2 94 9) ∧ (m₉ 94 58) = (mI S2 94 58) ∧ (m₉ 94 45) = (mI S2 94 45)) : ∀ aa, zRk (mI S2) aa → zRk m₉ aa := by
  intro aa H
  obtain ⟨r98,r99,r100,r101,r102,r103,r105,r107,r108,r109,r111,r112,r113,r114, f55,f46,f11,f12,f62,f17,f9,f58,f45⟩ := hf
  unfold zRk at H ⊢
  rw [r99, r100, r105]
  exact H
theorem sim_hp {r₉ : Nat → Nat → Option Nat} (H : zLw C0 Z0 T S) (hc : zCl S S2) (hp : mR S2 64 11 = r₉ 64 11) (hV : zV m₉) (ho : ∀ c k, c < 94 ∨ 124 < c → m₉ c k = mI S2 c k)
    (hoc : (zAns (mI S 65) (mI S 64 1).toInt < 0 ∧ r₉ 64 11 = mR S 64 11 ∧ zFm (mI S) (mL S) (mR S 70) S2) ∨ (0 ≤ zAns (mI S 65) (mI S 64 1).toInt ∧ ((qPo (mI S 65) (mI S 64 1).toInt = 0 ∧ r₉ 64 11 = some 79 ∧ xB S2 (mR S2 70) ∧ aS 88 S2 = aFg (aS 88 S) ∧ zfP 79 (mI S2) 2 = 0 ∧ (zfP 79 (mI S2) 0).toInt = zVal (mI S 65) (mI S 64 1).toInt 0 1 ∧ (zfP 79 (mI S2) 1).toInt = zVal (mI S 65) (mI S 64 1).toInt 6 2) ∨ (qPo (mI S 65) (mI S 64 1).toInt = 4 ∧ r₉ 64 11 = some 84 ∧ xB S2 (mR S2 70) ∧ aS 88 S2 = aFg (aS 88 S) ∧ zfP 84 (mI S2) 2 = 0 ∧ (zfP 84 (mI S2) 0).toInt = zVal (mI S 65) (mI S 64 1).toInt 0 1 ∧ (zfP 84 (mI S2) 1).toInt = zVal (mI S 65) (mI S 64 1).toInt 6 2) ∨ (qPo (mI S 65) (mI S 64 1).toInt = 5 ∧ r₉ 64 11 = some 87 ∧ xB S2 (mR S2 70) ∧ ∃ t : Nat → Int32, aS 88 S2 = aO2 (aFg (aS 88 S)) t ∧ (t 0).toInt = zVal (mI S 65) (mI S 64 1).toInt 0 1 ∧ (t 1).toInt = zVal (mI S 65) (mI S 64 1).toInt 6 2 ∧ (t 2).toInt = zVal (mI S 65) (mI S 64 1).toInt 3 3 ∧ (t 3).toInt = zVal (mI S 65) (mI S 64 1).toInt 7 4) ∨ (qPo (mI S 65) (mI S 64 1).toInt = 1 ∧ r₉ 64 11 = some 80 ∧ xB S2 (mR S2 70) ∧ aS 88 S2 = aFg (aS 88 S) ∧ ((mI S2 80 2)).toInt = zVal (mI S 65) (mI S 64 1).toInt 0 1 ∧ (mI S2 80 3) = 0) ∨ (qPo (mI S 65) (mI S 64 1).toInt = 2 ∧ r₉ 64 11 = some 81 ∧ xB S2 (mR S2 70) ∧ aS 88 S2 = aFg (aS 88 S) ∧ ((mI S2 81 2)).toInt = zVal (mI S 65) (mI S 64 1).toInt 0 1 ∧ (mI S2 81 3) = 0 ∧ (mI S2 81 4) = 0) ∨ (qPo (mI S 65) (mI S 64 1).toInt = 3 ∧ r₉ 64 11 = some 82 ∧ xB S2 (mR S2 70) ∧ aS 88 S2 = aFg (aS 88 S) ∧ ((mI S2 82 2)).toInt = zVal (mI S 65) (mI S 64 1).toInt 0 1 ∧ ((mI S2 82 3)).toInt = zVal (mI S 65) (mI S 64 1).toInt 0 2 ∧ ((mI S2 82 4)).toInt = zVal (mI S 65) (mI S 64 1).toInt 1 3 ∧ ((mI S2 82 5)).toInt = zVal (mI S 65) (mI S 64 1).toInt 2 4 ∧ (mI S2 82 6) = 0 ∧ ((mI S2 82 7)).toInt = zVal (mI S 65) (mI S 64 1).toInt 0 2 ∧ ((mI S2 82 8)).toInt = zVal (mI S 65) (mI S 64 1).toInt 0 2 ∧ ∀ k : Nat, k < 375 → (mI S2 83) k = 0) ∨ (qPo (mI S 65) (mI S 64 1).toInt = 6 ∧ r₉ 64 11 = some 91 ∧ xB S2 (mR S2 70) ∧ aS 88 S2 = aFg (aS 88 S) ∧ ((mI S2 91 2)).toInt = zV4 (mI S 65) (mI S 64 1).toInt ∧ ((mI S2 91 3)).toInt = zVal (mI S 65) (mI S 64 1).toInt 0 1 / zV4 (mI S 65) (mI S 64 1).toInt ∧ ((mI S2 91 4)).toInt = zVal (mI S 65) (mI S 64 1).toInt 5 3 ∧ (mI S2 91 5) = 0 ∧ ∀ k : Nat, k < 93 → (mI S2 92) k = 0))))
    (hoq : ((zAns (mI S2 95) (mI S2 94 3).toInt) < 0 ∧ (m₉ 98) = (mI S2 98) ∧ (m₉ 99) = (mI S2 99) ∧ (m₉ 100) = (mI S2 100) ∧ (m₉ 101) = (mI S2 101) ∧ (m₉ 102) = (mI S2 102) ∧ (m₉ 103) = (mI S2 103) ∧ (m₉ 104) = (mI S2 104) ∧ (m₉ 105) = (mI S2 105) ∧ (m₉ 106) = (mI S2 106) ∧ (m₉ 107) = (mI S2 107) ∧ (m₉ 108) = (mI S2 108) ∧ (m₉ 109) = (mI S2 109) ∧ (m₉ 110) = (mI S2 110) ∧ (m₉ 111) = (mI S2 111) ∧ (m₉ 112) = (mI S2 112) ∧ (m₉ 113) = (mI S2 113) ∧ (m₉ 114) = (mI S2 114) ∧ (m₉ 115) = (mI S2 115) ∧ (m₉ 116) = (mI S2 116) ∧ (m₉ 117) = (mI S2 117) ∧ (m₉ 94 8) = (mI S2 94 8) ∧ (m₉ 94 9) = (mI S2 94 9) ∧ (m₉ 94 10) = (mI S2 94 10) ∧ (m₉ 94 11) = (mI S2 94 11) ∧ (m₉ 94 12) = (mI S2 94 12) ∧ (m₉ 94 13) = (mI S2 94 13) ∧ (m₉ 94 14) = (mI S2 94 14) ∧ (m₉ 94 15) = (mI S2 94 15) ∧ (m₉ 94 16) = (mI S2 94 16) ∧ (m₉ 94 17) = (mI S2 94 17) ∧ (m₉ 94 18) = (mI S2 94 18) ∧ (m₉ 94 19) = (mI S2 94 19) ∧ (m₉ 94 45) = (mI S2 94 45) ∧ (m₉ 94 46) = (mI S2 94 46) ∧ (m₉ 94 55) = (mI S2 94 55) ∧ (m₉ 94 56) = (mI S2 94 56) ∧ (m₉ 94 57) = (mI S2 94 57) ∧ (m₉ 94 58) = (mI S2 94 58) ∧ (m₉ 94 59) = (mI S2 94 59) ∧ (m₉ 94 60) = (mI S2 94 60) ∧ (m₉ 94 61) = (mI S2 94 61) ∧ (m₉ 94 62) = (mI S2 94 62) ∧ (m₉ 94 63) = (mI S2 94 63) ∧ (m₉ 94 64) = (mI S2 94 64)) ∨ (0 ≤ (zAns (mI S2 95) (mI S2 94 3).toInt) ∧ (m₉ 94 10).toInt = qPo (mI S2 95) (mI S2 94 3).toInt ∧ (m₉ 94 8).toInt = 1 ∧ ((m₉ 94 10).toInt = 5 → qV (mI S2 95) (mI S2 94 3).toInt (m₉ 94 11).toInt (m₉ 94 12).toInt (m₉ 94 17).toInt (m₉ 94 9)) ∧ (((m₉ 94 10).toInt = 0 ∨ (m₉ 94 10).toInt = 4) → ((m₉ 94 11).toInt = zVal (mI S2 95) (mI S2 94 3).toInt 0 1 ∧ (m₉ 94 12).toInt = zVal (mI S2 95) (mI S2 94 3).toInt 6 2)) ∧ ((∀ s : Nat, s < 3100 → (m₉ 99) s = 0) ∧ (∀ s : Nat, (s : Int) < 16 → ((m₉ 112) s).toInt < 0) ∧ (∀ s : Nat, (s : Int) < 16 → ((m₉ 113) s).toInt < 0) ∧ (m₉ 94 45).toInt = 0 ∧ (m₉ 94 46).toInt = 0 ∧ (m₉ 94 55).toInt = 0 ∧ (m₉ 94 58).toInt = 0 ∧ (m₉ 94 62).toInt = 0) ∧ (qT1 (m₉ 94 10).toInt (m₉ 94 11).toInt (mI S2 95) (mI S2 94 3).toInt ∧ qT3 (m₉ 94 10).toInt (m₉ 94 13).toInt (m₉ 94 14).toInt (m₉ 94 15).toInt (m₉ 94 16).toInt (mI S2 95) (mI S2 94 3).toInt ∧ qT6 (m₉ 94 10).toInt (m₉ 94 11).toInt (m₉ 94 18).toInt (m₉ 94 19).toInt (mI S2 95) (mI S2 94 3).toInt) ∧ ((m₉ 94 60).toInt = 0 ∧ (m₉ 94 61).toInt = 0 ∧ (m₉ 94 63).toInt = 0 ∧ (((m₉ 94 10).toInt = 3 ∧ (m₉ 94 59).toInt = (m₉ 94 14).toInt) ∨ ((m₉ 94 10).toInt ≠ 3 ∧ (m₉ 94 59).toInt = 0))) ∧ ((m₉ 94 10).toInt = 6 → (m₉ 94 64) = (m₉ 94 11) / (m₉ 94 18)) ∧ (∀ s : Nat, s < 4600 → ((m₉ 111) s).toInt < 0) ∧ (∀ s : Nat, s < 128 → (m₉ 116) s = 0) ∧ (∀ s : Nat, s < 512 → (m₉ 117) s = 0))) (g17 : 0 ≤ (m₉ 94 17).toInt) (g27 : 0 ≤ (m₉ 94 27).toInt) : zSim (T + 1) (zst S2 m₉) := by
  have e3 : mI S2 94 3 = mI S 64 1 := (hc.2.1 94 3 (by decide) (by decide)).trans H.2.2.1.symm
  have e95 : mI S2 95 = mI S 95 := funext (fun k => hc.2.1 95 k (by decide) (by decide))
  have b := rs_94_3 H.2.1.1
  rw [← H.2.2.1] at b
  have tp : ∀ k : Nat, (k : Int) < (mI S 64 1).toInt → mI S 95 k = mI S 65 k := fun k hk => by
    rw [H.2.2.1] at hk
    exact (H.2.2.2.2.2.2.1 k hk).1.symm
  rw [e3, e95, zAns_cg tp b.1 b.2, qPo_cg tp b.1 b.2] at hoq
  have ap : mR (zst S2 m₉) 64 11 = r₉ 64 11 := hp
  have m1 : mI (zst S2 m₉) = m₉ := rfl
  rcases hoc with ⟨h1, h2, h3⟩ | ⟨h1, h2⟩
  · rcases hoq with ⟨_, hf⟩ | ⟨g1, _⟩
    · have kp := kp_mod (T := T) H hc ho (fm_kp h3 H.1.1) (fm_km h3 H.1.1) (fun aa z => z5_fr z hf) (fun aa z => zz_fr z hf) (fun aa z => zk_fr z hf) ⟨fun aa z => n1_fr z hf, fun aa z => n2_fr z hf, fun aa z => n3_fr z hf, fun aa z => n6_fr z hf⟩
      obtain ⟨r98, r99, r100, r101, r102, r103, r104, r105, r106, r107, r108, r109, r110, r111, r112, r113, r114, r115, r116, r117, f8, f9, f10, f11, f12, f13, f14, f15, f16, f17, f18, f19, f45, f46, f55, f56, f57, f58, f59, f60, f61, f62, f63, f64⟩ := hf
      have a8 : m₉ 94 8 = mI S 94 8 := f8.trans (hc.2.1 94 8 (by decide) (by decide))
      have a10 : m₉ 94 10 = mI S 94 10 := f10.trans (hc.2.1 94 10 (by decide) (by decide))
      unfold zSim
      unfold zMod at kp ⊢
      rw [ap, h2, m1, a8, a10]
      exact ⟨H.2.2.2.2.2.2.2.2.1, kp, g17, g27⟩
    · omega
  · rcases hoq with ⟨g1, _⟩ | ⟨_, g2, g3, g5, gz, ge, gm, gt, gr, go, g116, g117⟩
    · omega
    · have a80 : ∀ n k, 512 ≤ n → aS 88 S (1000 + n) k = 0 := fun n k hn => by
        unfold aS aF aTr
        rw [if_neg (by omega), if_neg (by omega), if_neg (by omega), if_neg (by omega)]
      have ge2 : zEmr m₉ := ge
      have gm2 := jm_cg gm tp b.1 b.2
      obtain ⟨t1, t3, t6⟩ := gm2
      obtain ⟨f60, f61, f63, f59⟩ := gt
      unfold zSim zMod
      rw [ap, m1, g2]
      rcases h2 with ⟨k1, k2, k3, k4, k5, k6, k7⟩ | ⟨k1, k2, k3, k4, k5, k6, k7⟩ | ⟨k1, k2, k3, t, k4, v0, v1, v2, v3⟩ | ⟨k1, k2, k3, k4, k5, k6⟩ | ⟨k1, k2, k3, k4, k5, k6, k7⟩ | ⟨k1, k2, k3, k4, k5, k6, k7, k8, k9, k10, k11, k12⟩ | ⟨k1, k2, k3, k4, k5, k6, k7, k8, k9⟩
      · rw [k2, k1, g3]
        refine ⟨⟨⟨fun w => absurd w (by decide), fun w => absurd w (by decide)⟩, ⟨fun w => absurd w (by decide), fun w => absurd w.2 (by decide)⟩, ⟨fun _ => ⟨by decide, rfl⟩, fun _ => rfl⟩, ⟨fun w => absurd w (by decide), fun w => absurd w.2 (by decide)⟩, ⟨fun w => absurd w (by decide), fun w => absurd w.2 (by decide)⟩, ⟨fun w => absurd w (by decide), fun w => absurd w.2 (by decide)⟩, ⟨fun w => absurd w (by decide), fun w => absurd w.2 (by decide)⟩, ⟨fun w => absurd w (by decide), fun w => absurd w.2 (by decide)⟩⟩, ⟨fun w => absurd w (by decide), fun _ => ?_, fun w => absurd w (by decide), fun w => absurd w (by decide), fun w => absurd w (by decide), fun w => absurd w (by decide), fun w => absurd w (by decide)⟩, g17, g27⟩
        have w0 := gz (by omega)
        obtain ⟨z9, z2, z3, z45, z46, z55, z58, z62⟩ := ge
        rw [zVal_cg tp b.1 b.2, zVal_cg (c := 6) tp b.1 b.2] at w0
        have e11 : zfP 79 (mI S2) 0 = m₉ 94 11 := Int32.toInt_inj.mp (k6.trans w0.1.symm)
        have e12 : zfP 79 (mI S2) 1 = m₉ 94 12 := Int32.toInt_inj.mp (k7.trans w0.2.symm)
        have r5 := R5_op (a8 := aS 88 S) (u := zUu m₉) hV a80 z9 z2 z3 z45 z46 z55 z58 z62 g17 rfl rfl rfl rfl
        have qq : zQ (aO2 (aFg (aS 88 S)) (zUu m₉)) (aT 79 S2) := op_q k4 (by rw [e11]; rfl) (by rw [e12]; rfl) k5
        exact s0_st hc k3 ho qq (z5_z r5)
      · rw [k2, k1, g3]
        refine ⟨⟨⟨fun w => absurd w (by decide), fun w => absurd w (by decide)⟩, ⟨fun w => absurd w (by decide), fun w => absurd w.2 (by decide)⟩, ⟨fun w => absurd w (by decide), fun w => absurd w.2 (by decide)⟩, ⟨fun _ => ⟨by decide, rfl⟩, fun _ => rfl⟩, ⟨fun w => absurd w (by decide), fun w => absurd w.2 (by decide)⟩, ⟨fun w => absurd w (by decide), fun w => absurd w.2 (by decide)⟩, ⟨fun w => absurd w (by decide), fun w => absurd w.2 (by decide)⟩, ⟨fun w => absurd w (by decide), fun w => absurd w.2 (by decide)⟩⟩, ⟨fun w => absurd w (by decide), fun w => absurd w (by decide), fun _ => ?_, fun w => absurd w (by decide), fun w => absurd w (by decide), fun w => absurd w (by decide), fun w => absurd w (by decide)⟩, g17, g27⟩
        have w0 := gz (by omega)
        obtain ⟨z9, z2, z3, z45, z46, z55, z58, z62⟩ := ge
        rw [zVal_cg tp b.1 b.2, zVal_cg (c := 6) tp b.1 b.2] at w0
        have e11 : zfP 84 (mI S2) 0 = m₉ 94 11 := Int32.toInt_inj.mp (k6.trans w0.1.symm)
        have e12 : zfP 84 (mI S2) 1 = m₉ 94 12 := Int32.toInt_inj.mp (k7.trans w0.2.symm)
        have r5 := R5_op (a8 := aS 88 S) (u := zUu m₉) hV a80 z9 z2 z3 z45 z46 z55 z58 z62 g17 rfl rfl rfl rfl
        have qq : zQ (aO2 (aFg (aS 88 S)) (zUu m₉)) (aT 84 S2) := op_q k4 (by rw [e11]; rfl) (by rw [e12]; rfl) k5
        exact s4_st hc k3 ho (op_c (z5_z r5) qq z9 z2 z55) qq (z5_z r5) (fun s hs hu => absurd (z9 s hs) hu)
      · rw [k2, k1, g3]
        refine ⟨⟨⟨fun w => absurd w (by decide), fun w => absurd w (by decide)⟩, ⟨fun _ => ⟨by decide, rfl⟩, fun _ => rfl⟩, ⟨fun w => absurd w (by decide), fun w => absurd w.2 (by decide)⟩, ⟨fun w => absurd w (by decide), fun w => absurd w.2 (by decide)⟩, ⟨fun w => absurd w (by decide), fun w => absurd w.2 (by decide)⟩, ⟨fun w => absurd w (by decide), fun w => absurd w.2 (by decide)⟩, ⟨fun w => absurd w (by decide), fun w => absurd w.2 (by decide)⟩, ⟨fun w => absurd w (by decide), fun w => absurd w.2 (by decide)⟩⟩, ⟨fun _ => ?_, fun w => absurd w (by decide), fun w => absurd w (by decide), fun w => absurd w (by decide), fun w => absurd w (by decide), fun w => absurd w (by decide), fun w => absurd w (by decide)⟩, g17, g27⟩
        obtain ⟨z9, z2, z3, z45, z46, z55, z58, z62⟩ := ge
        obtain ⟨w0, w1, w2, w3, w4⟩ := g5 (by rw [g2]; exact k1)
        rw [zVal_cg tp b.1 b.2] at w0 w1 w2
        refine s5_st hc k3 ho (Sm_r (by rw [k4]; rfl)) ?_
        rw [k4]
        refine R5_op hV a80 z9 z2 z3 z45 z46 z55 z58 z62 w4 (Int32.toInt_inj.mp (v0.trans w0.symm)) (Int32.toInt_inj.mp (v1.trans w1.symm)) (Int32.toInt_inj.mp (v2.trans w2.symm)) ?_
        refine Int32.toInt_inj.mp (v3.trans ?_)
        rw [zVal_cg tp b.1 b.2] at w3
        rcases w3 with w | w
        · rw [if_neg w.1, w.2]
          rfl
        · rw [if_pos w.1, w.2]
          rfl
      · rw [k2, k1, g3]
        refine ⟨⟨⟨fun w => absurd w (by decide), fun w => absurd w (by decide)⟩, ⟨fun w => absurd w (by decide), fun w => absurd w.2 (by decide)⟩, ⟨fun w => absurd w (by decide), fun w => absurd w.2 (by decide)⟩, ⟨fun w => absurd w (by decide), fun w => absurd w.2 (by decide)⟩, ⟨fun _ => ⟨by decide, rfl⟩, fun _ => rfl⟩, ⟨fun w => absurd w (by decide), fun w => absurd w.2 (by decide)⟩, ⟨fun w => absurd w (by decide), fun w => absurd w.2 (by decide)⟩, ⟨fun w => absurd w (by decide), fun w => absurd w.2 (by decide)⟩⟩, ⟨fun w => absurd w (by decide), fun w => absurd w (by decide), fun w => absurd w (by decide), fun _ => ?_, fun w => absurd w (by decide), fun w => absurd w (by decide), fun w => absurd w (by decide)⟩, g17, g27⟩
        have q1 := t1 (Or.inl (by omega))
        exact s1_mst hc.1.1 k3 ho Of_rfl (op_1 hV a80 k4 ge2 (Int32.toInt_inj.mp (k5.trans q1.symm)) k6 (f59.elim (fun w => by have := w.1; omega) (fun w => w.2)))
      · rw [k2, k1, g3]
        refine ⟨⟨⟨fun w => absurd w (by decide), fun w => absurd w (by decide)⟩, ⟨fun w => absurd w (by decide), fun w => absurd w.2 (by decide)⟩, ⟨fun w => absurd w (by decide), fun w => absurd w.2 (by decide)⟩, ⟨fun w => absurd w (by decide), fun w => absurd w.2 (by decide)⟩, ⟨fun w => absurd w (by decide), fun w => absurd w.2 (by decide)⟩, ⟨fun _ => ⟨by decide, rfl⟩, fun _ => rfl⟩, ⟨fun w => absurd w (by decide), fun w => absurd w.2 (by decide)⟩, ⟨fun w => absurd w (by decide), fun w => absurd w.2 (by decide)⟩⟩, ⟨fun w => absurd w (by decide), fun w => absurd w (by decide), fun w => absurd w (by decide), fun w => absurd w (by decide), fun _ => ?_, fun w => absurd w (by decide), fun w => absurd w (by decide)⟩, g17, g27⟩
        have q1 := t1 (Or.inr (by omega))
        exact s2_mst hc.1.1 k3 ho Of_rfl (op_2 hV a80 k4 ge2 (Int32.toInt_inj.mp (k5.trans q1.symm)) k6 k7 (f59.elim (fun w => by have := w.1; omega) (fun w => w.2)) f61)
      · rw [k2, k1, g3]
        refine ⟨⟨⟨fun w => absurd w (by decide), fun w => absurd w (by decide)⟩, ⟨fun w => absurd w (by decide), fun w => absurd w.2 (by decide)⟩, ⟨fun w => absurd w (by decide), fun w => absurd w.2 (by decide)⟩, ⟨fun w => absurd w (by decide), fun w => absurd w.2 (by decide)⟩, ⟨fun w => absurd w (by decide), fun w => absurd w.2 (by decide)⟩, ⟨fun w => absurd w (by decide), fun w => absurd w.2 (by decide)⟩, ⟨fun _ => ⟨by decide, rfl⟩, fun _ => rfl⟩, ⟨fun w => absurd w (by decide), fun w => absurd w.2 (by decide)⟩⟩, ⟨fun w => absurd w (by decide), fun w => absurd w (by decide), fun w => absurd w (by decide), fun w => absurd w (by decide), fun w => absurd w (by decide), fun _ => ?_, fun w => absurd w (by decide)⟩, g17, g27⟩
        have q1 := t3 (by omega)
        have q2 := val_3 h1 k1
        exact s3_mst hc.1.1 k3 ho Of_rfl (op_3 hV a80 k4 ge2 (Int32.toInt_inj.mp (k5.trans q1.1.symm)) (Int32.toInt_inj.mp (k6.trans q1.2.1.symm)) (Int32.toInt_inj.mp (k7.trans q1.2.2.1.symm)) (Int32.toInt_inj.mp (k8.trans q1.2.2.2.symm)) k9 (Int32.toInt_inj.mp (k10.trans q1.2.1.symm)) (Int32.toInt_inj.mp (k11.trans q1.2.1.symm)) k12 g117 (f59.elim (fun w => w.2) (fun w => absurd (g2.trans k1) w.1)) f60 f61 (by rw [q1.2.2.1]; omega) (by rw [q1.2.2.2]; omega))
      · rw [k2, k1, g3]
        refine ⟨⟨⟨fun w => absurd w (by decide), fun w => absurd w (by decide)⟩, ⟨fun w => absurd w (by decide), fun w => absurd w.2 (by decide)⟩, ⟨fun w => absurd w (by decide), fun w => absurd w.2 (by decide)⟩, ⟨fun w => absurd w (by decide), fun w => absurd w.2 (by decide)⟩, ⟨fun w => absurd w (by decide), fun w => absurd w.2 (by decide)⟩, ⟨fun w => absurd w (by decide), fun w => absurd w.2 (by decide)⟩, ⟨fun w => absurd w (by decide), fun w => absurd w.2 (by decide)⟩, ⟨fun _ => ⟨by decide, rfl⟩, fun _ => rfl⟩⟩, ⟨fun w => absurd w (by decide), fun w => absurd w (by decide), fun w => absurd w (by decide), fun w => absurd w (by decide), fun w => absurd w (by decide), fun w => absurd w (by decide), fun _ => ?_⟩, g17, g27⟩
        have q1 := t6 (by omega)
        have q2 := val_6 h1 k1
        have q3 := gr (g2.trans k1)
        have dv : (m₉ 94 64).toInt = (m₉ 94 11).toInt / (m₉ 94 18).toInt := by
          rw [q3]
          exact (i_div (rs_94_11 hV).1 (by rw [q1.2.1]; omega)).2.2.1
        exact s6_mst' hc.1.1 k3 ho Of_rfl (op_6 hV a80 k4 ge2 (Int32.toInt_inj.mp (k5.trans q1.2.1.symm)) (Int32.toInt_inj.mp (by rw [k6, dv, q1.1, q1.2.1])) (Int32.toInt_inj.mp (k7.trans q1.2.2.symm)) k8 k9 g116 f63 dv (by rw [q1.2.1]; exact q2.1) (by rw [q1.2.1, q1.1]; exact q2.2.1) (by rw [q1.2.2]; exact q2.2.2))
/-! the plain words -/
def zWq (S : ma_S) : Prop := mR S 64 11 ≠ none → zWr (mI S 99) (mI S 100) (mI S 108) (aS 88 S)
def zLx (C0 Z0 T : Nat) (S : ma_S) : Prop := zLw C0 Z0 T S ∧ zWq S
theorem lx_of {T2 : Nat} {S₉ : ma_S} (f : zLw C0 Z0 T2 S₉ → zWq S₉) (h : zLw C0 Z0 T2 S₉) : zLx C0 Z0 T2 S₉ := ⟨h, f h⟩
theorem lw_cq (H : zLw C0 Z0 T S) (w : mR S 64 11 ≠ none) : cQI (aS 88 S) := by
  obtain ⟨bb, ro, fo, le, ra, pi, hR, hI, ho⟩ := lw_aq H w
  exact cQ_sa (Sa_o6 ho) (cQ_I hI)
theorem lw_n6 (H : zLw C0 Z0 T S) (w : mR S 64 11 ≠ none) : 0 ≤ (aS 88 S 69 6).toInt := by
  obtain ⟨bb, ro, fo, le, ra, pi, hR, hI, ho⟩ := lw_aq H w
  rw [← ho 69 6 (by decide) (by decide) (by decide) (by decide)]
  exact hI.2.2.2.1.1.1
theorem cq_st (hL : zLw C0 Z0 (T + 1) (zst S2 m₉)) (hc : zCl S S2) (hpr : mR S2 64 11 = mR S 64 11) (ho : ∀ c k, c < 94 ∨ 124 < c → m₉ c k = mI S2 c k) (w : mR S 64 11 ≠ none) : cQI (aS 88 S2) := by
  have q := lw_cq hL (by rw [show mR (zst S2 m₉) 64 11 = mR S 64 11 from hpr]; exact w)
  rw [aS_zst hc.1.1 ho] at q
  exact q
theorem wr_tr {m a : Nat → Nat → Int32} (H : zWr (m 99) (m 100) (m 108) a) (h : ∀ c k, 94 ≤ c → c ≤ 125 → m₉ c k = m c k) : zWr (m₉ 99) (m₉ 100) (m₉ 108) a := by
  rw [show m₉ 99 = m 99 from funext (fun k => h 99 k (by decide) (by decide)), show m₉ 100 = m 100 from funext (fun k => h 100 k (by decide) (by decide)), show m₉ 108 = m 108 from funext (fun k => h 108 k (by decide) (by decide))]
  exact H
theorem wl_st (H : zLw C0 Z0 T S) (HW : zWq S) (hL : zLw C0 Z0 (T + 1) (zst S2 m₉)) (hc : zCl S S2) (hpr : mR S2 64 11 = mR S 64 11) (ho : ∀ c k, c < 94 ∨ 124 < c → m₉ c k = mI S2 c k) (P : mR S 64 11 ≠ none → zPn (aS 88 S) (aS 88 S2)) (U : mR S 64 11 ≠ none → zUf (mI S2 94 46) (mI S2 99) (m₉ 99) (mI S2 100) (m₉ 100) (mI S2 108) (m₉ 108) (mI S2 98) (mI S2 101) (m₉ 98) (m₉ 101) (m₉ 102)) : zWq (zst S2 m₉) := fun w => by
  have w0 : mR S 64 11 ≠ none := by rw [← hpr]; exact w
  obtain ⟨bb, ro, fo, le, ra, pi, hR, hI, hx⟩ := lw_aq H w0
  obtain ⟨bb₉, ro₉, fo₉, le₉, ra₉, pi₉, hR₉, hI₉, hx₉⟩ := lw_aq hL w
  have z := aS_zst hc.1.1 ho
  have hR2 := rb_tr hR hc.2.1
  have p2 : zPn bb bb₉ := by
    refine Pn_sb (Sa_sy (Sa_o6 hx)) (hx 69 6 (by decide) (by decide) (by decide) (by decide)) (Sa_sy (Sa_o6 hx₉)) ?_
    rw [z]
    exact P w0
  exact Wr_sa (Sa_o6 hx₉) (Wr_st (wr_tr (Wr_sa (Sa_sy (Sa_o6 hx)) (HW w0)) hc.2.1) hR2 hI hR₉ p2 (U w0))
theorem pw_kp (hH : zKp S S2) : zPn (aS 88 S) (aS 88 S2) := by
  rw [hH.1]
  exact Pn_of Pw_rfl
theorem pw_sk {n : Nat} (H : zLw C0 Z0 T S) (hq1 : aS 88 S2 = aGo (aS 88 S) n) (w : mR S 64 11 ≠ none) : zPn (aS 88 S) (aS 88 S2) := by
  rw [hq1]
  exact Pn_of (Pw_go (lw_cq H w)).1
theorem pw_sx (h87 : mR S 64 11 = some 87 → xB S2 (mR S2 70) ∧ aS 88 S2 = aS 88 S) (hkp : mR S 64 11 ≠ none → mR S 64 11 ≠ some 87 → zKp S S2 ∧ zKm S S2) (w : mR S 64 11 ≠ none) : zPn (aS 88 S) (aS 88 S2) := by
  by_cases e : mR S 64 11 = some 87
  · rw [(h87 e).2]
    exact Pn_of Pw_rfl
  · exact pw_kp (hkp w e).1
theorem pw_bk (H : zLw C0 Z0 T S) (k87 : mR S 64 11 = some 87 → xB S2 (mR S2 70) ∧ aS 88 S2 = aS 88 S) (k79 : mR S 64 11 = some 79 → xB S2 (mR S2 70) ∧ aT 79 S2 = aT 79 S) (k84 : mR S 64 11 = some 84 → xB S2 (mR S2 70) ∧ aT 84 S2 = aT 84 S ∧ cC (aT 84 S2) [] (kC S2) (T : Int)) (km : mR S 64 11 ≠ none → mR S 64 11 ≠ some 87 → mR S 64 11 ≠ some 79 → mR S 64 11 ≠ some 84 → zKm S S2) (w : mR S 64 11 ≠ none) : zPn (aS 88 S) (aS 88 S2) := by
  have no : ∀ {p q : Nat}, mR S 64 11 = some p → p ≠ q → mR S 64 11 ≠ some q := fun e n w => n (Option.some.inj (e.symm.trans w))
  rcases lw_cl H w with e | e | e | e | e | e | e
  · rw [(k87 e).2]
    exact Pn_of Pw_rfl
  · refine pn_T (P := 79) ?_
    rw [(k79 e).2]
    exact Pn_of Pw_rfl
  · refine pn_T (P := 84) ?_
    rw [(k84 e).2.1]
    exact Pn_of Pw_rfl
  · have g := (km w (no e (by decide)) (no e (by decide)) (no e (by decide))).2.1
    exact pn_M (a := aL S) (a2 := aL S2) M_88 M_88 (b := aL S) (by rw [g]; exact Of_rfl) (Pn_of Pw_rfl)
  · have g := (km w (no e (by decide)) (no e (by decide)) (no e (by decide))).2.2.1
    exact pn_M (a := aH S) (a2 := aH S2) M_88 M_88 (b := aH S) (by rw [g]; exact Of_rfl) (Pn_of Pw_rfl)
  · have g := (km w (no e (by decide)) (no e (by decide)) (no e (by decide))).2.2.2.1
    exact pn_M (a := aG S) (a2 := aG S2) G_88 G_88 (b := aG S) (by rw [g]; exact Of_rfl) (Pn_of Pw_rfl)
  · have g := (km w (no e (by decide)) (no e (by decide)) (no e (by decide))).2.2.2.2
    exact pn_M (a := aZ S) (a2 := aZ S2) Z_88 Z_88 (b := aZ S) (by rw [g]; exact Of_rfl) (Pn_of Pw_rfl)
theorem wl_hp {r₉ : Nat → Nat → Option Nat} (H : zLw C0 Z0 T S) (HW : zWq S) (hc : zCl S S2) (hp : mR S2 64 11 = r₉ 64 11) (ho : ∀ c k, c < 94 ∨ 124 < c → m₉ c k = mI S2 c k)
    (hoc : (zAns (mI S 65) (mI S 64 1).toInt < 0 ∧ r₉ 64 11 = mR S 64 11 ∧ zFm (mI S) (mL S) (mR S 70) S2) ∨ (0 ≤ zAns (mI S 65) (mI S 64 1).toInt ∧ ((qPo (mI S 65) (mI S 64 1).toInt = 0 ∧ r₉ 64 11 = some 79 ∧ xB S2 (mR S2 70) ∧ aS 88 S2 = aFg (aS 88 S) ∧ zfP 79 (mI S2) 2 = 0 ∧ (zfP 79 (mI S2) 0).toInt = zVal (mI S 65) (mI S 64 1).toInt 0 1 ∧ (zfP 79 (mI S2) 1).toInt = zVal (mI S 65) (mI S 64 1).toInt 6 2) ∨ (qPo (mI S 65) (mI S 64 1).toInt = 4 ∧ r₉ 64 11 = some 84 ∧ xB S2 (mR S2 70) ∧ aS 88 S2 = aFg (aS 88 S) ∧ zfP 84 (mI S2) 2 = 0 ∧ (zfP 84 (mI S2) 0).toInt = zVal (mI S 65) (mI S 64 1).toInt 0 1 ∧ (zfP 84 (mI S2) 1).toInt = zVal (mI S 65) (mI S 64 1).toInt 6 2) ∨ (qPo (mI S 65) (mI S 64 1).toInt = 5 ∧ r₉ 64 11 = some 87 ∧ xB S2 (mR S2 70) ∧ ∃ t : Nat → Int32, aS 88 S2 = aO2 (aFg (aS 88 S)) t ∧ (t 0).toInt = zVal (mI S 65) (mI S 64 1).toInt 0 1 ∧ (t 1).toInt = zVal (mI S 65) (mI S 64 1).toInt 6 2 ∧ (t 2).toInt = zVal (mI S 65) (mI S 64 1).toInt 3 3 ∧ (t 3).toInt = zVal (mI S 65) (mI S 64 1).toInt 7 4) ∨ (qPo (mI S 65) (mI S 64 1).toInt = 1 ∧ r₉ 64 11 = some 80 ∧ xB S2 (mR S2 70) ∧ aS 88 S2 = aFg (aS 88 S) ∧ ((mI S2 80 2)).toInt = zVal (mI S 65) (mI S 64 1).toInt 0 1 ∧ (mI S2 80 3) = 0) ∨ (qPo (mI S 65) (mI S 64 1).toInt = 2 ∧ r₉ 64 11 = some 81 ∧ xB S2 (mR S2 70) ∧ aS 88 S2 = aFg (aS 88 S) ∧ ((mI S2 81 2)).toInt = zVal (mI S 65) (mI S 64 1).toInt 0 1 ∧ (mI S2 81 3) = 0 ∧ (mI S2 81 4) = 0) ∨ (qPo (mI S 65) (mI S 64 1).toInt = 3 ∧ r₉ 64 11 = some 82 ∧ xB S2 (mR S2 70) ∧ aS 88 S2 = aFg (aS 88 S) ∧ ((mI S2 82 2)).toInt = zVal (mI S 65) (mI S 64 1).toInt 0 1 ∧ ((mI S2 82 3)).toInt = zVal (mI S 65) (mI S 64 1).toInt 0 2 ∧ ((mI S2 82 4)).toInt = zVal (mI S 65) (mI S 64 1).toInt 1 3 ∧ ((mI S2 82 5)).toInt = zVal (mI S 65) (mI S 64 1).toInt 2 4 ∧ (mI S2 82 6) = 0 ∧ ((mI S2 82 7)).toInt = zVal (mI S 65) (mI S 64 1).toInt 0 2 ∧ ((mI S2 82 8)).toInt = zVal (mI S 65) (mI S 64 1).toInt 0 2 ∧ ∀ k : Nat, k < 375 → (mI S2 83) k = 0) ∨ (qPo (mI S 65) (mI S 64 1).toInt = 6 ∧ r₉ 64 11 = some 91 ∧ xB S2 (mR S2 70) ∧ aS 88 S2 = aFg (aS 88 S) ∧ ((mI S2 91 2)).toInt = zV4 (mI S 65) (mI S 64 1).toInt ∧ ((mI S2 91 3)).toInt = zVal (mI S 65) (mI S 64 1).toInt 0 1 / zV4 (mI S 65) (mI S 64 1).toInt ∧ ((mI S2 91 4)).toInt = zVal (mI S 65) (mI S 64 1).toInt 5 3 ∧ (mI S2 91 5) = 0 ∧ ∀ k : Nat, k < 93 → (mI S2 92) k = 0))))
    (hoq : ((zAns (mI S2 95) (mI S2 94 3).toInt) < 0 ∧ (m₉ 98) = (mI S2 98) ∧ (m₉ 99) = (mI S2 99) ∧ (m₉ 100) = (mI S2 100) ∧ (m₉ 101) = (mI S2 101) ∧ (m₉ 102) = (mI S2 102) ∧ (m₉ 103) = (mI S2 103) ∧ (m₉ 104) = (mI S2 104) ∧ (m₉ 105) = (mI S2 105) ∧ (m₉ 106) = (mI S2 106) ∧ (m₉ 107) = (mI S2 107) ∧ (m₉ 108) = (mI S2 108) ∧ (m₉ 109) = (mI S2 109) ∧ (m₉ 110) = (mI S2 110) ∧ (m₉ 111) = (mI S2 111) ∧ (m₉ 112) = (mI S2 112) ∧ (m₉ 113) = (mI S2 113) ∧ (m₉ 114) = (mI S2 114) ∧ (m₉ 115) = (mI S2 115) ∧ (m₉ 116) = (mI S2 116) ∧ (m₉ 117) = (mI S2 117) ∧ (m₉ 94 8) = (mI S2 94 8) ∧ (m₉ 94 9) = (mI S2 94 9) ∧ (m₉ 94 10) = (mI S2 94 10) ∧ (m₉ 94 11) = (mI S2 94 11) ∧ (m₉ 94 12) = (mI S2 94 12) ∧ (m₉ 94 13) = (mI S2 94 13) ∧ (m₉ 94 14) = (mI S2 94 14) ∧ (m₉ 94 15) = (mI S2 94 15) ∧ (m₉ 94 16) = (mI S2 94 16) ∧ (m₉ 94 17) = (mI S2 94 17) ∧ (m₉ 94 18) = (mI S2 94 18) ∧ (m₉ 94 19) = (mI S2 94 19) ∧ (m₉ 94 45) = (mI S2 94 45) ∧ (m₉ 94 46) = (mI S2 94 46) ∧ (m₉ 94 55) = (mI S2 94 55) ∧ (m₉ 94 56) = (mI S2 94 56) ∧ (m₉ 94 57) = (mI S2 94 57) ∧ (m₉ 94 58) = (mI S2 94 58) ∧ (m₉ 94 59) = (mI S2 94 59) ∧ (m₉ 94 60) = (mI S2 94 60) ∧ (m₉ 94 61) = (mI S2 94 61) ∧ (m₉ 94 62) = (mI S2 94 62) ∧ (m₉ 94 63) = (mI S2 94 63) ∧ (m₉ 94 64) = (mI S2 94 64)) ∨ (0 ≤ (zAns (mI S2 95) (mI S2 94 3).toInt) ∧ (m₉ 94 10).toInt = qPo (mI S2 95) (mI S2 94 3).toInt ∧ (m₉ 94 8).toInt = 1 ∧ ((m₉ 94 10).toInt = 5 → qV (mI S2 95) (mI S2 94 3).toInt (m₉ 94 11).toInt (m₉ 94 12).toInt (m₉ 94 17).toInt (m₉ 94 9)) ∧ (((m₉ 94 10).toInt = 0 ∨ (m₉ 94 10).toInt = 4) → ((m₉ 94 11).toInt = zVal (mI S2 95) (mI S2 94 3).toInt 0 1 ∧ (m₉ 94 12).toInt = zVal (mI S2 95) (mI S2 94 3).toInt 6 2)) ∧ ((∀ s : Nat, s < 3100 → (m₉ 99) s = 0) ∧ (∀ s : Nat, (s : Int) < 16 → ((m₉ 112) s).toInt < 0) ∧ (∀ s : Nat, (s : Int) < 16 → ((m₉ 113) s).toInt < 0) ∧ (m₉ 94 45).toInt = 0 ∧ (m₉ 94 46).toInt = 0 ∧ (m₉ 94 55).toInt = 0 ∧ (m₉ 94 58).toInt = 0 ∧ (m₉ 94 62).toInt = 0) ∧ (qT1 (m₉ 94 10).toInt (m₉ 94 11).toInt (mI S2 95) (mI S2 94 3).toInt ∧ qT3 (m₉ 94 10).toInt (m₉ 94 13).toInt (m₉ 94 14).toInt (m₉ 94 15).toInt (m₉ 94 16).toInt (mI S2 95) (mI S2 94 3).toInt ∧ qT6 (m₉ 94 10).toInt (m₉ 94 11).toInt (m₉ 94 18).toInt (m₉ 94 19).toInt (mI S2 95) (mI S2 94 3).toInt) ∧ ((m₉ 94 60).toInt = 0 ∧ (m₉ 94 61).toInt = 0 ∧ (m₉ 94 63).toInt = 0 ∧ (((m₉ 94 10).toInt = 3 ∧ (m₉ 94 59).toInt = (m₉ 94 14).toInt) ∨ ((m₉ 94 10).toInt ≠ 3 ∧ (m₉ 94 59).toInt = 0))) ∧ ((m₉ 94 10).toInt = 6 → (m₉ 94 64) = (m₉ 94 11) / (m₉ 94 18)) ∧ (∀ s : Nat, s < 4600 → ((m₉ 111) s).toInt < 0) ∧ (∀ s : Nat, s < 128 → (m₉ 116) s = 0) ∧ (∀ s : Nat, s < 512 → (m₉ 117) s = 0))) : zWq (zst S2 m₉) := fun w => by
  have e3 : mI S2 94 3 = mI S 64 1 := (hc.2.1 94 3 (by decide) (by decide)).trans H.2.2.1.symm
  have e95 : mI S2 95 = mI S 95 := funext (fun k => hc.2.1 95 k (by decide) (by decide))
  have b := rs_94_3 H.2.1.1
  rw [← H.2.2.1] at b
  have tp : ∀ k : Nat, (k : Int) < (mI S 64 1).toInt → mI S 95 k = mI S 65 k := fun k hk => by
    rw [H.2.2.1] at hk
    exact (H.2.2.2.2.2.2.1 k hk).1.symm
  rw [e3, e95, zAns_cg tp b.1 b.2, qPo_cg tp b.1 b.2] at hoq
  have m1 : mI (zst S2 m₉) = m₉ := rfl
  rw [m1, aS_zst hc.1.1 ho]
  rcases hoc with ⟨h1, h2, h3⟩ | ⟨h1, h2⟩
  · rcases hoq with ⟨_, hf⟩ | ⟨g1, _⟩
    · have kp := fm_kp h3 H.1.1
      obtain ⟨r98, r99, r100, r101, r102, r103, r104, r105, r106, r107, r108, r109, r110, r111, r112, r113, r114, r115, r116, r117, f8, f9, f10, f11, f12, f13, f14, f15, f16, f17, f18, f19, f45, f46, f55, f56, f57, f58, f59, f60, f61, f62, f63, f64⟩ := hf
      rw [kp.1, r99, r100, r108]
      refine wr_tr (HW ?_) hc.2.1
      rw [← h2, ← hp]
      exact w
    · omega
  · rcases hoq with ⟨g1, _⟩ | ⟨_, g2, g3, g5, gz, ge, gm, gt, gr, go, g116, g117⟩
    · omega
    · intro s hs hu
      exact absurd (ge.1 s hs) hu
theorem wl_pu {x0 x1 x2 : Int32} (H : zLw C0 Z0 T S) (HW : zWq S) (hL : zLw C0 Z0 (T + 1) (zst S2 m₉)) (hc : zCl S S2) (hpr : mR S2 64 11 = mR S 64 11) (ho : ∀ c k, c < 94 ∨ 124 < c → m₉ c k = mI S2 c k) (h87 : mR S 64 11 = some 87 → xB S2 (mR S2 70) ∧ aS 88 S2 = xPu (aS 88 S) x0 x1 x2) (h79 : mR S 64 11 = some 79 → xB S2 (mR S2 70) ∧ aS 88 S2 = xPu (aS 88 S) x0 x1 x2 ∧ zfP 79 (mI S2) = zfP 79 (mI S)) (h84 : mR S 64 11 = some 84 → xB S2 (mR S2 70) ∧ aS 88 S2 = xPu (aS 88 S) x0 x1 x2 ∧ zfP 84 (mI S2) = zfP 84 (mI S) ∧ cC (aS 88 S2) [] (kC S2) (T : Int)) (h80 : mR S 64 11 = some 80 → xB S2 (mR S2 70) ∧ zOf (xPu (aL S) x0 x1 x2) (aL S2)) (h81 : mR S 64 11 = some 81 → xB S2 (mR S2 70) ∧ zOf (xPu (aH S) x0 x1 x2) (aH S2)) (h82 : mR S 64 11 = some 82 → xB S2 (mR S2 70) ∧ zOf (xPu (aG S) x0 x1 x2) (aG S2)) (h91 : mR S 64 11 = some 91 → xB S2 (mR S2 70) ∧ zOf (zX93 (xPu (aZ S) x0 x1 x2) (mI S2 93)) (aZ S2)) (U : mR S 64 11 ≠ none → zWr (m₉ 99) (m₉ 100) (m₉ 108) (xPu (aS 88 S) x0 x1 x2)) : zWq (zst S2 m₉) := fun w => by
  have w0 : mR S 64 11 ≠ none := by rw [← hpr]; exact w
  have u := U w0
  have m1 : mI (zst S2 m₉) = m₉ := rfl
  rw [m1, aS_zst hc.1.1 ho]
  rcases lw_cl H w0 with e | e | e | e | e | e | e
  · rw [(h87 e).2]
    exact u
  · rw [(h79 e).2.1]
    exact u
  · rw [(h84 e).2.1]
    exact u
  · exact Wr_sa (Sa_o6 M_88) (Wr_sa (Sa_of (h80 e).2) (Wr_sa (Sa_sy (Sa_pu M_88)) u))
  · exact Wr_sa (Sa_o6 M_88) (Wr_sa (Sa_of (h81 e).2) (Wr_sa (Sa_sy (Sa_pu M_88)) u))
  · exact Wr_sa (Sa_o6 G_88) (Wr_sa (Sa_of (h82 e).2) (Wr_sa (Sa_sy (Sa_pu G_88)) u))
  · exact Wr_sa (Sa_o6 Z_88) (Wr_sa (Sa_tr Sa_93 (Sa_of (h91 e).2)) (Wr_sa (Sa_sy (Sa_pu Z_88)) u))
theorem pw_4 {x0 x1 : Int32} (H : zLw C0 Z0 T S) (ht : T + 1 ≤ 512) (h87 : mR S 64 11 = some 87 → xB S2 (mR S2 70) ∧ aS 88 S2 = qIf (0 ≤ x0.toInt ∧ x0.toInt < (mI S 64 7).toInt ∧ zSl x1) (aMk (aS 88 S) x0 (mI S 67 x0.toNatClampNeg) (mI S 68 x0.toNatClampNeg).toInt64 x1) (aS 88 S)) (h79 : mR S 64 11 = some 79 → xB S2 (mR S2 70) ∧ aT 79 S2 = qIf (0 ≤ x0.toInt ∧ x0.toInt < (mI S 64 7).toInt ∧ zSl x1) (sMk (aT 79 S) x0 (mI S 67 x0.toNatClampNeg) (mI S 68 x0.toNatClampNeg).toInt64 x1) (aT 79 S)) (h84 : mR S 64 11 = some 84 → xB S2 (mR S2 70) ∧ aT 84 S2 = qIf (0 ≤ x0.toInt ∧ x0.toInt < (mI S 64 7).toInt ∧ zSl x1) (kMk (aT 84 S) x0 (mI S 67 x0.toNatClampNeg) (mI S 68 x0.toNatClampNeg).toInt64 x1) (aT 84 S) ∧ cC (aT 84 S2) [] (kC S2) (T : Int)) (h80 : mR S 64 11 = some 80 → xB S2 (mR S2 70) ∧ zOf (qIf (0 ≤ x0.toInt ∧ x0.toInt < (mI S 64 7).toInt ∧ zSl x1) (lMk (aL S) x0 (mI S 67 x0.toNatClampNeg) (mI S 68 x0.toNatClampNeg).toInt64 x1) (aL S)) (aL S2)) (h81 : mR S 64 11 = some 81 → xB S2 (mR S2 70) ∧ zOf (qIf (0 ≤ x0.toInt ∧ x0.toInt < (mI S 64 7).toInt ∧ zSl x1) (hMk (aH S) x0 (mI S 67 x0.toNatClampNeg) (mI S 68 x0.toNatClampNeg).toInt64 x1) (aH S)) (aH S2)) (h82 : mR S 64 11 = some 82 → xB S2 (mR S2 70) ∧ zOf (qIf (0 ≤ x0.toInt ∧ x0.toInt < (mI S 64 7).toInt ∧ zSl x1) (yMk (aG S) x0 (mI S 67 x0.toNatClampNeg) (mI S 68 x0.toNatClampNeg).toInt64 x1) (aG S)) (aG S2)) (h91 : mR S 64 11 = some 91 → xB S2 (mR S2 70) ∧ zOf (qIf (0 ≤ x0.toInt ∧ x0.toInt < (mI S 64 7).toInt ∧ zSl x1) (rMk (aZ S) x0 (mI S 67 x0.toNatClampNeg) (mI S 68 x0.toNatClampNeg).toInt64 x1) (aZ S)) (aZ S2)) (hq : cQI (aS 88 S2)) (w : mR S 64 11 ≠ none) : zPn (aS 88 S) (aS 88 S2) := by
  have cq := lw_cq H w
  rcases lw_cl H w with e | e | e | e | e | e | e
  · have q6 := lw_n6 H w
    have g := (h87 e).2
    rw [g] at hq ⊢
    have kq := hq
    refine Pn_if (fun c => ?_)
    rw [qIf_y c] at kq
    have kb := k67_b H.1.1 c.1 c.2.1
    exact Pn_am cq q6 kq kb.1 kb.2
  · have q6 := lw_n6 H w
    rw [← T_88 (P := 79) 69 6 (by decide) (by decide) (by decide) (by decide)] at q6
    have g := (h79 e).2
    have hq2 : cQI (aT 79 S2) := cQ_sa (Sa_sy (Sa_o8 T_88)) hq
    have cq2 : cQI (aT 79 S) := cQ_sa (Sa_sy (Sa_o8 T_88)) cq
    refine pn_T (P := 79) ?_
    rw [g] at hq2 ⊢
    have kq := hq2
    refine Pn_if (fun c => ?_)
    rw [qIf_y c] at kq
    have kb := k67_b H.1.1 c.1 c.2.1
    exact Pn_sm cq2 q6 kq kb.1 kb.2
  · have g := (h84 e).2.1
    have hv := lw_cc H e
    refine pn_T (P := 84) ?_
    rw [g]
    refine Pn_if (fun c => ?_)
    have kb := k67_b H.1.1 c.1 c.2.1
    exact Pn_km hv.2 (V_0 hv.1) (Int.natCast_nonneg T) kb.1 kb.2 c.2.2.1 c.2.2.2
  · have iv := ((lw_iv H).1 e)
    have g := (h80 e).2
    have ks := cQ_sa (Sa_sy (Sa_of g)) (cQ_sa (Sa_sy (Sa_o6 M_88)) hq)
    refine pn_M (a := aL S) (a2 := aL S2) M_88 M_88 g ?_
    have kq := ks
    refine Pn_if (fun c => ?_)
    rw [qIf_y c] at kq
    have kb := k67_b H.1.1 c.1 c.2.1
    exact Pn_lm iv kq kb.1 kb.2
  · have iv := ((lw_iv H).2.1 e)
    have g := (h81 e).2
    have ks := cQ_sa (Sa_sy (Sa_of g)) (cQ_sa (Sa_sy (Sa_o6 M_88)) hq)
    refine pn_M (a := aH S) (a2 := aH S2) M_88 M_88 g ?_
    have kq := ks
    refine Pn_if (fun c => ?_)
    rw [qIf_y c] at kq
    have kb := k67_b H.1.1 c.1 c.2.1
    exact Pn_hm iv kq kb.1 kb.2
  · have iv := ((lw_iv H).2.2.1 e)
    have g := (h82 e).2
    have ks := cQ_sa (Sa_sy (Sa_of g)) (cQ_sa (Sa_sy (Sa_o6 G_88)) hq)
    refine pn_M (a := aG S) (a2 := aG S2) G_88 G_88 g ?_
    have kq := ks
    refine Pn_if (fun c => ?_)
    rw [qIf_y c] at kq
    have kb := k67_b H.1.1 c.1 c.2.1
    exact Pn_ym iv kq kb.1 kb.2
  · have iv := ((lw_iv H).2.2.2 e)
    have g := (h91 e).2
    have ks := cQ_sa (Sa_sy (Sa_of g)) (cQ_sa (Sa_sy (Sa_o6 Z_88)) hq)
    refine pn_M (a := aZ S) (a2 := aZ S2) Z_88 Z_88 g ?_
    have kq := ks
    refine Pn_if (fun c => ?_)
    rw [qIf_y c] at kq
    have kb := k67_b H.1.1 c.1 c.2.1
    exact Pn_rm iv kq kb.1 kb.2
theorem pw_5 {x0 x1 x2 : Int32} (H : zLw C0 Z0 T S) (ht : T + 1 ≤ 512) (h87 : mR S 64 11 = some 87 → xB S2 (mR S2 70) ∧ aS 88 S2 = qIf (0 ≤ x1.toInt ∧ x1.toInt ≤ 60 ∧ zSl x2) (if x0 = 0 then aMk (aS 88 S) 17 x1 0 x2 else aMk (aS 88 S) 16 x1 (-1) x2) (aS 88 S)) (h79 : mR S 64 11 = some 79 → xB S2 (mR S2 70) ∧ aT 79 S2 = qIf (0 ≤ x1.toInt ∧ x1.toInt ≤ 60 ∧ zSl x2) (if x0 = 0 then sMk (aT 79 S) 17 x1 0 x2 else sMk (aT 79 S) 16 x1 (-1) x2) (aT 79 S)) (h84 : mR S 64 11 = some 84 → xB S2 (mR S2 70) ∧ aT 84 S2 = qIf (0 ≤ x1.toInt ∧ x1.toInt ≤ 60 ∧ zSl x2) (if x0 = 0 then kMk (aT 84 S) 17 x1 0 x2 else kMk (aT 84 S) 16 x1 (-1) x2) (aT 84 S) ∧ cC (aT 84 S2) [] (kC S2) (T : Int)) (h80 : mR S 64 11 = some 80 → xB S2 (mR S2 70) ∧ zOf (qIf (0 ≤ x1.toInt ∧ x1.toInt ≤ 60 ∧ zSl x2) (if x0 = 0 then lMk (aL S) 17 x1 0 x2 else lMk (aL S) 16 x1 (-1) x2) (aL S)) (aL S2)) (h81 : mR S 64 11 = some 81 → xB S2 (mR S2 70) ∧ zOf (qIf (0 ≤ x1.toInt ∧ x1.toInt ≤ 60 ∧ zSl x2) (if x0 = 0 then hMk (aH S) 17 x1 0 x2 else hMk (aH S) 16 x1 (-1) x2) (aH S)) (aH S2)) (h82 : mR S 64 11 = some 82 → xB S2 (mR S2 70) ∧ zOf (qIf (0 ≤ x1.toInt ∧ x1.toInt ≤ 60 ∧ zSl x2) (if x0 = 0 then yMk (aG S) 17 x1 0 x2 else yMk (aG S) 16 x1 (-1) x2) (aG S)) (aG S2)) (h91 : mR S 64 11 = some 91 → xB S2 (mR S2 70) ∧ zOf (qIf (0 ≤ x1.toInt ∧ x1.toInt ≤ 60 ∧ zSl x2) (if x0 = 0 then rMk (aZ S) 17 x1 0 x2 else rMk (aZ S) 16 x1 (-1) x2) (aZ S)) (aZ S2)) (hq : cQI (aS 88 S2)) (w : mR S 64 11 ≠ none) : zPn (aS 88 S) (aS 88 S2) := by
  have cq := lw_cq H w
  rcases lw_cl H w with e | e | e | e | e | e | e
  · have q6 := lw_n6 H w
    have g := (h87 e).2
    rw [g] at hq ⊢
    have kq := hq
    refine Pn_if (fun c => ?_)
    rw [qIf_y c] at kq
    by_cases z : x0 = 0
    · rw [if_pos z] at kq ⊢
      exact Pn_am cq q6 kq c.1 c.2.1
    · rw [if_neg z] at kq ⊢
      exact Pn_am cq q6 kq c.1 c.2.1
  · have q6 := lw_n6 H w
    rw [← T_88 (P := 79) 69 6 (by decide) (by decide) (by decide) (by decide)] at q6
    have g := (h79 e).2
    have hq2 : cQI (aT 79 S2) := cQ_sa (Sa_sy (Sa_o8 T_88)) hq
    have cq2 : cQI (aT 79 S) := cQ_sa (Sa_sy (Sa_o8 T_88)) cq
    refine pn_T (P := 79) ?_
    rw [g] at hq2 ⊢
    have kq := hq2
    refine Pn_if (fun c => ?_)
    rw [qIf_y c] at kq
    by_cases z : x0 = 0
    · rw [if_pos z] at kq ⊢
      exact Pn_sm cq2 q6 kq c.1 c.2.1
    · rw [if_neg z] at kq ⊢
      exact Pn_sm cq2 q6 kq c.1 c.2.1
  · have g := (h84 e).2.1
    have hv := lw_cc H e
    refine pn_T (P := 84) ?_
    rw [g]
    refine Pn_if (fun c => ?_)
    split
    · exact Pn_km hv.2 (V_0 hv.1) (Int.natCast_nonneg T) c.1 c.2.1 c.2.2.1 c.2.2.2
    · exact Pn_km hv.2 (V_0 hv.1) (Int.natCast_nonneg T) c.1 c.2.1 c.2.2.1 c.2.2.2
  · have iv := ((lw_iv H).1 e)
    have g := (h80 e).2
    have ks := cQ_sa (Sa_sy (Sa_of g)) (cQ_sa (Sa_sy (Sa_o6 M_88)) hq)
    refine pn_M (a := aL S) (a2 := aL S2) M_88 M_88 g ?_
    have kq := ks
    refine Pn_if (fun c => ?_)
    rw [qIf_y c] at kq
    by_cases z : x0 = 0
    · rw [if_pos z] at kq ⊢
      exact Pn_lm iv kq c.1 c.2.1
    · rw [if_neg z] at kq ⊢
      exact Pn_lm iv kq c.1 c.2.1
  · have iv := ((lw_iv H).2.1 e)
    have g := (h81 e).2
    have ks := cQ_sa (Sa_sy (Sa_of g)) (cQ_sa (Sa_sy (Sa_o6 M_88)) hq)
    refine pn_M (a := aH S) (a2 := aH S2) M_88 M_88 g ?_
    have kq := ks
    refine Pn_if (fun c => ?_)
    rw [qIf_y c] at kq
    by_cases z : x0 = 0
    · rw [if_pos z] at kq ⊢
      exact Pn_hm iv kq c.1 c.2.1
    · rw [if_neg z] at kq ⊢
      exact Pn_hm iv kq c.1 c.2.1
  · have iv := ((lw_iv H).2.2.1 e)
    have g := (h82 e).2
    have ks := cQ_sa (Sa_sy (Sa_of g)) (cQ_sa (Sa_sy (Sa_o6 G_88)) hq)
    refine pn_M (a := aG S) (a2 := aG S2) G_88 G_88 g ?_
    have kq := ks
    refine Pn_if (fun c => ?_)
    rw [qIf_y c] at kq
    by_cases z : x0 = 0
    · rw [if_pos z] at kq ⊢
      exact Pn_ym iv kq c.1 c.2.1
    · rw [if_neg z] at kq ⊢
      exact Pn_ym iv kq c.1 c.2.1
  · have iv := ((lw_iv H).2.2.2 e)
    have g := (h91 e).2
    have ks := cQ_sa (Sa_sy (Sa_of g)) (cQ_sa (Sa_sy (Sa_o6 Z_88)) hq)
    refine pn_M (a := aZ S) (a2 := aZ S2) Z_88 Z_88 g ?_
    have kq := ks
    refine Pn_if (fun c => ?_)
    rw [qIf_y c] at kq
    by_cases z : x0 = 0
    · rw [if_pos z] at kq ⊢
      exact Pn_rm iv kq c.1 c.2.1
    · rw [if_neg z] at kq ⊢
      exact Pn_rm iv kq c.1 c.2.1
theorem pw_7 {x0 x1 x2 : Int32} (H : zLw C0 Z0 T S) (ht : T + 1 ≤ 512) (h87 : mR S 64 11 = some 87 → xB S2 (mR S2 70) ∧ aS 88 S2 = xLi (aS 88 S) x0 x1 x2) (h79 : mR S 64 11 = some 79 → xB S2 (mR S2 70) ∧ aS 88 S2 = oLi (aS 88 S) x0 x1 x2 ∧ zfP 79 (mI S2) = zfP 79 (mI S)) (h84 : mR S 64 11 = some 84 → xB S2 (mR S2 70) ∧ aS 88 S2 = kLi (aS 88 S) x0 x1 x2 ∧ zfP 84 (mI S2) = zfP 84 (mI S) ∧ cC (aS 88 S2) [] (kC S2) (T : Int)) (h80 : mR S 64 11 = some 80 → xB S2 (mR S2 70) ∧ zOf (oLi (aL S) x0 x1 x2) (aL S2)) (h81 : mR S 64 11 = some 81 → xB S2 (mR S2 70) ∧ zOf (oLi (aH S) x0 x1 x2) (aH S2)) (h82 : mR S 64 11 = some 82 → xB S2 (mR S2 70) ∧ zOf (yLi (aG S) x0 x1 x2) (aG S2)) (h91 : mR S 64 11 = some 91 → xB S2 (mR S2 70) ∧ zOf (zX93 (oLi (aZ S) x0 x1 x2) (mI S2 93)) (aZ S2)) (hq : cQI (aS 88 S2)) (w : mR S 64 11 ≠ none) : zPn (aS 88 S) (aS 88 S2) := by
  have cq := lw_cq H w
  rcases lw_cl H w with e | e | e | e | e | e | e
  · rw [(h87 e).2]
    exact Pn_of (Pw_xli cq)
  · rw [(h79 e).2.1]
    exact Pn_of (Pw_oli cq)
  · have cv := V_0 (C_o8 T_88 (lw_cc H e).1)
    rw [(h84 e).2.1]
    exact Pn_of (Pw_kli cv)
  · have co : cQI (aL S) := cQ_sa (Sa_sy (Sa_o6 M_88)) cq
    exact pn_M (a := aL S) (a2 := aL S2) M_88 M_88 (h80 e).2 (Pn_of (Pw_oli co))
  · have co : cQI (aH S) := cQ_sa (Sa_sy (Sa_o6 M_88)) cq
    exact pn_M (a := aH S) (a2 := aH S2) M_88 M_88 (h81 e).2 (Pn_of (Pw_oli co))
  · have co : cQI (aG S) := cQ_sa (Sa_sy (Sa_o6 G_88)) cq
    exact pn_M (a := aG S) (a2 := aG S2) G_88 G_88 (h82 e).2 (Pn_of (Pw_yli co))
  · have co : cQI (aZ S) := cQ_sa (Sa_sy (Sa_o6 Z_88)) cq
    exact pn_M (a := aZ S) (a2 := aZ S2) Z_88 Z_88 (h91 e).2 (Pn_r (Pn_of (Pw_oli co)) (Pw_sa Sa_93))
theorem pw_8 (H : zLw C0 Z0 T S) (ht : T + 1 ≤ 512) (h87 : mR S 64 11 = some 87 → xB S2 (mR S2 70) ∧ aS 88 S2 = aS 88 S) (h79 : mR S 64 11 = some 79 → xB S2 (mR S2 70) ∧ aS 88 S2 = aS 88 S ∧ zfP 79 (mI S2) = zfP 79 (mI S)) (h84 : mR S 64 11 = some 84 → xB S2 (mR S2 70) ∧ aS 88 S2 = aS 88 S ∧ zfP 84 (mI S2) = zfP 84 (mI S) ∧ cC (aS 88 S2) [] (kC S2) (T : Int)) (h80 : mR S 64 11 = some 80 → xB S2 (mR S2 70) ∧ zOf (aL S) (aL S2)) (h81 : mR S 64 11 = some 81 → xB S2 (mR S2 70) ∧ zOf (aH S) (aH S2)) (h82 : mR S 64 11 = some 82 → xB S2 (mR S2 70) ∧ zOf (aG S) (aG S2)) (h91 : mR S 64 11 = some 91 → xB S2 (mR S2 70) ∧ zOf (zX93 (aZ S) (mI S2 93)) (aZ S2)) (hq : cQI (aS 88 S2)) (w : mR S 64 11 ≠ none) : zPn (aS 88 S) (aS 88 S2) := by
  have cq := lw_cq H w
  rcases lw_cl H w with e | e | e | e | e | e | e
  · rw [(h87 e).2]
    exact Pn_of Pw_rfl
  · rw [(h79 e).2.1]
    exact Pn_of Pw_rfl
  · have cv := V_0 (C_o8 T_88 (lw_cc H e).1)
    rw [(h84 e).2.1]
    exact Pn_of Pw_rfl
  · have co : cQI (aL S) := cQ_sa (Sa_sy (Sa_o6 M_88)) cq
    exact pn_M (a := aL S) (a2 := aL S2) M_88 M_88 (h80 e).2 (Pn_of Pw_rfl)
  · have co : cQI (aH S) := cQ_sa (Sa_sy (Sa_o6 M_88)) cq
    exact pn_M (a := aH S) (a2 := aH S2) M_88 M_88 (h81 e).2 (Pn_of Pw_rfl)
  · have co : cQI (aG S) := cQ_sa (Sa_sy (Sa_o6 G_88)) cq
    exact pn_M (a := aG S) (a2 := aG S2) G_88 G_88 (h82 e).2 (Pn_of Pw_rfl)
  · have co : cQI (aZ S) := cQ_sa (Sa_sy (Sa_o6 Z_88)) cq
    exact pn_M (a := aZ S) (a2 := aZ S2) Z_88 Z_88 (h91 e).2 (Pn_r (Pn_of Pw_rfl) (Pw_sa Sa_93))
theorem pw_9 {x0 x1 : Int32} (H : zLw C0 Z0 T S) (ht : T + 1 ≤ 512) (h87 : mR S 64 11 = some 87 → xB S2 (mR S2 70) ∧ aS 88 S2 = xRo (aS 88 S) x0 x1) (h79 : mR S 64 11 = some 79 → xB S2 (mR S2 70) ∧ aS 88 S2 = oRo (aS 88 S) x0 x1 ∧ zfP 79 (mI S2) = zfP 79 (mI S)) (h84 : mR S 64 11 = some 84 → xB S2 (mR S2 70) ∧ aS 88 S2 = kRo (aS 88 S) x0 x1 ∧ zfP 84 (mI S2) = zfP 84 (mI S) ∧ cC (aS 88 S2) [] (kC S2) (T : Int)) (h80 : mR S 64 11 = some 80 → xB S2 (mR S2 70) ∧ zOf (oRo (aL S) x0 x1) (aL S2)) (h81 : mR S 64 11 = some 81 → xB S2 (mR S2 70) ∧ zOf (oRo (aH S) x0 x1) (aH S2)) (h82 : mR S 64 11 = some 82 → xB S2 (mR S2 70) ∧ zOf (oRo (aG S) x0 x1) (aG S2)) (h91 : mR S 64 11 = some 91 → xB S2 (mR S2 70) ∧ zOf (zX93 (oRo (aZ S) x0 x1) (mI S2 93)) (aZ S2)) (hq : cQI (aS 88 S2)) (w : mR S 64 11 ≠ none) : zPn (aS 88 S) (aS 88 S2) := by
  have cq := lw_cq H w
  rcases lw_cl H w with e | e | e | e | e | e | e
  · rw [(h87 e).2]
    exact Pn_of Pw_xro
  · rw [(h79 e).2.1]
    exact Pn_of Pw_oro
  · have cv := V_0 (C_o8 T_88 (lw_cc H e).1)
    rw [(h84 e).2.1]
    exact Pn_of (Pw_kro cv)
  · have co : cQI (aL S) := cQ_sa (Sa_sy (Sa_o6 M_88)) cq
    exact pn_M (a := aL S) (a2 := aL S2) M_88 M_88 (h80 e).2 (Pn_of Pw_oro)
  · have co : cQI (aH S) := cQ_sa (Sa_sy (Sa_o6 M_88)) cq
    exact pn_M (a := aH S) (a2 := aH S2) M_88 M_88 (h81 e).2 (Pn_of Pw_oro)
  · have co : cQI (aG S) := cQ_sa (Sa_sy (Sa_o6 G_88)) cq
    exact pn_M (a := aG S) (a2 := aG S2) G_88 G_88 (h82 e).2 (Pn_of Pw_oro)
  · have co : cQI (aZ S) := cQ_sa (Sa_sy (Sa_o6 Z_88)) cq
    exact pn_M (a := aZ S) (a2 := aZ S2) Z_88 Z_88 (h91 e).2 (Pn_r (Pn_of Pw_oro) (Pw_sa Sa_93))
theorem pw_10 {x0 x1 : Int32} (H : zLw C0 Z0 T S) (ht : T + 1 ≤ 512) (h87 : mR S 64 11 = some 87 → xB S2 (mR S2 70) ∧ aS 88 S2 = xWe (aS 88 S) x0 x1) (h79 : mR S 64 11 = some 79 → xB S2 (mR S2 70) ∧ aS 88 S2 = xWe (aS 88 S) x0 x1 ∧ zfP 79 (mI S2) = zfP 79 (mI S)) (h84 : mR S 64 11 = some 84 → xB S2 (mR S2 70) ∧ aS 88 S2 = xWe (aS 88 S) x0 x1 ∧ zfP 84 (mI S2) = zfP 84 (mI S) ∧ cC (aS 88 S2) [] (kC S2) (T : Int)) (h80 : mR S 64 11 = some 80 → xB S2 (mR S2 70) ∧ zOf (xWe (aL S) x0 x1) (aL S2)) (h81 : mR S 64 11 = some 81 → xB S2 (mR S2 70) ∧ zOf (xWe (aH S) x0 x1) (aH S2)) (h82 : mR S 64 11 = some 82 → xB S2 (mR S2 70) ∧ zOf (xWe (aG S) x0 x1) (aG S2)) (h91 : mR S 64 11 = some 91 → xB S2 (mR S2 70) ∧ zOf (zX93 (xWe (aZ S) x0 x1) (mI S2 93)) (aZ S2)) (hq : cQI (aS 88 S2)) (w : mR S 64 11 ≠ none) : zPn (aS 88 S) (aS 88 S2) := by
  have cq := lw_cq H w
  rcases lw_cl H w with e | e | e | e | e | e | e
  · rw [(h87 e).2]
    exact Pn_of Pw_we
  · rw [(h79 e).2.1]
    exact Pn_of Pw_we
  · have cv := V_0 (C_o8 T_88 (lw_cc H e).1)
    rw [(h84 e).2.1]
    exact Pn_of Pw_we
  · have co : cQI (aL S) := cQ_sa (Sa_sy (Sa_o6 M_88)) cq
    exact pn_M (a := aL S) (a2 := aL S2) M_88 M_88 (h80 e).2 (Pn_of Pw_we)
  · have co : cQI (aH S) := cQ_sa (Sa_sy (Sa_o6 M_88)) cq
    exact pn_M (a := aH S) (a2 := aH S2) M_88 M_88 (h81 e).2 (Pn_of Pw_we)
  · have co : cQI (aG S) := cQ_sa (Sa_sy (Sa_o6 G_88)) cq
    exact pn_M (a := aG S) (a2 := aG S2) G_88 G_88 (h82 e).2 (Pn_of Pw_we)
  · have co : cQI (aZ S) := cQ_sa (Sa_sy (Sa_o6 Z_88)) cq
    exact pn_M (a := aZ S) (a2 := aZ S2) Z_88 Z_88 (h91 e).2 (Pn_r (Pn_of Pw_we) (Pw_sa Sa_93))
theorem pw_11 {x0 x1 : Int32} (H : zLw C0 Z0 T S) (ht : T + 1 ≤ 512) (h87 : mR S 64 11 = some 87 → xB S2 (mR S2 70) ∧ aS 88 S2 = xSg (aS 88 S) x0 x1) (h79 : mR S 64 11 = some 79 → xB S2 (mR S2 70) ∧ aS 88 S2 = oSg (aS 88 S) x0 x1 ∧ zfP 79 (mI S2) = zfP 79 (mI S)) (h84 : mR S 64 11 = some 84 → xB S2 (mR S2 70) ∧ aS 88 S2 = kSg (aS 88 S) x0 x1 ∧ zfP 84 (mI S2) = zfP 84 (mI S) ∧ cC (aS 88 S2) [] (kC S2) (T : Int)) (h80 : mR S 64 11 = some 80 → xB S2 (mR S2 70) ∧ zOf (oSg (aL S) x0 x1) (aL S2)) (h81 : mR S 64 11 = some 81 → xB S2 (mR S2 70) ∧ zOf (oSg (aH S) x0 x1) (aH S2)) (h82 : mR S 64 11 = some 82 → xB S2 (mR S2 70) ∧ zOf (oSg (aG S) x0 x1) (aG S2)) (h91 : mR S 64 11 = some 91 → xB S2 (mR S2 70) ∧ zOf (zX93 (oSg (aZ S) x0 x1) (mI S2 93)) (aZ S2)) (hq : cQI (aS 88 S2)) (w : mR S 64 11 ≠ none) : zPn (aS 88 S) (aS 88 S2) := by
  have cq := lw_cq H w
  rcases lw_cl H w with e | e | e | e | e | e | e
  · rw [(h87 e).2]
    exact Pn_of Pw_xsg
  · rw [(h79 e).2.1]
    exact Pn_of Pw_osg
  · have cv := V_0 (C_o8 T_88 (lw_cc H e).1)
    rw [(h84 e).2.1]
    exact Pn_of (Pw_ksg cv)
  · have co : cQI (aL S) := cQ_sa (Sa_sy (Sa_o6 M_88)) cq
    exact pn_M (a := aL S) (a2 := aL S2) M_88 M_88 (h80 e).2 (Pn_of Pw_osg)
  · have co : cQI (aH S) := cQ_sa (Sa_sy (Sa_o6 M_88)) cq
    exact pn_M (a := aH S) (a2 := aH S2) M_88 M_88 (h81 e).2 (Pn_of Pw_osg)
  · have co : cQI (aG S) := cQ_sa (Sa_sy (Sa_o6 G_88)) cq
    exact pn_M (a := aG S) (a2 := aG S2) G_88 G_88 (h82 e).2 (Pn_of Pw_osg)
  · have co : cQI (aZ S) := cQ_sa (Sa_sy (Sa_o6 Z_88)) cq
    exact pn_M (a := aZ S) (a2 := aZ S2) Z_88 Z_88 (h91 e).2 (Pn_r (Pn_of Pw_osg) (Pw_sa Sa_93))
theorem pw_12 {x0 x1 : Int32} (H : zLw C0 Z0 T S) (ht : T + 1 ≤ 512) (h87 : mR S 64 11 = some 87 → xB S2 (mR S2 70) ∧ aS 88 S2 = xHo (aS 88 S) x0 x1) (h79 : mR S 64 11 = some 79 → xB S2 (mR S2 70) ∧ aS 88 S2 = xHo (aS 88 S) x0 x1 ∧ zfP 79 (mI S2) = zfP 79 (mI S)) (h84 : mR S 64 11 = some 84 → xB S2 (mR S2 70) ∧ aS 88 S2 = kHo (aS 88 S) x0 x1 ∧ zfP 84 (mI S2) = zfP 84 (mI S) ∧ cC (aS 88 S2) [] (kC S2) ((T : Int) + 1)) (h80 : mR S 64 11 = some 80 → xB S2 (mR S2 70) ∧ zOf (xHo (aL S) x0 x1) (aL S2)) (h81 : mR S 64 11 = some 81 → xB S2 (mR S2 70) ∧ zOf (aH S) (aH S2)) (h82 : mR S 64 11 = some 82 → xB S2 (mR S2 70) ∧ zOf (yHo (aG S) x0 x1) (aG S2)) (h91 : mR S 64 11 = some 91 → xB S2 (mR S2 70) ∧ zOf (zX93 (xHo (aZ S) x0 x1) (mI S2 93)) (aZ S2)) (hq : cQI (aS 88 S2)) (w : mR S 64 11 ≠ none) : zPn (aS 88 S) (aS 88 S2) := by
  have cq := lw_cq H w
  rcases lw_cl H w with e | e | e | e | e | e | e
  · rw [(h87 e).2]
    exact Pn_of Pw_ho
  · rw [(h79 e).2.1]
    exact Pn_of Pw_ho
  · have cv := V_0 (C_o8 T_88 (lw_cc H e).1)
    rw [(h84 e).2.1]
    exact Pn_of (Pw_kho cv (by omega))
  · have co : cQI (aL S) := cQ_sa (Sa_sy (Sa_o6 M_88)) cq
    exact pn_M (a := aL S) (a2 := aL S2) M_88 M_88 (h80 e).2 (Pn_of Pw_ho)
  · have co : cQI (aH S) := cQ_sa (Sa_sy (Sa_o6 M_88)) cq
    exact pn_M (a := aH S) (a2 := aH S2) M_88 M_88 (h81 e).2 (Pn_of Pw_rfl)
  · have co : cQI (aG S) := cQ_sa (Sa_sy (Sa_o6 G_88)) cq
    exact pn_M (a := aG S) (a2 := aG S2) G_88 G_88 (h82 e).2 (Pn_of Pw_yh)
  · have co : cQI (aZ S) := cQ_sa (Sa_sy (Sa_o6 Z_88)) cq
    exact pn_M (a := aZ S) (a2 := aZ S2) Z_88 Z_88 (h91 e).2 (Pn_r (Pn_of Pw_ho) (Pw_sa Sa_93))
theorem pw_13 {x0 : Int32} (H : zLw C0 Z0 T S) (ht : T + 1 ≤ 512) (h87 : mR S 64 11 = some 87 → xB S2 (mR S2 70) ∧ aS 88 S2 = xWi (aS 88 S) x0) (h79 : mR S 64 11 = some 79 → xB S2 (mR S2 70) ∧ aS 88 S2 = xWi (aS 88 S) x0 ∧ zfP 79 (mI S2) = zfP 79 (mI S)) (h84 : mR S 64 11 = some 84 → xB S2 (mR S2 70) ∧ aS 88 S2 = xWi (aS 88 S) x0 ∧ zfP 84 (mI S2) = zfP 84 (mI S) ∧ cC (aS 88 S2) [] (kC S2) (T : Int)) (h80 : mR S 64 11 = some 80 → xB S2 (mR S2 70) ∧ zOf (xWi (aL S) x0) (aL S2)) (h81 : mR S 64 11 = some 81 → xB S2 (mR S2 70) ∧ zOf (xWi (aH S) x0) (aH S2)) (h82 : mR S 64 11 = some 82 → xB S2 (mR S2 70) ∧ zOf (xWi (aG S) x0) (aG S2)) (h91 : mR S 64 11 = some 91 → xB S2 (mR S2 70) ∧ zOf (zX93 (xWi (aZ S) x0) (mI S2 93)) (aZ S2)) (hq : cQI (aS 88 S2)) (w : mR S 64 11 ≠ none) : zPn (aS 88 S) (aS 88 S2) := by
  have cq := lw_cq H w
  rcases lw_cl H w with e | e | e | e | e | e | e
  · rw [(h87 e).2]
    exact Pn_of Pw_wi
  · rw [(h79 e).2.1]
    exact Pn_of Pw_wi
  · have cv := V_0 (C_o8 T_88 (lw_cc H e).1)
    rw [(h84 e).2.1]
    exact Pn_of Pw_wi
  · have co : cQI (aL S) := cQ_sa (Sa_sy (Sa_o6 M_88)) cq
    exact pn_M (a := aL S) (a2 := aL S2) M_88 M_88 (h80 e).2 (Pn_of Pw_wi)
  · have co : cQI (aH S) := cQ_sa (Sa_sy (Sa_o6 M_88)) cq
    exact pn_M (a := aH S) (a2 := aH S2) M_88 M_88 (h81 e).2 (Pn_of Pw_wi)
  · have co : cQI (aG S) := cQ_sa (Sa_sy (Sa_o6 G_88)) cq
    exact pn_M (a := aG S) (a2 := aG S2) G_88 G_88 (h82 e).2 (Pn_of Pw_wi)
  · have co : cQI (aZ S) := cQ_sa (Sa_sy (Sa_o6 Z_88)) cq
    exact pn_M (a := aZ S) (a2 := aZ S2) Z_88 Z_88 (h91 e).2 (Pn_r (Pn_of Pw_wi) (Pw_sa Sa_93))
theorem pw_14 {x0 : Int32} (H : zLw C0 Z0 T S) (ht : T + 1 ≤ 512) (h87 : mR S 64 11 = some 87 → xB S2 (mR S2 70) ∧ aS 88 S2 = xGr (aS 88 S) x0) (h79 : mR S 64 11 = some 79 → xB S2 (mR S2 70) ∧ aS 88 S2 = oGr (aS 88 S) x0 ∧ zfP 79 (mI S2) = zfP 79 (mI S)) (h84 : mR S 64 11 = some 84 → xB S2 (mR S2 70) ∧ aS 88 S2 = kGr (aS 88 S) x0 ∧ zfP 84 (mI S2) = zfP 84 (mI S) ∧ cC (aS 88 S2) [] (kC S2) (T : Int)) (h80 : mR S 64 11 = some 80 → xB S2 (mR S2 70) ∧ zOf (oGr (aL S) x0) (aL S2)) (h81 : mR S 64 11 = some 81 → xB S2 (mR S2 70) ∧ zOf (oGr (aH S) x0) (aH S2)) (h82 : mR S 64 11 = some 82 → xB S2 (mR S2 70) ∧ zOf (oGr (aG S) x0) (aG S2)) (h91 : mR S 64 11 = some 91 → xB S2 (mR S2 70) ∧ zOf (zX93 (oGr (aZ S) x0) (mI S2 93)) (aZ S2)) (hq : cQI (aS 88 S2)) (w : mR S 64 11 ≠ none) : zPn (aS 88 S) (aS 88 S2) := by
  have cq := lw_cq H w
  rcases lw_cl H w with e | e | e | e | e | e | e
  · rw [(h87 e).2]
    exact Pn_of Pw_xgr
  · rw [(h79 e).2.1]
    exact Pn_of Pw_ogr
  · have cv := V_0 (C_o8 T_88 (lw_cc H e).1)
    rw [(h84 e).2.1]
    exact Pn_of (Pw_kgr cv)
  · have co : cQI (aL S) := cQ_sa (Sa_sy (Sa_o6 M_88)) cq
    exact pn_M (a := aL S) (a2 := aL S2) M_88 M_88 (h80 e).2 (Pn_of Pw_ogr)
  · have co : cQI (aH S) := cQ_sa (Sa_sy (Sa_o6 M_88)) cq
    exact pn_M (a := aH S) (a2 := aH S2) M_88 M_88 (h81 e).2 (Pn_of Pw_ogr)
  · have co : cQI (aG S) := cQ_sa (Sa_sy (Sa_o6 G_88)) cq
    exact pn_M (a := aG S) (a2 := aG S2) G_88 G_88 (h82 e).2 (Pn_of Pw_ogr)
  · have co : cQI (aZ S) := cQ_sa (Sa_sy (Sa_o6 Z_88)) cq
    exact pn_M (a := aZ S) (a2 := aZ S2) Z_88 Z_88 (h91 e).2 (Pn_r (Pn_of Pw_ogr) (Pw_sa Sa_93))
theorem pw_15 (H : zLw C0 Z0 T S) (ht : T + 1 ≤ 512) (h87 : mR S 64 11 = some 87 → xB S2 (mR S2 70) ∧ aS 88 S2 = aCl (aS 88 S)) (h79 : mR S 64 11 = some 79 → xB S2 (mR S2 70) ∧ aT 79 S2 = aSw (aT 79 S)) (h84 : mR S 64 11 = some 84 → xB S2 (mR S2 70) ∧ aT 84 S2 = aSw (aT 84 S) ∧ cC (aT 84 S2) [] (kC S2) (T : Int)) (h80 : mR S 64 11 = some 80 → xB S2 (mR S2 70) ∧ zOf (lCl (aL S)) (aL S2)) (h81 : mR S 64 11 = some 81 → xB S2 (mR S2 70) ∧ zOf (hCl (aH S)) (aH S2)) (h82 : mR S 64 11 = some 82 → xB S2 (mR S2 70) ∧ zOf (gMi (gMa (aG S))) (aG S2)) (h91 : mR S 64 11 = some 91 → xB S2 (mR S2 70) ∧ zOf (rCl (aZ S)) (aZ S2)) (hq : cQI (aS 88 S2)) (w : mR S 64 11 ≠ none) : zPn (aS 88 S) (aS 88 S2) := by
  have cq := lw_cq H w
  rcases lw_cl H w with e | e | e | e | e | e | e
  · rw [(h87 e).2]
    exact Pn_of (Pw_cl cq).1
  · have g := (h79 e).2
    refine pn_T (P := 79) ?_
    rw [g]
    exact Pn_of (Pw_sw (cQ_sa (Sa_sy (Sa_o8 T_88)) cq)).1
  · have g := (h84 e).2.1
    refine pn_T (P := 84) ?_
    rw [g]
    exact Pn_of (Pw_sw (cQ_sa (Sa_sy (Sa_o8 T_88)) cq)).1
  · exact pn_M (a := aL S) (a2 := aL S2) M_88 M_88 (h80 e).2 (Pn_of (Pw_lcl ((lw_iv H).1 e)))
  · exact pn_M (a := aH S) (a2 := aH S2) M_88 M_88 (h81 e).2 (Pn_of (Pw_hcl ((lw_iv H).2.1 e)))
  · exact pn_M (a := aG S) (a2 := aG S2) G_88 G_88 (h82 e).2 (Pn_of (Pw_gcl ((lw_iv H).2.2.1 e)))
  · exact pn_M (a := aZ S) (a2 := aZ S2) Z_88 Z_88 (h91 e).2 (Pn_of (Pw_rcl ((lw_iv H).2.2.2 e)))
theorem pw_17 (H : zLw C0 Z0 T S) (ht : T + 1 ≤ 512) (h87 : mR S 64 11 = some 87 → xB S2 (mR S2 70) ∧ aS 88 S2 = aS 88 S) (h79 : mR S 64 11 = some 79 → xB S2 (mR S2 70) ∧ aS 88 S2 = aS 88 S ∧ zfP 79 (mI S2) = zfP 79 (mI S)) (h84 : mR S 64 11 = some 84 → xB S2 (mR S2 70) ∧ aS 88 S2 = aS 88 S ∧ zfP 84 (mI S2) = zfP 84 (mI S) ∧ cC (aS 88 S2) [] (kC S2) (T : Int)) (h80 : mR S 64 11 = some 80 → xB S2 (mR S2 70) ∧ zOf (aL S) (aL S2)) (h81 : mR S 64 11 = some 81 → xB S2 (mR S2 70) ∧ zOf (aH S) (aH S2)) (h82 : mR S 64 11 = some 82 → xB S2 (mR S2 70) ∧ zOf (aG S) (aG S2)) (h91 : mR S 64 11 = some 91 → xB S2 (mR S2 70) ∧ zOf (zX93 (aZ S) (mI S2 93)) (aZ S2)) (hq : cQI (aS 88 S2)) (w : mR S 64 11 ≠ none) : zPn (aS 88 S) (aS 88 S2) := by
  have cq := lw_cq H w
  rcases lw_cl H w with e | e | e | e | e | e | e
  · rw [(h87 e).2]
    exact Pn_of Pw_rfl
  · rw [(h79 e).2.1]
    exact Pn_of Pw_rfl
  · have cv := V_0 (C_o8 T_88 (lw_cc H e).1)
    rw [(h84 e).2.1]
    exact Pn_of Pw_rfl
  · have co : cQI (aL S) := cQ_sa (Sa_sy (Sa_o6 M_88)) cq
    exact pn_M (a := aL S) (a2 := aL S2) M_88 M_88 (h80 e).2 (Pn_of Pw_rfl)
  · have co : cQI (aH S) := cQ_sa (Sa_sy (Sa_o6 M_88)) cq
    exact pn_M (a := aH S) (a2 := aH S2) M_88 M_88 (h81 e).2 (Pn_of Pw_rfl)
  · have co : cQI (aG S) := cQ_sa (Sa_sy (Sa_o6 G_88)) cq
    exact pn_M (a := aG S) (a2 := aG S2) G_88 G_88 (h82 e).2 (Pn_of Pw_rfl)
  · have co : cQI (aZ S) := cQ_sa (Sa_sy (Sa_o6 Z_88)) cq
    exact pn_M (a := aZ S) (a2 := aZ S2) Z_88 Z_88 (h91 e).2 (Pn_r (Pn_of Pw_rfl) (Pw_sa Sa_93))
theorem pw_19 (H : zLw C0 Z0 T S) (ht : T + 1 ≤ 512) (h87 : mR S 64 11 = some 87 → xB S2 (mR S2 70) ∧ aS 88 S2 = aS 88 S) (h79 : mR S 64 11 = some 79 → xB S2 (mR S2 70) ∧ aS 88 S2 = aS 88 S ∧ zfP 79 (mI S2) = zfP 79 (mI S)) (h84 : mR S 64 11 = some 84 → xB S2 (mR S2 70) ∧ aS 88 S2 = aS 88 S ∧ zfP 84 (mI S2) = zfP 84 (mI S) ∧ cC (aS 88 S2) [] (kC S2) (T : Int)) (h80 : mR S 64 11 = some 80 → xB S2 (mR S2 70) ∧ zOf (aL S) (aL S2)) (h81 : mR S 64 11 = some 81 → xB S2 (mR S2 70) ∧ zOf (aH S) (aH S2)) (h82 : mR S 64 11 = some 82 → xB S2 (mR S2 70) ∧ zOf (aG S) (aG S2)) (h91 : mR S 64 11 = some 91 → xB S2 (mR S2 70) ∧ zOf (zX93 (aZ S) (mI S2 93)) (aZ S2)) (hq : cQI (aS 88 S2)) (w : mR S 64 11 ≠ none) : zPn (aS 88 S) (aS 88 S2) := by
  have cq := lw_cq H w
  rcases lw_cl H w with e | e | e | e | e | e | e
  · rw [(h87 e).2]
    exact Pn_of Pw_rfl
  · rw [(h79 e).2.1]
    exact Pn_of Pw_rfl
  · have cv := V_0 (C_o8 T_88 (lw_cc H e).1)
    rw [(h84 e).2.1]
    exact Pn_of Pw_rfl
  · have co : cQI (aL S) := cQ_sa (Sa_sy (Sa_o6 M_88)) cq
    exact pn_M (a := aL S) (a2 := aL S2) M_88 M_88 (h80 e).2 (Pn_of Pw_rfl)
  · have co : cQI (aH S) := cQ_sa (Sa_sy (Sa_o6 M_88)) cq
    exact pn_M (a := aH S) (a2 := aH S2) M_88 M_88 (h81 e).2 (Pn_of Pw_rfl)
  · have co : cQI (aG S) := cQ_sa (Sa_sy (Sa_o6 G_88)) cq
    exact pn_M (a := aG S) (a2 := aG S2) G_88 G_88 (h82 e).2 (Pn_of Pw_rfl)
  · have co : cQI (aZ S) := cQ_sa (Sa_sy (Sa_o6 Z_88)) cq
    exact pn_M (a := aZ S) (a2 := aZ S2) Z_88 Z_88 (h91 e).2 (Pn_r (Pn_of Pw_rfl) (Pw_sa Sa_93))
theorem uw_166 {X : Nat × (Nat → Int32)} {d w : Nat} (xa : Int32) (xb : Int32) (xc : Int32) (xd : Int32) (xe : Int32) (hd : 1 ≤ d) (hw : 22 ≤ w) (H : zLw C0 Z0 T S) (hc : zCl S S2) (ht : T + 1 ≤ 512)  : ma_wp X d w 166 0 [(0, .inr (.inr (some 94))), (1, .inl xa), (2, .inl xb), (3, .inl xc), (4, .inl xd), (5, .inl xe)] [] S2 (zRj S2 (fun _ m₉ => mR S 64 11 ≠ none → zUf (mI S2 94 46) (mI S2 99) (m₉ 99) (mI S2 100) (m₉ 100) (mI S2 108) (m₉ 108) (mI S2 98) (mI S2 101) (m₉ 98) (m₉ 101) (m₉ 102))) := by
  have h2 := ref_tr H.2.1 hc.2.1
  exact sp_166 (P := fun o m₉ => (zRj S2 (fun _ m₉ => mR S 64 11 ≠ none → zUf (mI S2 94 46) (mI S2 99) (m₉ 99) (mI S2 100) (m₉ 100) (mI S2 108) (m₉ 108) (mI S2 98) (mI S2 101) (m₉ 98) (m₉ 101) (m₉ 102))) (.inl o) (zst S2 m₉)) xa xb xc xd xe h2.1 (fun v m₉ hV₉ q0 => Rj_i v (zov wr_166 (mI S2) m₉) (fun _ => Uf_us Us_rfl rfl rfl)) d w S2 _ (by omega) (by omega) hc.1.1.1 rfl (fun _ _ z => z)
theorem uw_169 {X : Nat × (Nat → Int32)} {d w : Nat} (nn : Int32) (hd : 1 ≤ d) (hw : 21 ≤ w) (H : zLw C0 Z0 T S) (hc : zCl S S2) (ht : T + 1 ≤ 512)  : ma_wp X d w 169 0 [(0, .inr (.inr (some 94))), (1, .inl nn)] [] S2 (zRj S2 (fun _ m₉ => mR S 64 11 ≠ none → zUf (mI S2 94 46) (mI S2 99) (m₉ 99) (mI S2 100) (m₉ 100) (mI S2 108) (m₉ 108) (mI S2 98) (mI S2 101) (m₉ 98) (m₉ 101) (m₉ 102))) := by
  have h2 := ref_tr H.2.1 hc.2.1
  exact sp_169 (P := fun o m₉ => (zRj S2 (fun _ m₉ => mR S 64 11 ≠ none → zUf (mI S2 94 46) (mI S2 99) (m₉ 99) (mI S2 100) (m₉ 100) (mI S2 108) (m₉ 108) (mI S2 98) (mI S2 101) (m₉ 98) (m₉ 101) (m₉ 102))) (.inl o) (zst S2 m₉)) nn h2.1 (fun v m₉ hV₉ q0 => Rj_i v (zov wr_169 (mI S2) m₉) (fun _ => Uf_us Us_rfl rfl rfl)) d w S2 _ (by omega) (by omega) hc.1.1.1 rfl (fun _ _ z => z)
theorem uw_170 {X : Nat × (Nat → Int32)} {d w : Nat} (nw : Int32) (rf : Int32) (hd : 1 ≤ d) (hw : 21 ≤ w) (H : zLw C0 Z0 T S) (hc : zCl S S2) (ht : T + 1 ≤ 512)  : ma_wp X d w 170 0 [(0, .inr (.inr (some 94))), (1, .inl nw), (2, .inl rf)] [] S2 (zRj S2 (fun _ m₉ => mR S 64 11 ≠ none → zUf (mI S2 94 46) (mI S2 99) (m₉ 99) (mI S2 100) (m₉ 100) (mI S2 108) (m₉ 108) (mI S2 98) (mI S2 101) (m₉ 98) (m₉ 101) (m₉ 102))) := by
  have h2 := ref_tr H.2.1 hc.2.1
  by_cases e : mR S 64 11 = none
  · have h8 : (mI S2 94 8).toInt = 0 := by
      rw [hc.2.1 94 8 (by decide) (by decide)]
      exact H.2.2.2.2.2.2.2.2.1.1.mp e
    exact sp_170v (P := fun o m₉ => (zRj S2 (fun _ m₉ => mR S 64 11 ≠ none → zUf (mI S2 94 46) (mI S2 99) (m₉ 99) (mI S2 100) (m₉ 100) (mI S2 108) (m₉ 108) (mI S2 98) (mI S2 101) (m₉ 98) (m₉ 101) (m₉ 102))) (.inl o) (zst S2 m₉)) (T := T) nw rf h2.1 h8 h2.2.1 h2.2.2.1 (fun v m₉ hV₉ q0 q1 q2 q3 q4 => Rj_i v (zov wr_170 (mI S2) m₉) (fun w => absurd e w)) d w S2 _ (by omega) (by omega) hc.1.1.1 rfl (fun _ _ z => z)
  · have h8 : (mI S2 94 8).toInt ≠ 0 := by
      rw [hc.2.1 94 8 (by decide) (by decide)]
      exact fun z => e (H.2.2.2.2.2.2.2.2.1.1.mpr z)
    have r := h2.2.2.2.resolve_left h8
    exact sp_170 (P := fun o m₉ => (zRj S2 (fun _ m₉ => mR S 64 11 ≠ none → zUf (mI S2 94 46) (mI S2 99) (m₉ 99) (mI S2 100) (m₉ 100) (mI S2 108) (m₉ 108) (mI S2 98) (mI S2 101) (m₉ 98) (m₉ 101) (m₉ 102))) (.inl o) (zst S2 m₉)) (T := T) nw rf h2.1 h2.2.1 h2.2.2.1 r.1 r.2.1 r.2.2.1 r.2.2.2.1 r.2.2.2.2.1 r.2.2.2.2.2.1 r.2.2.2.2.2.2 (fun v m₉ hV₉ q0 q1 q2 q3 q4 q5 q6 q7 q8 => Rj_i v (zov wr_170 (mI S2) m₉) (fun _ => Uf_us Us_rfl rfl rfl)) d w S2 _ (by omega) (by omega) hc.1.1.1 rfl (fun _ _ z => z)
theorem uw_181 {X : Nat × (Nat → Int32)} {d w : Nat} (kk : Int32) (r1 : Int32) (hd : 10 ≤ d) (hw : 224 ≤ w) (H : zLw C0 Z0 T S) (hc : zCl S S2) (ht : T + 1 ≤ 512)  : ma_wp X d w 181 0 [(0, .inr (.inr (some 94))), (1, .inl kk), (2, .inl r1)] [] S2 (zRj S2 (fun _ m₉ => mR S 64 11 ≠ none → zUf (mI S2 94 46) (mI S2 99) (m₉ 99) (mI S2 100) (m₉ 100) (mI S2 108) (m₉ 108) (mI S2 98) (mI S2 101) (m₉ 98) (m₉ 101) (m₉ 102))) := by
  have h2 := ref_tr H.2.1 hc.2.1
  by_cases e : mR S 64 11 = none
  · have h8 : (mI S2 94 8).toInt = 0 := by
      rw [hc.2.1 94 8 (by decide) (by decide)]
      exact H.2.2.2.2.2.2.2.2.1.1.mp e
    exact sp_181z (P := fun o m₉ => (zRj S2 (fun _ m₉ => mR S 64 11 ≠ none → zUf (mI S2 94 46) (mI S2 99) (m₉ 99) (mI S2 100) (m₉ 100) (mI S2 108) (m₉ 108) (mI S2 98) (mI S2 101) (m₉ 98) (m₉ 101) (m₉ 102))) (.inl o) (zst S2 m₉)) (T := T) kk r1 h2.1 h8 h2.2.1 h2.2.2.1 (fun v m₉ hV₉ q0 q1 q2 => Rj_i v (zov wr_181 (mI S2) m₉) (fun w => absurd e w)) d w S2 _ (by omega) (by omega) hc.1.1.1 rfl (fun _ _ z => z)
  · have h8 : (mI S2 94 8).toInt ≠ 0 := by
      rw [hc.2.1 94 8 (by decide) (by decide)]
      exact fun z => e (H.2.2.2.2.2.2.2.2.1.1.mpr z)
    have r := h2.2.2.2.resolve_left h8
    exact sp_181uw (P := fun o m₉ => (zRj S2 (fun _ m₉ => mR S 64 11 ≠ none → zUf (mI S2 94 46) (mI S2 99) (m₉ 99) (mI S2 100) (m₉ 100) (mI S2 108) (m₉ 108) (mI S2 98) (mI S2 101) (m₉ 98) (m₉ 101) (m₉ 102))) (.inl o) (zst S2 m₉)) (T := T) kk r1 h2.1 (by omega) h2.2.1 h2.2.2.1 r.1 r.2.1 r.2.2.1 r.2.2.2.1 r.2.2.2.2.1 r.2.2.2.2.2.1 r.2.2.2.2.2.2 (fun v m₉ hV₉ q0 q1 q2 q3 q4 q5 q6 q7 q8 q9 => Rj_i v (zov wr_181 (mI S2) m₉) (fun _ => q9)) d w S2 _ (by omega) (by omega) hc.1.1.1 rfl (fun _ _ z => z)
theorem uw_243 {X : Nat × (Nat → Int32)} {d w : Nat} (rf : Int32) (nn : Int32) (r1 : Int32) (hd : 10 ≤ d) (hw : 224 ≤ w) (H : zLw C0 Z0 T S) (hc : zCl S S2) (ht : T + 1 ≤ 512) (hb0 : 0 ≤ rf.toInt) (hb1 : rf.toInt ≤ 1) : ma_wp X d w 243 0 [(0, .inr (.inr (some 94))), (1, .inl rf), (2, .inl nn), (3, .inl r1)] [] S2 (zRj S2 (fun _ m₉ => mR S 64 11 ≠ none → zUf (mI S2 94 46) (mI S2 99) (m₉ 99) (mI S2 100) (m₉ 100) (mI S2 108) (m₉ 108) (mI S2 98) (mI S2 101) (m₉ 98) (m₉ 101) (m₉ 102))) := by
  have h2 := ref_tr H.2.1 hc.2.1
  by_cases e : mR S 64 11 = none
  · have h8 : (mI S2 94 8).toInt = 0 := by
      rw [hc.2.1 94 8 (by decide) (by decide)]
      exact H.2.2.2.2.2.2.2.2.1.1.mp e
    exact sp_243z (P := fun o m₉ => (zRj S2 (fun _ m₉ => mR S 64 11 ≠ none → zUf (mI S2 94 46) (mI S2 99) (m₉ 99) (mI S2 100) (m₉ 100) (mI S2 108) (m₉ 108) (mI S2 98) (mI S2 101) (m₉ 98) (m₉ 101) (m₉ 102))) (.inl o) (zst S2 m₉)) (T := T) rf nn r1 h2.1 h8 h2.2.1 h2.2.2.1 hb0 hb1 (fun v m₉ hV₉ q0 q1 q2 => Rj_i v (zov wr_243 (mI S2) m₉) (fun w => absurd e w)) d w S2 _ (by omega) (by omega) hc.1.1.1 rfl (fun _ _ z => z)
  · have h8 : (mI S2 94 8).toInt ≠ 0 := by
      rw [hc.2.1 94 8 (by decide) (by decide)]
      exact fun z => e (H.2.2.2.2.2.2.2.2.1.1.mpr z)
    have r := h2.2.2.2.resolve_left h8
    exact sp_243uw (P := fun o m₉ => (zRj S2 (fun _ m₉ => mR S 64 11 ≠ none → zUf (mI S2 94 46) (mI S2 99) (m₉ 99) (mI S2 100) (m₉ 100) (mI S2 108) (m₉ 108) (mI S2 98) (mI S2 101) (m₉ 98) (m₉ 101) (m₉ 102))) (.inl o) (zst S2 m₉)) (T := T) rf nn r1 h2.1 (by omega) hb0 hb1 h2.2.1 h2.2.2.1 r.1 r.2.1 r.2.2.1 r.2.2.2.1 r.2.2.2.2.1 r.2.2.2.2.2.1 r.2.2.2.2.2.2 (fun v m₉ hV₉ q0 q1 q2 q3 q4 q5 q6 q7 q8 q9 => Rj_i v (zov wr_243 (mI S2) m₉) (fun _ => q9)) d w S2 _ (by omega) (by omega) hc.1.1.1 rfl (fun _ _ z => z)
theorem uw_244 {X : Nat × (Nat → Int32)} {d w : Nat} (ob : Int32) (ix : Int32) (va : Int32) (hd : 5 ≤ d) (hw : 109 ≤ w) (H : zLw C0 Z0 T S) (HW : zWq S) (hc : zCl S S2) (ht : T + 1 ≤ 512) : ma_wp X d w 244 0 [(0, .inr (.inr (some 94))), (1, .inl ob), (2, .inl ix), (3, .inl va)] [] S2 (zRj S2 (fun y m₉ => (mR S 64 11 ≠ none → zWr (m₉ 99) (m₉ 100) (m₉ 108) (xPu (aS 88 S) ob ix va)))) := by
  have h2 := ref_tr H.2.1 hc.2.1
  by_cases e : mR S 64 11 = none
  · have h8 : (mI S2 94 8).toInt = 0 := by
      rw [hc.2.1 94 8 (by decide) (by decide)]
      exact H.2.2.2.2.2.2.2.2.1.1.mp e
    exact sp_244av (P := fun o m₉ => (zRj S2 (fun y m₉ => (mR S 64 11 ≠ none → zWr (m₉ 99) (m₉ 100) (m₉ 108) (xPu (aS 88 S) ob ix va)))) (.inl o) (zst S2 m₉)) ob ix va h2.1 h8 (fun v m₉ hV₉ q0 => Rj_i v (zov wr_244 (mI S2) m₉) (fun w => absurd e w)) d w S2 _ (by omega) (by omega) hc.1.1.1 rfl (fun _ _ z => z)
  · obtain ⟨bb, ro, fo, le, ra, pi, hR, hI, ho⟩ := lw_aq H e
    have h8 : (mI S2 94 8).toInt ≠ 0 := by
      rw [hc.2.1 94 8 (by decide) (by decide)]
      exact fun z => e (H.2.2.2.2.2.2.2.2.1.1.mpr z)
    have r := h2.2.2.2.resolve_left h8
    exact sp_244an (P := fun o m₉ => (zRj S2 (fun y m₉ => (mR S 64 11 ≠ none → zWr (m₉ 99) (m₉ 100) (m₉ 108) (xPu (aS 88 S) ob ix va)))) (.inl o) (zst S2 m₉)) (T := T) ob ix va h2.1 h8 h2.2.1 h2.2.2.1 r.1 r.2.1 r.2.2.1 r.2.2.2.1 r.2.2.2.2.1 r.2.2.2.2.2.1 r.2.2.2.2.2.2 (rb_tr hR hc.2.1) hI (wr_tr (Wr_sa (Sa_sy (Sa_o6 ho)) (HW e)) hc.2.1) (fun v m₉ hV₉ q0 q1 => Rj_i v (zov wr_244 (mI S2) m₉) (fun _ => Wr_sa (Sa_pu ho) q1)) d w S2 _ (by omega) (by omega) hc.1.1.1 rfl (fun _ _ z => z)
theorem uw_247 {X : Nat × (Nat → Int32)} {d w : Nat} (ob : Int32) (ix : Int32) (oo : Int32) (hd : 5 ≤ d) (hw : 109 ≤ w) (H : zLw C0 Z0 T S) (hc : zCl S S2) (ht : T + 1 ≤ 512)  : ma_wp X d w 247 0 [(0, .inr (.inr (some 94))), (1, .inl ob), (2, .inl ix), (3, .inl oo)] [] S2 (zRj S2 (fun _ m₉ => mR S 64 11 ≠ none → zUf (mI S2 94 46) (mI S2 99) (m₉ 99) (mI S2 100) (m₉ 100) (mI S2 108) (m₉ 108) (mI S2 98) (mI S2 101) (m₉ 98) (m₉ 101) (m₉ 102))) := by
  have h2 := ref_tr H.2.1 hc.2.1
  by_cases e : mR S 64 11 = none
  · have h8 : (mI S2 94 8).toInt = 0 := by
      rw [hc.2.1 94 8 (by decide) (by decide)]
      exact H.2.2.2.2.2.2.2.2.1.1.mp e
    exact sp_247z (P := fun o m₉ => (zRj S2 (fun _ m₉ => mR S 64 11 ≠ none → zUf (mI S2 94 46) (mI S2 99) (m₉ 99) (mI S2 100) (m₉ 100) (mI S2 108) (m₉ 108) (mI S2 98) (mI S2 101) (m₉ 98) (m₉ 101) (m₉ 102))) (.inl o) (zst S2 m₉)) (T := T) ob ix oo h2.1 h8 h2.2.1 h2.2.2.1 (fun v m₉ hV₉ q0 q1 q2 => Rj_i v (zov wr_247 (mI S2) m₉) (fun w => absurd e w)) d w S2 _ (by omega) (by omega) hc.1.1.1 rfl (fun _ _ z => z)
  · have h8 : (mI S2 94 8).toInt ≠ 0 := by
      rw [hc.2.1 94 8 (by decide) (by decide)]
      exact fun z => e (H.2.2.2.2.2.2.2.2.1.1.mpr z)
    have r := h2.2.2.2.resolve_left h8
    exact sp_247uw (P := fun o m₉ => (zRj S2 (fun _ m₉ => mR S 64 11 ≠ none → zUf (mI S2 94 46) (mI S2 99) (m₉ 99) (mI S2 100) (m₉ 100) (mI S2 108) (m₉ 108) (mI S2 98) (mI S2 101) (m₉ 98) (m₉ 101) (m₉ 102))) (.inl o) (zst S2 m₉)) (T := T) ob ix oo h2.1 h2.2.1 h2.2.2.1 r.1 r.2.1 r.2.2.1 r.2.2.2.1 r.2.2.2.2.1 r.2.2.2.2.2.1 r.2.2.2.2.2.2 (fun v m₉ hV₉ q0 q1 q2 q3 q4 q5 q6 q7 q8 q9 q10 => Rj_i v (zov wr_247 (mI S2) m₉) (fun _ => Uf_ul q9 rfl q10)) d w S2 _ (by omega) (by omega) hc.1.1.1 rfl (fun _ _ z => z)
theorem uw_250 {X : Nat × (Nat → Int32)} {d w : Nat} (ix : Int32) (ob : Int32) (hd : 5 ≤ d) (hw : 111 ≤ w) (H : zLw C0 Z0 T S) (hc : zCl S S2) (ht : T + 1 ≤ 512)  : ma_wp X d w 250 0 [(0, .inr (.inr (some 94))), (1, .inl ix), (2, .inl ob)] [] S2 (zRj S2 (fun _ m₉ => mR S 64 11 ≠ none → zUf (mI S2 94 46) (mI S2 99) (m₉ 99) (mI S2 100) (m₉ 100) (mI S2 108) (m₉ 108) (mI S2 98) (mI S2 101) (m₉ 98) (m₉ 101) (m₉ 102))) := by
  have h2 := ref_tr H.2.1 hc.2.1
  by_cases e : mR S 64 11 = none
  · have h8 : (mI S2 94 8).toInt = 0 := by
      rw [hc.2.1 94 8 (by decide) (by decide)]
      exact H.2.2.2.2.2.2.2.2.1.1.mp e
    exact sp_250z (P := fun o m₉ => (zRj S2 (fun _ m₉ => mR S 64 11 ≠ none → zUf (mI S2 94 46) (mI S2 99) (m₉ 99) (mI S2 100) (m₉ 100) (mI S2 108) (m₉ 108) (mI S2 98) (mI S2 101) (m₉ 98) (m₉ 101) (m₉ 102))) (.inl o) (zst S2 m₉)) (T := T) ix ob h2.1 h8 h2.2.1 h2.2.2.1 (fun v m₉ hV₉ q0 q1 q2 => Rj_i v (zov wr_250 (mI S2) m₉) (fun w => absurd e w)) d w S2 _ (by omega) (by omega) hc.1.1.1 rfl (fun _ _ z => z)
  · have h8 : (mI S2 94 8).toInt ≠ 0 := by
      rw [hc.2.1 94 8 (by decide) (by decide)]
      exact fun z => e (H.2.2.2.2.2.2.2.2.1.1.mpr z)
    have r := h2.2.2.2.resolve_left h8
    exact sp_250uw (P := fun o m₉ => (zRj S2 (fun _ m₉ => mR S 64 11 ≠ none → zUf (mI S2 94 46) (mI S2 99) (m₉ 99) (mI S2 100) (m₉ 100) (mI S2 108) (m₉ 108) (mI S2 98) (mI S2 101) (m₉ 98) (m₉ 101) (m₉ 102))) (.inl o) (zst S2 m₉)) (T := T) ix ob h2.1 h2.2.1 h2.2.2.1 r.1 r.2.1 r.2.2.1 r.2.2.2.1 r.2.2.2.2.1 r.2.2.2.2.2.1 r.2.2.2.2.2.2 (fun v m₉ hV₉ q0 q1 q2 q3 q4 q5 q6 q7 q8 q9 => Rj_i v (zov wr_250 (mI S2) m₉) (fun _ => Uf_us q9 rfl rfl)) d w S2 _ (by omega) (by omega) hc.1.1.1 rfl (fun _ _ z => z)
theorem uw_251 {X : Nat × (Nat → Int32)} {d w : Nat} (ix : Int32) (ob : Int32) (hd : 5 ≤ d) (hw : 109 ≤ w) (H : zLw C0 Z0 T S) (hc : zCl S S2) (ht : T + 1 ≤ 512)  : ma_wp X d w 251 0 [(0, .inr (.inr (some 94))), (1, .inl ix), (2, .inl ob)] [] S2 (zRj S2 (fun _ m₉ => mR S 64 11 ≠ none → zUf (mI S2 94 46) (mI S2 99) (m₉ 99) (mI S2 100) (m₉ 100) (mI S2 108) (m₉ 108) (mI S2 98) (mI S2 101) (m₉ 98) (m₉ 101) (m₉ 102))) := by
  have h2 := ref_tr H.2.1 hc.2.1
  by_cases e : mR S 64 11 = none
  · have h8 : (mI S2 94 8).toInt = 0 := by
      rw [hc.2.1 94 8 (by decide) (by decide)]
      exact H.2.2.2.2.2.2.2.2.1.1.mp e
    exact sp_251z (P := fun o m₉ => (zRj S2 (fun _ m₉ => mR S 64 11 ≠ none → zUf (mI S2 94 46) (mI S2 99) (m₉ 99) (mI S2 100) (m₉ 100) (mI S2 108) (m₉ 108) (mI S2 98) (mI S2 101) (m₉ 98) (m₉ 101) (m₉ 102))) (.inl o) (zst S2 m₉)) (T := T) ix ob h2.1 h8 h2.2.1 h2.2.2.1 (fun v m₉ hV₉ q0 q1 q2 => Rj_i v (zov wr_251 (mI S2) m₉) (fun w => absurd e w)) d w S2 _ (by omega) (by omega) hc.1.1.1 rfl (fun _ _ z => z)
  · have h8 : (mI S2 94 8).toInt ≠ 0 := by
      rw [hc.2.1 94 8 (by decide) (by decide)]
      exact fun z => e (H.2.2.2.2.2.2.2.2.1.1.mpr z)
    have r := h2.2.2.2.resolve_left h8
    exact sp_251 (P := fun o m₉ => (zRj S2 (fun _ m₉ => mR S 64 11 ≠ none → zUf (mI S2 94 46) (mI S2 99) (m₉ 99) (mI S2 100) (m₉ 100) (mI S2 108) (m₉ 108) (mI S2 98) (mI S2 101) (m₉ 98) (m₉ 101) (m₉ 102))) (.inl o) (zst S2 m₉)) (T := T) ix ob h2.1 h2.2.1 h2.2.2.1 r.1 r.2.1 r.2.2.1 r.2.2.2.1 r.2.2.2.2.1 r.2.2.2.2.2.1 r.2.2.2.2.2.2 (fun v m₉ hV₉ q0 q1 q2 q3 q4 q5 q6 q7 q8 => Rj_i v (zov wr_251 (mI S2) m₉) (fun _ => Uf_us Us_rfl rfl rfl)) d w S2 _ (by omega) (by omega) hc.1.1.1 rfl (fun _ _ z => z)
theorem uw_252 {X : Nat × (Nat → Int32)} {d w : Nat} (ix : Int32) (r1 : Int32) (hd : 5 ≤ d) (hw : 111 ≤ w) (H : zLw C0 Z0 T S) (hc : zCl S S2) (ht : T + 1 ≤ 512)  : ma_wp X d w 252 0 [(0, .inr (.inr (some 94))), (1, .inl ix), (2, .inl r1)] [] S2 (zRj S2 (fun _ m₉ => mR S 64 11 ≠ none → zUf (mI S2 94 46) (mI S2 99) (m₉ 99) (mI S2 100) (m₉ 100) (mI S2 108) (m₉ 108) (mI S2 98) (mI S2 101) (m₉ 98) (m₉ 101) (m₉ 102))) := by
  have h2 := ref_tr H.2.1 hc.2.1
  by_cases e : mR S 64 11 = none
  · have h8 : (mI S2 94 8).toInt = 0 := by
      rw [hc.2.1 94 8 (by decide) (by decide)]
      exact H.2.2.2.2.2.2.2.2.1.1.mp e
    exact sp_252z (P := fun o m₉ => (zRj S2 (fun _ m₉ => mR S 64 11 ≠ none → zUf (mI S2 94 46) (mI S2 99) (m₉ 99) (mI S2 100) (m₉ 100) (mI S2 108) (m₉ 108) (mI S2 98) (mI S2 101) (m₉ 98) (m₉ 101) (m₉ 102))) (.inl o) (zst S2 m₉)) (T := T) ix r1 h2.1 h8 h2.2.1 h2.2.2.1 (fun v m₉ hV₉ q0 q1 q2 => Rj_i v (zov wr_252 (mI S2) m₉) (fun w => absurd e w)) d w S2 _ (by omega) (by omega) hc.1.1.1 rfl (fun _ _ z => z)
  · have h8 : (mI S2 94 8).toInt ≠ 0 := by
      rw [hc.2.1 94 8 (by decide) (by decide)]
      exact fun z => e (H.2.2.2.2.2.2.2.2.1.1.mpr z)
    have r := h2.2.2.2.resolve_left h8
    exact sp_252uw (P := fun o m₉ => (zRj S2 (fun _ m₉ => mR S 64 11 ≠ none → zUf (mI S2 94 46) (mI S2 99) (m₉ 99) (mI S2 100) (m₉ 100) (mI S2 108) (m₉ 108) (mI S2 98) (mI S2 101) (m₉ 98) (m₉ 101) (m₉ 102))) (.inl o) (zst S2 m₉)) (T := T) ix r1 h2.1 h2.2.1 h2.2.2.1 r.1 r.2.1 r.2.2.1 r.2.2.2.1 r.2.2.2.2.1 r.2.2.2.2.2.1 r.2.2.2.2.2.2 (fun v m₉ hV₉ q0 q1 q2 q3 q4 q5 q6 q7 q8 q9 => Rj_i v (zov wr_252 (mI S2) m₉) (fun _ => Uf_us q9 rfl rfl)) d w S2 _ (by omega) (by omega) hc.1.1.1 rfl (fun _ _ z => z)
theorem uw_253 {X : Nat × (Nat → Int32)} {d w : Nat} (ob : Int32) (on : Int32) (hd : 5 ≤ d) (hw : 109 ≤ w) (H : zLw C0 Z0 T S) (hc : zCl S S2) (ht : T + 1 ≤ 512)  : ma_wp X d w 253 0 [(0, .inr (.inr (some 94))), (1, .inl ob), (2, .inl on)] [] S2 (zRj S2 (fun _ m₉ => mR S 64 11 ≠ none → zUf (mI S2 94 46) (mI S2 99) (m₉ 99) (mI S2 100) (m₉ 100) (mI S2 108) (m₉ 108) (mI S2 98) (mI S2 101) (m₉ 98) (m₉ 101) (m₉ 102))) := by
  have h2 := ref_tr H.2.1 hc.2.1
  by_cases e : mR S 64 11 = none
  · have h8 : (mI S2 94 8).toInt = 0 := by
      rw [hc.2.1 94 8 (by decide) (by decide)]
      exact H.2.2.2.2.2.2.2.2.1.1.mp e
    exact sp_253z (P := fun o m₉ => (zRj S2 (fun _ m₉ => mR S 64 11 ≠ none → zUf (mI S2 94 46) (mI S2 99) (m₉ 99) (mI S2 100) (m₉ 100) (mI S2 108) (m₉ 108) (mI S2 98) (mI S2 101) (m₉ 98) (m₉ 101) (m₉ 102))) (.inl o) (zst S2 m₉)) (T := T) ob on h2.1 h8 h2.2.1 h2.2.2.1 (fun v m₉ hV₉ q0 q1 q2 => Rj_i v (zov wr_253 (mI S2) m₉) (fun w => absurd e w)) d w S2 _ (by omega) (by omega) hc.1.1.1 rfl (fun _ _ z => z)
  · have h8 : (mI S2 94 8).toInt ≠ 0 := by
      rw [hc.2.1 94 8 (by decide) (by decide)]
      exact fun z => e (H.2.2.2.2.2.2.2.2.1.1.mpr z)
    have r := h2.2.2.2.resolve_left h8
    exact sp_253uw (P := fun o m₉ => (zRj S2 (fun _ m₉ => mR S 64 11 ≠ none → zUf (mI S2 94 46) (mI S2 99) (m₉ 99) (mI S2 100) (m₉ 100) (mI S2 108) (m₉ 108) (mI S2 98) (mI S2 101) (m₉ 98) (m₉ 101) (m₉ 102))) (.inl o) (zst S2 m₉)) (T := T) ob on h2.1 h2.2.1 h2.2.2.1 r.1 r.2.1 r.2.2.1 r.2.2.2.1 r.2.2.2.2.1 r.2.2.2.2.2.1 r.2.2.2.2.2.2 (fun v m₉ hV₉ q0 q1 q2 q3 q4 q5 q6 q7 q8 q9 => Rj_i v (zov wr_253 (mI S2) m₉) (fun _ => Uf_us q9 rfl rfl)) d w S2 _ (by omega) (by omega) hc.1.1.1 rfl (fun _ _ z => z)
theorem uw_254 {X : Nat × (Nat → Int32)} {d w : Nat} (ob : Int32) (hd : 5 ≤ d) (hw : 109 ≤ w) (H : zLw C0 Z0 T S) (hc : zCl S S2) (ht : T + 1 ≤ 512)  : ma_wp X d w 254 0 [(0, .inr (.inr (some 94))), (1, .inl ob)] [] S2 (zRj S2 (fun _ m₉ => mR S 64 11 ≠ none → zUf (mI S2 94 46) (mI S2 99) (m₉ 99) (mI S2 100) (m₉ 100) (mI S2 108) (m₉ 108) (mI S2 98) (mI S2 101) (m₉ 98) (m₉ 101) (m₉ 102))) := by
  have h2 := ref_tr H.2.1 hc.2.1
  by_cases e : mR S 64 11 = none
  · have h8 : (mI S2 94 8).toInt = 0 := by
      rw [hc.2.1 94 8 (by decide) (by decide)]
      exact H.2.2.2.2.2.2.2.2.1.1.mp e
    exact sp_254z (P := fun o m₉ => (zRj S2 (fun _ m₉ => mR S 64 11 ≠ none → zUf (mI S2 94 46) (mI S2 99) (m₉ 99) (mI S2 100) (m₉ 100) (mI S2 108) (m₉ 108) (mI S2 98) (mI S2 101) (m₉ 98) (m₉ 101) (m₉ 102))) (.inl o) (zst S2 m₉)) (T := T) ob h2.1 h8 h2.2.1 h2.2.2.1 (fun v m₉ hV₉ q0 q1 q2 => Rj_i v (zov wr_254 (mI S2) m₉) (fun w => absurd e w)) d w S2 _ (by omega) (by omega) hc.1.1.1 rfl (fun _ _ z => z)
  · have h8 : (mI S2 94 8).toInt ≠ 0 := by
      rw [hc.2.1 94 8 (by decide) (by decide)]
      exact fun z => e (H.2.2.2.2.2.2.2.2.1.1.mpr z)
    have r := h2.2.2.2.resolve_left h8
    exact sp_254 (P := fun o m₉ => (zRj S2 (fun _ m₉ => mR S 64 11 ≠ none → zUf (mI S2 94 46) (mI S2 99) (m₉ 99) (mI S2 100) (m₉ 100) (mI S2 108) (m₉ 108) (mI S2 98) (mI S2 101) (m₉ 98) (m₉ 101) (m₉ 102))) (.inl o) (zst S2 m₉)) (T := T) ob h2.1 (by omega) h2.2.1 h2.2.2.1 r.1 r.2.1 r.2.2.1 r.2.2.2.1 r.2.2.2.2.1 r.2.2.2.2.2.1 r.2.2.2.2.2.2 (fun v m₉ hV₉ q0 q1 q2 q3 q4 q5 q6 q7 q8 => Rj_i v (zov wr_254 (mI S2) m₉) (fun _ => Uf_us Us_rfl rfl rfl)) d w S2 _ (by omega) (by omega) hc.1.1.1 rfl (fun _ _ z => z)
theorem uw_255 {X : Nat × (Nat → Int32)} {d w : Nat} (r1 : Int32) (hd : 5 ≤ d) (hw : 111 ≤ w) (H : zLw C0 Z0 T S) (hc : zCl S S2) (ht : T + 1 ≤ 512)  : ma_wp X d w 255 0 [(0, .inr (.inr (some 94))), (1, .inl r1)] [] S2 (zRj S2 (fun _ m₉ => mR S 64 11 ≠ none → zUf (mI S2 94 46) (mI S2 99) (m₉ 99) (mI S2 100) (m₉ 100) (mI S2 108) (m₉ 108) (mI S2 98) (mI S2 101) (m₉ 98) (m₉ 101) (m₉ 102))) := by
  have h2 := ref_tr H.2.1 hc.2.1
  by_cases e : mR S 64 11 = none
  · have h8 : (mI S2 94 8).toInt = 0 := by
      rw [hc.2.1 94 8 (by decide) (by decide)]
      exact H.2.2.2.2.2.2.2.2.1.1.mp e
    exact sp_255z (P := fun o m₉ => (zRj S2 (fun _ m₉ => mR S 64 11 ≠ none → zUf (mI S2 94 46) (mI S2 99) (m₉ 99) (mI S2 100) (m₉ 100) (mI S2 108) (m₉ 108) (mI S2 98) (mI S2 101) (m₉ 98) (m₉ 101) (m₉ 102))) (.inl o) (zst S2 m₉)) (T := T) r1 h2.1 h8 h2.2.1 h2.2.2.1 (fun v m₉ hV₉ q0 q1 q2 => Rj_i v (zov wr_255 (mI S2) m₉) (fun w => absurd e w)) d w S2 _ (by omega) (by omega) hc.1.1.1 rfl (fun _ _ z => z)
  · have h8 : (mI S2 94 8).toInt ≠ 0 := by
      rw [hc.2.1 94 8 (by decide) (by decide)]
      exact fun z => e (H.2.2.2.2.2.2.2.2.1.1.mpr z)
    have r := h2.2.2.2.resolve_left h8
    exact sp_255uw (P := fun o m₉ => (zRj S2 (fun _ m₉ => mR S 64 11 ≠ none → zUf (mI S2 94 46) (mI S2 99) (m₉ 99) (mI S2 100) (m₉ 100) (mI S2 108) (m₉ 108) (mI S2 98) (mI S2 101) (m₉ 98) (m₉ 101) (m₉ 102))) (.inl o) (zst S2 m₉)) (T := T) r1 h2.1 h2.2.1 h2.2.2.1 r.1 r.2.1 r.2.2.1 r.2.2.2.1 r.2.2.2.2.1 r.2.2.2.2.2.1 r.2.2.2.2.2.2 (fun v m₉ hV₉ q0 q1 q2 q3 q4 q5 q6 q7 q8 q9 => Rj_i v (zov wr_255 (mI S2) m₉) (fun _ => Uf_us q9 rfl rfl)) d w S2 _ (by omega) (by omega) hc.1.1.1 rfl (fun _ _ z => z)
theorem uw_256 {X : Nat × (Nat → Int32)} {d w : Nat}  (hd : 7 ≤ d) (hw : 152 ≤ w) (H : zLw C0 Z0 T S) (hc : zCl S S2) (ht : T + 1 ≤ 512)  : ma_wp X d w 256 0 [(0, .inr (.inr (some 94)))] [] S2 (zRj S2 (fun _ m₉ => mR S 64 11 ≠ none → zUf (mI S2 94 46) (mI S2 99) (m₉ 99) (mI S2 100) (m₉ 100) (mI S2 108) (m₉ 108) (mI S2 98) (mI S2 101) (m₉ 98) (m₉ 101) (m₉ 102))) := by
  have h2 := ref_tr H.2.1 hc.2.1
  by_cases e : mR S 64 11 = none
  · have h8 : (mI S2 94 8).toInt = 0 := by
      rw [hc.2.1 94 8 (by decide) (by decide)]
      exact H.2.2.2.2.2.2.2.2.1.1.mp e
    exact sp_256z (P := fun o m₉ => (zRj S2 (fun _ m₉ => mR S 64 11 ≠ none → zUf (mI S2 94 46) (mI S2 99) (m₉ 99) (mI S2 100) (m₉ 100) (mI S2 108) (m₉ 108) (mI S2 98) (mI S2 101) (m₉ 98) (m₉ 101) (m₉ 102))) (.inl o) (zst S2 m₉)) (T := T)  h2.1 h8 h2.2.1 h2.2.2.1 (fun v m₉ hV₉ q0 q1 q2 => Rj_i v (zov wr_256 (mI S2) m₉) (fun w => absurd e w)) d w S2 _ (by omega) (by omega) hc.1.1.1 rfl (fun _ _ z => z)
  · have h8 : (mI S2 94 8).toInt ≠ 0 := by
      rw [hc.2.1 94 8 (by decide) (by decide)]
      exact fun z => e (H.2.2.2.2.2.2.2.2.1.1.mpr z)
    have r := h2.2.2.2.resolve_left h8
    exact sp_256uw (P := fun o m₉ => (zRj S2 (fun _ m₉ => mR S 64 11 ≠ none → zUf (mI S2 94 46) (mI S2 99) (m₉ 99) (mI S2 100) (m₉ 100) (mI S2 108) (m₉ 108) (mI S2 98) (mI S2 101) (m₉ 98) (m₉ 101) (m₉ 102))) (.inl o) (zst S2 m₉)) (T := T)  h2.1 h2.2.1 h2.2.2.1 r.1 r.2.1 r.2.2.1 r.2.2.2.1 r.2.2.2.2.1 r.2.2.2.2.2.1 r.2.2.2.2.2.2 (fun v m₉ hV₉ q0 q1 q2 q3 q4 q5 q6 q7 q8 q9 => Rj_i v (zov wr_256 (mI S2) m₉) (fun _ => Uf_us q9 rfl rfl)) d w S2 _ (by omega) (by omega) hc.1.1.1 rfl (fun _ _ z => z)
theorem uw_257 {X : Nat × (Nat → Int32)} {d w : Nat} (nn : Int32) (hd : 5 ≤ d) (hw : 109 ≤ w) (H : zLw C0 Z0 T S) (hc : zCl S S2) (ht : T + 1 ≤ 512)  : ma_wp X d w 257 0 [(0, .inr (.inr (some 94))), (1, .inl nn)] [] S2 (zRj S2 (fun _ m₉ => mR S 64 11 ≠ none → zUf (mI S2 94 46) (mI S2 99) (m₉ 99) (mI S2 100) (m₉ 100) (mI S2 108) (m₉ 108) (mI S2 98) (mI S2 101) (m₉ 98) (m₉ 101) (m₉ 102))) := by
  have h2 := ref_tr H.2.1 hc.2.1
  by_cases e : mR S 64 11 = none
  · have h8 : (mI S2 94 8).toInt = 0 := by
      rw [hc.2.1 94 8 (by decide) (by decide)]
      exact H.2.2.2.2.2.2.2.2.1.1.mp e
    exact sp_257v (P := fun o m₉ => (zRj S2 (fun _ m₉ => mR S 64 11 ≠ none → zUf (mI S2 94 46) (mI S2 99) (m₉ 99) (mI S2 100) (m₉ 100) (mI S2 108) (m₉ 108) (mI S2 98) (mI S2 101) (m₉ 98) (m₉ 101) (m₉ 102))) (.inl o) (zst S2 m₉)) (T := T) nn h2.1 h8 h2.2.1 h2.2.2.1 (fun v m₉ hV₉ q0 q1 q2 q3 => Rj_i v (zov wr_257 (mI S2) m₉) (fun w => absurd e w)) d w S2 _ (by omega) (by omega) hc.1.1.1 rfl (fun _ _ z => z)
  · have h8 : (mI S2 94 8).toInt ≠ 0 := by
      rw [hc.2.1 94 8 (by decide) (by decide)]
      exact fun z => e (H.2.2.2.2.2.2.2.2.1.1.mpr z)
    have r := h2.2.2.2.resolve_left h8
    exact sp_257uw (P := fun o m₉ => (zRj S2 (fun _ m₉ => mR S 64 11 ≠ none → zUf (mI S2 94 46) (mI S2 99) (m₉ 99) (mI S2 100) (m₉ 100) (mI S2 108) (m₉ 108) (mI S2 98) (mI S2 101) (m₉ 98) (m₉ 101) (m₉ 102))) (.inl o) (zst S2 m₉)) (T := T) nn h2.1 h2.2.1 h2.2.2.1 r.1 r.2.1 r.2.2.1 r.2.2.2.1 r.2.2.2.2.1 r.2.2.2.2.2.1 r.2.2.2.2.2.2 (fun v m₉ hV₉ q0 q1 q2 q3 q4 q5 q6 q7 q8 q9 => Rj_i v (zov wr_257 (mI S2) m₉) (fun _ => Uf_us q9 rfl rfl)) d w S2 _ (by omega) (by omega) hc.1.1.1 rfl (fun _ _ z => z)
theorem uw_258 {X : Nat × (Nat → Int32)} {d w : Nat} (ob : Int32) (wh : Int32) (hd : 5 ≤ d) (hw : 109 ≤ w) (H : zLw C0 Z0 T S) (hc : zCl S S2) (ht : T + 1 ≤ 512)  : ma_wp X d w 258 0 [(0, .inr (.inr (some 94))), (1, .inl ob), (2, .inl wh)] [] S2 (zRj S2 (fun _ m₉ => mR S 64 11 ≠ none → zUf (mI S2 94 46) (mI S2 99) (m₉ 99) (mI S2 100) (m₉ 100) (mI S2 108) (m₉ 108) (mI S2 98) (mI S2 101) (m₉ 98) (m₉ 101) (m₉ 102))) := by
  have h2 := ref_tr H.2.1 hc.2.1
  by_cases e : mR S 64 11 = none
  · have h8 : (mI S2 94 8).toInt = 0 := by
      rw [hc.2.1 94 8 (by decide) (by decide)]
      exact H.2.2.2.2.2.2.2.2.1.1.mp e
    exact sp_258z (P := fun o m₉ => (zRj S2 (fun _ m₉ => mR S 64 11 ≠ none → zUf (mI S2 94 46) (mI S2 99) (m₉ 99) (mI S2 100) (m₉ 100) (mI S2 108) (m₉ 108) (mI S2 98) (mI S2 101) (m₉ 98) (m₉ 101) (m₉ 102))) (.inl o) (zst S2 m₉)) (T := T) ob wh h2.1 h8 h2.2.1 h2.2.2.1 (fun v m₉ hV₉ q0 q1 q2 => Rj_i v (zov wr_258 (mI S2) m₉) (fun w => absurd e w)) d w S2 _ (by omega) (by omega) hc.1.1.1 rfl (fun _ _ z => z)
  · have h8 : (mI S2 94 8).toInt ≠ 0 := by
      rw [hc.2.1 94 8 (by decide) (by decide)]
      exact fun z => e (H.2.2.2.2.2.2.2.2.1.1.mpr z)
    have r := h2.2.2.2.resolve_left h8
    exact sp_258 (P := fun o m₉ => (zRj S2 (fun _ m₉ => mR S 64 11 ≠ none → zUf (mI S2 94 46) (mI S2 99) (m₉ 99) (mI S2 100) (m₉ 100) (mI S2 108) (m₉ 108) (mI S2 98) (mI S2 101) (m₉ 98) (m₉ 101) (m₉ 102))) (.inl o) (zst S2 m₉)) (T := T) ob wh h2.1 h2.2.1 h2.2.2.1 r.1 r.2.1 r.2.2.1 r.2.2.2.1 r.2.2.2.2.1 r.2.2.2.2.2.1 r.2.2.2.2.2.2 (fun v m₉ hV₉ q0 q1 q2 q3 q4 q5 q6 q7 q8 => Rj_i v (zov wr_258 (mI S2) m₉) (fun _ => Uf_us Us_rfl rfl rfl)) d w S2 _ (by omega) (by omega) hc.1.1.1 rfl (fun _ _ z => z)
theorem uw_259 {X : Nat × (Nat → Int32)} {d w : Nat} (ix : Int32) (pa : Int32) (hd : 2 ≤ d) (hw : 45 ≤ w) (H : zLw C0 Z0 T S) (hc : zCl S S2) (ht : T + 1 ≤ 512)  : ma_wp X d w 259 0 [(0, .inr (.inr (some 94))), (1, .inl ix), (2, .inl pa)] [] S2 (zRj S2 (fun _ m₉ => mR S 64 11 ≠ none → zUf (mI S2 94 46) (mI S2 99) (m₉ 99) (mI S2 100) (m₉ 100) (mI S2 108) (m₉ 108) (mI S2 98) (mI S2 101) (m₉ 98) (m₉ 101) (m₉ 102))) := by
  have h2 := ref_tr H.2.1 hc.2.1
  by_cases e : mR S 64 11 = none
  · have h8 : (mI S2 94 8).toInt = 0 := by
      rw [hc.2.1 94 8 (by decide) (by decide)]
      exact H.2.2.2.2.2.2.2.2.1.1.mp e
    exact sp_259v (P := fun o m₉ => (zRj S2 (fun _ m₉ => mR S 64 11 ≠ none → zUf (mI S2 94 46) (mI S2 99) (m₉ 99) (mI S2 100) (m₉ 100) (mI S2 108) (m₉ 108) (mI S2 98) (mI S2 101) (m₉ 98) (m₉ 101) (m₉ 102))) (.inl o) (zst S2 m₉)) (T := T) ix pa h2.1 h8 h2.2.1 h2.2.2.1 (fun v m₉ hV₉ q0 q1 q2 q3 => Rj_i v (zov wr_259 (mI S2) m₉) (fun w => absurd e w)) d w S2 _ (by omega) (by omega) hc.1.1.1 rfl (fun _ _ z => z)
  · have h8 : (mI S2 94 8).toInt ≠ 0 := by
      rw [hc.2.1 94 8 (by decide) (by decide)]
      exact fun z => e (H.2.2.2.2.2.2.2.2.1.1.mpr z)
    have r := h2.2.2.2.resolve_left h8
    exact sp_259 (P := fun o m₉ => (zRj S2 (fun _ m₉ => mR S 64 11 ≠ none → zUf (mI S2 94 46) (mI S2 99) (m₉ 99) (mI S2 100) (m₉ 100) (mI S2 108) (m₉ 108) (mI S2 98) (mI S2 101) (m₉ 98) (m₉ 101) (m₉ 102))) (.inl o) (zst S2 m₉)) (T := T) ix pa h2.1 h2.2.1 h2.2.2.1 r.1 r.2.1 r.2.2.1 r.2.2.2.1 r.2.2.2.2.1 r.2.2.2.2.2.1 r.2.2.2.2.2.2 (fun v m₉ hV₉ q0 q1 q2 q3 q4 q5 q6 q7 q8 => Rj_i v (zov wr_259 (mI S2) m₉) (fun _ => Uf_us Us_rfl rfl rfl)) d w S2 _ (by omega) (by omega) hc.1.1.1 rfl (fun _ _ z => z)
theorem uw_260 {X : Nat × (Nat → Int32)} {d w : Nat} (wh : Int32) (hd : 1 ≤ d) (hw : 22 ≤ w) (H : zLw C0 Z0 T S) (hc : zCl S S2) (ht : T + 1 ≤ 512)  : ma_wp X d w 260 0 [(0, .inr (.inr (some 94))), (1, .inl wh)] [] S2 (zRj S2 (fun _ m₉ => mR S 64 11 ≠ none → zUf (mI S2 94 46) (mI S2 99) (m₉ 99) (mI S2 100) (m₉ 100) (mI S2 108) (m₉ 108) (mI S2 98) (mI S2 101) (m₉ 98) (m₉ 101) (m₉ 102))) := by
  have h2 := ref_tr H.2.1 hc.2.1
  by_cases e : mR S 64 11 = none
  · have h8 : (mI S2 94 8).toInt = 0 := by
      rw [hc.2.1 94 8 (by decide) (by decide)]
      exact H.2.2.2.2.2.2.2.2.1.1.mp e
    exact sp_260z (P := fun o m₉ => (zRj S2 (fun _ m₉ => mR S 64 11 ≠ none → zUf (mI S2 94 46) (mI S2 99) (m₉ 99) (mI S2 100) (m₉ 100) (mI S2 108) (m₉ 108) (mI S2 98) (mI S2 101) (m₉ 98) (m₉ 101) (m₉ 102))) (.inl o) (zst S2 m₉)) (T := T) wh h2.1 h8 h2.2.1 h2.2.2.1 (fun v m₉ hV₉ q0 q1 q2 => Rj_i v (zov wr_260 (mI S2) m₉) (fun w => absurd e w)) d w S2 _ (by omega) (by omega) hc.1.1.1 rfl (fun _ _ z => z)
  · have h8 : (mI S2 94 8).toInt ≠ 0 := by
      rw [hc.2.1 94 8 (by decide) (by decide)]
      exact fun z => e (H.2.2.2.2.2.2.2.2.1.1.mpr z)
    have r := h2.2.2.2.resolve_left h8
    exact sp_260 (P := fun o m₉ => (zRj S2 (fun _ m₉ => mR S 64 11 ≠ none → zUf (mI S2 94 46) (mI S2 99) (m₉ 99) (mI S2 100) (m₉ 100) (mI S2 108) (m₉ 108) (mI S2 98) (mI S2 101) (m₉ 98) (m₉ 101) (m₉ 102))) (.inl o) (zst S2 m₉)) (T := T) wh h2.1 h2.2.1 h2.2.2.1 r.1 r.2.1 r.2.2.1 r.2.2.2.1 r.2.2.2.2.1 r.2.2.2.2.2.1 r.2.2.2.2.2.2 (fun v m₉ hV₉ q0 q1 q2 q3 q4 q5 q6 q7 q8 => Rj_i v (zov wr_260 (mI S2) m₉) (fun _ => Uf_us Us_rfl rfl rfl)) d w S2 _ (by omega) (by omega) hc.1.1.1 rfl (fun _ _ z => z)
theorem ra_249 {X : Nat × (Nat → Int32)} {d w : Nat} (ob : Int32) (ix : Int32) (hd : 5 ≤ d) (hw : 109 ≤ w) (H : zLw C0 Z0 T S) (HW : zWq S) (hc : zCl S S2) (ht : T + 1 ≤ 512) : ma_wp X d w 249 0 [(0, .inr (.inr (some 94))), (1, .inl ob), (2, .inl ix)] [] S2 (zRj S2 (fun y m₉ => zSel (mR S 64 11 ≠ none) ((m₉ 94 0).toInt = 1) (qNge (aS 88 S) ob ix (m₉ 94 0) y) ∧ (mR S 64 11 ≠ none → zUf (mI S2 94 46) (mI S2 99) (m₉ 99) (mI S2 100) (m₉ 100) (mI S2 108) (m₉ 108) (mI S2 98) (mI S2 101) (m₉ 98) (m₉ 101) (m₉ 102)))) := by
  have h2 := ref_tr H.2.1 hc.2.1
  by_cases e : mR S 64 11 = none
  · have h8 : (mI S2 94 8).toInt = 0 := by
      rw [hc.2.1 94 8 (by decide) (by decide)]
      exact H.2.2.2.2.2.2.2.2.1.1.mp e
    exact sp_249av (P := fun o m₉ => (zRj S2 (fun y m₉ => zSel (mR S 64 11 ≠ none) ((m₉ 94 0).toInt = 1) (qNge (aS 88 S) ob ix (m₉ 94 0) y) ∧ (mR S 64 11 ≠ none → zUf (mI S2 94 46) (mI S2 99) (m₉ 99) (mI S2 100) (m₉ 100) (mI S2 108) (m₉ 108) (mI S2 98) (mI S2 101) (m₉ 98) (m₉ 101) (m₉ 102)))) (.inl o) (zst S2 m₉)) ob ix h2.1 h8 (fun v m₉ hV₉ q0 => Rj_i v (zov wr_249 (mI S2) m₉) ⟨Or.inl ⟨fun w => w e, q0⟩, fun w => absurd e w⟩) d w S2 _ (by omega) (by omega) hc.1.1.1 rfl (fun _ _ z => z)
  · obtain ⟨bb, ro, fo, le, ra, pi, hR, hI, ho⟩ := lw_aq H e
    have h8 : (mI S2 94 8).toInt ≠ 0 := by
      rw [hc.2.1 94 8 (by decide) (by decide)]
      exact fun z => e (H.2.2.2.2.2.2.2.2.1.1.mpr z)
    have r := h2.2.2.2.resolve_left h8
    exact sp_249an (P := fun o m₉ => (zRj S2 (fun y m₉ => zSel (mR S 64 11 ≠ none) ((m₉ 94 0).toInt = 1) (qNge (aS 88 S) ob ix (m₉ 94 0) y) ∧ (mR S 64 11 ≠ none → zUf (mI S2 94 46) (mI S2 99) (m₉ 99) (mI S2 100) (m₉ 100) (mI S2 108) (m₉ 108) (mI S2 98) (mI S2 101) (m₉ 98) (m₉ 101) (m₉ 102)))) (.inl o) (zst S2 m₉)) (T := T) ob ix h2.1 h8 h2.2.1 h2.2.2.1 r.1 r.2.1 r.2.2.1 r.2.2.2.1 r.2.2.2.2.1 r.2.2.2.2.2.1 r.2.2.2.2.2.2 (rb_tr hR hc.2.1) hI (wr_tr (Wr_sa (Sa_sy (Sa_o6 ho)) (HW e)) hc.2.1) (fun v m₉ hV₉ q0 => Rj_i v (zov wr_249 (mI S2) m₉) ⟨Or.inr ⟨e, cg_ge ho q0⟩, fun _ => Uf_us Us_rfl rfl rfl⟩) d w S2 _ (by omega) (by omega) hc.1.1.1 rfl (fun _ _ z => z)
end LWD
