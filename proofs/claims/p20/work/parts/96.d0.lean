/-! A CALL OF EACH KIND, AND THE LOOP -/
theorem lg_refl (x : Int64) : lg_cmp x x = 0 := by
  unfold lg_cmp
  simp
def zUu (m : Nat → Nat → Int32) : Nat → Int32 := fun j => if j = 0 then m 94 11 else if j = 1 then m 94 12 else if j = 2 then m 94 17 else (if m 94 9 = 0 then 1 else 0)
section LWD
variable {C0 Z0 T : Nat} {S S2 : ma_S} {m' aa bb : Nat → Nat → Int32} {P : Nat}
theorem C_T {a : Nat → Nat → Int32} {K : Nat → Int32} (h : cC a [] K ((T : Int) + 1)) : cC a [] K ((T + 1 : Nat) : Int) := by
  have e : ((T + 1 : Nat) : Int) = (T : Int) + 1 := by omega
  rw [e]
  exact h
theorem md_87 {S' : ma_S} (e : mR S 64 11 = some 87) (h : zS5 S') : zMod T S S' := ⟨fun _ => h, fun z => absurd (e.symm.trans z) (by decide), fun z => absurd (e.symm.trans z) (by decide)⟩
theorem md_79 {S' : ma_S} (e : mR S 64 11 = some 79) (h : zS0 S') : zMod T S S' := ⟨fun z => absurd (e.symm.trans z) (by decide), fun _ => h, fun z => absurd (e.symm.trans z) (by decide)⟩
theorem md_84 {S' : ma_S} (e : mR S 64 11 = some 84) (h : zS4 T S') : zMod T S S' := ⟨fun z => absurd (e.symm.trans z) (by decide), fun z => absurd (e.symm.trans z) (by decide), fun _ => h⟩
theorem md_no {S' : ma_S} (e : mR S 64 11 ≠ some 87) (e0 : mR S 64 11 ≠ some 79) (e4 : mR S 64 11 ≠ some 84) : zMod T S S' := ⟨fun z => absurd z e, fun z => absurd z e0, fun z => absurd z e4⟩
theorem lw_more (H : zLw C0 Z0 T S) (ht : T + 1 ≤ 512) : zLw C0 Z0 (T + 1) S := by
  obtain ⟨h1, ⟨hV, r_W, r_GW, h⟩, h3, h7, h4, h5, h6, h8, s1, s2, s3, s4, s5, s6⟩ := H
  refine ⟨h1, ⟨hV, r_W, GW_up r_GW (by omega), h.imp id (fun z => ⟨GU_up z.1 (by omega), z.2⟩)⟩, h3, h7, by omega, by omega, h6, h8, s1, s2, s3, s4, ⟨s5.1, s5.2.1, fun e => ?_⟩, s6⟩
  obtain ⟨hB, hC, q⟩ := s5.2.2 e
  exact ⟨hB, C_T (C_up hC), q⟩
theorem lw_q (H : zLw C0 Z0 T S) (hc : zCl S S2) (hpr : mR S2 64 11 = mR S 64 11) (hte : mI S2 64 1 = mI S 64 1) (hke : mI S2 64 7 = mI S 64 7) (h65 : mI S2 65 = mI S 65) (h67 : mI S2 67 = mI S 67 ∧ mI S2 68 = mI S 68) (hr : zRef (T + 1) m') (ho : ∀ c k, c < 94 ∨ 124 < c → m' c k = mI S2 c k) (h3 : m' 94 3 = mI S2 94 3) (h7 : m' 94 7 = mI S2 94 7) (h95 : m' 95 = mI S2 95) (e8 : m' 94 8 = mI S2 94 8) (e10 : m' 94 10 = mI S2 94 10) (e97 : m' 97 = mI S2 97) (e98 : m' 98 = mI S2 98) (e17 : m' 94 17 = mI S2 94 17) (e27 : m' 94 27 = mI S2 94 27) (hm : zMod (T + 1) S (zst S2 m')) : zLw C0 Z0 (T + 1) (zst S2 m') := lw_step H hc hr ho (lw_te H hc hte ho h3) (lw_ke H hc hke ho h7) (lw_al H hc h65 ho (by rw [h3]; exact Int.le_refl _) h95) (lw_kr H hc h67 ho h7 e97 e98) (sim_st H.2.2.2.2.2.2.2.2 hc hpr e8 e10 e17 e27 hm)
theorem lw_17 (H : zLw C0 Z0 T S) (hc : zCl S S2) : 0 ≤ (mI S2 94 17).toInt := by
  rw [hc.2.1 94 17 (by decide) (by decide)]
  exact H.2.2.2.2.2.2.2.2.2.2.2.2.2.1
theorem lw_27 (H : zLw C0 Z0 T S) (hc : zCl S S2) : 0 ≤ (mI S2 94 27).toInt := by
  rw [hc.2.1 94 27 (by decide) (by decide)]
  exact H.2.2.2.2.2.2.2.2.2.2.2.2.2.2
theorem lw_xb (H : zLw C0 Z0 T S) (w : mR S 64 11 = some 87 ∨ mR S 64 11 = some 79 ∨ mR S 64 11 = some 84) : xB S (mR S 70) := by
  rcases w with w | w | w
  · exact (H.2.2.2.2.2.2.2.2.2.2.2.2.1.1 w).1
  · exact (H.2.2.2.2.2.2.2.2.2.2.2.2.1.2.1 w).1
  · exact (H.2.2.2.2.2.2.2.2.2.2.2.2.1.2.2 w).1
theorem lw_cc (H : zLw C0 Z0 T S) (e : mR S 64 11 = some 84) : cC (aT 84 S) [] (kC S) (T : Int) ∧ qI (aT 84 S) := by
  obtain ⟨hB, hC, aa, hq, hz, hk⟩ := H.2.2.2.2.2.2.2.2.2.2.2.2.1.2.2 e
  exact ⟨hC, I_q hq hz.2.1 T_6⟩
theorem e5_of (H : zLw C0 Z0 T S) (hc : zCl S S2) (e : mR S 64 11 = some 87) : (mI S2 94 8).toInt = 1 ∧ (mI S2 94 10).toInt = 5 := by
  have q := H.2.2.2.2.2.2.2.2.2.1.mp e
  have b := rs_94_8 H.2.1.1
  rw [hc.2.1 94 8 (by decide) (by decide), hc.2.1 94 10 (by decide) (by decide)]
  exact ⟨by omega, q.2⟩
theorem e0_of (H : zLw C0 Z0 T S) (hc : zCl S S2) (e : mR S 64 11 = some 79) : (mI S2 94 8).toInt = 1 ∧ (mI S2 94 10).toInt = 0 := by
  have q := H.2.2.2.2.2.2.2.2.2.2.1.mp e
  have b := rs_94_8 H.2.1.1
  rw [hc.2.1 94 8 (by decide) (by decide), hc.2.1 94 10 (by decide) (by decide)]
  exact ⟨by omega, q.2⟩
theorem e4_of (H : zLw C0 Z0 T S) (hc : zCl S S2) (e : mR S 64 11 = some 84) : (mI S2 94 8).toInt = 1 ∧ (mI S2 94 10).toInt = 4 := by
  have q := H.2.2.2.2.2.2.2.2.2.2.2.1.mp e
  have b := rs_94_8 H.2.1.1
  rw [hc.2.1 94 8 (by decide) (by decide), hc.2.1 94 10 (by decide) (by decide)]
  exact ⟨by omega, q.2⟩
theorem lw_h6 (H : zLw C0 Z0 T S) (e : mR S 64 11 = some 87) : 0 ≤ (aS 88 S 87 6).toInt := by
  obtain ⟨_, aa, hsm, hz⟩ := H.2.2.2.2.2.2.2.2.2.2.2.2.1.1 e
  rw [hsm.1 87 6 (by decide) (by decide) (by decide)]
  exact (K_5 hz).1.1.2.2.2.1.2.2.2.2.2
theorem lw_ki (H : zLw C0 Z0 T S) {x : Int32} (h0 : 0 ≤ x.toInt) (h1 : x.toInt < (mI S 64 7).toInt) : x.toNatClampNeg < 16 ∧ mI S 67 x.toNatClampNeg = mI S 97 x.toNatClampNeg ∧ mI S 68 x.toNatClampNeg = mI S 98 x.toNatClampNeg := by
  have c := tn_cast h0
  have b := rs_94_7 H.2.1.1
  rw [H.2.2.2.1] at h1
  exact ⟨by omega, H.2.2.2.2.2.2.2.1 _ (by omega)⟩
theorem lw_mk (H : zLw C0 Z0 T S) (hc : zCl S S2) {x0 x1 : Int32} (hsm : qSm (aS 88 S) aa) (hK : qK aa) : qSm (qIf (0 ≤ x0.toInt ∧ x0.toInt < (mI S 64 7).toInt ∧ zSl x1) (aMk (aS 88 S) x0 (mI S 67 x0.toNatClampNeg) (mI S 68 x0.toNatClampNeg).toInt64 x1) (aS 88 S)) (qIf (0 ≤ x0.toInt ∧ x0.toInt < (mI S2 94 7).toInt ∧ zSl x1) (aMk aa x0 ((mI S2 97) x0.toNatClampNeg) (mI S 68 x0.toNatClampNeg).toInt64 x1) aa) := by
  have e7 : mI S2 94 7 = mI S 64 7 := (hc.2.1 94 7 (by decide) (by decide)).trans H.2.2.2.1.symm
  rw [e7]
  refine Sm_if Iff.rfl (fun w => ?_) hsm
  have q := lw_ki H w.1 w.2.1
  have b := ra_97 H.2.1.1 q.1
  rw [hc.2.1 97 _ (by decide) (by decide), ← q.2.1]
  rw [← q.2.1] at b
  exact Sm_mk hsm hK b.1 (by omega)
theorem lw_rw {x0 x1 x2 : Int32} (hsm : qSm (aS 88 S) aa) (hK : qK aa) : qSm (qIf (0 ≤ x1.toInt ∧ x1.toInt ≤ 60 ∧ zSl x2) (if x0 = 0 then aMk (aS 88 S) 17 x1 0 x2 else aMk (aS 88 S) 16 x1 (-1) x2) (aS 88 S)) (qIf (0 ≤ x1.toInt ∧ x1.toInt ≤ 60 ∧ zSl x2) (if x0 = 0 then aMk aa 17 x1 0 x2 else aMk aa 16 x1 (-1) x2) aa) := by
  refine Sm_if Iff.rfl (fun w => ?_) hsm
  by_cases q : x0 = 0
  · rw [if_pos q, if_pos q]
    exact Sm_mk hsm hK w.1 w.2.1
  · rw [if_neg q, if_neg q]
    exact Sm_mk hsm hK w.1 w.2.1
theorem lw_bt (H : zLw C0 Z0 T S) (hc : zCl S S2) {kk : Int32} : (0 ≤ kk.toInt ∧ kk.toInt < (mI S2 94 7).toInt) → ∀ j : Nat, (j : Int) < ((mI S2 97) kk.toNatClampNeg).toInt → (zbit (mI S 68 kk.toNatClampNeg).toInt64 (Int32.ofNat j) ≠ 0 ↔ (kk = 16 ∨ (kk < 16 ∧ (((mI S2 98) kk.toNatClampNeg >>> (Int32.ofNat j &&& 31)) &&& 1) = 1))) := by
  intro h j hj
  have e7 : mI S2 94 7 = mI S 64 7 := (hc.2.1 94 7 (by decide) (by decide)).trans H.2.2.2.1.symm
  rw [e7] at h
  have q := lw_ki H h.1 h.2
  have c := tn_cast h.1
  have b7 := ra_97 H.2.1.1 q.1
  have b8 := ra_98 H.2.1.1 q.1
  rw [hc.2.1 97 _ (by decide) (by decide)] at hj
  rw [hc.2.1 98 _ (by decide) (by decide), q.2.2]
  have z := zb_k (x := mI S 98 kk.toNatClampNeg) b8.1 b8.2 (j := j) (by omega)
  have l16 : kk < 16 := Int32.lt_iff_toInt_lt.mpr (by
    have : (16 : Int32).toInt = 16 := rfl
    omega)
  constructor
  · intro w
    exact Or.inr ⟨l16, z.mp w⟩
  · intro w
    rcases w with w | w
    · rw [w] at c
      have : (16 : Int32).toInt = 16 := rfl
      have := q.1
      rw [w] at this
      omega
    · exact z.mpr w.2
theorem lw_k1 (H : zLw C0 Z0 T S) (hc : zCl S S2) {x0 x1 : Int32} (h67 : mI S2 67 = zUp (mI S 67) (mI S 64 7).toNatClampNeg x0 ∧ mI S2 68 = zUp (mI S 68) (mI S 64 7).toNatClampNeg x1) (ho : ∀ c k, c < 94 ∨ 124 < c → m' c k = mI S2 c k) {P : Prop} (_ : P) (hk : ((m' 94 7).toInt = (mI S2 94 7).toInt ∧ m' 97 = mI S2 97 ∧ m' 98 = mI S2 98) ∨ ((m' 94 7).toInt = (mI S2 94 7).toInt + 1 ∧ m' 97 = zUp (mI S2 97) (mI S2 94 7).toNatClampNeg x0 ∧ m' 98 = zUp (mI S2 98) (mI S2 94 7).toNatClampNeg x1)) (h1 : (m' 94 7).toInt = (mI S2 94 7).toInt + 1) : zKR m' := by
  have e7 : mI S2 94 7 = mI S 94 7 := hc.2.1 94 7 (by decide) (by decide)
  rcases hk with w | w
  · omega
  · intro k hk
    have b := rs_94_7 H.2.1.1
    have c := tn_cast (x := mI S 94 7) b.1
    rw [ho 67 k (Or.inl (by decide)), ho 68 k (Or.inl (by decide)), h67.1, h67.2, w.2.1, w.2.2, H.2.2.2.1, e7]
    unfold zUp
    by_cases q : k = (mI S 94 7).toNatClampNeg
    · rw [if_pos q, if_pos q, if_pos q, if_pos q]
      exact ⟨rfl, rfl⟩
    · rw [if_neg q, if_neg q, if_neg q, if_neg q, hc.2.1 97 k (by decide) (by decide), hc.2.1 98 k (by decide) (by decide)]
      rw [h1, e7] at hk
      exact H.2.2.2.2.2.2.2.1 k (by omega)
theorem lw_k0 (H : zLw C0 Z0 T S) (hc : zCl S S2) {x0 x1 : Int32} (h67 : mI S2 67 = mI S 67 ∧ mI S2 68 = mI S 68) (ho : ∀ c k, c < 94 ∨ 124 < c → m' c k = mI S2 c k) (hk : ((m' 94 7).toInt = (mI S2 94 7).toInt ∧ m' 97 = mI S2 97 ∧ m' 98 = mI S2 98) ∨ ((m' 94 7).toInt = (mI S2 94 7).toInt + 1 ∧ m' 97 = zUp (mI S2 97) (mI S2 94 7).toNatClampNeg x0 ∧ m' 98 = zUp (mI S2 98) (mI S2 94 7).toNatClampNeg x1)) (h1 : (m' 94 7).toInt = (mI S2 94 7).toInt) : zKR m' := by
  rcases hk with w | w
  · exact lw_kr H hc h67 ho (Int32.toInt_inj.mp h1) w.2.1 w.2.2
  · omega
theorem q_if {P Q : Prop} {a b a' b' : Nat → Nat → Int32} (e : P ↔ Q) (h1 : Q → zQ a' b') (h2 : zQ a b) : zQ (qIf P a' a) (qIf Q b' b) := by
  by_cases w : Q
  · rw [qIf_y (e.mpr w), qIf_y w]
    exact h1 w
  · rw [qIf_n (fun q => w (e.mp q)), qIf_n w]
    exact h2
theorem lw_mkq (H : zLw C0 Z0 T S) (hc : zCl S S2) {x0 x1 : Int32} {f : (Nat → Nat → Int32) → Int32 → Int32 → Int64 → Int32 → Nat → Nat → Int32} (hq : zQ aa (aT P S)) (hf : ∀ (w : Int32) (L : Int64), 0 ≤ w.toInt → w.toInt ≤ 60 → zSl x1 → zQ (f aa x0 w L x1) (f (aT P S) x0 w L x1)) : zQ (qIf (0 ≤ x0.toInt ∧ x0.toInt < (mI S2 94 7).toInt ∧ zSl x1) (f aa x0 ((mI S2 97) x0.toNatClampNeg) (mI S 68 x0.toNatClampNeg).toInt64 x1) aa) (qIf (0 ≤ x0.toInt ∧ x0.toInt < (mI S 64 7).toInt ∧ zSl x1) (f (aT P S) x0 (mI S 67 x0.toNatClampNeg) (mI S 68 x0.toNatClampNeg).toInt64 x1) (aT P S)) := by
  have e7 : mI S2 94 7 = mI S 64 7 := (hc.2.1 94 7 (by decide) (by decide)).trans H.2.2.2.1.symm
  rw [e7]
  refine q_if Iff.rfl (fun w => ?_) hq
  have q := lw_ki H w.1 w.2.1
  have b := ra_97 H.2.1.1 q.1
  rw [hc.2.1 97 _ (by decide) (by decide), ← q.2.1]
  rw [← q.2.1] at b
  exact hf _ _ b.1 (by omega) w.2.2
theorem lw_mk0 (H : zLw C0 Z0 T S) (hc : zCl S S2) {x0 x1 : Int32} (hq : zQ aa (aT 79 S)) (hI : qI aa) : zQ (qIf (0 ≤ x0.toInt ∧ x0.toInt < (mI S2 94 7).toInt ∧ zSl x1) (sMk aa x0 ((mI S2 97) x0.toNatClampNeg) (mI S 68 x0.toNatClampNeg).toInt64 x1) aa) (qIf (0 ≤ x0.toInt ∧ x0.toInt < (mI S 64 7).toInt ∧ zSl x1) (sMk (aT 79 S) x0 (mI S 67 x0.toNatClampNeg) (mI S 68 x0.toNatClampNeg).toInt64 x1) (aT 79 S)) := lw_mkq (f := sMk) H hc hq (fun w L _ _ _ => (Q_smk hq hI (Q_80 hq)).1)
theorem lw_mk4 (H : zLw C0 Z0 T S) (hc : zCl S S2) {x0 x1 : Int32} (hq : zQ aa (aT 84 S)) (hI : qI aa) (hv : cV aa [] (T : Int)) : zQ (qIf (0 ≤ x0.toInt ∧ x0.toInt < (mI S2 94 7).toInt ∧ zSl x1) (kMk aa x0 ((mI S2 97) x0.toNatClampNeg) (mI S 68 x0.toNatClampNeg).toInt64 x1) aa) (qIf (0 ≤ x0.toInt ∧ x0.toInt < (mI S 64 7).toInt ∧ zSl x1) (kMk (aT 84 S) x0 (mI S 67 x0.toNatClampNeg) (mI S 68 x0.toNatClampNeg).toInt64 x1) (aT 84 S)) := lw_mkq (f := kMk) H hc hq (fun w L h0 h6 hs => (Q_kmk hq hI hv (by omega) h0 h6 hs.1 hs.2).1)
theorem lw_rwq {x0 x1 x2 : Int32} {f : (Nat → Nat → Int32) → Int32 → Int32 → Int64 → Int32 → Nat → Nat → Int32} (hq : zQ aa (aT P S)) (hf : ∀ (k w : Int32) (L : Int64), 0 ≤ w.toInt → w.toInt ≤ 60 → zSl x2 → zQ (f aa k w L x2) (f (aT P S) k w L x2)) : zQ (qIf (0 ≤ x1.toInt ∧ x1.toInt ≤ 60 ∧ zSl x2) (if x0 = 0 then f aa 17 x1 0 x2 else f aa 16 x1 (-1) x2) aa) (qIf (0 ≤ x1.toInt ∧ x1.toInt ≤ 60 ∧ zSl x2) (if x0 = 0 then f (aT P S) 17 x1 0 x2 else f (aT P S) 16 x1 (-1) x2) (aT P S)) := by
  refine q_if Iff.rfl (fun w => ?_) hq
  by_cases q : x0 = 0
  · rw [if_pos q, if_pos q]
    exact hf _ _ _ w.1 w.2.1 w.2.2
  · rw [if_neg q, if_neg q]
    exact hf _ _ _ w.1 w.2.1 w.2.2
theorem lw_rw0 {x0 x1 x2 : Int32} (hq : zQ aa (aT 79 S)) (hI : qI aa) : zQ (qIf (0 ≤ x1.toInt ∧ x1.toInt ≤ 60 ∧ zSl x2) (if x0 = 0 then sMk aa 17 x1 0 x2 else sMk aa 16 x1 (-1) x2) aa) (qIf (0 ≤ x1.toInt ∧ x1.toInt ≤ 60 ∧ zSl x2) (if x0 = 0 then sMk (aT 79 S) 17 x1 0 x2 else sMk (aT 79 S) 16 x1 (-1) x2) (aT 79 S)) := lw_rwq (f := sMk) hq (fun _ _ _ _ _ _ => (Q_smk hq hI (Q_80 hq)).1)
theorem lw_rw4 {x0 x1 x2 : Int32} (hq : zQ aa (aT 84 S)) (hI : qI aa) (hv : cV aa [] (T : Int)) : zQ (qIf (0 ≤ x1.toInt ∧ x1.toInt ≤ 60 ∧ zSl x2) (if x0 = 0 then kMk aa 17 x1 0 x2 else kMk aa 16 x1 (-1) x2) aa) (qIf (0 ≤ x1.toInt ∧ x1.toInt ≤ 60 ∧ zSl x2) (if x0 = 0 then kMk (aT 84 S) 17 x1 0 x2 else kMk (aT 84 S) 16 x1 (-1) x2) (aT 84 S)) := lw_rwq (f := kMk) hq (fun _ _ _ h0 h6 hs => (Q_kmk hq hI hv (by omega) h0 h6 hs.1 hs.2).1)
/-- all is kept -/
theorem kp_mo2 (H : zLw C0 Z0 T S) (hc : zCl S S2) (ho : ∀ c k, c < 94 ∨ 124 < c → m' c k = mI S2 c k) (hH : zKp S S2) (n87 : mR S 64 11 ≠ some 87) (fy : ∀ aa, zRz (mI S2) aa → zRz m' aa) (fx : ∀ aa, zRk (mI S2) aa → zRk m' aa) : zMod (T + 1) S (zst S2 m') := by
  refine ⟨fun e => absurd e n87, fun e => ?_, fun e => ?_⟩
  · obtain ⟨hB, aa, hq, hz⟩ := H.2.2.2.2.2.2.2.2.2.2.2.2.1.2.1 e
    exact s0_st hc (hH.2.1 hB) ho (by rw [hH.2.2.1]; exact hq) (fy aa (zz_tr hz hc.2.1))
  · obtain ⟨hB, hC, aa, hq, hz, hk⟩ := H.2.2.2.2.2.2.2.2.2.2.2.2.1.2.2 e
    exact s4_st hc (hH.2.1 hB) ho (by rw [hH.2.2.2.1, hH.2.2.2.2]; exact C_T (C_up hC)) (by rw [hH.2.2.2.1]; exact hq) (fy aa (zz_tr hz hc.2.1)) (fx aa (zk_tr hk hc.2.1))
theorem kp_mod (H : zLw C0 Z0 T S) (hc : zCl S S2) (ho : ∀ c k, c < 94 ∨ 124 < c → m' c k = mI S2 c k) (hH : zKp S S2) (fz : ∀ aa, zR5 (mI S2) aa → zR5 m' aa) (fy : ∀ aa, zRz (mI S2) aa → zRz m' aa) (fx : ∀ aa, zRk (mI S2) aa → zRk m' aa) : zMod (T + 1) S (zst S2 m') := by
  by_cases e : mR S 64 11 = some 87
  · obtain ⟨hB, aa, hsm, hz⟩ := H.2.2.2.2.2.2.2.2.2.2.2.2.1.1 e
    exact md_87 e (s5_st hc (hH.2.1 hB) ho (by rw [hH.1]; exact hsm) (fz aa (z5_tr hz hc.2.1)))
  · exact kp_mo2 H hc ho hH e fy fx
theorem bk_mod (H : zLw C0 Z0 T S) (hc : zCl S S2) (ho : ∀ c k, c < 94 ∨ 124 < c → m' c k = mI S2 c k) (k87 : mR S 64 11 = some 87 → xB S2 (mR S2 70) ∧ aS 88 S2 = aS 88 S) (k79 : mR S 64 11 = some 79 → xB S2 (mR S2 70) ∧ aT 79 S2 = aT 79 S) (k84 : mR S 64 11 = some 84 → xB S2 (mR S2 70) ∧ aT 84 S2 = aT 84 S ∧ cC (aT 84 S2) [] (kC S2) (T : Int)) (fz : ∀ aa, zR5 (mI S2) aa → zR5 m' aa) (fy : ∀ aa, zRz (mI S2) aa → zRz m' aa) (fx : ∀ aa, zRk (mI S2) aa → zRk m' aa) : zMod (T + 1) S (zst S2 m') := by
  refine ⟨fun e => ?_, fun e => ?_, fun e => ?_⟩
  · obtain ⟨hB, aa, hsm, hz⟩ := H.2.2.2.2.2.2.2.2.2.2.2.2.1.1 e
    exact s5_st hc (k87 e).1 ho (by rw [(k87 e).2]; exact hsm) (fz aa (z5_tr hz hc.2.1))
  · obtain ⟨hB, aa, hq, hz⟩ := H.2.2.2.2.2.2.2.2.2.2.2.2.1.2.1 e
    exact s0_st hc (k79 e).1 ho (by rw [(k79 e).2]; exact hq) (fy aa (zz_tr hz hc.2.1))
  · obtain ⟨hB, hC, aa, hq, hz, hk⟩ := H.2.2.2.2.2.2.2.2.2.2.2.2.1.2.2 e
    exact s4_st hc (k84 e).1 ho (C_T (C_up (k84 e).2.2)) (by rw [(k84 e).2.1]; exact hq) (fy aa (zz_tr hz hc.2.1)) (fx aa (zk_tr hk hc.2.1))
/-- block -/
theorem By_q {a b : Nat → Nat → Int32} {i pa v : Int32} (h : zQ a b) (w : zBy b i pa v) : zBy a i pa v := by
  unfold zBy at w ⊢
  rw [BT_q h, E_q h]
  exact w
theorem of_q {a b : Nat → Nat → Int32} (h : zOf a b) : zQ a b := fun c k h1 h2 h3 _ => h c k h1 h2 h3
theorem bk_of (H : zLw C0 Z0 T S) (hc : zCl S S2) {x0 x1 v : Int32} (hw : mR S 64 11 = some 87 ∨ mR S 64 11 = some 79 ∨ mR S 64 11 = some 84) (b87 : mR S 64 11 = some 87 → zBy (aS 88 S) x0 x1 v) (b79 : mR S 64 11 = some 79 → zBy (aT 79 S) x0 x1 v) (b84 : mR S 64 11 = some 84 → zBy (aT 84 S) x0 x1 v) : ∃ bb, zRz (mI S2) bb ∧ (mI S2 94 8).toInt = 1 ∧ ((mI S2 94 10).toInt = 0 ∨ (mI S2 94 10).toInt = 4 ∨ (mI S2 94 10).toInt = 5) ∧ zBy bb x0 x1 v := by
  rcases hw with e | e | e
  · obtain ⟨hB, aa, hsm, hz⟩ := H.2.2.2.2.2.2.2.2.2.2.2.2.1.1 e
    have e5 := e5_of H hc e
    exact ⟨aa, z5_z (z5_tr hz hc.2.1), e5.1, Or.inr (Or.inr e5.2), By_q (of_q (Of_sy hsm.1)) (b87 e)⟩
  · obtain ⟨hB, aa, hq, hz⟩ := H.2.2.2.2.2.2.2.2.2.2.2.2.1.2.1 e
    have e5 := e0_of H hc e
    exact ⟨aa, zz_tr hz hc.2.1, e5.1, Or.inl e5.2, By_q hq (b79 e)⟩
  · obtain ⟨hB, hC, aa, hq, hz, hk⟩ := H.2.2.2.2.2.2.2.2.2.2.2.2.1.2.2 e
    have e5 := e4_of H hc e
    exact ⟨aa, zz_tr hz hc.2.1, e5.1, Or.inr (Or.inl e5.2), By_q hq (b84 e)⟩
theorem bl_y {a : Nat → Nat → Int32} {i pa v th v2 : Int32} (h : zBy a i pa v) (hb : qBl a i pa th v2) : th.toInt = 0 ∧ v2.toInt = v.toInt := by
  rcases hb with w | w | w
  · exact absurd h.1 w.1
  · exact absurd (qE w.2.1) h.2.1
  · refine ⟨w.2.2.1, ?_⟩
    rcases w.2.2.2 with q | q
    · rcases h.2.2 with z | z
      · rw [qE q.2, z.2]
      · exfalso
        have := q.1
        have := z.1
        omega
    · rcases h.2.2 with z | z
      · exfalso
        have := q.1
        have := z.1
        omega
      · rw [qE q.2, z.2]
theorem bl_x {a : Nat → Nat → Int32} {i pa th v2 : Int32} (h : ¬ (0 ≤ pa.toInt ∧ pa.toInt ≤ 1)) (hb : qBl a i pa th v2) : th.toInt = 1 := by
  rcases hb with w | w | w
  · exact w.2
  · exact absurd w.1 h
  · exact absurd w.1 h
theorem bl_z {a : Nat → Nat → Int32} {i pa th v2 : Int32} (h : 0 ≤ pa.toInt ∧ pa.toInt ≤ 1) (h2 : qBT a i = -1) (hb : qBl a i pa th v2) : th.toInt = 4 := by
  rcases hb with w | w | w
  · exact absurd h w.1
  · exact w.2.2
  · exact absurd h2 w.2.1
theorem bk_ox (H : zLw C0 Z0 T S) (hc : zCl S S2) {x0 x1 v : Int32} (hw : mR S 64 11 = some 87 ∨ mR S 64 11 = some 79 ∨ mR S 64 11 = some 84) (hv : (v = 1 ∧ ¬ (0 ≤ x1.toInt ∧ x1.toInt ≤ 1)) ∨ (v = 4 ∧ (0 ≤ x1.toInt ∧ x1.toInt ≤ 1) ∧ (mR S 64 11 = some 87 ∨ mR S 64 11 = some 79 ∨ mR S 64 11 = some 84) ∧ (mR S 64 11 = some 87 → qBT (aS 88 S) x0 = -1) ∧ (mR S 64 11 = some 79 → qBT (aT 79 S) x0 = -1) ∧ (mR S 64 11 = some 84 → qBT (aT 84 S) x0 = -1)) ∨ (v = 2 ∧ mR S 64 11 = none ∧ 0 ≤ x1.toInt ∧ x1.toInt ≤ 1) ∨ (v = 3 ∧ mR S 64 11 ≠ none ∧ mR S 64 11 ≠ some 79 ∧ mR S 64 11 ≠ some 84 ∧ mR S 64 11 ≠ some 87 ∧ 0 ≤ x1.toInt ∧ x1.toInt ≤ 1)) : ∃ bb, zRz (mI S2) bb ∧ (mI S2 94 8).toInt = 1 ∧ ((mI S2 94 10).toInt = 0 ∨ (mI S2 94 10).toInt = 4 ∨ (mI S2 94 10).toInt = 5) ∧ ((v = 1 ∧ ¬ (0 ≤ x1.toInt ∧ x1.toInt ≤ 1)) ∨ (v = 4 ∧ (0 ≤ x1.toInt ∧ x1.toInt ≤ 1) ∧ qBT bb x0 = -1)) := by
  rcases hw with e | e | e
  · obtain ⟨hB, aa, hsm, hz⟩ := H.2.2.2.2.2.2.2.2.2.2.2.2.1.1 e
    have e5 := e5_of H hc e
    refine ⟨aa, z5_z (z5_tr hz hc.2.1), e5.1, Or.inr (Or.inr e5.2), ?_⟩
    rcases hv with w | w | w | w
    · exact Or.inl w
    · exact Or.inr ⟨w.1, w.2.1, (BT_q (of_q (Of_sy hsm.1))).trans (w.2.2.2.1 e)⟩
    · exact absurd (e.symm.trans w.2.1) (by decide)
    · exact absurd e w.2.2.2.2.1
  · obtain ⟨hB, aa, hq, hz⟩ := H.2.2.2.2.2.2.2.2.2.2.2.2.1.2.1 e
    have e5 := e0_of H hc e
    refine ⟨aa, zz_tr hz hc.2.1, e5.1, Or.inl e5.2, ?_⟩
    rcases hv with w | w | w | w
    · exact Or.inl w
    · exact Or.inr ⟨w.1, w.2.1, (BT_q hq).trans (w.2.2.2.2.1 e)⟩
    · exact absurd (e.symm.trans w.2.1) (by decide)
    · exact absurd e w.2.2.1
  · obtain ⟨hB, hC, aa, hq, hz, hk⟩ := H.2.2.2.2.2.2.2.2.2.2.2.2.1.2.2 e
    have e5 := e4_of H hc e
    refine ⟨aa, zz_tr hz hc.2.1, e5.1, Or.inr (Or.inl e5.2), ?_⟩
    rcases hv with w | w | w | w
    · exact Or.inl w
    · exact Or.inr ⟨w.1, w.2.1, (BT_q hq).trans (w.2.2.2.2.2 e)⟩
    · exact absurd (e.symm.trans w.2.1) (by decide)
    · exact absurd e w.2.2.2.1
theorem bk_n (H : zLw C0 Z0 T S) (hc : zCl S S2) (n87 : mR S 64 11 ≠ some 87) (n79 : mR S 64 11 ≠ some 79) (n84 : mR S 64 11 ≠ some 84) : (mI S2 94 8).toInt ≠ 0 → (mI S2 94 10).toInt ≠ 0 ∧ (mI S2 94 10).toInt ≠ 4 ∧ (mI S2 94 10).toInt ≠ 5 := by
  rw [hc.2.1 94 8 (by decide) (by decide), hc.2.1 94 10 (by decide) (by decide)]
  exact fun w => ⟨fun z => n79 (H.2.2.2.2.2.2.2.2.2.2.1.mpr ⟨w, z⟩), fun z => n84 (H.2.2.2.2.2.2.2.2.2.2.2.1.mpr ⟨w, z⟩), fun z => n87 (H.2.2.2.2.2.2.2.2.2.1.mpr ⟨w, z⟩)⟩
/-- a heap that is opened -/
theorem op_q {a8 : Nat → Nat → Int32} {u : Nat → Int32} (ha : aS 88 S2 = aFg a8) (e0 : zfP P (mI S2) 0 = u 0) (e1 : zfP P (mI S2) 1 = u 1) (e2 : zfP P (mI S2) 2 = 0) : zQ (aO2 (aFg a8) u) (aT P S2) := by
  refine Q_of (fun c k h1 h2 h3 h4 => ?_) (fun k hk => ?_)
  · rw [T_88 c k h1 h2 h3 h4, ha]
    unfold aO2 aO1
    rw [xu_o (by omega), xu_o (by omega), xu_o (by omega), xu_o (by omega), xu_o (by omega), xu_o (by omega)]
  · have k4 : k = 0 ∨ k = 1 ∨ k = 2 ∨ k = 8 := by omega
    rcases k4 with w | w | w | w
    · rw [w, T_7, e0]
      rfl
    · rw [w, T_7, e1]
      rfl
    · rw [w, T_7, e2]
      rfl
    · rw [w, T_8]
      rfl
theorem op_c {K : Nat → Int32} (hz : zRz m' bb) (hq : zQ bb (aT 84 S2)) (h9 : ∀ s : Nat, s < 3100 → m' 99 s = 0) (h2 : ∀ s : Nat, (s : Int) < 16 → (m' 112 s).toInt < 0) (f55 : (m' 94 55).toInt = 0) : cC (aT 84 S2) [] K ((T + 1 : Nat) : Int) := by
  have o := Q_8 hq
  have al : ∀ n, ¬ xAl bb n := fun n w => by
    obtain ⟨s, hs, hu, _⟩ := hz.1.1.2.2 n w.1 w.2
    exact hu (h9 s hs)
  have al2 : ∀ n, ¬ xAl (aT 84 S2) n := fun n w => by
    rw [← o8_al o] at w
    exact al n w
  refine C0_mk (cQ_I (I_q hq hz.2.1 T_6)) ⟨fun k hk => ?_, fun k hk => ?_, fun u j w => absurd w.1 (al2 u)⟩ (fun n w => absurd w (al2 n)) ?_ (fun n w => absurd w (al2 n))
  · rw [← O8_c (c := 72) o (by decide) (by decide) (by decide) (by decide), (hz.1.2.2.1 k hk).2, No_n (h2 k (by omega))]
    exact Or.inl (by decide)
  · rw [← O8_c (c := 69) o (by decide) (by decide) (by decide) (by decide), hz.1.2.2.2.2.1.1, f55] at hk
    omega
  · rw [← O8_c (c := 69) o (by decide) (by decide) (by decide) (by decide), hz.1.2.2.2.2.1.1, f55]
    omega
theorem z5_fr {S2 : ma_S} {m' aa : Nat → Nat → Int32} (H : zR5 (mI S2) aa) (hu : ∀ c k, (c = 98 ∨ c = 100 ∨ c = 101 ∨ c = 102 ∨ c = 103 ∨ c = 105 ∨ c = 107 ∨ c = 108 ∨ c = 109 ∨ c = 114 ∨ c = 106 ∨ c = 115) → m' c k = mI S2 c k) (hf : (m' 99) = (mI S2 99) ∧ (m' 111) = (mI S2 111) ∧ (m' 112) = (mI S2 112) ∧ (m' 113) = (mI S2 113) ∧ (m' 94 8) = (mI S2 94 8) ∧ (m' 94 10) = (mI S2 94 10) ∧ (m' 94 11) = (mI S2 94 11) ∧ (m' 94 12) = (mI S2 94 12) ∧ (m' 94 17) = (mI S2 94 17) ∧ (m' 94 9) = (mI S2 94 9) ∧ (m' 94 45) = (mI S2 94 45) ∧ (m' 94 46) = (mI S2 94 46) ∧ (m' 94 55) = (mI S2 94 55) ∧ (m' 94 56) = (mI S2 94 56) ∧ (m' 94 57) = (mI S2 94 57) ∧ (m' 94 58) = (mI S2 94 58) ∧ (m' 94 62) = (mI S2 94 62)) : zR5 m' aa := by
  obtain ⟨r99, r111, r112, r113, f8, f10, f11, f12, f17, f9, f45, f46, f55, f56, f57, f58, f62⟩ := hf
  have e98 : m' 98 = mI S2 98 := funext (fun k => hu 98 k (by decide))
  have e99 : m' 99 = mI S2 99 := r99
  have e100 : m' 100 = mI S2 100 := funext (fun k => hu 100 k (by decide))
  have e101 : m' 101 = mI S2 101 := funext (fun k => hu 101 k (by decide))
  have e102 : m' 102 = mI S2 102 := funext (fun k => hu 102 k (by decide))
  have e103 : m' 103 = mI S2 103 := funext (fun k => hu 103 k (by decide))
  have e106 : m' 106 = mI S2 106 := funext (fun k => hu 106 k (by decide))
  have e107 : m' 107 = mI S2 107 := funext (fun k => hu 107 k (by decide))
  have e108 : m' 108 = mI S2 108 := funext (fun k => hu 108 k (by decide))
  have e109 : m' 109 = mI S2 109 := funext (fun k => hu 109 k (by decide))
  have e111 : m' 111 = mI S2 111 := r111
  have e112 : m' 112 = mI S2 112 := r112
  have e113 : m' 113 = mI S2 113 := r113
  have e114 : m' 114 = mI S2 114 := funext (fun k => hu 114 k (by decide))
  have e115 : m' 115 = mI S2 115 := funext (fun k => hu 115 k (by decide))
  unfold zR5 at H ⊢
  rw [e98, e99, e100, e101, e102, e103, e106, e107, e108, e109, e111, e112, e113, e114, e115, f9, f11, f12, f17, f45, f46, f55, f56, f57, f58, f62]
  exact H
theorem zz_fr {S2 : ma_S} {m' aa : Nat → Nat → Int32} (H : zRz (mI S2) aa) (hu : ∀ c k, (c = 98 ∨ c = 100 ∨ c = 101 ∨ c = 102 ∨ c = 103 ∨ c = 105 ∨ c = 107 ∨ c = 108 ∨ c = 109 ∨ c = 114 ∨ c = 106 ∨ c = 115) → m' c k = mI S2 c k) (hf : (m' 99) = (mI S2 99) ∧ (m' 111) = (mI S2 111) ∧ (m' 112) = (mI S2 112) ∧ (m' 113) = (mI S2 113) ∧ (m' 94 8) = (mI S2 94 8) ∧ (m' 94 10) = (mI S2 94 10) ∧ (m' 94 11) = (mI S2 94 11) ∧ (m' 94 12) = (mI S2 94 12) ∧ (m' 94 17) = (mI S2 94 17) ∧ (m' 94 9) = (mI S2 94 9) ∧ (m' 94 45) = (mI S2 94 45) ∧ (m' 94 46) = (mI S2 94 46) ∧ (m' 94 55) = (mI S2 94 55) ∧ (m' 94 56) = (mI S2 94 56) ∧ (m' 94 57) = (mI S2 94 57) ∧ (m' 94 58) = (mI S2 94 58) ∧ (m' 94 62) = (mI S2 94 62)) : zRz m' aa := by
  obtain ⟨r99, r111, r112, r113, f8, f10, f11, f12, f17, f9, f45, f46, f55, f56, f57, f58, f62⟩ := hf
  have e98 : m' 98 = mI S2 98 := funext (fun k => hu 98 k (by decide))
  have e99 : m' 99 = mI S2 99 := r99
  have e100 : m' 100 = mI S2 100 := funext (fun k => hu 100 k (by decide))
  have e101 : m' 101 = mI S2 101 := funext (fun k => hu 101 k (by decide))
  have e102 : m' 102 = mI S2 102 := funext (fun k => hu 102 k (by decide))
  have e103 : m' 103 = mI S2 103 := funext (fun k => hu 103 k (by decide))
  have e107 : m' 107 = mI S2 107 := funext (fun k => hu 107 k (by decide))
  have e108 : m' 108 = mI S2 108 := funext (fun k => hu 108 k (by decide))
  have e109 : m' 109 = mI S2 109 := funext (fun k => hu 109 k (by decide))
  have e111 : m' 111 = mI S2 111 := r111
  have e112 : m' 112 = mI S2 112 := r112
  have e113 : m' 113 = mI S2 113 := r113
  have e114 : m' 114 = mI S2 114 := funext (fun k => hu 114 k (by decide))
  unfold zRz at H ⊢
  rw [e98, e99, e100, e101, e102, e103, e107, e108, e109, e111, e112, e113, e114, f9, f11, f12, f17, f45, f46, f55, f58, f62]
  exact H
theorem zk_fr {S2 : ma_S} {m' aa : Nat → Nat → Int32} (H : zRk (mI S2) aa) (hu : ∀ c k, (c = 98 ∨ c = 100 ∨ c = 101 ∨ c = 102 ∨ c = 103 ∨ c = 105 ∨ c = 107 ∨ c = 108 ∨ c = 109 ∨ c = 114 ∨ c = 106 ∨ c = 115) → m' c k = mI S2 c k) (hf : (m' 99) = (mI S2 99) ∧ (m' 111) = (mI S2 111) ∧ (m' 112) = (mI S2 112) ∧ (m' 113) = (mI S2 113) ∧ (m' 94 8) = (mI S2 94 8) ∧ (m' 94 10) = (mI S2 94 10) ∧ (m' 94 11) = (mI S2 94 11) ∧ (m' 94 12) = (mI S2 94 12) ∧ (m' 94 17) = (mI S2 94 17) ∧ (m' 94 9) = (mI S2 94 9) ∧ (m' 94 45) = (mI S2 94 45) ∧ (m' 94 46) = (mI S2 94 46) ∧ (m' 94 55) = (mI S2 94 55) ∧ (m' 94 56) = (mI S2 94 56) ∧ (m' 94 57) = (mI S2 94 57) ∧ (m' 94 58) = (mI S2 94 58) ∧ (m' 94 62) = (mI S2 94 62)) : zRk m' aa := by
  obtain ⟨r99, r111, r112, r113, f8, f10, f11, f12, f17, f9, f45, f46, f55, f56, f57, f58, f62⟩ := hf
  have e99 : m' 99 = mI S2 99 := r99
  have e100 : m' 100 = mI S2 100 := funext (fun k => hu 100 k (by decide))
  have e105 : m' 105 = mI S2 105 := funext (fun k => hu 105 k (by decide))
  unfold zRk at H ⊢
  rw [e99, e100, e105]
  exact H
theorem kp_zz {S2 : ma_S} {m' : Nat → Nat → Int32} (hf : (m' 98) = (mI S2 98) ∧ (m' 99) = (mI S2 99) ∧ (m' 100) = (mI S2 100) ∧ (m' 101) = (mI S2 101) ∧ (m' 102) = (mI S2 102) ∧ (m' 103) = (mI S2 103) ∧ (m' 105) = (mI S2 105) ∧ (m' 107) = (mI S2 107) ∧ (m' 108) = (mI S2 108) ∧ (m' 109) = (mI S2 109) ∧ (m' 111) = (mI S2 111) ∧ (m' 112) = (mI S2 112) ∧ (m' 113) = (mI S2 113) ∧ (m' 114) = (mI S2 114) ∧ (m' 94 55) = (mI S2 94 55) ∧ (m' 94 46) = (mI S2 94 46) ∧ (m' 94 11) = (mI S2 94 11) ∧ (m' 94 12) = (mI S2 94 12) ∧ (m' 94 62) = (mI S2 94 62) ∧ (m' 94 17) = (mI S2 94 17) ∧ (m' 94 9) = (mI S2 94 9) ∧ (m' 94 58) = (mI S2 94 58) ∧ (m' 94 45) = (mI S2 94 45)) : ∀ aa, zRz (mI S2) aa → zRz m' aa := by
  intro aa H
  obtain ⟨r98,r99,r100,r101,r102,r103,r105,r107,r108,r109,r111,r112,r113,r114, f55,f46,f11,f12,f62,f17,f9,f58,f45⟩ := hf
  unfold zRz at H ⊢
  rw [r98, r99, r100, r101, r102, r103, r107, r108, r109, r111, r112, r113, r114, f9, f11, f12, f17, f45, f46, f55, f58, f62]
  exact H
theorem kp_zk {S2 : ma_S} {m' : Nat → Nat → Int32} (hf : (m' 98) = (mI S2 98) ∧ (m' 99) = (mI S2 99) ∧ (m' 100) = (mI S2 100) ∧ (m' 101) = (mI S2 101) ∧ (m' 102) = (mI S2 102) ∧ (m' 103) = (mI S2 103) ∧ (m' 105) = (mI S2 105) ∧ (m' 107) = (mI S2 107) ∧ (m' 108) = (mI S2 108) ∧ (m' 109) = (mI S2 109) ∧ (m' 111) = (mI S2 111) ∧ (m' 112) = (mI S2 112) ∧ (m' 113) = (mI S2 113) ∧ (m' 114) = (mI S2 114) ∧ (m' 94 55) = (mI S2 94 55) ∧ (m' 94 46) = (mI S2 94 46) ∧ (m' 94 11) = (mI S2 94 11) ∧ (m' 94 12) = (mI S2 94 12) ∧ (m' 94 62) = (mI S2 94 62) ∧ (m' 94 17) = (mI S2 94 17) ∧ (m' 94 9) = (mI S2 94 9) ∧ (m' 94 58) = (mI S2 94 58) ∧ (m' 94 45) = (mI S2 94 45)) : ∀ aa, zRk (mI S2) aa → zRk m' aa := by
  intro aa H
  obtain ⟨r98,r99,r100,r101,r102,r103,r105,r107,r108,r109,r111,r112,r113,r114, f55,f46,f11,f12,f62,f17,f9,f58,f45⟩ := hf
  unfold zRk at H ⊢
  rw [r99, r100, r105]
  exact H
theorem sim_hp {r' : Nat → Nat → Option Nat} (H : zLw C0 Z0 T S) (hc : zCl S S2) (hp : mR S2 64 11 = r' 64 11) (hV : zV m') (ho : ∀ c k, c < 94 ∨ 124 < c → m' c k = mI S2 c k)
    (hoc : (zAns (mI S 65) (mI S 64 1).toInt < 0 ∧ r' 64 11 = mR S 64 11 ∧ zFm (mI S) (mL S) (mR S 70) S2) ∨ (0 ≤ zAns (mI S 65) (mI S 64 1).toInt ∧ ((qPo (mI S 65) (mI S 64 1).toInt = 0 ∧ r' 64 11 = some 79 ∧ xB S2 (mR S2 70) ∧ aS 88 S2 = aFg (aS 88 S) ∧ zfP 79 (mI S2) 2 = 0 ∧ (zfP 79 (mI S2) 0).toInt = zVal (mI S 65) (mI S 64 1).toInt 0 1 ∧ (zfP 79 (mI S2) 1).toInt = zVal (mI S 65) (mI S 64 1).toInt 6 2) ∨ (qPo (mI S 65) (mI S 64 1).toInt = 4 ∧ r' 64 11 = some 84 ∧ xB S2 (mR S2 70) ∧ aS 88 S2 = aFg (aS 88 S) ∧ zfP 84 (mI S2) 2 = 0 ∧ (zfP 84 (mI S2) 0).toInt = zVal (mI S 65) (mI S 64 1).toInt 0 1 ∧ (zfP 84 (mI S2) 1).toInt = zVal (mI S 65) (mI S 64 1).toInt 6 2) ∨ (qPo (mI S 65) (mI S 64 1).toInt = 5 ∧ r' 64 11 = some 87 ∧ xB S2 (mR S2 70) ∧ ∃ t : Nat → Int32, aS 88 S2 = aO2 (aFg (aS 88 S)) t ∧ (t 0).toInt = zVal (mI S 65) (mI S 64 1).toInt 0 1 ∧ (t 1).toInt = zVal (mI S 65) (mI S 64 1).toInt 6 2 ∧ (t 2).toInt = zVal (mI S 65) (mI S 64 1).toInt 3 3 ∧ (t 3).toInt = zVal (mI S 65) (mI S 64 1).toInt 7 4) ∨ ((qPo (mI S 65) (mI S 64 1).toInt ≠ 0 ∧ qPo (mI S 65) (mI S 64 1).toInt ≠ 4 ∧ qPo (mI S 65) (mI S 64 1).toInt ≠ 5) ∧ r' 64 11 ≠ some 79 ∧ r' 64 11 ≠ some 84 ∧ r' 64 11 ≠ some 87 ∧ r' 64 11 ≠ none))))
    (hoq : ((zAns (mI S2 95) (mI S2 94 3).toInt) < 0 ∧ (m' 99) = (mI S2 99) ∧ (m' 111) = (mI S2 111) ∧ (m' 112) = (mI S2 112) ∧ (m' 113) = (mI S2 113) ∧ (m' 94 8) = (mI S2 94 8) ∧ (m' 94 10) = (mI S2 94 10) ∧ (m' 94 11) = (mI S2 94 11) ∧ (m' 94 12) = (mI S2 94 12) ∧ (m' 94 17) = (mI S2 94 17) ∧ (m' 94 9) = (mI S2 94 9) ∧ (m' 94 45) = (mI S2 94 45) ∧ (m' 94 46) = (mI S2 94 46) ∧ (m' 94 55) = (mI S2 94 55) ∧ (m' 94 56) = (mI S2 94 56) ∧ (m' 94 57) = (mI S2 94 57) ∧ (m' 94 58) = (mI S2 94 58) ∧ (m' 94 62) = (mI S2 94 62)) ∨ (0 ≤ (zAns (mI S2 95) (mI S2 94 3).toInt) ∧ (m' 94 10).toInt = qPo (mI S2 95) (mI S2 94 3).toInt ∧ (m' 94 8).toInt = 1 ∧ ((m' 94 10).toInt = 5 → ((∀ s : Nat, s < 3100 → (m' 99) s = 0) ∧ (∀ s : Nat, (s : Int) < 16 → ((m' 112) s).toInt < 0) ∧ (∀ s : Nat, (s : Int) < 16 → ((m' 113) s).toInt < 0) ∧ (m' 94 45).toInt = 0 ∧ (m' 94 46).toInt = 0 ∧ (m' 94 55).toInt = 0 ∧ (m' 94 58).toInt = 0 ∧ (m' 94 62).toInt = 0) ∧ qV (mI S2 95) (mI S2 94 3).toInt (m' 94 11).toInt (m' 94 12).toInt (m' 94 17).toInt (m' 94 9)) ∧ (((m' 94 10).toInt = 0 ∨ (m' 94 10).toInt = 4) → ((∀ s : Nat, s < 3100 → (m' 99) s = 0) ∧ (∀ s : Nat, (s : Int) < 16 → ((m' 112) s).toInt < 0) ∧ (∀ s : Nat, (s : Int) < 16 → ((m' 113) s).toInt < 0) ∧ (m' 94 45).toInt = 0 ∧ (m' 94 46).toInt = 0 ∧ (m' 94 55).toInt = 0 ∧ (m' 94 58).toInt = 0 ∧ (m' 94 62).toInt = 0) ∧ ((m' 94 11).toInt = zVal (mI S2 95) (mI S2 94 3).toInt 0 1 ∧ (m' 94 12).toInt = zVal (mI S2 95) (mI S2 94 3).toInt 6 2)))) (hun : ∀ c k, (c = 98 ∨ c = 100 ∨ c = 101 ∨ c = 102 ∨ c = 103 ∨ c = 105 ∨ c = 107 ∨ c = 108 ∨ c = 109 ∨ c = 114 ∨ c = 106 ∨ c = 115) → m' c k = mI S2 c k) (g17 : 0 ≤ (m' 94 17).toInt) (g27 : 0 ≤ (m' 94 27).toInt) : zSim (T + 1) (zst S2 m') := by
  have e3 : mI S2 94 3 = mI S 64 1 := (hc.2.1 94 3 (by decide) (by decide)).trans H.2.2.1.symm
  have e95 : mI S2 95 = mI S 95 := funext (fun k => hc.2.1 95 k (by decide) (by decide))
  have b := rs_94_3 H.2.1.1
  rw [← H.2.2.1] at b
  have tp : ∀ k : Nat, (k : Int) < (mI S 64 1).toInt → mI S 95 k = mI S 65 k := fun k hk => by
    rw [H.2.2.1] at hk
    exact (H.2.2.2.2.2.2.1 k hk).1.symm
  rw [e3, e95, zAns_cg tp b.1 b.2, qPo_cg tp b.1 b.2] at hoq
  have ap : mR (zst S2 m') 64 11 = r' 64 11 := hp
  have m1 : mI (zst S2 m') = m' := rfl
  rcases hoc with ⟨h1, h2, h3⟩ | ⟨h1, h2⟩
  · rcases hoq with ⟨_, hf⟩ | ⟨g1, _⟩
    · have hH := fm_kp h3 H.1.1
      have kp := kp_mod (T := T) H hc ho hH (fun aa z => z5_fr z hun hf) (fun aa z => zz_fr z hun hf) (fun aa z => zk_fr z hun hf)
      obtain ⟨r99, r111, r112, r113, f8, f10, f11, f12, f17, f9, f45, f46, f55, f56, f57, f58, f62⟩ := hf
      have a8 : m' 94 8 = mI S 94 8 := f8.trans (hc.2.1 94 8 (by decide) (by decide))
      have a10 : m' 94 10 = mI S 94 10 := f10.trans (hc.2.1 94 10 (by decide) (by decide))
      unfold zSim
      unfold zMod at kp ⊢
      rw [ap, h2, m1, a8, a10]
      exact ⟨H.2.2.2.2.2.2.2.2.1, H.2.2.2.2.2.2.2.2.2.1, H.2.2.2.2.2.2.2.2.2.2.1, H.2.2.2.2.2.2.2.2.2.2.2.1, kp, g17, g27⟩
    · omega
  · rcases hoq with ⟨g1, _⟩ | ⟨_, g2, g3, g4, g5⟩
    · omega
    · unfold zSim zMod
      rw [ap, m1, g2]
      rcases h2 with ⟨k1, k2, k3, k4, k5, k6, k7⟩ | ⟨k1, k2, k3, k4, k5, k6, k7⟩ | ⟨k1, k2, k3, t, k4, v0, v1, v2, v3⟩ | ⟨⟨p0, p4, p5⟩, q0, q4, q5, qn⟩
      · rw [k2, k1, g3]
        refine ⟨⟨fun w => absurd w (by decide), fun w => absurd w (by decide)⟩, ⟨fun w => absurd w (by decide), fun w => absurd w.2 (by decide)⟩, ⟨fun _ => ⟨by decide, rfl⟩, fun _ => rfl⟩, ⟨fun w => absurd w (by decide), fun w => absurd w.2 (by decide)⟩, ⟨fun w => absurd w (by decide), fun _ => ?_, fun w => absurd w (by decide)⟩, g17, g27⟩
        have w0 := (g5 (by omega)).2
        obtain ⟨z9, z2, z3, z45, z46, z55, z58, z62⟩ := (g5 (by omega)).1
        rw [zVal_cg tp b.1 b.2, zVal_cg (c := 6) tp b.1 b.2] at w0
        have e11 : zfP 79 (mI S2) 0 = m' 94 11 := Int32.toInt_inj.mp (k6.trans w0.1.symm)
        have e12 : zfP 79 (mI S2) 1 = m' 94 12 := Int32.toInt_inj.mp (k7.trans w0.2.symm)
        have r5 := R5_op (a8 := aS 88 S) (u := zUu m') hV (fun n k hn => by
          unfold aS aF aTr
          rw [if_neg (by omega), if_neg (by omega), if_neg (by omega), if_neg (by omega)]) z9 z2 z3 z45 z46 z55 z58 z62 g17 rfl rfl rfl rfl
        have qq : zQ (aO2 (aFg (aS 88 S)) (zUu m')) (aT 79 S2) := op_q k4 (by rw [e11]; rfl) (by rw [e12]; rfl) k5
        exact s0_st hc k3 ho qq (z5_z r5)
      · rw [k2, k1, g3]
        refine ⟨⟨fun w => absurd w (by decide), fun w => absurd w (by decide)⟩, ⟨fun w => absurd w (by decide), fun w => absurd w.2 (by decide)⟩, ⟨fun w => absurd w (by decide), fun w => absurd w.2 (by decide)⟩, ⟨fun _ => ⟨by decide, rfl⟩, fun _ => rfl⟩, ⟨fun w => absurd w (by decide), fun w => absurd w (by decide), fun _ => ?_⟩, g17, g27⟩
        have w0 := (g5 (by omega)).2
        obtain ⟨z9, z2, z3, z45, z46, z55, z58, z62⟩ := (g5 (by omega)).1
        rw [zVal_cg tp b.1 b.2, zVal_cg (c := 6) tp b.1 b.2] at w0
        have e11 : zfP 84 (mI S2) 0 = m' 94 11 := Int32.toInt_inj.mp (k6.trans w0.1.symm)
        have e12 : zfP 84 (mI S2) 1 = m' 94 12 := Int32.toInt_inj.mp (k7.trans w0.2.symm)
        have r5 := R5_op (a8 := aS 88 S) (u := zUu m') hV (fun n k hn => by
          unfold aS aF aTr
          rw [if_neg (by omega), if_neg (by omega), if_neg (by omega), if_neg (by omega)]) z9 z2 z3 z45 z46 z55 z58 z62 g17 rfl rfl rfl rfl
        have qq : zQ (aO2 (aFg (aS 88 S)) (zUu m')) (aT 84 S2) := op_q k4 (by rw [e11]; rfl) (by rw [e12]; rfl) k5
        exact s4_st hc k3 ho (op_c (z5_z r5) qq z9 z2 z55) qq (z5_z r5) (fun s hs hu => absurd (z9 s hs) hu)
      · rw [k2, k1, g3]
        refine ⟨⟨fun w => absurd w (by decide), fun w => absurd w (by decide)⟩, ⟨fun _ => ⟨by decide, rfl⟩, fun _ => rfl⟩, ⟨fun w => absurd w (by decide), fun w => absurd w.2 (by decide)⟩, ⟨fun w => absurd w (by decide), fun w => absurd w.2 (by decide)⟩, ⟨fun _ => ?_, fun w => absurd w (by decide), fun w => absurd w (by decide)⟩, g17, g27⟩
        have g5 := g4 (by rw [g2]; exact k1)
        obtain ⟨⟨z9, z2, z3, z45, z46, z55, z58, z62⟩, w0, w1, w2, w3, w4⟩ := g5
        rw [zVal_cg tp b.1 b.2] at w0 w1 w2
        refine s5_st hc k3 ho (Sm_r (by rw [k4]; rfl)) ?_
        rw [k4]
        refine R5_op hV (fun n k hn => ?_) z9 z2 z3 z45 z46 z55 z58 z62 w4 (Int32.toInt_inj.mp (v0.trans w0.symm)) (Int32.toInt_inj.mp (v1.trans w1.symm)) (Int32.toInt_inj.mp (v2.trans w2.symm)) ?_
        · unfold aS aF aTr
          rw [if_neg (by omega), if_neg (by omega), if_neg (by omega), if_neg (by omega)]
        · refine Int32.toInt_inj.mp (v3.trans ?_)
          rw [zVal_cg tp b.1 b.2] at w3
          rcases w3 with w | w
          · rw [if_neg w.1, w.2]
            rfl
          · rw [if_pos w.1, w.2]
            rfl
      · refine ⟨⟨fun w => absurd w qn, fun w => ?_⟩, ⟨fun w => absurd w q5, fun w => absurd w.2 p5⟩, ⟨fun w => absurd w q0, fun w => absurd w.2 p0⟩, ⟨fun w => absurd w q4, fun w => absurd w.2 p4⟩, ⟨fun w => absurd w q5, fun w => absurd w q0, fun w => absurd w q4⟩, g17, g27⟩
        rw [g3] at w
        exact absurd w (by decide)
end LWD
