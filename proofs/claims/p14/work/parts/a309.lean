/-! from 95.z03 -/
/-! class and reference held against each other under the moving collectors -/
/-- the class's heap has stayed, under any moving collector -/
def zKm (S S₉ : ma_S) : Prop := (xB S (mR S 70) → xB S₉ (mR S₉ 70)) ∧ aL S₉ = aL S ∧ aH S₉ = aH S ∧ aG S₉ = aG S ∧ aZ S₉ = aZ S
def zS1m (S : ma_S) : Prop := xB S (mR S 70) ∧ zN1 (mI S) (aL S)
def zS2m (S : ma_S) : Prop := xB S (mR S 70) ∧ zN2 (mI S) (aH S)
def zS3m (S : ma_S) : Prop := xB S (mR S 70) ∧ zN3 (mI S) (aG S)
def zS6m (S : ma_S) : Prop := xB S (mR S 70) ∧ zN6 (mI S) (aZ S)
section F44
variable {a b X m m₉ : Nat → Nat → Int32} {S S₉ S2 : ma_S} {f f₉ : Nat → Nat → Int32} {r r₉ : Nat → Nat → Option Nat} {C Z N C₉ Z₉ N₉ : Nat} {g : Nat → Int32}
theorem N1_of (h : zN1 m X) (o : zOf X b) : zN1 m b := by
  obtain ⟨r, i, t, k, w, z⟩ := h
  exact ⟨RB_of r o, qI_of i o, Tp_of t o, (congrFun (Of_rx (c := 87) o (by decide)) 8).trans k, w, z⟩
theorem N2_of (h : zN2 m X) (o : zOf X b) : zN2 m b := by
  obtain ⟨r, i, t, k, w, z⟩ := h
  exact ⟨RB_87o (RB_of r o), Hv_of i o, HL_of t o, (congrFun (Of_rx (c := 87) o (by decide)) 8).trans k, w, z⟩
theorem N3_of (h : zN3 m X) (o : zOf X b) : zN3 m b := by
  obtain ⟨r, i, t, u, v, k, w, z⟩ := h
  exact ⟨RB_87o (RB_of r o), Av_of i o, AL_of t o, Ag_of u o, Dt_of v o, (congrFun (Of_rx (c := 87) o (by decide)) 8).trans k, w, z⟩
theorem N6_of (h : zN6 m X) (o : zOf X b) : zN6 m b := by
  obtain ⟨r, i, t, k, w, z⟩ := h
  exact ⟨RB_87o (RB_of r o), Rv_of i o, RL_of t o, (congrFun (Of_rx (c := 87) o (by decide)) 8).trans k, w, z⟩
theorem N6_93 (h : zN6 m X) : zN6 m (zX93 X g) := by
  obtain ⟨r, i, t, k, w, z⟩ := h
  exact ⟨RB_87o (RB_93 r), Rv_93 i, RL_93 t, (congrFun (X93 (X := X) (f := g) (c := 87) (by decide)) 8).trans k, w, z⟩
/-! the collectors' own heaps -/
theorem O_cg (h : aS 75 S₉ = aS 75 S) (hr : ∀ c k, 80 ≤ c → c ≤ 93 → mI S₉ c k = mI S c k) : aL S₉ = aL S ∧ aH S₉ = aH S ∧ aG S₉ = aG S ∧ aZ S₉ = aZ S := by
  have e8 : zf8 (mI S₉) = zf8 (mI S) := funext (fun k => by
    unfold zf8
    rw [hr 80 2 (by decide) (by decide), hr 80 3 (by decide) (by decide)])
  have eH : zfH (mI S₉) = zfH (mI S) := funext (fun k => by
    unfold zfH
    rw [hr 81 2 (by decide) (by decide), hr 81 3 (by decide) (by decide), hr 81 4 (by decide) (by decide)])
  have eG : zfG (mI S₉) = zfG (mI S) := funext (fun k => by
    unfold zfG
    rw [hr 82 2 (by decide) (by decide), hr 82 3 (by decide) (by decide), hr 82 4 (by decide) (by decide), hr 82 5 (by decide) (by decide), hr 82 6 (by decide) (by decide), hr 82 7 (by decide) (by decide), hr 82 8 (by decide) (by decide)])
  have eZ : zfZ (mI S₉) = zfZ (mI S) := funext (fun k => by
    unfold zfZ
    rw [hr 91 2 (by decide) (by decide), hr 91 3 (by decide) (by decide), hr 91 4 (by decide) (by decide), hr 91 5 (by decide) (by decide)])
  refine ⟨?_, ?_, ?_, ?_⟩
  · unfold aL
    rw [e8, aM_c h]
  · unfold aH
    rw [eH, aM_c h]
  · funext c k
    unfold aG
    rw [eG, aM_c h, hr 83 k (by decide) (by decide)]
  · funext c k
    unfold aZ
    rw [eZ, aM_c h]
    by_cases w : c = 92 ∨ c = 93
    · rw [if_pos w, if_pos w, hr c k (by omega) (by omega)]
    · rw [if_neg w, if_neg w]
theorem O_zst (h : zA f r C Z N S) (ho : ∀ c k, c < 94 ∨ 124 < c → m₉ c k = mI S c k) : aL (zst S m₉) = aL S ∧ aH (zst S m₉) = aH S ∧ aG (zst S m₉) = aG S ∧ aZ (zst S m₉) = aZ S :=
  O_cg (aF_c5 ho (fun _ _ => rfl) (fun n b e => h70 (S := S) h n b e)) (fun c k _ h2 => ho c k (Or.inl (by omega)))
theorem O_o5 (h : zA f r C Z N S) {x : Int64} : aL (ma_put S 125 0 (.inr (.inl x))) = aL S ∧ aH (ma_put S 125 0 (.inr (.inl x))) = aH S ∧ aG (ma_put S 125 0 (.inr (.inl x))) = aG S ∧ aZ (ma_put S 125 0 (.inr (.inl x))) = aZ S := O_cg (S_o5 h) (fun _ _ _ _ => rfl)
theorem fm_km (h : zFm (mI S) (mL S) (mR S 70) S₉) (hA : zA f r C Z N S) : zKm S S₉ := ⟨fun b => fn9_xB h b, O_cg (fm_75 h (h70 hA)) (fun c k h1 _ => h.2.2 c k (by omega))⟩
theorem km_o5 (h : zKm S S₉) (hA : zA f₉ r₉ C₉ Z₉ N₉ S₉) {x : Int64} : zKm S (ma_put S₉ 125 0 (.inr (.inl x))) := by
  have o := O_o5 hA (x := x)
  exact ⟨fun b => h.1 b, o.1.trans h.2.1, o.2.1.trans h.2.2.1, o.2.2.1.trans h.2.2.2.1, o.2.2.2.trans h.2.2.2.2⟩
/-! both behind a call -/
theorem Of_rfl : zOf a a := fun _ _ _ _ _ => rfl
theorem s1_mst (h : zA f r C Z N S2) (hB : xB S2 (mR S2 70)) (ho : ∀ c k, c < 94 ∨ 124 < c → m₉ c k = mI S2 c k) (hq : zOf X (aL S2)) (hz : zN1 m₉ X) : zS1m (zst S2 m₉) := ⟨xB_zst hB ho, by rw [(O_zst h ho).1]; exact N1_of hz hq⟩
theorem s2_mst (h : zA f r C Z N S2) (hB : xB S2 (mR S2 70)) (ho : ∀ c k, c < 94 ∨ 124 < c → m₉ c k = mI S2 c k) (hq : zOf X (aH S2)) (hz : zN2 m₉ X) : zS2m (zst S2 m₉) := ⟨xB_zst hB ho, by rw [(O_zst h ho).2.1]; exact N2_of hz hq⟩
theorem s3_mst (h : zA f r C Z N S2) (hB : xB S2 (mR S2 70)) (ho : ∀ c k, c < 94 ∨ 124 < c → m₉ c k = mI S2 c k) (hq : zOf X (aG S2)) (hz : zN3 m₉ X) : zS3m (zst S2 m₉) := ⟨xB_zst hB ho, by rw [(O_zst h ho).2.2.1]; exact N3_of hz hq⟩
theorem s6_mst (h : zA f r C Z N S2) (hB : xB S2 (mR S2 70)) (ho : ∀ c k, c < 94 ∨ 124 < c → m₉ c k = mI S2 c k) (hq : zOf (zX93 X (mI S2 93)) (aZ S2)) (hz : zN6 m₉ X) : zS6m (zst S2 m₉) := ⟨xB_zst hB ho, by rw [(O_zst h ho).2.2.2]; exact N6_of (N6_93 hz) hq⟩
theorem s6_mst' (h : zA f r C Z N S2) (hB : xB S2 (mR S2 70)) (ho : ∀ c k, c < 94 ∨ 124 < c → m₉ c k = mI S2 c k) (hq : zOf X (aZ S2)) (hz : zN6 m₉ X) : zS6m (zst S2 m₉) := ⟨xB_zst hB ho, by rw [(O_zst h ho).2.2.2]; exact N6_of hz hq⟩
theorem s1_kp (hs : zS1m S) (hk : zKm S S2) (h : zA f r C Z N S2) (ho : ∀ c k, c < 94 ∨ 124 < c → m₉ c k = mI S2 c k) (hz : zN1 m₉ (aL S)) : zS1m (zst S2 m₉) := s1_mst h (hk.1 hs.1) ho (by rw [hk.2.1]; exact Of_rfl) hz
theorem s2_kp (hs : zS2m S) (hk : zKm S S2) (h : zA f r C Z N S2) (ho : ∀ c k, c < 94 ∨ 124 < c → m₉ c k = mI S2 c k) (hz : zN2 m₉ (aH S)) : zS2m (zst S2 m₉) := s2_mst h (hk.1 hs.1) ho (by rw [hk.2.2.1]; exact Of_rfl) hz
theorem s3_kp (hs : zS3m S) (hk : zKm S S2) (h : zA f r C Z N S2) (ho : ∀ c k, c < 94 ∨ 124 < c → m₉ c k = mI S2 c k) (hz : zN3 m₉ (aG S)) : zS3m (zst S2 m₉) := s3_mst h (hk.1 hs.1) ho (by rw [hk.2.2.2.1]; exact Of_rfl) hz
theorem s6_kp (hs : zS6m S) (hk : zKm S S2) (h : zA f r C Z N S2) (ho : ∀ c k, c < 94 ∨ 124 < c → m₉ c k = mI S2 c k) (hz : zN6 m₉ (aZ S)) : zS6m (zst S2 m₉) := s6_mst' h (hk.1 hs.1) ho (by rw [hk.2.2.2.2]; exact Of_rfl) hz
end F44
theorem n1_tr {m m₉ aa : Nat → Nat → Int32} (H : zN1 m aa) (h : ∀ c k, 94 ≤ c → c ≤ 125 → m₉ c k = m c k) : zN1 m₉ aa := by
  have e98 : m₉ 98 = m 98 := funext (fun k => h 98 k (by decide) (by decide))
  have e99 : m₉ 99 = m 99 := funext (fun k => h 99 k (by decide) (by decide))
  have e100 : m₉ 100 = m 100 := funext (fun k => h 100 k (by decide) (by decide))
  have e101 : m₉ 101 = m 101 := funext (fun k => h 101 k (by decide) (by decide))
  have e102 : m₉ 102 = m 102 := funext (fun k => h 102 k (by decide) (by decide))
  have e103 : m₉ 103 = m 103 := funext (fun k => h 103 k (by decide) (by decide))
  have e107 : m₉ 107 = m 107 := funext (fun k => h 107 k (by decide) (by decide))
  have e108 : m₉ 108 = m 108 := funext (fun k => h 108 k (by decide) (by decide))
  have e109 : m₉ 109 = m 109 := funext (fun k => h 109 k (by decide) (by decide))
  have e111 : m₉ 111 = m 111 := funext (fun k => h 111 k (by decide) (by decide))
  have e112 : m₉ 112 = m 112 := funext (fun k => h 112 k (by decide) (by decide))
  have e113 : m₉ 113 = m 113 := funext (fun k => h 113 k (by decide) (by decide))
  have e114 : m₉ 114 = m 114 := funext (fun k => h 114 k (by decide) (by decide))
  have f11 : m₉ 94 11 = m 94 11 := h 94 11 (by decide) (by decide)
  have f45 : m₉ 94 45 = m 94 45 := h 94 45 (by decide) (by decide)
  have f46 : m₉ 94 46 = m 94 46 := h 94 46 (by decide) (by decide)
  have f55 : m₉ 94 55 = m 94 55 := h 94 55 (by decide) (by decide)
  have f58 : m₉ 94 58 = m 94 58 := h 94 58 (by decide) (by decide)
  have f59 : m₉ 94 59 = m 94 59 := h 94 59 (by decide) (by decide)
  unfold zN1 at H ⊢
  rw [e98, e99, e100, e101, e102, e103, e107, e108, e109, e111, e112, e113, e114, f11, f45, f46, f55, f58, f59]
  exact H
theorem n2_tr {m m₉ aa : Nat → Nat → Int32} (H : zN2 m aa) (h : ∀ c k, 94 ≤ c → c ≤ 125 → m₉ c k = m c k) : zN2 m₉ aa := by
  have e98 : m₉ 98 = m 98 := funext (fun k => h 98 k (by decide) (by decide))
  have e99 : m₉ 99 = m 99 := funext (fun k => h 99 k (by decide) (by decide))
  have e100 : m₉ 100 = m 100 := funext (fun k => h 100 k (by decide) (by decide))
  have e101 : m₉ 101 = m 101 := funext (fun k => h 101 k (by decide) (by decide))
  have e102 : m₉ 102 = m 102 := funext (fun k => h 102 k (by decide) (by decide))
  have e103 : m₉ 103 = m 103 := funext (fun k => h 103 k (by decide) (by decide))
  have e107 : m₉ 107 = m 107 := funext (fun k => h 107 k (by decide) (by decide))
  have e108 : m₉ 108 = m 108 := funext (fun k => h 108 k (by decide) (by decide))
  have e109 : m₉ 109 = m 109 := funext (fun k => h 109 k (by decide) (by decide))
  have e111 : m₉ 111 = m 111 := funext (fun k => h 111 k (by decide) (by decide))
  have e112 : m₉ 112 = m 112 := funext (fun k => h 112 k (by decide) (by decide))
  have e113 : m₉ 113 = m 113 := funext (fun k => h 113 k (by decide) (by decide))
  have e114 : m₉ 114 = m 114 := funext (fun k => h 114 k (by decide) (by decide))
  have f11 : m₉ 94 11 = m 94 11 := h 94 11 (by decide) (by decide)
  have f45 : m₉ 94 45 = m 94 45 := h 94 45 (by decide) (by decide)
  have f46 : m₉ 94 46 = m 94 46 := h 94 46 (by decide) (by decide)
  have f55 : m₉ 94 55 = m 94 55 := h 94 55 (by decide) (by decide)
  have f58 : m₉ 94 58 = m 94 58 := h 94 58 (by decide) (by decide)
  have f59 : m₉ 94 59 = m 94 59 := h 94 59 (by decide) (by decide)
  have f61 : m₉ 94 61 = m 94 61 := h 94 61 (by decide) (by decide)
  unfold zN2 at H ⊢
  rw [e98, e99, e100, e101, e102, e103, e107, e108, e109, e111, e112, e113, e114, f11, f45, f46, f55, f58, f59, f61]
  exact H
theorem n3_tr {m m₉ aa : Nat → Nat → Int32} (H : zN3 m aa) (h : ∀ c k, 94 ≤ c → c ≤ 125 → m₉ c k = m c k) : zN3 m₉ aa := by
  have e98 : m₉ 98 = m 98 := funext (fun k => h 98 k (by decide) (by decide))
  have e99 : m₉ 99 = m 99 := funext (fun k => h 99 k (by decide) (by decide))
  have e100 : m₉ 100 = m 100 := funext (fun k => h 100 k (by decide) (by decide))
  have e101 : m₉ 101 = m 101 := funext (fun k => h 101 k (by decide) (by decide))
  have e102 : m₉ 102 = m 102 := funext (fun k => h 102 k (by decide) (by decide))
  have e103 : m₉ 103 = m 103 := funext (fun k => h 103 k (by decide) (by decide))
  have e104 : m₉ 104 = m 104 := funext (fun k => h 104 k (by decide) (by decide))
  have e107 : m₉ 107 = m 107 := funext (fun k => h 107 k (by decide) (by decide))
  have e108 : m₉ 108 = m 108 := funext (fun k => h 108 k (by decide) (by decide))
  have e109 : m₉ 109 = m 109 := funext (fun k => h 109 k (by decide) (by decide))
  have e111 : m₉ 111 = m 111 := funext (fun k => h 111 k (by decide) (by decide))
  have e112 : m₉ 112 = m 112 := funext (fun k => h 112 k (by decide) (by decide))
  have e113 : m₉ 113 = m 113 := funext (fun k => h 113 k (by decide) (by decide))
  have e114 : m₉ 114 = m 114 := funext (fun k => h 114 k (by decide) (by decide))
  have e117 : m₉ 117 = m 117 := funext (fun k => h 117 k (by decide) (by decide))
  have f13 : m₉ 94 13 = m 94 13 := h 94 13 (by decide) (by decide)
  have f14 : m₉ 94 14 = m 94 14 := h 94 14 (by decide) (by decide)
  have f15 : m₉ 94 15 = m 94 15 := h 94 15 (by decide) (by decide)
  have f16 : m₉ 94 16 = m 94 16 := h 94 16 (by decide) (by decide)
  have f45 : m₉ 94 45 = m 94 45 := h 94 45 (by decide) (by decide)
  have f46 : m₉ 94 46 = m 94 46 := h 94 46 (by decide) (by decide)
  have f55 : m₉ 94 55 = m 94 55 := h 94 55 (by decide) (by decide)
  have f58 : m₉ 94 58 = m 94 58 := h 94 58 (by decide) (by decide)
  have f59 : m₉ 94 59 = m 94 59 := h 94 59 (by decide) (by decide)
  have f60 : m₉ 94 60 = m 94 60 := h 94 60 (by decide) (by decide)
  have f61 : m₉ 94 61 = m 94 61 := h 94 61 (by decide) (by decide)
  unfold zN3 at H ⊢
  rw [e98, e99, e100, e101, e102, e103, e104, e107, e108, e109, e111, e112, e113, e114, e117, f13, f14, f15, f16, f45, f46, f55, f58, f59, f60, f61]
  exact H
theorem n6_tr {m m₉ aa : Nat → Nat → Int32} (H : zN6 m aa) (h : ∀ c k, 94 ≤ c → c ≤ 125 → m₉ c k = m c k) : zN6 m₉ aa := by
  have e98 : m₉ 98 = m 98 := funext (fun k => h 98 k (by decide) (by decide))
  have e99 : m₉ 99 = m 99 := funext (fun k => h 99 k (by decide) (by decide))
  have e100 : m₉ 100 = m 100 := funext (fun k => h 100 k (by decide) (by decide))
  have e101 : m₉ 101 = m 101 := funext (fun k => h 101 k (by decide) (by decide))
  have e102 : m₉ 102 = m 102 := funext (fun k => h 102 k (by decide) (by decide))
  have e103 : m₉ 103 = m 103 := funext (fun k => h 103 k (by decide) (by decide))
  have e107 : m₉ 107 = m 107 := funext (fun k => h 107 k (by decide) (by decide))
  have e108 : m₉ 108 = m 108 := funext (fun k => h 108 k (by decide) (by decide))
  have e109 : m₉ 109 = m 109 := funext (fun k => h 109 k (by decide) (by decide))
  have e111 : m₉ 111 = m 111 := funext (fun k => h 111 k (by decide) (by decide))
  have e112 : m₉ 112 = m 112 := funext (fun k => h 112 k (by decide) (by decide))
  have e113 : m₉ 113 = m 113 := funext (fun k => h 113 k (by decide) (by decide))
  have e114 : m₉ 114 = m 114 := funext (fun k => h 114 k (by decide) (by decide))
  have e116 : m₉ 116 = m 116 := funext (fun k => h 116 k (by decide) (by decide))
  have f18 : m₉ 94 18 = m 94 18 := h 94 18 (by decide) (by decide)
  have f19 : m₉ 94 19 = m 94 19 := h 94 19 (by decide) (by decide)
  have f45 : m₉ 94 45 = m 94 45 := h 94 45 (by decide) (by decide)
  have f46 : m₉ 94 46 = m 94 46 := h 94 46 (by decide) (by decide)
  have f55 : m₉ 94 55 = m 94 55 := h 94 55 (by decide) (by decide)
  have f58 : m₉ 94 58 = m 94 58 := h 94 58 (by decide) (by decide)
  have f63 : m₉ 94 63 = m 94 63 := h 94 63 (by decide) (by decide)
  have f64 : m₉ 94 64 = m 94 64 := h 94 64 (by decide) (by decide)
  unfold zN6 at H ⊢
  rw [e98, e99, e100, e101, e102, e103, e107, e108, e109, e111, e112, e113, e114, e116, f18, f19, f45, f46, f55, f58, f63, f64]
  exact H

/-! from 95.z04 -/
/-! a heap that was just opened, under the moving collectors -/
/-- nothing is there -/
def zEmp (a : Nat → Nat → Int32) : Prop := (∀ n, ¬ xAl a n) ∧ (∀ p : Nat, p < 4500 → a 71 p = -1) ∧ (∀ p : Nat, p < 16 → a 72 p = -1) ∧ (∀ p : Nat, p < 16 → a 73 p = -1) ∧ (∀ n k, a (1000 + n) k = 0) ∧ a 69 5 = 0 ∧ a 69 6 = 0 ∧ a 69 8 = 0
/-- the reference has nothing -/
def zEmr (m : Nat → Nat → Int32) : Prop := (∀ s : Nat, s < 3100 → m 99 s = 0) ∧ (∀ s : Nat, (s : Int) < 16 → (m 112 s).toInt < 0) ∧ (∀ s : Nat, (s : Int) < 16 → (m 113 s).toInt < 0) ∧ (m 94 45).toInt = 0 ∧ (m 94 46).toInt = 0 ∧ (m 94 55).toInt = 0 ∧ (m 94 58).toInt = 0 ∧ (m 94 62).toInt = 0
section F45
variable {a b a8 m : Nat → Nat → Int32} {ro fo le ra pi : Int32} {S₉ : ma_S}
theorem z0_i {x : Int32} (h : x.toInt = 0) : x = 0 := Int32.toInt_inj.mp h
theorem fg_o {c k : Nat} (h : c ≠ 69) (h1 : c ≠ 71) (h2 : c ≠ 72) (h3 : c ≠ 73) : aFg a8 c k = zDe a8 512 c k := by
  unfold aFg zFl
  rw [xu_o (by omega), xu_o (by omega), xu_o (by omega), xu_o (by omega), if_neg (by omega), if_neg (by omega), if_neg (by omega)]
theorem Em_fg (ha : ∀ n k, 512 ≤ n → a8 (1000 + n) k = 0) : zEmp (aFg a8) := by
  refine ⟨fun n h => h.2 ?_, fun p hp => ?_, fun p hp => ?_, fun p hp => ?_, fun n k => ?_, rfl, rfl, rfl⟩
  · have := h.1
    rw [fg_o (by decide) (by decide) (by decide) (by decide)]
    unfold zDe
    rw [if_pos (Or.inl ⟨by omega, by omega, by omega⟩)]
  · unfold aFg zFl
    rw [xu_o (by omega), xu_o (by omega), xu_o (by omega), xu_o (by omega), if_neg (by omega), if_neg (by omega), if_pos ⟨rfl, by omega⟩]
  · show (if 72 = 73 ∧ (p : Int) < 16 then (-1 : Int32) else if 72 = 72 ∧ (p : Int) < 16 then -1 else zFl (zDe a8 512) 71 (-1) 4500 72 p) = -1
    rw [if_neg (by omega), if_pos ⟨rfl, by omega⟩]
  · show (if 73 = 73 ∧ (p : Int) < 16 then (-1 : Int32) else zFl (zFl (zDe a8 512) 71 (-1) 4500) 72 (-1) 16 73 p) = -1
    rw [if_pos ⟨rfl, by omega⟩]
  · rw [fg_o (by omega) (by omega) (by omega) (by omega)]
    unfold zDe
    by_cases w : n < 512
    · rw [if_pos (Or.inr ⟨by omega, by omega⟩)]
    · rw [if_neg (by omega)]
      exact ha n k (by omega)
theorem Em_6 (h : zEmp a) (o : zO6 b a) : zEmp b := by
  obtain ⟨h1, h2, h3, h4, h5, h6, h7, h8⟩ := h
  refine ⟨fun n hn => h1 n ⟨hn.1, ?_⟩, fun p hp => ?_, fun p hp => ?_, fun p hp => ?_, fun n k => ?_, ?_, ?_, ?_⟩
  · rw [← o 126 n (by decide) (by decide) (by decide) (by decide)]
    exact hn.2
  · rw [o 71 p (by decide) (by decide) (by decide) (by decide)]
    exact h2 p hp
  · rw [o 72 p (by decide) (by decide) (by decide) (by decide)]
    exact h3 p hp
  · rw [o 73 p (by decide) (by decide) (by decide) (by decide)]
    exact h4 p hp
  · rw [o (1000 + n) k (by omega) (by omega) (by omega) (by omega)]
    exact h5 n k
  · rw [o 69 5 (by decide) (by decide) (by decide) (by decide)]
    exact h6
  · rw [o 69 6 (by decide) (by decide) (by decide) (by decide)]
    exact h7
  · rw [o 69 8 (by decide) (by decide) (by decide) (by decide)]
    exact h8
theorem Em_RB (h : zEmp a) (r : zEmr m) (e0 : a 87 0 = ro) (e1 : a 87 1 = fo) (e2 : a 87 2 = le) (e6 : a 87 6 = ra) (e7 : a 87 7 = if pi = 0 then 1 else 0) : qRB (m 99) (m 100) (m 98) (m 101) (m 102) (m 103) (m 107) (m 108) (m 109) (m 111) (m 112) (m 113) (m 114) (m 94 55) (m 94 46) ro fo le ra pi a := by
  obtain ⟨al, i71, i72, i73, i1, g5, g6, g8⟩ := h
  obtain ⟨h9, h2, h3, f45, f46, f55, f58, f62⟩ := r
  refine ⟨⟨fun s hs hu => absurd (h9 s hs) hu, fun s t hs _ hu => absurd (h9 s hs) hu, fun n hn hx => absurd ⟨hn, hx⟩ (al n)⟩, fun s hs hu => absurd (h9 s hs) hu, fun k hk => ?_, fun k hk => ?_, ⟨?_, fun k hk => ?_⟩, fun s hs hu => absurd (h9 s hs) hu, fun s hs hu => absurd (h9 s hs) hu, ?_, e0, e1, e2, e6, e7⟩
  · have q := h2 k (by omega)
    refine ⟨Or.inl q, ?_⟩
    rw [i72 k hk, No_n q]
  · have q := h3 k (by omega)
    refine ⟨Or.inl q, ?_⟩
    rw [i73 k hk, No_n q]
  · rw [g5, z0_i f55]
  · rw [f55] at hk
    omega
  · rw [g6, z0_i f46]
theorem Em_I (h : zEmp a) (h0 : 0 ≤ (a 87 0).toInt) (h1 : (a 87 0).toInt ≤ 4500) (e2 : a 87 2 = 0) (e6 : a 87 6 = 0) : qI a := by
  obtain ⟨al, i71, i72, i73, i1, g5, g6, g8⟩ := h
  have i0 : (0 : Int32).toInt = 0 := rfl
  refine ⟨fun n hn => absurd hn (al n), fun n n₉ hn => absurd hn (al n), fun p hp _ => i71 p hp, ?_, ?_, fun n _ k => i1 n k⟩
  · unfold qI4
    rw [g6, g5, e2, e6]
    exact ⟨⟨by omega, by omega⟩, ⟨by omega, by omega⟩, ⟨by omega, by omega⟩, ⟨by omega, by omega⟩, fun n hn => absurd hn (al n), by omega⟩
  · rw [g8, Su_0 512 (fun x hx => Decidable.byContradiction (fun w => al x ⟨hx, w⟩))]
    rfl
theorem Em_su (h : zEmp a) : qSu a 512 = 0 := Su_0 512 (fun x hx => Decidable.byContradiction (fun w => h.1 x ⟨hx, w⟩))
theorem Em_wt (r : zEmr m) : (m 94 45).toInt = sm (zbU (m 99)) (m 102) 3100 := by
  rw [r.2.2.2.1, sm_zero (fun t ht => by
      unfold zbU
      rw [r.1 t ht]
      rfl)]
theorem op_1 (hV : zV m) (ha : ∀ n k, 512 ≤ n → a8 (1000 + n) k = 0) (hs : aS 88 S₉ = aFg a8) (r : zEmr m) (e : mI S₉ 80 2 = m 94 11) (e3 : mI S₉ 80 3 = 0) (f59 : (m 94 59).toInt = 0) : zN1 m (aL S₉) := by
  have E : zEmp (aL S₉) := Em_6 (Em_fg ha) (by rw [← hs]; exact M_88)
  have k0 : aL S₉ 87 0 = m 94 11 := by
    rw [← e]
    exact aM_7
  have k2 : aL S₉ 87 2 = 0 := by
    rw [← e3]
    exact aM_7
  have k1 : aL S₉ 87 1 = 0 := aM_7
  have k6 : aL S₉ 87 6 = 0 := aM_7
  have k7 : aL S₉ 87 7 = 0 := aM_7
  have k8 : aL S₉ 87 8 = 0 := aM_7
  have rr := rs_94_11 hV
  refine ⟨Em_RB E r k0 k1 (k2.trans (z0_i f59).symm) k6 k7, Em_I E (by rw [k0]; omega) (by rw [k0]; omega) k2 k6, fun n hn => absurd hn (E.1 n), ?_, Em_wt r, r.2.2.2.2.2.2.1⟩
  rw [k8, z0_i r.2.2.2.2.2.2.1]
theorem op_2 (hV : zV m) (ha : ∀ n k, 512 ≤ n → a8 (1000 + n) k = 0) (hs : aS 88 S₉ = aFg a8) (r : zEmr m) (e : mI S₉ 81 2 = m 94 11) (e3 : mI S₉ 81 3 = 0) (e4 : mI S₉ 81 4 = 0) (f59 : (m 94 59).toInt = 0) (f61 : (m 94 61).toInt = 0) : zN2 m (aH S₉) := by
  have E : zEmp (aH S₉) := Em_6 (Em_fg ha) (by rw [← hs]; exact M_88)
  have i0 : (0 : Int32).toInt = 0 := rfl
  have k5 : aH S₉ 87 5 = m 94 11 := by
    rw [← e]
    exact aM_7
  have k0 : aH S₉ 87 0 = m 94 11 + m 94 11 := by
    rw [← e]
    exact aM_7
  have k3 : aH S₉ 87 3 = 0 := by
    rw [← e3]
    exact aM_7
  have k4 : aH S₉ 87 4 = 0 := by
    rw [← e4]
    exact aM_7
  have k2 : aH S₉ 87 2 = 0 := aM_7
  have k1 : aH S₉ 87 1 = 0 := aM_7
  have k6 : aH S₉ 87 6 = 0 := aM_7
  have k7 : aH S₉ 87 7 = 0 := aM_7
  have k8 : aH S₉ 87 8 = 0 := aM_7
  have rr := rs_94_11 hV
  have ad : (m 94 11 + m 94 11).toInt = (m 94 11).toInt + (m 94 11).toInt := i_add (by omega) (by omega)
  have hI : qI (aH S₉) := Em_I E (by rw [k0]; omega) (by rw [k0]; omega) k2 k6
  refine ⟨Em_RB E r rfl k1 k2 k6 k7, ⟨hI, k2, ?_, ?_, ?_, fun n hn => absurd hn (E.1 n), fun n hn => absurd hn (E.1 n)⟩, ⟨k5, Or.inl f61, fun _ => by rw [k3]; rfl, fun z => by omega, k4.trans (z0_i f59).symm⟩, ?_, Em_wt r, r.2.2.2.2.2.2.1⟩
  · rw [k0, k5]
    omega
  · rw [k3]
    exact Or.inl rfl
  · rw [Em_su E, k3, k4, k5]
    omega
  · rw [k8, z0_i r.2.2.2.2.2.2.1]
end F45
/-! a heap that was just opened: AGES, REGIONS -/
section F46
variable {a a8 m : Nat → Nat → Int32} {S₉ : ma_S}
theorem Em_sy (h : zEmp a) : ∀ n, n ≤ 512 → gSy a n = 0 := by
  intro n
  induction n with
  | zero => intro _; rfl
  | succ n ih =>
    intro hn
    have e := ih (by omega)
    have z : ¬ a 126 n ≠ 0 := fun w => h.1 n ⟨by omega, w⟩
    show gSy a n + (if a 126 n ≠ 0 ∧ (a 87 9).toInt ≤ (a 130 n).toInt then (a 128 n).toInt else 0) = 0
    rw [e, if_neg (fun w => z w.1)]
    rfl
theorem rg_b {ro si q : Int} (h1 : 16 ≤ si) (h2 : 4 * si ≤ ro) (h3 : ro ≤ 1500) (e : q = ro / si) : 1 ≤ q ∧ q ≤ 93 ∧ q * si ≤ 1500 := by
  have a1 : q * si ≤ ro := by
    rw [e]
    exact Int.ediv_mul_le ro (by omega)
  have a2 : 1 ≤ q := by
    rw [e]
    exact (Int.le_ediv_iff_mul_le (by omega)).mpr (by omega)
  have a3 : q * 16 ≤ q * si := Int.mul_le_mul_of_nonneg_left h1 (by omega)
  exact ⟨a2, by omega, by omega⟩
theorem op_3 (hV : zV m) (ha : ∀ n k, 512 ≤ n → a8 (1000 + n) k = 0) (hs : aS 88 S₉ = aFg a8) (r : zEmr m) (e2 : mI S₉ 82 2 = m 94 13) (e3 : mI S₉ 82 3 = m 94 14) (e4 : mI S₉ 82 4 = m 94 15) (e5 : mI S₉ 82 5 = m 94 16) (e6 : mI S₉ 82 6 = 0) (e7 : mI S₉ 82 7 = m 94 14) (e8 : mI S₉ 82 8 = m 94 14) (e83 : ∀ k : Nat, k < 375 → mI S₉ 83 k = 0) (d0 : ∀ s : Nat, s < 512 → m 117 s = 0) (f59 : (m 94 59).toInt = (m 94 14).toInt) (f60 : (m 94 60).toInt = 0) (f61 : (m 94 61).toInt = 0) (ba : 1 ≤ (m 94 15).toInt ∧ (m 94 15).toInt ≤ 1000) (bc : 4 ≤ (m 94 16).toInt) : zN3 m (aG S₉) := by
  have E : zEmp (aG S₉) := Em_6 (Em_fg ha) (by rw [← hs]; exact G_88)
  have i0 : (0 : Int32).toInt = 0 := rfl
  have k0 : aG S₉ 87 0 = m 94 14 + (m 94 13 + m 94 13) := by
    rw [← e2, ← e3]
    exact aG_7
  have k3 : aG S₉ 87 3 = m 94 14 := by
    rw [← e7]
    exact aG_7
  have k4 : aG S₉ 87 4 = m 94 14 := by
    rw [← e8]
    exact aG_7
  have k5 : aG S₉ 87 5 = m 94 13 := by
    rw [← e2]
    exact aG_7
  have k9 : aG S₉ 87 9 = m 94 14 := by
    rw [← e3]
    exact aG_7
  have k10 : aG S₉ 87 10 = 0 := by
    rw [← e6]
    exact aG_7
  have k11 : aG S₉ 87 11 = m 94 15 := by
    rw [← e4]
    exact aG_7
  have k12 : aG S₉ 87 12 = m 94 16 := by
    rw [← e5]
    exact aG_7
  have k2 : aG S₉ 87 2 = 0 := aG_7
  have k1 : aG S₉ 87 1 = 0 := aG_7
  have k6 : aG S₉ 87 6 = 0 := aG_7
  have k7 : aG S₉ 87 7 = 0 := aG_7
  have k8 : aG S₉ 87 8 = 0 := aG_7
  have r3 := rs_94_13 hV
  have r4 := rs_94_14 hV
  have d1 : (m 94 13 + m 94 13).toInt = (m 94 13).toInt + (m 94 13).toInt := i_add (by omega) (by omega)
  have d2 : (m 94 14 + (m 94 13 + m 94 13)).toInt = (m 94 14).toInt + (m 94 13 + m 94 13).toInt := i_add (by omega) (by omega)
  have hI : qI (aG S₉) := Em_I E (by rw [k0]; omega) (by rw [k0]; omega) k2 k6
  refine ⟨Em_RB E r rfl k1 k2 k6 k7, ⟨hI, k2, ?_, ?_, ?_, ?_, fun n hn => absurd hn (E.1 n), fun n hn => absurd hn (E.1 n)⟩, ⟨⟨k5, k9, k11, k12⟩, k4.trans (Int32.toInt_inj.mp f59).symm, k10.trans (z0_i f60).symm, Or.inl f61, fun _ => by rw [k3], fun z => by omega⟩, fun s hs u => absurd (r.1 s hs) u, fun k hk => ?_, ?_, Em_wt r, r.2.2.2.2.2.2.1⟩
  · rw [k0, k5, k9, k11, k12]
    exact ⟨⟨by omega, by omega⟩, ⟨by omega, by omega⟩, by omega, ba, bc⟩
  · rw [k3, k9]
    exact Or.inl rfl
  · rw [Em_sy E 512 (Nat.le_refl _), k3, k4, k5]
    omega
  · rw [k10, k9]
    omega
  · rw [d0 k (by omega), aG_8, e83 k hk]
  · rw [k8, z0_i r.2.2.2.2.2.2.1]
theorem op_6 (hV : zV m) (ha : ∀ n k, 512 ≤ n → a8 (1000 + n) k = 0) (hs : aS 88 S₉ = aFg a8) (r : zEmr m) (e2 : mI S₉ 91 2 = m 94 18) (e3 : mI S₉ 91 3 = m 94 64) (e4 : mI S₉ 91 4 = m 94 19) (e5 : mI S₉ 91 5 = 0) (e92 : ∀ k : Nat, k < 93 → mI S₉ 92 k = 0) (t0 : ∀ s : Nat, s < 128 → m 116 s = 0) (f63 : (m 94 63).toInt = 0) (dv : (m 94 64).toInt = (m 94 11).toInt / (m 94 18).toInt) (b1 : 16 ≤ (m 94 18).toInt) (b4 : 4 * (m 94 18).toInt ≤ (m 94 11).toInt) (bh : 0 ≤ (m 94 19).toInt ∧ (m 94 19).toInt ≤ 100) : zN6 m (aZ S₉) := by
  have E : zEmp (aZ S₉) := Em_6 (Em_fg ha) (by rw [← hs]; exact Z_88)
  have i0 : (0 : Int32).toInt = 0 := rfl
  have k0 : aZ S₉ 87 0 = m 94 64 * m 94 18 := by
    rw [← e2, ← e3]
    exact aZ_7
  have k3 : aZ S₉ 87 3 = m 94 18 := by
    rw [← e2]
    exact aZ_7
  have k4 : aZ S₉ 87 4 = m 94 64 := by
    rw [← e3]
    exact aZ_7
  have k5 : aZ S₉ 87 5 = m 94 19 := by
    rw [← e4]
    exact aZ_7
  have k9 : aZ S₉ 87 9 = 0 := by
    rw [← e5]
    exact aZ_7
  have k2 : aZ S₉ 87 2 = 0 := aZ_7
  have k1 : aZ S₉ 87 1 = 0 := aZ_7
  have k6 : aZ S₉ 87 6 = 0 := aZ_7
  have k7 : aZ S₉ 87 7 = 0 := aZ_7
  have k8 : aZ S₉ 87 8 = 0 := aZ_7
  have k92 : ∀ k : Nat, k < 93 → aZ S₉ 92 k = 0 := fun k hk => (aZ_9 (Or.inl rfl)).trans (e92 k hk)
  have r1 := rs_94_11 hV
  have r8 := rs_94_18 hV
  have g := rg_b b1 b4 r1.2 dv
  have g0 : 0 ≤ (m 94 64).toInt * (m 94 18).toInt := Int.mul_nonneg (by omega) (by omega)
  have d0 : (m 94 64 * m 94 18).toInt = (m 94 64).toInt * (m 94 18).toInt := i_mul (by omega) (by omega)
  have hI : qI (aZ S₉) := Em_I E (by rw [k0, d0]; exact g0) (by rw [k0, d0]; omega) k2 k6
  refine ⟨Em_RB E r rfl k1 k2 k6 k7, ⟨hI, k2, ?_, fun q hq => ?_, fun n hn => absurd hn (E.1 n)⟩, ⟨k3, k4, k5, k9.trans (z0_i f63).symm, fun q hq => ?_⟩, ?_, Em_wt r, r.2.2.2.2.2.2.1⟩
  · rw [k0, k3, k4, k5, k9, d0]
    exact ⟨⟨b1, r8.2⟩, ⟨g.1, g.2.1⟩, ⟨by omega, by omega⟩, bh, rfl, g.2.2⟩
  · rw [k92 q hq, k3]
    exact ⟨⟨by omega, by omega⟩, fun _ => rfl⟩
  · rw [k92 q (by omega), t0 q (by omega)]
  · rw [k8, z0_i r.2.2.2.2.2.2.1]
end F46

/-! from 95.z05 -/
/-! the class's own heap behind a call, under the moving collectors -/
section F47
variable {X Y ab : Nat → Nat → Int32} {S S₉ : ma_S} {o i t x e : Int32} {p q : Nat → Int32}
theorem L_kp (hx : zAy X Y (aL S)) (hs : aS 88 S₉ = Y) (e : mI S₉ 80 = mI S 80) : zOf X (aL S₉) := M_kp2 hx hs (funext (fun k => by
  unfold zf8
  rw [e]))
theorem H_kp (hx : zAy X Y (aH S)) (hs : aS 88 S₉ = Y) (e : mI S₉ 81 = mI S 81) : zOf X (aH S₉) := M_kp2 hx hs (funext (fun k => by
  unfold zfH
  rw [e]))
/-- nothing changes -/
theorem Ay_L : zAy (aL S) (aS 88 S) (aL S) := ⟨M_88, fun _ _ _ _ => rfl⟩
theorem Ay_H : zAy (aH S) (aS 88 S) (aH S) := ⟨M_88, fun _ _ _ _ => rfl⟩
theorem Ay_G : zAy (aG S) (aS 88 S) (aG S) := ⟨G_88, fun _ _ _ _ => rfl⟩
theorem Ay_Z : zAy (aZ S) (aS 88 S) (aZ S) := ⟨Z_88, fun _ _ _ _ => rfl⟩
theorem Li_c6 (h : zO6 X Y) : (zRq X o ∧ (t = -1 ∨ zRq X t) ∧ zHw X o i ∧ zIr X o i) ↔ (zRq Y o ∧ (t = -1 ∨ zRq Y t) ∧ zHw Y o i ∧ zIr Y o i) := by rw [O6_Rq h, O6_Rq h, O6_Hw h, O6_Ir h]
theorem Gl_y (c : zRq (aS 88 S) o ∧ (t = -1 ∨ zRq (aS 88 S) t) ∧ zHw (aS 88 S) o i ∧ zIr (aS 88 S) o i) (hs : aS 88 S₉ = oLi (aS 88 S) o i t) (e2 : mI S₉ 82 = mI S 82) (e3 : mI S₉ 83 = gNr (aG S) o.toNatClampNeg i.toInt t 83) : zOf (yLi (aG S) o i t) (aG S₉) := by
  have cG := (Li_c6 (t := t) (o := o) (i := i) (G_88 (S := S))).mpr c
  have ey : yNl (aG S) o i t = gNr (aG S) o.toNatClampNeg i.toInt t := qIf_y cG
  exact G_kl (Ay_li G_88) hs e2 (yNl (aG S) o i t 83) (e3.trans (by rw [ey]))
theorem Gl_x (c : ¬ (zRq (aS 88 S) o ∧ (t = -1 ∨ zRq (aS 88 S) t) ∧ zHw (aS 88 S) o i ∧ zIr (aS 88 S) o i)) (hs : aS 88 S₉ = oLi (aS 88 S) o i t) (e2 : mI S₉ 82 = mI S 82) (e3 : mI S₉ 83 = mI S 83) : zOf (yLi (aG S) o i t) (aG S₉) := by
  have cG : ¬ _ := fun w => c ((Li_c6 (t := t) (o := o) (i := i) (G_88 (S := S))).mp w)
  have ey : yNl (aG S) o i t = aG S := qIf_n cG
  exact G_kl (Ay_li G_88) hs e2 (yNl (aG S) o i t 83) (e3.trans (by
    rw [ey]
    exact funext (fun k => aG_8.symm)))
/-! a hold under AGES -/
theorem Gh_y (h : zRq (aS 88 S) o ∧ (aS 88 S 130 o.toNatClampNeg).toInt < (mI S 82 3).toInt ∧ (¬ x = 0 ∨ ¬ aS 88 S 133 o.toNatClampNeg = 0) ∧ aS 88 S₉ = ma_u (aS 88 S) 133 o.toNatClampNeg (aS 88 S 133 o.toNatClampNeg + (if x = 0 then -1 else 1))) (e2 : mI S₉ 82 = mI S 82) (e3 : mI S₉ 83 = mI S 83) : zOf (yHo (aG S) o x) (aG S₉) := by
  have hs : aS 88 S₉ = xHo (aS 88 S) o x := h.2.2.2.trans (qIf_y ⟨h.1, h.2.2.1⟩).symm
  have ey : yHo (aG S) o x = xHo (aG S) o x := qIf_y (by
    rw [G_88 130 o.toNatClampNeg (by decide) (by decide) (by decide) (by decide)]
    exact h.2.1)
  rw [ey]
  exact G_kp (Ay_ho G_88) hs e2 e3
theorem Gh_x (h : (e = 4 ∧ ¬ zRq (aS 88 S) o) ∨ (e = 6 ∧ zRq (aS 88 S) o ∧ (¬ (aS 88 S 130 o.toNatClampNeg).toInt < (mI S 82 3).toInt ∨ (x = 0 ∧ aS 88 S 133 o.toNatClampNeg = 0)))) (hs : aS 88 S₉ = aS 88 S) (e2 : mI S₉ 82 = mI S 82) (e3 : mI S₉ 83 = mI S 83) : zOf (yHo (aG S) o x) (aG S₉) := by
  have ey : yHo (aG S) o x = aG S := by
    unfold yHo
    by_cases w : (aG S 130 o.toNatClampNeg).toInt < (aG S 87 9).toInt
    · rw [qIf_y w]
      refine qIf_n (fun z => ?_)
      rw [O6_Rq G_88, G_88 133 o.toNatClampNeg (by decide) (by decide) (by decide) (by decide)] at z
      rw [G_88 130 o.toNatClampNeg (by decide) (by decide) (by decide) (by decide)] at w
      rcases h with h | h
      · exact h.2 z.1
      · rcases h.2.2 with q | q
        · exact q w
        · exact z.2.elim (fun k => k q.1) (fun k => k q.2)
    · exact qIf_n w
  rw [ey]
  exact G_kp Ay_G hs e2 e3
end F47

