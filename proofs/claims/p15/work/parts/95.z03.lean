/-! class and reference held against each other under the moving collectors -/
/-- the class's heap has stayed, under any moving collector -/
def zKm (S S' : ma_S) : Prop := (xB S (mR S 70) → xB S' (mR S' 70)) ∧ aL S' = aL S ∧ aH S' = aH S ∧ aG S' = aG S ∧ aZ S' = aZ S
def zS1m (S : ma_S) : Prop := xB S (mR S 70) ∧ zN1 (mI S) (aL S)
def zS2m (S : ma_S) : Prop := xB S (mR S 70) ∧ zN2 (mI S) (aH S)
def zS3m (S : ma_S) : Prop := xB S (mR S 70) ∧ zN3 (mI S) (aG S)
def zS6m (S : ma_S) : Prop := xB S (mR S 70) ∧ zN6 (mI S) (aZ S)
section F44
variable {a b X m m' : Nat → Nat → Int32} {S S' S2 : ma_S} {f f' : Nat → Nat → Int32} {r r' : Nat → Nat → Option Nat} {C Z N C' Z' N' : Nat} {g : Nat → Int32}
theorem N1_of (h : zN1 m X) (o : zOf X b) : zN1 m b := by
  obtain ⟨r, i, t, k, w, z⟩ := h
  exact ⟨RB_of r o, qI_of i o, Tp_of t o, (congrFun (Of_rx (c := 87) o (by decide)) 8).trans k, w, z⟩
theorem N2_of (h : zN2 m X) (o : zOf X b) : zN2 m b := by
  obtain ⟨r, i, t, k, w, z⟩ := h
  exact ⟨RB_87o (RB_of r o), Hv_of i o, HL_of t o, (congrFun (Of_rx (c := 87) o (by decide)) 8).trans k, w, z⟩
theorem N3_of (h : zN3 m X) (o : zOf X b) : zN3 m b := by
  obtain ⟨r, i, t, u, v, k, w, z⟩ := h
  exact ⟨RB_87o (RB_of r o), Av_of i o, AL_of t o, Ag_of u o, Dt_of v o, (congrFun (Of_rx (c := 87) o (by decide)) 8).trans k, w, z⟩
theorem N6_of (h : zN6 m X) (o : zOf X b) : zN6 m b := by
  obtain ⟨r, i, t, k, w, z⟩ := h
  exact ⟨RB_87o (RB_of r o), Rv_of i o, RL_of t o, (congrFun (Of_rx (c := 87) o (by decide)) 8).trans k, w, z⟩
theorem N6_93 (h : zN6 m X) : zN6 m (zX93 X g) := by
  obtain ⟨r, i, t, k, w, z⟩ := h
  exact ⟨RB_87o (RB_93 r), Rv_93 i, RL_93 t, (congrFun (X93 (X := X) (f := g) (c := 87) (by decide)) 8).trans k, w, z⟩
/-! the collectors' own heaps -/
theorem O_cg (h : aS 75 S' = aS 75 S) (hr : ∀ c k, 80 ≤ c → c ≤ 93 → mI S' c k = mI S c k) : aL S' = aL S ∧ aH S' = aH S ∧ aG S' = aG S ∧ aZ S' = aZ S := by
  have e8 : zf8 (mI S') = zf8 (mI S) := funext (fun k => by
    unfold zf8
    rw [hr 80 2 (by decide) (by decide), hr 80 3 (by decide) (by decide)])
  have eH : zfH (mI S') = zfH (mI S) := funext (fun k => by
    unfold zfH
    rw [hr 81 2 (by decide) (by decide), hr 81 3 (by decide) (by decide), hr 81 4 (by decide) (by decide)])
  have eG : zfG (mI S') = zfG (mI S) := funext (fun k => by
    unfold zfG
    rw [hr 82 2 (by decide) (by decide), hr 82 3 (by decide) (by decide), hr 82 4 (by decide) (by decide), hr 82 5 (by decide) (by decide), hr 82 6 (by decide) (by decide), hr 82 7 (by decide) (by decide), hr 82 8 (by decide) (by decide)])
  have eZ : zfZ (mI S') = zfZ (mI S) := funext (fun k => by
    unfold zfZ
    rw [hr 91 2 (by decide) (by decide), hr 91 3 (by decide) (by decide), hr 91 4 (by decide) (by decide), hr 91 5 (by decide) (by decide)])
  refine ⟨?_, ?_, ?_, ?_⟩
  · unfold aL
    rw [e8, aM_c h]
  · unfold aH
    rw [eH, aM_c h]
  · funext c k
    unfold aG
    rw [eG, aM_c h, hr 83 k (by decide) (by decide)]
  · funext c k
    unfold aZ
    rw [eZ, aM_c h]
    by_cases w : c = 92 ∨ c = 93
    · rw [if_pos w, if_pos w, hr c k (by omega) (by omega)]
    · rw [if_neg w, if_neg w]
theorem O_zst (h : zA f r C Z N S) (ho : ∀ c k, c < 94 ∨ 124 < c → m' c k = mI S c k) : aL (zst S m') = aL S ∧ aH (zst S m') = aH S ∧ aG (zst S m') = aG S ∧ aZ (zst S m') = aZ S :=
  O_cg (aF_c5 ho (fun _ _ => rfl) (fun n b e => h70 (S := S) h n b e)) (fun c k _ h2 => ho c k (Or.inl (by omega)))
theorem O_o5 (h : zA f r C Z N S) {x : Int64} : aL (ma_put S 125 0 (.inr (.inl x))) = aL S ∧ aH (ma_put S 125 0 (.inr (.inl x))) = aH S ∧ aG (ma_put S 125 0 (.inr (.inl x))) = aG S ∧ aZ (ma_put S 125 0 (.inr (.inl x))) = aZ S := O_cg (S_o5 h) (fun _ _ _ _ => rfl)
theorem fm_km (h : zFm (mI S) (mL S) (mR S 70) S') (hA : zA f r C Z N S) : zKm S S' := ⟨fun b => fn9_xB h b, O_cg (fm_75 h (h70 hA)) (fun c k h1 _ => h.2.2 c k (by omega))⟩
theorem km_o5 (h : zKm S S') (hA : zA f' r' C' Z' N' S') {x : Int64} : zKm S (ma_put S' 125 0 (.inr (.inl x))) := by
  have o := O_o5 hA (x := x)
  exact ⟨fun b => h.1 b, o.1.trans h.2.1, o.2.1.trans h.2.2.1, o.2.2.1.trans h.2.2.2.1, o.2.2.2.trans h.2.2.2.2⟩
/-! both behind a call -/
theorem Of_rfl : zOf a a := fun _ _ _ _ _ => rfl
theorem s1_mst (h : zA f r C Z N S2) (hB : xB S2 (mR S2 70)) (ho : ∀ c k, c < 94 ∨ 124 < c → m' c k = mI S2 c k) (hq : zOf X (aL S2)) (hz : zN1 m' X) : zS1m (zst S2 m') := ⟨xB_zst hB ho, by rw [(O_zst h ho).1]; exact N1_of hz hq⟩
theorem s2_mst (h : zA f r C Z N S2) (hB : xB S2 (mR S2 70)) (ho : ∀ c k, c < 94 ∨ 124 < c → m' c k = mI S2 c k) (hq : zOf X (aH S2)) (hz : zN2 m' X) : zS2m (zst S2 m') := ⟨xB_zst hB ho, by rw [(O_zst h ho).2.1]; exact N2_of hz hq⟩
theorem s3_mst (h : zA f r C Z N S2) (hB : xB S2 (mR S2 70)) (ho : ∀ c k, c < 94 ∨ 124 < c → m' c k = mI S2 c k) (hq : zOf X (aG S2)) (hz : zN3 m' X) : zS3m (zst S2 m') := ⟨xB_zst hB ho, by rw [(O_zst h ho).2.2.1]; exact N3_of hz hq⟩
theorem s6_mst (h : zA f r C Z N S2) (hB : xB S2 (mR S2 70)) (ho : ∀ c k, c < 94 ∨ 124 < c → m' c k = mI S2 c k) (hq : zOf (zX93 X (mI S2 93)) (aZ S2)) (hz : zN6 m' X) : zS6m (zst S2 m') := ⟨xB_zst hB ho, by rw [(O_zst h ho).2.2.2]; exact N6_of (N6_93 hz) hq⟩
theorem s6_mst' (h : zA f r C Z N S2) (hB : xB S2 (mR S2 70)) (ho : ∀ c k, c < 94 ∨ 124 < c → m' c k = mI S2 c k) (hq : zOf X (aZ S2)) (hz : zN6 m' X) : zS6m (zst S2 m') := ⟨xB_zst hB ho, by rw [(O_zst h ho).2.2.2]; exact N6_of hz hq⟩
theorem s1_kp (hs : zS1m S) (hk : zKm S S2) (h : zA f r C Z N S2) (ho : ∀ c k, c < 94 ∨ 124 < c → m' c k = mI S2 c k) (hz : zN1 m' (aL S)) : zS1m (zst S2 m') := s1_mst h (hk.1 hs.1) ho (by rw [hk.2.1]; exact Of_rfl) hz
theorem s2_kp (hs : zS2m S) (hk : zKm S S2) (h : zA f r C Z N S2) (ho : ∀ c k, c < 94 ∨ 124 < c → m' c k = mI S2 c k) (hz : zN2 m' (aH S)) : zS2m (zst S2 m') := s2_mst h (hk.1 hs.1) ho (by rw [hk.2.2.1]; exact Of_rfl) hz
theorem s3_kp (hs : zS3m S) (hk : zKm S S2) (h : zA f r C Z N S2) (ho : ∀ c k, c < 94 ∨ 124 < c → m' c k = mI S2 c k) (hz : zN3 m' (aG S)) : zS3m (zst S2 m') := s3_mst h (hk.1 hs.1) ho (by rw [hk.2.2.2.1]; exact Of_rfl) hz
theorem s6_kp (hs : zS6m S) (hk : zKm S S2) (h : zA f r C Z N S2) (ho : ∀ c k, c < 94 ∨ 124 < c → m' c k = mI S2 c k) (hz : zN6 m' (aZ S)) : zS6m (zst S2 m') := s6_mst' h (hk.1 hs.1) ho (by rw [hk.2.2.2.2]; exact Of_rfl) hz
end F44
theorem n1_tr {m m' aa : Nat → Nat → Int32} (H : zN1 m aa) (h : ∀ c k, 94 ≤ c → c ≤ 125 → m' c k = m c k) : zN1 m' aa := by
  have e98 : m' 98 = m 98 := funext (fun k => h 98 k (by decide) (by decide))
  have e99 : m' 99 = m 99 := funext (fun k => h 99 k (by decide) (by decide))
  have e100 : m' 100 = m 100 := funext (fun k => h 100 k (by decide) (by decide))
  have e101 : m' 101 = m 101 := funext (fun k => h 101 k (by decide) (by decide))
  have e102 : m' 102 = m 102 := funext (fun k => h 102 k (by decide) (by decide))
  have e103 : m' 103 = m 103 := funext (fun k => h 103 k (by decide) (by decide))
  have e107 : m' 107 = m 107 := funext (fun k => h 107 k (by decide) (by decide))
  have e108 : m' 108 = m 108 := funext (fun k => h 108 k (by decide) (by decide))
  have e109 : m' 109 = m 109 := funext (fun k => h 109 k (by decide) (by decide))
  have e111 : m' 111 = m 111 := funext (fun k => h 111 k (by decide) (by decide))
  have e112 : m' 112 = m 112 := funext (fun k => h 112 k (by decide) (by decide))
  have e113 : m' 113 = m 113 := funext (fun k => h 113 k (by decide) (by decide))
  have e114 : m' 114 = m 114 := funext (fun k => h 114 k (by decide) (by decide))
  have f11 : m' 94 11 = m 94 11 := h 94 11 (by decide) (by decide)
  have f45 : m' 94 45 = m 94 45 := h 94 45 (by decide) (by decide)
  have f46 : m' 94 46 = m 94 46 := h 94 46 (by decide) (by decide)
  have f55 : m' 94 55 = m 94 55 := h 94 55 (by decide) (by decide)
  have f58 : m' 94 58 = m 94 58 := h 94 58 (by decide) (by decide)
  have f59 : m' 94 59 = m 94 59 := h 94 59 (by decide) (by decide)
  unfold zN1 at H ⊢
  rw [e98, e99, e100, e101, e102, e103, e107, e108, e109, e111, e112, e113, e114, f11, f45, f46, f55, f58, f59]
  exact H
theorem n2_tr {m m' aa : Nat → Nat → Int32} (H : zN2 m aa) (h : ∀ c k, 94 ≤ c → c ≤ 125 → m' c k = m c k) : zN2 m' aa := by
  have e98 : m' 98 = m 98 := funext (fun k => h 98 k (by decide) (by decide))
  have e99 : m' 99 = m 99 := funext (fun k => h 99 k (by decide) (by decide))
  have e100 : m' 100 = m 100 := funext (fun k => h 100 k (by decide) (by decide))
  have e101 : m' 101 = m 101 := funext (fun k => h 101 k (by decide) (by decide))
  have e102 : m' 102 = m 102 := funext (fun k => h 102 k (by decide) (by decide))
  have e103 : m' 103 = m 103 := funext (fun k => h 103 k (by decide) (by decide))
  have e107 : m' 107 = m 107 := funext (fun k => h 107 k (by decide) (by decide))
  have e108 : m' 108 = m 108 := funext (fun k => h 108 k (by decide) (by decide))
  have e109 : m' 109 = m 109 := funext (fun k => h 109 k (by decide) (by decide))
  have e111 : m' 111 = m 111 := funext (fun k => h 111 k (by decide) (by decide))
  have e112 : m' 112 = m 112 := funext (fun k => h 112 k (by decide) (by decide))
  have e113 : m' 113 = m 113 := funext (fun k => h 113 k (by decide) (by decide))
  have e114 : m' 114 = m 114 := funext (fun k => h 114 k (by decide) (by decide))
  have f11 : m' 94 11 = m 94 11 := h 94 11 (by decide) (by decide)
  have f45 : m' 94 45 = m 94 45 := h 94 45 (by decide) (by decide)
  have f46 : m' 94 46 = m 94 46 := h 94 46 (by decide) (by decide)
  have f55 : m' 94 55 = m 94 55 := h 94 55 (by decide) (by decide)
  have f58 : m' 94 58 = m 94 58 := h 94 58 (by decide) (by decide)
  have f59 : m' 94 59 = m 94 59 := h 94 59 (by decide) (by decide)
  have f61 : m' 94 61 = m 94 61 := h 94 61 (by decide) (by decide)
  unfold zN2 at H ⊢
  rw [e98, e99, e100, e101, e102, e103, e107, e108, e109, e111, e112, e113, e114, f11, f45, f46, f55, f58, f59, f61]
  exact H
theorem n3_tr {m m' aa : Nat → Nat → Int32} (H : zN3 m aa) (h : ∀ c k, 94 ≤ c → c ≤ 125 → m' c k = m c k) : zN3 m' aa := by
  have e98 : m' 98 = m 98 := funext (fun k => h 98 k (by decide) (by decide))
  have e99 : m' 99 = m 99 := funext (fun k => h 99 k (by decide) (by decide))
  have e100 : m' 100 = m 100 := funext (fun k => h 100 k (by decide) (by decide))
  have e101 : m' 101 = m 101 := funext (fun k => h 101 k (by decide) (by decide))
  have e102 : m' 102 = m 102 := funext (fun k => h 102 k (by decide) (by decide))
  have e103 : m' 103 = m 103 := funext (fun k => h 103 k (by decide) (by decide))
  have e104 : m' 104 = m 104 := funext (fun k => h 104 k (by decide) (by decide))
  have e107 : m' 107 = m 107 := funext (fun k => h 107 k (by decide) (by decide))
  have e108 : m' 108 = m 108 := funext (fun k => h 108 k (by decide) (by decide))
  have e109 : m' 109 = m 109 := funext (fun k => h 109 k (by decide) (by decide))
  have e111 : m' 111 = m 111 := funext (fun k => h 111 k (by decide) (by decide))
  have e112 : m' 112 = m 112 := funext (fun k => h 112 k (by decide) (by decide))
  have e113 : m' 113 = m 113 := funext (fun k => h 113 k (by decide) (by decide))
  have e114 : m' 114 = m 114 := funext (fun k => h 114 k (by decide) (by decide))
  have e117 : m' 117 = m 117 := funext (fun k => h 117 k (by decide) (by decide))
  have f13 : m' 94 13 = m 94 13 := h 94 13 (by decide) (by decide)
  have f14 : m' 94 14 = m 94 14 := h 94 14 (by decide) (by decide)
  have f15 : m' 94 15 = m 94 15 := h 94 15 (by decide) (by decide)
  have f16 : m' 94 16 = m 94 16 := h 94 16 (by decide) (by decide)
  have f45 : m' 94 45 = m 94 45 := h 94 45 (by decide) (by decide)
  have f46 : m' 94 46 = m 94 46 := h 94 46 (by decide) (by decide)
  have f55 : m' 94 55 = m 94 55 := h 94 55 (by decide) (by decide)
  have f58 : m' 94 58 = m 94 58 := h 94 58 (by decide) (by decide)
  have f59 : m' 94 59 = m 94 59 := h 94 59 (by decide) (by decide)
  have f60 : m' 94 60 = m 94 60 := h 94 60 (by decide) (by decide)
  have f61 : m' 94 61 = m 94 61 := h 94 61 (by decide) (by decide)
  unfold zN3 at H ⊢
  rw [e98, e99, e100, e101, e102, e103, e104, e107, e108, e109, e111, e112, e113, e114, e117, f13, f14, f15, f16, f45, f46, f55, f58, f59, f60, f61]
  exact H
theorem n6_tr {m m' aa : Nat → Nat → Int32} (H : zN6 m aa) (h : ∀ c k, 94 ≤ c → c ≤ 125 → m' c k = m c k) : zN6 m' aa := by
  have e98 : m' 98 = m 98 := funext (fun k => h 98 k (by decide) (by decide))
  have e99 : m' 99 = m 99 := funext (fun k => h 99 k (by decide) (by decide))
  have e100 : m' 100 = m 100 := funext (fun k => h 100 k (by decide) (by decide))
  have e101 : m' 101 = m 101 := funext (fun k => h 101 k (by decide) (by decide))
  have e102 : m' 102 = m 102 := funext (fun k => h 102 k (by decide) (by decide))
  have e103 : m' 103 = m 103 := funext (fun k => h 103 k (by decide) (by decide))
  have e107 : m' 107 = m 107 := funext (fun k => h 107 k (by decide) (by decide))
  have e108 : m' 108 = m 108 := funext (fun k => h 108 k (by decide) (by decide))
  have e109 : m' 109 = m 109 := funext (fun k => h 109 k (by decide) (by decide))
  have e111 : m' 111 = m 111 := funext (fun k => h 111 k (by decide) (by decide))
  have e112 : m' 112 = m 112 := funext (fun k => h 112 k (by decide) (by decide))
  have e113 : m' 113 = m 113 := funext (fun k => h 113 k (by decide) (by decide))
  have e114 : m' 114 = m 114 := funext (fun k => h 114 k (by decide) (by decide))
  have e116 : m' 116 = m 116 := funext (fun k => h 116 k (by decide) (by decide))
  have f18 : m' 94 18 = m 94 18 := h 94 18 (by decide) (by decide)
  have f19 : m' 94 19 = m 94 19 := h 94 19 (by decide) (by decide)
  have f45 : m' 94 45 = m 94 45 := h 94 45 (by decide) (by decide)
  have f46 : m' 94 46 = m 94 46 := h 94 46 (by decide) (by decide)
  have f55 : m' 94 55 = m 94 55 := h 94 55 (by decide) (by decide)
  have f58 : m' 94 58 = m 94 58 := h 94 58 (by decide) (by decide)
  have f63 : m' 94 63 = m 94 63 := h 94 63 (by decide) (by decide)
  have f64 : m' 94 64 = m 94 64 := h 94 64 (by decide) (by decide)
  unfold zN6 at H ⊢
  rw [e98, e99, e100, e101, e102, e103, e107, e108, e109, e111, e112, e113, e114, e116, f18, f19, f45, f46, f55, f58, f63, f64]
  exact H
