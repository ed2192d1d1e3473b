/-! words are read and written -/
section WD1
variable {m : Nat → Nat → Int32} {c k : Nat} {ks po ro yo ol ca hf tp ot wm : Int32} {kr kd ws wd us rt wk wi at' ow di : Nat → Int32} {s i x : Int32}
theorem zrf_ne {s' i' : Nat} (h : 60 * s' + i' ≠ k) : zrf kr kd (ma_u m c k x c) s' i' = zrf kr kd (m c) s' i' := by
  unfold zrf
  rw [mu_ne h]
theorem zrf_no {s' i' : Nat} (h1 : ¬ kd s' = 16) (h2 : ¬ (kd s' < 16 ∧ ((kr (kd s').toNatClampNeg >>> (Int32.ofNat i' &&& 31)) &&& 1) = 1)) (wd' : Nat → Int32) : zrf kr kd wd' s' i' = -1 := by
  unfold zrf
  rw [if_neg h1, if_neg h2]
theorem W_w1 (h : zW ks kr kd ws wd) (h1 : 0 ≤ s.toInt) (h2 : s.toInt ≤ 3099) (h3 : 0 ≤ i.toInt) (h4 : i.toInt < (ws s.toNatClampNeg).toInt) (h5 : (ws s.toNatClampNeg).toInt ≤ 60) (hk : kd s.toNatClampNeg = 16) : -1 ≤ (wd (s * (60 : Int32) + i).toNatClampNeg).toInt ∧ (wd (s * (60 : Int32) + i).toNatClampNeg).toInt ≤ 3099 := by
  have e := zrf_eq (kr := kr) (kd := kd) (wd := wd) h1 h2 h3 (by omega)
  rw [if_pos hk] at e
  exact W_ref h h1 h2 h3 h4 e.symm
theorem W_w2 (h : zW ks kr kd ws wd) (h1 : 0 ≤ s.toInt) (h2 : s.toInt ≤ 3099) (h3 : 0 ≤ i.toInt) (h4 : i.toInt < (ws s.toNatClampNeg).toInt) (h5 : (ws s.toNatClampNeg).toInt ≤ 60) (hk : ¬ kd s.toNatClampNeg = 16) (hk2 : ¬ (16 : Int32) ≤ kd s.toNatClampNeg) (hb : ((kr (kd s.toNatClampNeg).toNatClampNeg >>> (i &&& 31)) &&& 1) = 1) : -1 ≤ (wd (s * (60 : Int32) + i).toNatClampNeg).toInt ∧ (wd (s * (60 : Int32) + i).toNatClampNeg).toInt ≤ 3099 := by
  have e := zrf_eq (kr := kr) (kd := kd) (wd := wd) h1 h2 h3 (by omega)
  rw [if_neg hk, if_pos ⟨Int32.not_le.mp hk2, hb⟩] at e
  exact W_ref h h1 h2 h3 h4 e.symm
/-- an int is written: what words refer to is as it was -/
theorem zrf_put (h1 : 0 ≤ s.toInt) (h2 : s.toInt ≤ 3099) (h3 : 0 ≤ i.toInt) (h4 : i.toInt < 60) (hk : ¬ kd s.toNatClampNeg = 16) (hk2 : ¬ (kd s.toNatClampNeg < 16 ∧ ((kr (kd s.toNatClampNeg).toNatClampNeg >>> (i &&& 31)) &&& 1) = 1)) : ∀ s' i' : Nat, i' < 60 → zrf kr kd (ma_u m c (s * (60 : Int32) + i).toNatClampNeg x c) s' i' = zrf kr kd (m c) s' i' := by
  intro s' i' hi
  have e := ix_word h1 h2 h3 (by omega : i.toInt ≤ 60)
  by_cases z : 60 * s' + i' = (s * (60 : Int32) + i).toNatClampNeg
  · have hi2 : i.toNatClampNeg < 60 := by rw [tn_eq]; omega
    have es : s' = s.toNatClampNeg := by omega
    have ei : i' = i.toNatClampNeg := by omega
    rw [es, ei]
    rw [zrf_no hk (by rw [ofNat_tn h3]; exact hk2), zrf_no hk (by rw [ofNat_tn h3]; exact hk2)]
  · exact zrf_ne z
section WD2
variable {kr' wd' : Nat → Int32}
theorem W_same {ks' : Int32} (h : zW ks kr kd ws wd) (hk : ks.toInt ≤ ks'.toInt) (e : ∀ s' i' : Nat, s' < 3100 → (i' : Int) < (ws s').toInt → zrf kr' kd wd' s' i' = zrf kr kd wd s' i') : zW ks' kr' kd ws wd' := by
  intro s hs
  refine ⟨fun i hi => ?_, ?_⟩
  · rw [e s i hs hi]
    exact (h s hs).1 i hi
  · rcases (h s hs).2 with q | q | q
    · exact Or.inl q
    · exact Or.inr (Or.inl q)
    · exact Or.inr (Or.inr (by omega))
theorem DX_same (h : zDX po us rt wk wi wm kr kd ws wd) (e : ∀ s' i' : Nat, s' < 3100 → (i' : Int) < (ws s').toInt → zrf kr' kd wd' s' i' = zrf kr kd wd s' i') : zDX po us rt wk wi wm kr' kd ws wd' := by
  intro hp
  obtain ⟨a1, a2, a3, a4⟩ := h hp
  refine ⟨a1, a2, a3, fun s hs hu i hi => ?_⟩
  unfold zcl
  rw [e s i hs hi]
  exact a4 s hs hu i hi
theorem HA_same (h : zHA po ro yo ol ca hf tp ot us ws at' ow di kr kd wd) (e : ∀ s' i' : Nat, s' < 3100 → (i' : Int) < (ws s').toInt → zrf kr' kd wd' s' i' = zrf kr kd wd s' i') : zHA po ro yo ol ca hf tp ot us ws at' ow di kr' kd wd' := by
  refine ⟨h.1, fun hp => ?_⟩
  obtain ⟨a1, a2, a3, a4, a5⟩ := h.2 hp
  refine ⟨a1, a2, a3, a4, fun s hs hu ha i hi => ?_⟩
  rw [e s i hs hi]
  exact a5 s hs hu ha i hi
/-- a kind is told -/
theorem zrf_kind {ma : Nat → Nat → Int32} {ca' : Nat} (h : zW ks (ma ca') kd ws wd) (hk : (k : Int) = ks.toInt) (hd : ∀ s, s < 3100 → 0 ≤ (kd s).toInt) : ∀ s' i' : Nat, s' < 3100 → (i' : Int) < (ws s').toInt → zrf (ma_u ma ca' k x ca') kd wd s' i' = zrf (ma ca') kd wd s' i' := by
  intro s' i' hs hi
  unfold zrf
  by_cases h16 : kd s' = 16
  · rw [if_pos h16, if_pos h16]
  · rw [if_neg h16, if_neg h16]
    by_cases hl : (kd s').toInt < ks.toInt
    · have hn : (kd s').toNatClampNeg ≠ k := by rw [tn_eq]; have := hd s' hs; omega
      rw [mu_ne hn]
    · have h2 := (h s' hs).2
      have h3 : ¬ kd s' < 16 := fun z => by
        have z2 := Int32.lt_iff_toInt_lt.mp z
        have z3 : (16 : Int32).toInt = 16 := rfl
        rcases h2 with q | q | q <;> omega
      rw [if_neg (fun z => h3 z.1), if_neg (fun z => h3 z.1)]
/-- a REFERENCE is set -/
theorem zrf_link (h1 : 0 ≤ s.toInt) (h2 : s.toInt ≤ 3099) (h3 : 0 ≤ i.toInt) (h4 : i.toInt < 60) (hk : kd s.toNatClampNeg = 16 ∨ (kd s.toNatClampNeg < 16 ∧ ((kr (kd s.toNatClampNeg).toNatClampNeg >>> (i &&& 31)) &&& 1) = 1)) : ∀ s' i' : Nat, i' < 60 → zrf kr kd (ma_u m c (s * (60 : Int32) + i).toNatClampNeg x c) s' i' = if s' = s.toNatClampNeg ∧ i' = i.toNatClampNeg then x else zrf kr kd (m c) s' i' := by
  intro s' i' hi
  have e := ix_word h1 h2 h3 (by omega : i.toInt ≤ 60)
  have hi2 : i.toNatClampNeg < 60 := by rw [tn_eq]; omega
  by_cases z : 60 * s' + i' = (s * (60 : Int32) + i).toNatClampNeg
  · have es : s' = s.toNatClampNeg := by omega
    have ei : i' = i.toNatClampNeg := by omega
    rw [if_pos ⟨es, ei⟩, es, ei]
    unfold zrf
    rw [ofNat_tn h3, ← e, mu_self]
    rcases hk with q | q
    · rw [if_pos q]
    · by_cases q2 : kd s.toNatClampNeg = 16
      · rw [if_pos q2]
      · rw [if_neg q2, if_pos q]
  · rw [if_neg (fun q => z (by rw [q.1, q.2]; exact e.symm))]
    exact zrf_ne z
end WD2
end WD1
theorem GW_up {T : Nat} {z : Int32} {r : Nat → Int32} (h : zGW T z r) (ht : T + 1 ≤ 3000) : zGW (T + 1) z r := ⟨by have := h.1; omega, ht⟩
theorem GW_more {T : Nat} {m : Nat → Nat → Int32} {c k : Nat} {z x : Int32} (h : zGW T z (m c)) (ht : T + 1 ≤ 3000) : zGW (T + 1) z (ma_u m c k x c) := by
  have := cnt_ub (m := m) (c := c) (k := k) (x := x) (n := 3100)
  exact ⟨by have := h.1; omega, ht⟩
