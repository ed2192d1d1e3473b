/-! kinds, links -/
theorem i_shl8 {n : Int32} (h0 : 0 ≤ n.toInt) (h1 : n.toInt ≤ 8) : ((1 : Int32) <<< (n &&& 31)).toInt ≤ 256 := by
  have h : n.toInt = 0 ∨ n.toInt = 1 ∨ n.toInt = 2 ∨ n.toInt = 3 ∨ n.toInt = 4 ∨ n.toInt = 5 ∨ n.toInt = 6 ∨ n.toInt = 7 ∨ n.toInt = 8 := by omega
  rcases h with h | h | h | h | h | h | h | h | h
  · rw [Int32.toInt_inj.mp (h.trans (rfl : (0 : Int32).toInt = 0).symm)]; decide
  · rw [Int32.toInt_inj.mp (h.trans (rfl : (1 : Int32).toInt = 1).symm)]; decide
  · rw [Int32.toInt_inj.mp (h.trans (rfl : (2 : Int32).toInt = 2).symm)]; decide
  · rw [Int32.toInt_inj.mp (h.trans (rfl : (3 : Int32).toInt = 3).symm)]; decide
  · rw [Int32.toInt_inj.mp (h.trans (rfl : (4 : Int32).toInt = 4).symm)]; decide
  · rw [Int32.toInt_inj.mp (h.trans (rfl : (5 : Int32).toInt = 5).symm)]; decide
  · rw [Int32.toInt_inj.mp (h.trans (rfl : (6 : Int32).toInt = 6).symm)]; decide
  · rw [Int32.toInt_inj.mp (h.trans (rfl : (7 : Int32).toInt = 7).symm)]; decide
  · rw [Int32.toInt_inj.mp (h.trans (rfl : (8 : Int32).toInt = 8).symm)]; decide
theorem i_div4 {x y : Int32} (h1 : 0 ≤ x.toInt) (h2 : x.toInt ≤ 1999) (h3 : 4 ≤ y.toInt) : 0 ≤ (x / y).toInt ∧ (x / y).toInt ≤ 499 := by
  have h := i_div (x := x) (y := y) h1 (by omega)
  refine ⟨h.1, ?_⟩
  refine Classical.byContradiction (fun z => ?_)
  have h4 : 500 * 4 ≤ (x / y).toInt * y.toInt := Int.mul_le_mul (by omega) h3 (by omega) (by omega)
  have := h.2.2.2
  omega
section LK1
variable {ks po ro yo ol ca hf tp ot wm x : Int32} {kr kd ws wd wd' us rt wk wi at' ow di di' : Nat → Int32} {s0 i0 : Nat}
theorem W_link (h : zW ks kr kd ws wd) (h1 : -1 ≤ x.toInt) (h2 : x.toInt ≤ 3099) (e : ∀ s' i' : Nat, s' < 3100 → (i' : Int) < (ws s').toInt → zrf kr kd wd' s' i' = if s' = s0 ∧ i' = i0 then x else zrf kr kd wd s' i') : zW ks kr kd ws wd' := by
  intro s hs
  refine ⟨fun i hi => ?_, (h s hs).2⟩
  rw [e s i hs hi]
  split
  · exact ⟨h1, h2⟩
  · exact (h s hs).1 i hi
theorem DX_link (h : zDX po us rt wk wi wm kr kd ws wd) (hx : (po.toInt = 2 ∨ po.toInt = 3) → x.toInt < 0 ∨ us x.toNatClampNeg ≠ 0) (e : ∀ s' i' : Nat, s' < 3100 → (i' : Int) < (ws s').toInt → zrf kr kd wd' s' i' = if s' = s0 ∧ i' = i0 then x else zrf kr kd wd s' i') : zDX po us rt wk wi wm kr kd ws wd' := by
  intro hp
  obtain ⟨a1, a2, a3, a4⟩ := h hp
  refine ⟨a1, a2, a3, fun s hs hu i hi => ?_⟩
  unfold zcl
  rw [e s i hs hi]
  split
  · exact hx hp
  · exact a4 s hs hu i hi
theorem HA_link (h : zHA po ro yo ol ca hf tp ot us ws at' ow di kr kd wd) (hd : ∀ j, di j ≠ 0 → di' j ≠ 0) (e : ∀ s' i' : Nat, s' < 3100 → (i' : Int) < (ws s').toInt → zrf kr kd wd' s' i' = if s' = s0 ∧ i' = i0 then x else zrf kr kd wd s' i') (hx : po.toInt = 3 → (at' s0).toInt < ol.toInt → x.toInt < 0 ∨ (at' x.toNatClampNeg).toInt < ol.toInt ∨ di' (((at' s0).toInt + 1 + i0) / ca.toInt).toNat ≠ 0) : zHA po ro yo ol ca hf tp ot us ws at' ow di' kr kd wd' := by
  refine ⟨h.1, fun hp => ?_⟩
  obtain ⟨a1, a2, a3, a4, a5⟩ := h.2 hp
  refine ⟨a1, a2, a3, a4, fun s hs hu ha i hi => ?_⟩
  rw [e s i hs hi]
  by_cases z : s = s0 ∧ i = i0
  · rw [if_pos z, z.1, z.2]
    rw [z.1] at ha
    exact hx hp ha
  · rw [if_neg z]
    rcases a5 s hs hu ha i hi with q | q | q
    · exact Or.inl q
    · exact Or.inr (Or.inl q)
    · exact Or.inr (Or.inr (hd _ q))
end LK1
theorem card_ix {a i c : Int32} (h1 : 0 ≤ a.toInt) (h2 : a.toInt ≤ 4599) (h3 : 0 ≤ i.toInt) (h4 : i.toInt ≤ 60) (h5 : 4 ≤ c.toInt) : ((a + (1 : Int32) + i) / c).toNatClampNeg = ((a.toInt + 1 + (i.toNatClampNeg : Int)) / c.toInt).toNat := by
  have e1 : (a + (1 : Int32)).toInt = a.toInt + 1 := i_addk rfl (by omega) (by omega)
  have e2 : (a + (1 : Int32) + i).toInt = (a + (1 : Int32)).toInt + i.toInt := i_add (by omega) (by omega)
  have h := i_div (x := a + (1 : Int32) + i) (y := c) (by omega) (by omega)
  rw [tn_eq, h.2.2.1, tn_cast h3, e2, e1]
theorem W_isr {ks : Int32} {kr kd ws wd : Nat → Int32} {s i : Int32} (h : zW ks kr kd ws wd) (h1 : 0 ≤ s.toInt) (h2 : s.toInt ≤ 3099) (h3 : 0 ≤ i.toInt) (h4 : i.toInt < (ws s.toNatClampNeg).toInt) (h5 : (ws s.toNatClampNeg).toInt ≤ 60) (hk : kd s.toNatClampNeg = 16 ∨ (kd s.toNatClampNeg < 16 ∧ ((kr (kd s.toNatClampNeg).toNatClampNeg >>> (i &&& 31)) &&& 1) = 1)) : -1 ≤ (wd (s * (60 : Int32) + i).toNatClampNeg).toInt ∧ (wd (s * (60 : Int32) + i).toNatClampNeg).toInt ≤ 3099 := by
  have e := zrf_eq (kr := kr) (kd := kd) (wd := wd) h1 h2 h3 (by omega)
  by_cases q2 : kd s.toNatClampNeg = 16
  · rw [if_pos q2] at e
    exact W_ref h h1 h2 h3 h4 e.symm
  · rw [if_neg q2, if_pos (hk.elim (fun z => absurd z q2) id)] at e
    exact W_ref h h1 h2 h3 h4 e.symm
