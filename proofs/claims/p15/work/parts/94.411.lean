/-! granting and removing -/
def zuw (r r' : Nat → Int32) : Prop := ∀ k : Nat, r' k = r k ∨ (r' k).toInt < 0
def zwx (wi wi' : Nat → Int32) (wm s : Int32) : Prop := (∀ k : Nat, (k : Int) < wm.toInt → wi' k = wi k) ∧ wi' wm.toNatClampNeg = s
/-- of those in use before, up to l, they are in use still if they are kept -/
def zrm (us us' kp : Nat → Int32) (l : Nat) : Prop := ∀ s, s < 3100 → (s < l → (us' s ≠ 0 ↔ us s ≠ 0 ∧ kp s ≠ 0)) ∧ (l ≤ s → us' s = us s)
def zowr (ow ow' us kp at' : Nat → Int32) : Prop := ∀ p : Nat, p < 4600 → ow' p = ow p ∨ ((ow' p).toInt = -1 ∧ ∃ s, s < 3100 ∧ us s ≠ 0 ∧ kp s = 0 ∧ (at' s).toInt = (p : Int))
/-- what a sweep leaves -/
def zsw (us us' ow ow' at' : Nat → Int32) : Prop := (∀ s, s < 3100 → us' s ≠ 0 → us s ≠ 0) ∧ ∀ p : Nat, p < 4600 → ow' p = ow p ∨ ((ow' p).toInt = -1 ∧ ∃ s, s < 3100 ∧ us s ≠ 0 ∧ us' s = 0 ∧ (at' s).toInt = (p : Int))
section GR1
variable {m ms : Nat → Nat → Int32} {c d k : Nat} {kp kr kd ws wd st us rt wk wi wk' wi' us' ow ow' at' nr : Nat → Int32} {z x y v po wm wm' a b s : Int32} {l l2 : Nat}
theorem zuw_rfl : zuw wk wk := fun _ => Or.inl rfl
theorem zuw_tr {r : Nat → Int32} (h : zuw r wk) (h' : zuw wk wk') : zuw r wk' := fun k => (h' k).elim (fun e => (h k).elim (fun e2 => Or.inl (e.trans e2)) (fun q => Or.inr (by rw [e]; exact q))) Or.inr
theorem zuw_put {r : Nat → Int32} (h : zuw r (m c)) (hx : x.toInt < 0) : zuw r (ma_u m c k x c) := by
  intro j
  rw [mu_at]
  split
  · exact Or.inr hx
  · exact h j
theorem cov_uw {n : Int} (h : zcov us wk n) (hu : zuw wk wk') : zcov us wk' n := by
  intro j hj
  rcases hu j with e | e
  · rw [e]; exact h j hj
  · exact Or.inl e
theorem cov_wx {n : Int} (h : zcov us wi wm.toInt) (hx : zwx wi wi' wm s) (hs : us s.toNatClampNeg ≠ 0) (h0 : 0 ≤ wm.toInt) (hn : n = wm.toInt + 1) : zcov us wi' n := by
  intro j hj
  have e : wm.toNatClampNeg = wm.toInt.toNat := rfl
  by_cases q : j = wm.toNatClampNeg
  · rw [q, hx.2]; exact Or.inr hs
  · rw [hx.1 j (by omega)]; exact h j (by omega)
theorem DX_wish (h : zDX po us rt wk wi wm kr kd ws wd) (hu : zuw wk wk') (hx : zwx wi wi' wm s) (hs : us s.toNatClampNeg ≠ 0) (h0 : 0 ≤ wm.toInt) (hn : wm'.toInt = wm.toInt + 1) : zDX po us rt wk' wi' wm' kr kd ws wd := by
  intro hp
  obtain ⟨a1, a2, a3, a4⟩ := h hp
  exact ⟨a1, cov_uw a2 hu, cov_wx a3 hx hs h0 hn, a4⟩
theorem WS_ge (h : zWS nr us kp wi a v) (hv : 0 ≤ v.toInt) : 0 ≤ v.toInt ∧ v.toInt ≤ 3099 ∧ us v.toNatClampNeg ≠ 0 ∧ kp v.toNatClampNeg = 0 ∧ wi v.toNatClampNeg ≠ 0 ∧ a.toInt < (nr v.toNatClampNeg).toInt := h.elim (fun q => by omega) id
theorem WS_weak (h : zWS nr us kp wi a v) (hb : b.toInt ≤ a.toInt) : zWS nr us kp wi b v := h.elim Or.inl (fun q => Or.inr ⟨q.1, q.2.1, q.2.2.1, q.2.2.2.1, q.2.2.2.2.1, by have := q.2.2.2.2.2; omega⟩)
theorem rm_0 : zrm us us kp 0 := fun s _ => ⟨fun h => absurd h (Nat.not_lt_zero _), fun _ => rfl⟩
theorem rm_skip (h : zrm us us' kp l) (hk : us' l = 0 ∨ kp l ≠ 0) (e : l2 = l + 1) : zrm us us' kp l2 := by
  subst e
  intro s hs
  refine ⟨fun hl => ?_, fun hl => (h s hs).2 (by omega)⟩
  by_cases q : s = l
  · subst q
    have e2 := (h s hs).2 (Nat.le_refl _)
    rw [e2]
    rw [e2] at hk
    exact ⟨fun z => ⟨z, hk.elim (fun w => absurd w z) id⟩, fun z => z.1⟩
  · exact (h s hs).1 (by omega)
theorem rm_put (h : zrm us (m c) kp l) (hk : kp l = 0) (e : l2 = l + 1) : zrm us (ma_u m c l 0 c) kp l2 := by
  subst e
  intro s hs
  by_cases q : s = l
  · subst q
    refine ⟨fun _ => ?_, fun hl => by omega⟩
    rw [mu_self]
    exact ⟨fun z => absurd rfl z, fun z => absurd hk z.2⟩
  · rw [mu_ne q]
    exact ⟨fun hl => (h s hs).1 (by omega), fun hl => (h s hs).2 (by omega)⟩
theorem owr_rfl : zowr ow ow us kp at' := fun _ _ => Or.inl rfl
theorem owr_put {s : Nat} (h : zowr ow (m c) us kp at') (hs : s < 3100) (hu : us s ≠ 0) (hk : kp s = 0) (hx : x.toInt = -1) (hat : (at' s).toInt = (k : Int)) : zowr ow (ma_u m c k x c) us kp at' := by
  intro p hp
  rw [mu_at]
  split
  · next e => exact Or.inr ⟨hx, s, hs, hu, hk, by rw [e]; exact hat⟩
  · exact h p hp
/-- one is removed -/
theorem Ow_rm {mo : Nat → Nat → Int32} {co : Nat} (h : zOw (m c) at' (mo co)) (hx : x.toInt = -1) (hk : (at' k).toInt = (l : Int)) : zOw (ma_u m c k 0 c) at' (ma_u mo co l x co) := by
  intro p hp ho
  by_cases q : p = l
  · rw [q, mu_self] at ho; omega
  · rw [mu_ne q] at ho ⊢
    have := h p hp ho
    have e : (mo co p).toNatClampNeg ≠ k := fun z => by rw [z] at this; omega
    rw [mu_ne e]
    exact this
theorem DX_sweep (hC : zCL kp kr kd ws wd st z 3100 0) (hz : z.toInt = 0) (hr : zcov kp rt 16) (hw : zcov kp wi wm.toInt) (hk : zcov kp wk 16) (hu : zKU po us kp) (hm : zrm us us' kp 3100) (br : ∀ j : Nat, (j : Int) < 16 → (rt j).toInt ≤ 3099) (bw : ∀ j : Nat, (j : Int) < wm.toInt → (wi j).toInt ≤ 3099) (bk : ∀ j : Nat, (j : Int) < 16 → (wk j).toInt ≤ 3099) (bf : ∀ s, s < 3100 → ∀ i : Nat, (i : Int) < (ws s).toInt → (zrf kr kd wd s i).toInt ≤ 3099) : zDX po us' rt wk wi wm kr kd ws wd := by
  intro hp
  have key : ∀ j : Int32, j.toInt ≤ 3099 → (j.toInt < 0 ∨ kp j.toNatClampNeg ≠ 0) → (j.toInt < 0 ∨ us' j.toNatClampNeg ≠ 0) := by
    intro j hj hq
    rcases hq with q | q
    · exact Or.inl q
    · have hl : j.toNatClampNeg < 3100 := by rw [tn_eq]; omega
      exact Or.inr (((hm _ hl).1 hl).mpr ⟨hu hp _ hl q, q⟩)
  refine ⟨fun j hj => key _ (br j hj) (hr j hj), fun j hj => key _ (bk j hj) (hk j hj), fun j hj => key _ (bw j hj) (hw j hj), fun s hs hus i hi => ?_⟩
  have hks := (((hm s hs).1 hs).mp hus).2
  rcases hC.2.2 s hs hks with ⟨j, hj, _⟩ | q | ⟨q, _⟩
  · omega
  · exact key _ (bf s hs i hi) (q i hi)
  · omega
theorem sw_of (hm : zrm us us' kp 3100) (ho : zowr ow ow' us kp at') : zsw us us' ow ow' at' := by
  refine ⟨fun s hs h => (((hm s hs).1 hs).mp h).1, fun p hp => ?_⟩
  rcases ho p hp with e | ⟨e, s, hs, hu, hk, ha⟩
  · exact Or.inl e
  · refine Or.inr ⟨e, s, hs, hu, ?_, ha⟩
    refine Classical.byContradiction (fun z => ?_)
    exact (((hm s hs).1 hs).mp z).2 hk
theorem W_hi {ks : Int32} (h : zW ks kr kd ws wd) : ∀ s, s < 3100 → ∀ i : Nat, (i : Int) < (ws s).toInt → (zrf kr kd wd s i).toInt ≤ 3099 := fun s hs i hi => ((h s hs).1 i hi).2
end GR1
