/-! dirty cards are found anew; the major cleaning -/
def zDP (ol ca : Int) (at' kr kd wd di : Nat → Int32) (s i : Nat) : Prop := (zrf kr kd wd s i).toInt < 0 ∨ (at' (zrf kr kd wd s i).toNatClampNeg).toInt < ol ∨ di (((at' s).toInt + 1 + i) / ca).toNat ≠ 0
def zDCu (ol ca : Int) (us at' ws kr kd wd di : Nat → Int32) (cur i0 : Nat) : Prop := ∀ s, s < 3100 → us s ≠ 0 → (at' s).toInt < ol → ∀ i : Nat, (i : Int) < (ws s).toInt → (s < cur ∨ (s = cur ∧ i < i0)) → zDP ol ca at' kr kd wd di s i
section DC1
variable {ol ca : Int} {us at' ws kr kd wd di : Nat → Int32} {cur cur2 i0 i2 k c : Nat} {m : Nat → Nat → Int32} {x : Int32}
theorem DCu_0 : zDCu ol ca us at' ws kr kd wd di 0 0 := fun s _ _ _ i _ h => by omega
theorem DCu_skip (h : zDCu ol ca us at' ws kr kd wd di cur 0) (hs : us cur = 0 ∨ ol ≤ (at' cur).toInt) (e : cur2 = cur + 1) : zDCu ol ca us at' ws kr kd wd di cur2 0 := by
  subst e
  intro s hs1 hu ha i hi hc
  by_cases q : s = cur
  · subst q
    rcases hs with z | z
    · exact absurd z hu
    · omega
  · exact h s hs1 hu ha i hi (Or.inl (by omega))
theorem DCu_next (h : zDCu ol ca us at' ws kr kd wd di cur i0) (hs : (ws cur).toInt ≤ (i0 : Int)) (e : cur2 = cur + 1) : zDCu ol ca us at' ws kr kd wd di cur2 0 := by
  subst e
  intro s hs1 hu ha i hi hc
  by_cases q : s = cur
  · exact h s hs1 hu ha i hi (Or.inr ⟨q, by rw [q] at hi; omega⟩)
  · exact h s hs1 hu ha i hi (Or.inl (by omega))
theorem DCu_adv (h : zDCu ol ca us at' ws kr kd wd di cur i0) (hp : zDP ol ca at' kr kd wd di cur i0) (e : i2 = i0 + 1) : zDCu ol ca us at' ws kr kd wd di cur i2 := by
  subst e
  intro s hs1 hu ha i hi hc
  by_cases q : s = cur ∧ i = i0
  · rw [q.1, q.2]; exact hp
  · refine h s hs1 hu ha i hi ?_
    rcases hc with z | z
    · exact Or.inl z
    · exact Or.inr ⟨z.1, by have := z.1; have := z.2; rcases Nat.lt_or_ge i i0 with y | y; exact y; exact absurd ⟨z.1, by omega⟩ q⟩
theorem DCu_put (h : zDCu ol ca us at' ws kr kd wd (m c) cur i0) (hx : x ≠ 0) : zDCu ol ca us at' ws kr kd wd (ma_u m c k x c) cur i0 := by
  intro s hs1 hu ha i hi hc
  rcases h s hs1 hu ha i hi hc with q | q | q
  · exact Or.inl q
  · exact Or.inr (Or.inl q)
  · exact Or.inr (Or.inr (mu_mono hx q))
theorem DCu_end (h : zDCu ol ca us at' ws kr kd wd di cur i0) (hc : 3100 ≤ cur) : zDC ol ca us at' ws kr kd wd di := fun s hs hu ha i hi => h s hs hu ha i hi (Or.inl (by omega))
theorem sm_mono {b b' : Nat → Bool} {n : Nat} (h : ∀ s, s < n → b s = true → b' s = true) (hw : ∀ s, s < n → 0 ≤ (ws s).toInt) : sm b ws n ≤ sm b' ws n := by
  induction n with
  | zero => exact Int.le_refl _
  | succ n ih =>
    unfold sm
    have i := ih (fun s hs => h s (by omega)) (fun s hs => hw s (by omega))
    have w := hw n (by omega)
    have t := h n (by omega)
    by_cases q : b n = true
    · rw [if_pos q, if_pos (t q)]; omega
    · rw [if_neg q]
      split <;> omega
theorem HA_major {po ro yo ol ca hf tp ot ot' : Int32} {us us' ws at' at2 ow ow2 di di' : Nat → Int32} (h : zHA po ro yo ol ca hf tp ot us ws at' ow di kr kd wd) (hp : po.toInt = 3) (hu : ∀ s, s < 3100 → us' s ≠ 0 → us s ≠ 0) (hl : zLO ol.toInt at' at2) (hw : ∀ s, s < 3100 → 0 ≤ (ws s).toInt) (hk : ot'.toInt ≤ ot.toInt ∧ zPK ol.toInt ot'.toInt us' ws at2 ow2) (hd : zDC ol.toInt ca.toInt us' at2 ws kr kd wd di') : zHA po ro yo ol ca hf tp ot' us' ws at2 ow2 di' kr kd wd := by
  obtain ⟨a1, a2, a3, a4, a5⟩ := h.2 hp
  refine ⟨fun e => by omega, fun _ => ⟨a1, ⟨a2.1, a2.2.1, ?_⟩, by omega, hk.2, hd⟩⟩
  refine Int.le_trans (sm_mono (fun s hs hb => ?_) hw) a2.2.2
  unfold zbY at hb ⊢
  rw [decide_eq_true_eq] at hb ⊢
  refine ⟨hu s hs hb.1, ?_⟩
  rcases hl s hs with q | q
  · rw [← q]; exact hb.2
  · omega
end DC1
