/-! an empty heap -/
section EM1
variable {m : Nat → Nat → Int32} {c : Nat} {i j x : Int32} {r us at' ow ws di kr kd wd rt wk wi : Nat → Int32} {n : Nat} {b : Nat → Bool} {po ro yo ol ca hf tp ot si rg pr wm : Int32} {T : Nat}
theorem neg_step (h : ∀ s : Nat, (s : Int) < i.toInt → (m c s).toInt < 0) (h0 : 0 ≤ i.toInt) (e : j.toInt = i.toInt + 1) (hx : x.toInt < 0) : ∀ s : Nat, (s : Int) < j.toInt → (ma_u m c i.toNatClampNeg x c s).toInt < 0 := by
  intro s hs
  rw [mu_at]
  split
  · exact hx
  · next q => exact h s (by rw [tn_eq] at q; omega)
theorem cnt_zero (h : ∀ s : Nat, s < n → r s = 0) : cnt r n = 0 := by
  induction n with
  | zero => rfl
  | succ n ih =>
    unfold cnt
    rw [ih (fun s hs => h s (by omega)), if_pos (h n (by omega))]
theorem sm_zero (h : ∀ s : Nat, s < n → b s = false) : sm b ws n = 0 := by
  induction n with
  | zero => rfl
  | succ n ih =>
    unfold sm
    rw [ih (fun s hs => h s (by omega)), h n (by omega)]
    simp
theorem GU_e (h : ∀ s : Nat, s < 3100 → us s = 0) (hx : x.toInt = 0) (hT : T ≤ 3000) : zGU T x us := by
  refine ⟨?_, ?_, hT⟩
  · rw [cnt_zero h]; omega
  · omega
theorem OW_e (h : ∀ s : Nat, s < 4600 → (ow s).toInt < 0) : zOw us at' ow := fun p hp z => by have := h p hp; omega
theorem DX_e (h : ∀ s : Nat, s < 3100 → us s = 0) (hr : ∀ s : Nat, (s : Int) < 16 → (rt s).toInt < 0) (hk : ∀ s : Nat, (s : Int) < 16 → (wk s).toInt < 0) (hw : wm.toInt = 0) : zDX po us rt wk wi wm kr kd ws wd := fun _ => ⟨fun k hk' => Or.inl (hr k hk'), fun k hk' => Or.inl (hk k hk'), fun k hk' => by omega, fun s hs hu => absurd (h s hs) hu⟩
theorem HA_e (h : ∀ s : Nat, s < 3100 → us s = 0) (h2 : po.toInt = 2 → tp.toInt = 0 ∧ 0 ≤ ro.toInt) (h3 : po.toInt = 3 → tp.toInt = ol.toInt ∧ 0 ≤ yo.toInt ∧ 0 ≤ ol.toInt ∧ 4 ≤ ca.toInt) (hf0 : hf.toInt = 0) (ho : ot.toInt = 0) : zHA po ro yo ol ca hf tp ot us ws at' ow di kr kd wd := by
  refine ⟨fun e => ?_, fun e => ?_⟩
  · have a := h2 e
    have s0 : sm (zbU us) ws 3100 = 0 := sm_zero (fun s hs => by unfold zbU; simp [h s hs])
    unfold zB2
    rw [if_pos hf0, s0]
    omega
  · have a := h3 e
    have s0 : sm (zbY ol.toInt us at') ws 3100 = 0 := sm_zero (fun s hs => by unfold zbY; simp [h s hs])
    unfold zB3
    rw [if_pos hf0, s0]
    exact ⟨a.2.2.2, by omega, by omega, fun s hs hu => absurd (h s hs) hu, fun s hs hu => absurd (h s hs) hu⟩
theorem RG_e (h : ∀ s : Nat, s < 3100 → us s = 0) (hs : 16 ≤ si.toInt) (hr : 4 * si.toInt ≤ ro.toInt) (hb : ro.toInt ≤ 1500) (e : rg = ro / si) (hp : pr.toInt = 0) (ht : ∀ s : Nat, s < 128 → rt s = 0) (hg : rg.toInt ≤ 93) : zRG1 si rg pr us at' ws rt := by
  have d := i_div (x := ro) (y := si) (by omega) (by omega)
  have g4 : 1 ≤ rg.toInt := by
    refine Classical.byContradiction (fun z => ?_)
    rw [e, d.2.2.1] at z
    have := Int.le_ediv_of_mul_le (a := 4) (b := ro.toInt) (c := si.toInt) (by omega) hr
    omega
  refine ⟨hs, g4, ?_, ⟨by omega, by omega⟩, fun r hr' => ?_, fun s hs' hu => absurd (h s hs') hu⟩
  · rw [e]
    have := d.2.2.2
    omega
  · rw [ht r (by omega)]
    have : (0 : Int32).toInt = 0 := rfl
    omega
end EM1
