/-! by halves and by ages: sums of sizes, dirty cards -/
def sm (b : Nat → Bool) (ws : Nat → Int32) : Nat → Int
  | 0 => 0
  | n + 1 => sm b ws n + (if b n = true then (ws n).toInt + 1 else 0)
def zbU (us : Nat → Int32) : Nat → Bool := fun s => decide (us s ≠ 0)
def zbY (ol : Int) (us at' : Nat → Int32) : Nat → Bool := fun s => decide (us s ≠ 0 ∧ ol ≤ (at' s).toInt)
/-- an OLD one's word that refers to YOUNG lies in a dirty card -/
def zDC (ol ca : Int) (us at' ws kr kd wd di : Nat → Int32) : Prop := ∀ s, s < 3100 → us s ≠ 0 → (at' s).toInt < ol → ∀ i : Nat, (i : Int) < (ws s).toInt → (zrf kr kd wd s i).toInt < 0 ∨ (at' (zrf kr kd wd s i).toNatClampNeg).toInt < ol ∨ di (((at' s).toInt + 1 + i) / ca).toNat ≠ 0
def zB2 (hf ro : Int32) : Int := if hf.toInt = 0 then 0 else ro.toInt
def zB3 (hf ol yo : Int32) : Int := ol.toInt + (if hf.toInt = 0 then 0 else yo.toInt)
/-- what holds by halves and by ages -/
def zHA (po ro yo ol ca hf tp ot : Int32) (us ws at' ow di kr kd wd : Nat → Int32) : Prop :=
  (po.toInt = 2 → zB2 hf ro ≤ tp.toInt ∧ tp.toInt ≤ zB2 hf ro + ro.toInt ∧ sm (zbU us) ws 3100 ≤ tp.toInt - zB2 hf ro) ∧
  (po.toInt = 3 → 4 ≤ ca.toInt ∧ (zB3 hf ol yo ≤ tp.toInt ∧ tp.toInt ≤ zB3 hf ol yo + yo.toInt ∧ sm (zbY ol.toInt us at') ws 3100 ≤ tp.toInt - zB3 hf ol yo) ∧ ot.toInt ≤ ol.toInt ∧ zPK ol.toInt ot.toInt us ws at' ow ∧ zDC ol.toInt ca.toInt us at' ws kr kd wd di)
def zRG (po si rg pr : Int32) (us at' ws rt : Nat → Int32) : Prop := po.toInt = 6 → zRG1 si rg pr us at' ws rt
section HA1
variable {po ro yo ol ca hf tp ot si rg pr : Int32} {us us' ws at' ow ow' di kr kd wd rt wk wk' wi wi' : Nat → Int32} {wm wm' : Int32} {m : Nat → Nat → Int32} {c k : Nat} {x : Int32}
theorem HA_lq (h : zHA po ro yo ol ca hf tp ot us ws at' ow di kr kd wd) (q : po.toInt ≠ 4 → us' = us ∧ ow' = ow) : zHA po ro yo ol ca hf tp ot us' ws at' ow' di kr kd wd := by
  refine ⟨fun e => ?_, fun e => ?_⟩
  · rw [(q (by omega)).1]; exact h.1 e
  · rw [(q (by omega)).1, (q (by omega)).2]; exact h.2 e
theorem RG_lq (h : zRG po si rg pr us at' ws rt) (q : po.toInt ≠ 4 → us' = us) : zRG po si rg pr us' at' ws rt := by
  intro e
  rw [q (by omega)]
  exact h e
/-- a ROOT, a WEAK is set -/
theorem cov_set {n : Int} (h : zcov us (m c) n) (hx : x.toInt < 0 ∨ us x.toNatClampNeg ≠ 0) : zcov us (ma_u m c k x c) n := by
  intro j hj
  rw [mu_at]
  split
  · exact hx
  · exact h j hj
theorem DX_root (h : zDX po us (m c) wk wi wm kr kd ws wd) (hx : (po.toInt = 2 ∨ po.toInt = 3) → x.toInt < 0 ∨ us x.toNatClampNeg ≠ 0) : zDX po us (ma_u m c k x c) wk wi wm kr kd ws wd := fun hp => ⟨cov_set (h hp).1 (hx hp), (h hp).2⟩
theorem DX_weak (h : zDX po us rt (m c) wi wm kr kd ws wd) (hx : x.toInt < 0 ∨ us x.toNatClampNeg ≠ 0) : zDX po us rt (ma_u m c k x c) wi wm kr kd ws wd := fun hp => ⟨(h hp).1, cov_set (h hp).2.1 hx, (h hp).2.2⟩
end HA1
