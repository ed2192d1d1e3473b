/-! removing, moving -/
section RM2
variable {m ma mo : Nat → Nat → Int32} {c ca co k t : Nat} {kp us us' at' ow : Nat → Int32} {x b v : Int32} {l s : Nat}
theorem rm_us (h : zrm us us' kp l) (hl : l < 3100) (hu : us' l ≠ 0) : us l ≠ 0 := by
  rw [← (h l hl).2 (Nat.le_refl _)]
  exact hu
theorem rm_end (h : zrm us us' kp l) (hl : 3100 ≤ l) : zrm us us' kp 3100 := fun s hs => ⟨fun _ => (h s hs).1 (by omega), fun z => by omega⟩
/-- one moves: where it was, it begins no more -/
theorem Ow_mv1 (h : zOw us (ma ca) (mo co)) (hu : us s ≠ 0) (hx : x.toInt < 0) (hl : (ma ca s).toInt = (l : Int)) (hv : v.toNatClampNeg = s) (hb : b.toInt = (t : Int)) : zOw us (ma_u ma ca s b ca) (ma_u (ma_u mo co l x) co t v co) := by
  intro p hp ho
  by_cases e : p = t
  · rw [e, mu_self, hv, mu_self]
    exact ⟨hu, hb⟩
  · rw [mu_ne e] at ho ⊢
    by_cases e2 : p = l
    · rw [e2, mu_self] at ho; omega
    · rw [mu_ne e2] at ho ⊢
      have := h p hp ho
      have e3 : (mo co p).toNatClampNeg ≠ s := fun z => by rw [z] at this; omega
      rw [mu_ne e3]
      exact this
theorem Ow_mv2 (h : zOw us (ma ca) (mo co)) (hu : us s ≠ 0) (hl : (ma ca s).toInt = (l : Int)) (hn : mo co l ≠ v) (hv0 : 0 ≤ v.toInt) (hv : v.toNatClampNeg = s) (hb : b.toInt = (t : Int)) : zOw us (ma_u ma ca s b ca) (ma_u mo co t v co) := by
  intro p hp ho
  by_cases e : p = t
  · rw [e, mu_self, hv, mu_self]
    exact ⟨hu, hb⟩
  · rw [mu_ne e] at ho ⊢
    have := h p hp ho
    have e3 : (mo co p).toNatClampNeg ≠ s := by
      intro z
      rw [z] at this
      have hpl : p = l := by omega
      rw [hpl] at z ho
      refine hn ?_
      refine Int32.toInt_inj.mp ?_
      have z2 : (mo co l).toNatClampNeg = v.toNatClampNeg := by rw [z, hv]
      rw [tn_eq, tn_eq] at z2
      have hvv : v.toNatClampNeg = v.toInt.toNat := rfl
      omega
    rw [mu_ne e3]
    exact this
end RM2
