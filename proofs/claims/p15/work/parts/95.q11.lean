/-! the moving collectors, the class (written by wip/tools/gen15.py) -/
/-! SLIDE: the reference's move -/
section F1
variable {a : Nat → Nat → Int32} {us nr kr kd ws at' at2 ho wd wi ow ow2 rt wk wl : Nat → Int32} {wm nu ro fo le ra pi to : Int32} {s : Nat}
theorem RB_mo (hR : qRB us nr kr kd ws at' ho wd wi ow rt wk wl wm nu ro fo le ra pi a) (hI : qI a) (hs : s < 3100) (hu : us s ≠ 0) (h0 : 0 ≤ to.toInt) (h1 : to.toInt + (a 128 (nr s).toNatClampNeg).toInt ≤ (a 87 0).toInt) (F : qFr a (nr s).toNatClampNeg to)
    (ha : ∀ t, at2 t = if t = s then to else at' t) (h2 : ow2 to.toNatClampNeg = Int32.ofNat s) (h3 : ∀ p, p ≠ to.toNatClampNeg → p ≠ (at' s).toNatClampNeg → ow2 p = ow p) : qRB us nr kr kd ws at2 ho wd wi ow2 rt wk wl wm nu ro fo le ra pi (aMo a (nr s).toNatClampNeg to) := by
  have hn := R1_al hR.1 hs hu
  have ne : ∀ t, t < 3100 → us t ≠ 0 → t ≠ s → (nr t).toNatClampNeg ≠ (nr s).toNatClampNeg := fun t ht hut e z => e (hR.1.2.1 t s ht hs hut hu (by rw [← R1_of_nr hR.1 ht hut, ← R1_of_nr hR.1 hs hu, z]))
  refine ⟨⟨fun t ht hut => ?_, hR.1.2.1, fun n hn2 hz => ?_⟩, fun t ht hut i hi => ?_, fun k hk => ?_, fun k hk => ?_, ?_, fun t ht hut => ?_, fun t ht hut => ?_, ?_⟩
  · have q := hR.1.1 t ht hut
    rw [Mo_r (c := 126) (by decide) (by decide), Mo_r (c := 128) (by decide) (by decide), Mo_r (c := 133) (by decide) (by decide), ha t]
    by_cases e : t = s
    · rw [if_pos e, e, Mo_pn]
      rw [e] at q
      exact ⟨q.1, q.2.1, q.2.2.1, rfl, q.2.2.2.2.1, q.2.2.2.2.2.1, h0⟩
    · rw [if_neg e, Mo_po (ne t ht hut e)]
      exact q
  · rw [Mo_r (by decide) (by decide)] at hz
    exact hR.1.2.2 n hn2 hz
  · have q := hR.2.1 t ht hut i hi
    have b := hR.1.1 t ht hut
    have al := R1_al hR.1 ht hut
    have sz : (a 128 (nr t).toNatClampNeg).toInt = (ws t).toInt + 1 := by
      rw [b.2.2.1]
      exact i_addk rfl (by omega) (by omega)
    have ei : (Int32.ofNat i).toInt = (i : Int) := ofN_s (by omega)
    rw [Mo_ref hI hn h0 h1 F al (by omega) (by omega), Mo_r (c := 1000 + (nr t).toNatClampNeg) (by omega) (by omega)]
    exact q
  · rw [Mo_r (by decide) (by decide)]
    exact hR.2.2.1 k hk
  · rw [Mo_r (by decide) (by decide)]
    exact hR.2.2.2.1 k hk
  · unfold qR5
    rw [Mo_c (c := 69) (by decide) (by decide), Mo_c (c := 74) (by decide) (by decide)]
    exact hR.2.2.2.2.1
  · rw [Mo_r (by decide) (by decide)]
    exact hR.2.2.2.2.2.1 t ht hut
  · rw [ha t]
    by_cases e : t = s
    · rw [if_pos e, e]
      exact h2
    · rw [if_neg e]
      have b := hR.1.1 t ht hut
      have bs := hR.1.1 s hs hu
      have al := R1_al hR.1 ht hut
      have f := F _ al (ne t ht hut e)
      have g := hI.2.1 _ _ al hn (ne t ht hut e)
      have z1 := (hI.1 _ al).2.1
      have z2 := (hI.1 _ hn).2.1
      rw [b.2.2.2.1] at f g
      rw [bs.2.2.2.1] at g
      have t0 := tn_cast (x := to) h0
      have t1 := tn_cast (x := at' t) b.2.2.2.2.2.2
      have t2 := tn_cast (x := at' s) bs.2.2.2.2.2.2
      rw [h3 (at' t).toNatClampNeg (by omega) (by omega)]
      exact hR.2.2.2.2.2.2.1 t ht hut
  · unfold qR8
    rw [Mo_c (c := 69) (by decide) (by decide), Mo_c (c := 87) (by decide) (by decide)]
    exact hR.2.2.2.2.2.2.2
end F1
