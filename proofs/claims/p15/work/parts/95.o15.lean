/-! the reference under COUNTS (written by wip/tools/gen20s.py) -/
/-! COUNTS, the reference: a new one -/
section D5
variable {b d : Nat → Nat → Int32} {us us' nr nr' ws at' ho ct ct' : Nat → Int32} {x y z w pl kk : Int32} {s : Nat} {L : Int64} {st : List (List Int32)} {B : Int}
theorem Ct_z0 (h : qCt ct us nr b st x z) (e1 : ∀ t, t ≠ s → ct' t = ct t) (e2 : ∀ t, t ≠ s → nr' t = nr t) (e3 : ∀ t, t ≠ s → us' t = us t) : qCt ct' (zmk us' s) nr' b st x z := fun t ht hv => by
  have ts : t ≠ s := fun e => hv (if_pos e)
  have hu : us t ≠ 0 := fun q => hv ((if_neg ts).trans ((e3 t ts).trans q))
  rw [e1 t ts, e2 t ts]
  exact h t ht hu
theorem V_ad4 (hN : qNe b y w pl) (hA : qAd b d y kk w pl L) (hV : cV b [] B) (hB : 0 ≤ B) : cV d [] B := V_0 (C_ad (K' := zKu (fun n => Int32.ofInt (cRf b n)) y.toNatClampNeg 0) hN hA (C_ofV hV) hB (fun _ => rfl))
theorem Ct_ad (hN : qNe b y w pl) (hA : qAd b d y kk w pl L) (hV : cV b [] B) (h : qCt ct (zmk us s) nr b [] (-1) (-1)) (h1 : qR1 (zmk us s) nr ws at' ho b) (hz : ct s = 0) (hn : nr s = y) : qCt ct us nr d [] (-1) (-1) := fun t ht hv => by
  have q := Ne_b hN
  by_cases ts : t = s
  · have o : cOc ([] : List (List Int32)) y.toNatClampNeg = 0 := rfl
    rw [ts, hz, hn, Rf_a0 hN hA hV.2.1, is_m1 q.2.1, o]
    rfl
  · have hm : zmk us s t ≠ 0 := fun e => hv ((if_neg ts).symm.trans e)
    rw [h t ht hm, Rf_ad hN hA (R1_al h1 ht hm)]
end D5
