/-! AGES, the reference (written by wip/tools/gen15v.py) -/
/-! AGES: ages and cards of a new one in the reference; a link -/
section F38
variable {a b c d aa : Nat → Nat → Int32} {us us' nr nr' kr kd ws at' ho wd wi ow rt wk wl gs gs' dt dt' : Nat → Int32} {wm nu ro fo le ra pi : Int32} {x y v z w pl kk i r1 yo ol ag cd tp ot hf o t : Int32} {n k s : Nat} {L : Int64}
theorem Ag_cg (h : qAg us nr gs a) (e : b 131 = a 131) : qAg us nr gs b := by
  unfold qAg
  rw [e]
  exact h
theorem Dt_cg (h : qDt dt a) (e : b 83 = a 83) : qDt dt b := by
  unfold qDt
  rw [e]
  exact h
theorem Ag_z (h : qAg us nr gs b) (h1 : ∀ t, t ≠ s → us' t = us t) (h2 : ∀ t, t ≠ s → nr' t = nr t) (h3 : ∀ t, t ≠ s → gs' t = gs t) : qAg (zmk us' s) nr' gs' b := fun t ht hu => by
  unfold zmk at hu
  by_cases z : t = s
  · rw [if_pos z] at hu
    exact absurd rfl hu
  · rw [if_neg z, h1 t z] at hu
    rw [h2 t z, h3 t z]
    exact h t ht hu
theorem Ag_h (h : qAg (zmk us s) nr gs b) (h3 : ∀ t, t ≠ s → gs' t = gs t) : qAg (zmk us s) nr gs' b := fun t ht hu => by
  by_cases z : t = s
  · unfold zmk at hu
    rw [if_pos z] at hu
    exact absurd rfl hu
  · rw [h3 t z]
    exact h t ht hu
theorem Ag_us (e : us' = us) (h : qAg us nr gs a) : qAg us' nr gs a := e ▸ h
theorem Ag_new (h : qAg (zmk us s) nr gs b) (hN : qNs us nr kr kd ws at' ho wd wi ow rt wk wl wm nu ro fo le ra pi b s y kk w pl) (hE : qNe b y w pl) (h0 : gs s = 0) : qAg us nr gs (aRt (aAd b y (zFn y kk (w + 1) pl) L) r1 y) := fun t ht hu => by
  have q := Ne_b hE
  rw [rt_r (c := 131) (by decide) (by decide) (by decide) (by decide)]
  by_cases z : t = s
  · rw [z, hN.2.2.1, Ad_131 q.1, h0]
  · have hu2 : zmk us s t ≠ 0 := by
      unfold zmk
      rw [if_neg z]
      exact hu
    have al := R1_al hN.1.1 ht hu2
    have ne := ne_al hE al
    have hw := hE.2.2.2.1
    have A := Ad_of (b := b) (y := y) (kk := kk) (w := w) (pl := pl) (L := L) q.1 hw.1 hw.2 q.2.2.2.1 (by omega)
    have r : aMd (aAd b y (zFn y kk (w + 1) pl) L) y 131 = aAd b y (zFn y kk (w + 1) pl) L 131 := by
      funext k
      unfold aMd
      split <;> rw [xu_o (by omega)]
      all_goals first | rfl | rw [xu_o (by omega)]
    have e := A.2.1 131 _ (by decide) (by decide) ne
    rw [r] at e
    rw [e]
    exact h t ht hu2
theorem Dt_new (h : qDt dt b) : qDt dt (aRt (aAd b y (zFn y kk (w + 1) pl) L) r1 y) := Dt_cg h (by
  rw [rt_r (c := 83) (by decide) (by decide) (by decide) (by decide)]
  funext k
  exact ad_9 ⟨by decide, by decide⟩)
theorem AL_new (h : qAL b yo ol ag cd tp ot hf) : qAL (aRt (aAd b y (zFn y kk (w + 1) pl) L) r1 y) yo ol ag cd tp ot hf := AL_cg h (by
  rw [rt_r (c := 87) (by decide) (by decide) (by decide) (by decide)]
  funext k
  exact ad_87)
/-! room: what the code's tests say -/
theorem AL_hs (h : qAL a yo ol ag cd tp ot hf) (hv : qAv a) (hz : 1 ≤ z.toInt) (hz6 : z.toInt ≤ 61) : gHs a z.toInt ↔ (tp + z).toInt ≤ (ol + (hf + 1) * yo).toInt := by
  have b := AL_b h hv
  obtain ⟨⟨h1, h2, h3, h4⟩, h5, h6, h7, h8, h9⟩ := h
  have e1 : (tp + z).toInt = tp.toInt + z.toInt := i_add (by omega) (by omega)
  have e2 : (hf + (1 : Int32)).toInt = hf.toInt + 1 := i_p1 (by omega)
  have e3 := i_mul01 (x := hf + (1 : Int32)) (y := yo) (by omega) (by omega) (by omega) (by omega)
  have e4 : (ol + (hf + 1) * yo).toInt = ol.toInt + ((hf + 1) * yo).toInt := i_add (by omega) (by omega)
  unfold gHs
  rw [h5, h1, e1, e4]
  rcases h7 with w | w
  · rw [h8 w]
    omega
  · rw [h9 w]
    omega
theorem AL_ob (h : qAL a yo ol ag cd tp ot hf) (hv : qAv a) (hz : 1 ≤ z.toInt) (hz6 : z.toInt ≤ 61) : (a 87 9).toInt < (a 87 10).toInt + z.toInt ↔ ol.toInt < (ot + z).toInt := by
  have b := AL_b h hv
  have e1 : (ot + z).toInt = ot.toInt + z.toInt := i_add (by omega) (by omega)
  rw [h.1.2.1, h.2.2.1, e1]
theorem AL_2 (h : qAL a yo ol ag cd tp ot hf) (hv : qAv a) : (a 87 5).toInt / 2 = (yo / (2 : Int32)).toInt := by
  have b := AL_b h hv
  have d := (i_div (x := yo) (y := (2 : Int32)) (by omega) (by decide)).2.2.1
  have t2 : (2 : Int32).toInt = 2 := rfl
  rw [t2] at d
  rw [h.1.1, d]
theorem AL_yo (h : qAL a yo ol ag cd tp ot hf) (hv : qAv a) : (a 87 9).toInt ≤ tp.toInt := by
  have b4 := hv.2.2.2.1
  have b5 := hv.2.2.2.2.1
  have b3 := hv.2.2.1
  rw [← h.2.1]
  omega
theorem E_b0 (h : qAL a yo ol ag cd tp ot hf) (hv : qAv a) (hz : 1 ≤ z.toInt) (hz6 : z.toInt ≤ 61) (h2 : (yo / (2 : Int32)).toInt < z.toInt) (hn : ¬ ol.toInt < (ot + z).toInt) : gRs a z.toInt = a ∧ qEq ot.toInt (gRp a z.toInt) ∧ ot.toInt < (gRs a z.toInt 87 9).toInt := by
  have E := Rs_go (a := a) (z := z.toInt) (by rw [AL_2 h hv]; exact h2) (Ro_n (fun w => hn ((AL_ob h hv hz hz6).mp w)))
  have b := AL_b h hv
  have e1 : (ot + z).toInt = ot.toInt + z.toInt := i_add (by omega) (by omega)
  refine ⟨E.1, ?_, ?_⟩
  · unfold qEq
    rw [E.2.2 (fun w => hn ((AL_ob h hv hz hz6).mp w)), h.2.2.1]
  · rw [E.1, h.1.2.1]
    omega
theorem E_b1 (h : qAL a yo ol ag cd tp ot hf) (hv : qAv a) (hz : 1 ≤ z.toInt) (hz6 : z.toInt ≤ 61) (h2 : (yo / (2 : Int32)).toInt < z.toInt) (hn : ol.toInt < (ot + z).toInt) {tp2 ot2 hf2 : Int32} (hh : qAL (gMa a) yo ol ag cd tp2 ot2 hf2) (hv2 : qAv (gMa a)) : gRs a z.toInt = gMa a ∧ (ol.toInt < (ot2 + z).toInt → qEq (-1 : Int32).toInt (gRp a z.toInt)) ∧ (¬ ol.toInt < (ot2 + z).toInt → qEq ot2.toInt (gRp a z.toInt) ∧ ot2.toInt < (gRs a z.toInt 87 9).toInt) := by
  have E := Rs_go (a := a) (z := z.toInt) (by rw [AL_2 h hv]; exact h2) (gRo_y ((AL_ob h hv hz hz6).mpr hn))
  have b := AL_b hh hv2
  have e1 : (ot2 + z).toInt = ot2.toInt + z.toInt := i_add (by omega) (by omega)
  refine ⟨E.1, fun w => ?_, fun w => ⟨?_, ?_⟩⟩
  · unfold qEq
    rw [E.2.1 ((AL_ob hh hv2 hz hz6).mpr w)]
    rfl
  · unfold qEq
    rw [E.2.2 (fun y => w ((AL_ob hh hv2 hz hz6).mp y)), hh.2.2.1]
  · rw [E.1, hh.1.2.1]
    omega
theorem E_s0 (h : qAL a yo ol ag cd tp ot hf) (hv : qAv a) (hz : 1 ≤ z.toInt) (hz6 : z.toInt ≤ 61) (h2 : ¬ (yo / (2 : Int32)).toInt < z.toInt) (hs : (tp + z).toInt ≤ (ol + (hf + 1) * yo).toInt) : gRs a z.toInt = a ∧ qEq tp.toInt (gRp a z.toInt) ∧ (gRs a z.toInt 87 9).toInt ≤ tp.toInt := by
  have g := (AL_hs h hv hz hz6).mpr hs
  have E := Rs_gy (a := a) (z := z.toInt) (by rw [AL_2 h hv]; exact h2) (R1_gy g) (R2_gy g)
  refine ⟨E.1, ?_, ?_⟩
  · unfold qEq
    rw [E.2.1 g, h.2.1]
  · rw [E.1]
    exact AL_yo h hv
theorem E_s1 (h : qAL a yo ol ag cd tp ot hf) (hv : qAv a) (hz : 1 ≤ z.toInt) (hz6 : z.toInt ≤ 61) (h2 : ¬ (yo / (2 : Int32)).toInt < z.toInt) (hs : ¬ (tp + z).toInt ≤ (ol + (hf + 1) * yo).toInt) {tp2 ot2 hf2 : Int32} (hh : qAL (gMi a) yo ol ag cd tp2 ot2 hf2) (hv2 : qAv (gMi a)) (hs2 : (tp2 + z).toInt ≤ (ol + (hf2 + 1) * yo).toInt) : gRs a z.toInt = gMi a ∧ qEq tp2.toInt (gRp a z.toInt) ∧ (gRs a z.toInt 87 9).toInt ≤ tp2.toInt := by
  have g := (AL_hs hh hv2 hz hz6).mpr hs2
  have E := Rs_gy (a := a) (z := z.toInt) (by rw [AL_2 h hv]; exact h2) (R1_gn (fun w => hs ((AL_hs h hv hz hz6).mp w))) (R2_gy g)
  refine ⟨E.1, ?_, ?_⟩
  · unfold qEq
    rw [E.2.1 g, hh.2.1]
  · rw [E.1]
    exact AL_yo hh hv2
theorem E_s3 (h : qAL a yo ol ag cd tp ot hf) (hv : qAv a) (hz : 1 ≤ z.toInt) (hz6 : z.toInt ≤ 61) (h2 : ¬ (yo / (2 : Int32)).toInt < z.toInt) (hs : ¬ (tp + z).toInt ≤ (ol + (hf + 1) * yo).toInt) {tp2 ot2 hf2 tp3 ot3 hf3 : Int32} (hh : qAL (gMi a) yo ol ag cd tp2 ot2 hf2) (hv2 : qAv (gMi a)) (hs2 : ¬ (tp2 + z).toInt ≤ (ol + (hf2 + 1) * yo).toInt) (h3 : qAL (gMi (gMa (gMi a))) yo ol ag cd tp3 ot3 hf3) (hv3 : qAv (gMi (gMa (gMi a)))) : gRs a z.toInt = gMi (gMa (gMi a)) ∧ (¬ (tp3 + z).toInt ≤ (ol + (hf3 + 1) * yo).toInt → qEq (-1 : Int32).toInt (gRp a z.toInt)) ∧ ((tp3 + z).toInt ≤ (ol + (hf3 + 1) * yo).toInt → qEq tp3.toInt (gRp a z.toInt) ∧ (gRs a z.toInt 87 9).toInt ≤ tp3.toInt) := by
  have E := Rs_gy (a := a) (z := z.toInt) (by rw [AL_2 h hv]; exact h2) (R1_gn (fun w => hs ((AL_hs h hv hz hz6).mp w))) (R2_gn (fun w => hs2 ((AL_hs hh hv2 hz hz6).mp w)))
  refine ⟨E.1, fun w => ?_, fun w => ⟨?_, ?_⟩⟩
  · unfold qEq
    rw [E.2.2 (fun y => w ((AL_hs h3 hv3 hz hz6).mp y))]
    rfl
  · unfold qEq
    rw [E.2.1 ((AL_hs h3 hv3 hz hz6).mpr w), h3.2.1]
  · rw [E.1]
    exact AL_yo h3 hv3
end F38
