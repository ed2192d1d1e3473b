/-! from 95.v06 -/
/-! AGES, the reference (written by wip/tools/gen15v.py) -/
/-! AGES, the reference: dirty cards, the minor cleaning put together -/
def qZR (us nr kr kd ws ho wd wi rt wk wl : Nat → Int32) (wm nu ro fo le ra pi : Int32) (kp ca : Nat → Int32) (cat cm : Int32) (at2 ow2 ag2 : Nat → Int32) (to o2 : Int32) (st o0 : Int) (i : Int32) (T : Nat → Nat → Int32) : Prop := ∃ AT OW AG, qYR us nr kr kd ws AT ho wd wi OW rt wk wl wm nu ro fo le ra pi kp ca cat cm at2 ow2 ag2 AG to o2 st o0 i T
def qZX (us nr kr kd ws ho wd wi rt wk wl : Nat → Int32) (wm nu ro fo le ra pi : Int32) (kp ca : Nat → Int32) (cat cm : Int32) (at2 ow2 ag2 : Nat → Int32) (to o2 : Int32) (st o0 : Int) (i : Int32) (T : Nat → Nat → Int32) : Prop := ∃ AT OW AG, qYX us nr kr kd ws AT ho wd wi OW rt wk wl wm nu ro fo le ra pi kp ca cat cm at2 ow2 ag2 AG to o2 st o0 i T
section F36
variable {a b c d aa T : Nat → Nat → Int32} {us us₉ nr kr kd ws AT AG at2 at3 ag2 ag3 ho wd wi OW ow2 ow3 rt wk wk₉ wl kp kp₉ ca ca₉ dt at₉ gs : Nat → Int32} {wm nu ro fo le ra pi cat cm cm₉ to to₉ o2 o2₉ s x y i l cd yo ol ag tp ot hf hf₉ tp₉ ot₉ : Int32} {st o0 p p2 : Int} {j k n f : Nat}
theorem YE_cd (h : qYE us nr kr kd ws AT ho wd wi OW rt wk wl wm nu ro fo le ra pi kp ca cat cm at2 ow2 ag2 AG to o2 st o0 dt p s i T) : (at2 s.toNatClampNeg).toInt = p ∧ us s.toNatClampNeg ≠ 0 ∧ (ws s.toNatClampNeg).toInt ≤ 60 ∧ p + (ws s.toNatClampNeg).toInt + 1 ≤ 1500 ∧ 0 ≤ s.toInt ∧ s.toInt ≤ 3099 ∧ 0 ≤ p ∧ p < o0 ∧ o0 ≤ 1500 := by
  have yp := YE_p h
  obtain ⟨c, hB, _, ⟨h0, h3, hu⟩, ⟨e, hp, hl, _⟩, _⟩ := h
  have sl := tn_lt h0 (by omega : s.toInt < 3100)
  have r := hB.1.1.1 _ sl hu
  have ea := (YB_lo hB sl hu).2 (by rw [← r.2.2.2.1, e]; exact hl)
  obtain ⟨p1, ⟨p2, p2₉⟩, p3, p4, p5, hA, hF, f5, es, eo⟩ := hB.2.2
  have al := R1_al hB.1.1 sl hu
  have a1 := hA.2.2.2.2.2.2 _ al
  have a3 := hA.2.2.1
  have a6 := hA.2.2.2.2.2.1
  have sz : (c 128 (nr s.toNatClampNeg).toNatClampNeg).toInt = (ws s.toNatClampNeg).toInt + 1 := by
    rw [r.2.2.1]
    exact i_addk rfl (by have := r.2.2.2.2.2.1; omega) (by have := r.2.2.2.2.2.1; omega)
  unfold qA1 at a1
  have a12 := a1.2.1 (by omega)
  have e2 := r.2.2.2.1
  have w6 := r.2.2.2.2.2.1
  refine ⟨by rw [ea, ← e2]; exact e, hu, by omega, by omega, yp⟩
theorem YB_c4 (h : qYB us nr kr kd ws AT ho wd wi OW rt wk wl wm nu ro fo le ra pi kp ca cat cm at2 ow2 ag2 AG to o2 st o0 c) (hx : qAX c yo ol ag cd) : 4 ≤ cd.toInt ∧ o0 ≤ ol.toInt := by
  have a3 := h.2.2.2.2.2.2.2.1.2.2.1
  have a6 := h.2.2.2.2.2.2.2.1.2.2.2.2.2.1
  have eo := h.2.2.2.2.2.2.2.2.2.2.2
  rw [← hx.2.2.2, ← hx.2.1]
  omega
theorem card_i2 {a i c : Int32} (h1 : 0 ≤ a.toInt) (h2 : a.toInt ≤ 4599) (h3 : 0 ≤ i.toInt) (h4 : i.toInt ≤ 60) (h5 : 4 ≤ c.toInt) : (a.toInt + 1 + (i.toNatClampNeg : Int)) / c.toInt = ((((a + (1 : Int32) + i) / c).toNatClampNeg : Nat) : Int) := by
  rw [card_ix h1 h2 h3 h4 h5]
  have t := tn_cast h3
  have g : 0 ≤ (a.toInt + 1 + (i.toNatClampNeg : Int)) / c.toInt := Int.ediv_nonneg (by omega) (by omega)
  omega
theorem YE_ix (hB : qYB us nr kr kd ws AT ho wd wi OW rt wk wl wm nu ro fo le ra pi kp ca cat cm at2 ow2 ag2 AG to o2 st o0 c) (hx : qAX c yo ol ag cd) (he : (c 130 (nr s.toNatClampNeg).toNatClampNeg).toInt = p) (ha : (at2 s.toNatClampNeg).toInt = p) (hp : 0 ≤ p) (hl : p ≤ 1500) (hi : 0 ≤ i.toInt) (h6 : i.toInt ≤ 60) : ((((at2 s.toNatClampNeg + (1 : Int32) + i) / cd).toNatClampNeg : Nat) : Int) = gCx c (nr s.toNatClampNeg).toNatClampNeg i.toInt := by
  have c4 := (YB_c4 hB hx).1
  rw [← card_i2 (by omega) (by omega) hi h6 c4]
  unfold gCx
  rw [he, hx.2.2.2, ha, tn_cast hi]
theorem YE_cm (hB2 : qYB us nr kr kd ws AT ho wd wi OW rt wk wl wm nu ro fo le ra pi kp₉ ca₉ cat cm₉ at3 ow3 ag3 AG to₉ o2₉ st o0 (aCm c y)) (hd : qDt dt c) (hs : 0 ≤ s.toInt ∧ s.toInt ≤ 3099 ∧ us s.toNatClampNeg ≠ 0) (hp : (c 130 (nr s.toNatClampNeg).toNatClampNeg).toInt = p ∧ 0 ≤ p ∧ p < o0 ∧ qGd c p) (hT : gDp (gDw c (nr s.toNatClampNeg).toNatClampNeg i) o0 (p + (c 128 (nr s.toNatClampNeg).toNatClampNeg).toInt) = T) (hz : gDw c (nr s.toNatClampNeg).toNatClampNeg i = gDw (aCm c y) (nr s.toNatClampNeg).toNatClampNeg (i + 1)) : qYE us nr kr kd ws AT ho wd wi OW rt wk wl wm nu ro fo le ra pi kp₉ ca₉ cat cm₉ at3 ow3 ag3 AG to₉ o2₉ st o0 dt p s (i + 1) T := by
  have o : zOf c (aCm c y) := cm_of
  refine ⟨_, hB2, Dt_cm hd, hs, ⟨?_, hp.2.1, hp.2.2.1, Gd_of hp.2.2.2 o⟩, ?_⟩
  · rw [of_r o (k := 130) (by decide) (by decide) (by decide)]
    exact hp.1
  · rw [← hz, of_r o (k := 128) (by decide) (by decide) (by decide)]
    exact hT
theorem Do_e (h : qDo us ws at₉ kr kd wd ol cd dt l.toNatClampNeg) (hl : l.toInt = 3100) (hR : qRB us nr kr kd ws at₉ ho wd wi OW rt wk wl wm nu ro fo le ra pi a) (hx : qAX a yo ol ag cd) (hc : 4 ≤ cd.toInt) : qDt dt (gFd a) := by
  have t := tn_cast (x := l) (by omega)
  rw [show l.toNatClampNeg = 3100 from by omega] at h
  exact Do_end h hR hx.2.1 hx.2.2.2 hc
theorem B3_e (hv : qAv a) : aPc (aSp 512 (gDp (aRo (aWh a (a 87 9)) 0) (a 87 10).toInt 0)) = gB3 a := by
  have f0 : 0 ≤ (aWh a (a 87 9) 75 5).toInt := by
    rw [wh_5]
    have := hv.2.2.1
    omega
  have f1 : 0 ≤ (aRo (aWh a (a 87 9)) 0 75 5).toInt := by
    rw [ro_5]
    exact f0
  have f2 : 0 ≤ (gDp (aRo (aWh a (a 87 9)) 0) (a 87 10).toInt 0 75 5).toInt := by
    show 0 ≤ (gDf _ _ _ _ 75 5).toInt
    rw [df_5]
    exact f1
  rw [Pc_sp _ _ f2, Pc_dp f1, Pc_ro f0]
  rfl
theorem AL_to (h : qAL a yo ol ag cd tp ot hf) (hv : qAv a) (ht : (hf.toInt = 0 → to.toInt = ol.toInt + yo.toInt) ∧ (hf.toInt = 1 → to.toInt = ol.toInt)) : to.toInt = 2 * (a 87 9).toInt + (a 87 5).toInt - (a 87 3).toInt := by
  obtain ⟨⟨h1, h2, h3, h4⟩, h5, h6, h7, h8, h9⟩ := h
  rw [h1, h2]
  omega
theorem G_87 (h3 : k ≠ 3) (h4 : k ≠ 4) (h10 : k ≠ 10) : gMf f 0 (gMk1 a) 87 k = a 87 k := by
  rw [gMf_7 h4 h10]
  show ma_u (ma_u (gMk0 a) 87 3 _) 87 4 _ 87 k = _
  rw [xu_o (fun z => h4 z.2), xu_o (fun z => h3 z.2), Mi_8 ⟨by decide, by decide⟩]
theorem AX_G (h : qAX a yo ol ag cd) : qAX (gMf f 0 (gMk1 a)) yo ol ag cd := ⟨(G_87 (by decide) (by decide) (by decide)).trans h.1, (G_87 (by decide) (by decide) (by decide)).trans h.2.1, (G_87 (by decide) (by decide) (by decide)).trans h.2.2.1, (G_87 (by decide) (by decide) (by decide)).trans h.2.2.2⟩
theorem AX_h (h : qAX a yo ol ag cd) {z : Int} {v : Int32} : qAX (ma_u (zSd (aSw a) z 0 0).1 87 10 v) yo ol ag cd := by
  have r : ∀ k, k ≠ 10 → ma_u (zSd (aSw a) z 0 0).1 87 10 v 87 k = a 87 k := fun k hk => by
    rw [xu_o (fun w => hk w.2)]
    exact (Sf_r (by decide) (by decide) _ _ _ _).trans sw_87
  exact ⟨(r 5 (by decide)).trans h.1, (r 9 (by decide)).trans h.2.1, (r 11 (by decide)).trans h.2.2.1, (r 12 (by decide)).trans h.2.2.2⟩
theorem Ag_ma2 (hg : qAg us nr gs a) (hv : qAv a) (e : d = gMa a) (hR : qR1 us₉ nr ws at₉ ho d) (hu : ∀ s, s < 3100 → us₉ s ≠ 0 → us s ≠ 0) : qAg us₉ nr gs (gMa a) := Ag_ma hg hv (e ▸ hR) hu
theorem AL_mv (h : qAL a yo ol ag cd tp ot hf) (hv : qAv a) (h4 : tp₉ = gMf (gMk1 a 75 4).toInt.toNat 0 (gMk1 a) 87 4) (h10 : ot₉ = gMf (gMk1 a 75 4).toInt.toNat 0 (gMk1 a) 87 10) (hh : hf₉.toInt = 1 - hf.toInt) : qAL (gMv a) yo ol ag cd tp₉ ot₉ hf₉ := by
  obtain ⟨⟨h1, h2, h3, h4₉⟩, h5, h6, h7, h8, h9⟩ := h
  have r : ∀ k, gMv a 87 k = gMf (gMk1 a 75 4).toInt.toNat 0 (gMk1 a) 87 k := fun k => by
    show gFd _ 87 k = _
    rw [Fd_r (by decide)]
  have v3 := v3_e hv
  have r3 : gMv a 87 3 = a 87 9 + a 87 5 + a 87 9 - a 87 3 := by
    rw [r, gMf_7 (by decide) (by decide)]
    show ma_u (ma_u (gMk0 a) 87 3 _) 87 4 _ 87 3 = _
    rw [xu_o (fun z => absurd z.2 (by decide)), xu_s]
  refine ⟨⟨?_, ?_, ?_, ?_⟩, ?_, ?_, by omega, fun w => ?_, fun w => ?_⟩
  · rw [r, G_87 (by decide) (by decide) (by decide), h1]
  · rw [r, G_87 (by decide) (by decide) (by decide), h2]
  · rw [r, G_87 (by decide) (by decide) (by decide), h3]
  · rw [r, G_87 (by decide) (by decide) (by decide), h4₉]
  · rw [r, h4]
  · rw [r, h10]
  · rw [r3, v3, h1, h2]
    have := h9 (by omega)
    omega
  · rw [r3, v3, h1, h2]
    have := h8 (by omega)
    omega
theorem AL_tp (h : qAL a yo ol ag cd tp ot hf) (e : hf = hf₉) : qAL a yo ol ag cd (a 87 4) (a 87 10) hf₉ := ⟨h.1, rfl, rfl, e ▸ h.2.2.2⟩
theorem ro_r (h : n ≠ 75 ∧ n ≠ 76 ∧ n ≠ 77) : aRo (aWh a x) 0 n = a n := funext (fun k => (aRo_o h).trans (wh_of n k h.1 h.2.1 h.2.2).symm)
theorem AX_t1 (h : qAX a yo ol ag cd) : qAX (aRo (aWh a x) 0) yo ol ag cd := AX_cg h (ro_r ⟨by decide, by decide, by decide⟩)
theorem AX_t2 (h : qAX a yo ol ag cd) : qAX (gDp (aRo (aWh a x) 0) p p2) yo ol ag cd := AX_cg (AX_t1 h) (funext (fun k => gdf_o ⟨by decide, by decide, by decide⟩ _ _ _))
theorem Dt_t1 (h : qDt dt a) : qDt dt (aRo (aWh a x) 0) := by
  unfold qDt
  rw [ro_r ⟨by decide, by decide, by decide⟩]
  exact h
theorem Ag_mv (h : ∀ s, s < 3100 → us₉ s ≠ 0 → ag2 s = gMf (gMk1 a 75 4).toInt.toNat 0 (gMk1 a) 131 (nr s).toNatClampNeg) : qAg us₉ nr ag2 (gMv a) := fun s hs hu => by
  rw [h s hs hu]
  show _ = gFd _ 131 _
  rw [Fd_r (by decide)]
end F36
set_option maxHeartbeats 8000000 in
theorem lp_216ry_27 {X : Nat × (Nat → Int32)} {P : Option ma_V → (Nat → Nat → Int32) → Prop} {aa : Nat→Nat→Int32} {AT : Nat→Int32} {OW : Nat→Int32} {AG : Nat→Int32} {ro : Int32} {st : Int} {oo : Int} {en : Int32} {m0 : Nat → Nat → Int32} (h0 : zV m0) (K : ∀ m₉, zF wr_216 m0 m₉ → zV m₉ → (zOw (m₉ 99) (m₉ 103) (m₉ 111)) → (qYB (m₉ 99) (m₉ 100) (m₉ 98) (m₉ 101) (m₉ 102) AT (m₉ 107) (m₉ 108) (m₉ 109) OW (m₉ 112) (m₉ 113) (m₉ 114) (m₉ 94 55) (m₉ 94 46) ro 0 0 0 1 (m₉ 110) (m₉ 119) (m₉ 94 76) (m₉ 94 75) (m₉ 103) (m₉ 111) (m₉ 104) AG (m₉ 94 77) (m₉ 94 60) st oo (gDp aa oo 0)) → P none m₉) {n2 : Nat} (OUT2 : ∀ (m₉ : Nat → Nat → Int32) (l1 : Int32) (l2 : Int32), (l1.toInt - l2.toInt).toNat < n2 → zF wr_216 m0 m₉ → zV m₉ → (0 ≤ l2.toInt) → (l1.toInt = oo) → ((m₉ 94 10).toInt = 3) → (zW (m₉ 94 7) (m₉ 98) (m₉ 101) (m₉ 102) (m₉ 108)) → (zOw (m₉ 99) (m₉ 103) (m₉ 111)) → (qAX aa (m₉ 94 13) (m₉ 94 14) (m₉ 94 15) (m₉ 94 16)) → (qYD (m₉ 99) (m₉ 100) (m₉ 98) (m₉ 101) (m₉ 102) AT (m₉ 107) (m₉ 108) (m₉ 109) OW (m₉ 112) (m₉ 113) (m₉ 114) (m₉ 94 55) (m₉ 94 46) ro 0 0 0 1 (m₉ 110) (m₉ 119) (m₉ 94 76) (m₉ 94 75) (m₉ 103) (m₉ 111) (m₉ 104) AG (m₉ 94 77) (m₉ 94 60) st oo (m₉ 117) l2.toInt (gDp aa oo 0)) → zm X 3 64 216 2 [(0, .inr (.inr (some 94))), (1, .inl l1), (2, .inl l2)] m₉ P) : ∀ (n : Nat) (m : Nat → Nat → Int32) (l1 : Int32) (l2 : Int32) (l3 : Int32) (l4 : Int32), (61 - l4.toInt).toNat = n → zF wr_216 m0 m → zV m → (0 ≤ l2.toInt) → (l1.toInt = oo) → (l2.toInt < l1.toInt) → (0 ≤ l3.toInt) → (l3.toInt ≤ 3099) → (0 ≤ l4.toInt) → ((l1.toInt - l2.toInt).toNat = n2) → ((m 94 10).toInt = 3) → (zW (m 94 7) (m 98) (m 101) (m 102) (m 108)) → (zOw (m 99) (m 103) (m 111)) → (qAX aa (m 94 13) (m 94 14) (m 94 15) (m 94 16)) → (qYE (m 99) (m 100) (m 98) (m 101) (m 102) AT (m 107) (m 108) (m 109) OW (m 112) (m 113) (m 114) (m 94 55) (m 94 46) ro 0 0 0 1 (m 110) (m 119) (m 94 76) (m 94 75) (m 103) (m 111) (m 104) AG (m 94 77) (m 94 60) st oo (m 117) l2.toInt l3 l4 (gDp aa oo 0)) → zm X 3 64 216 27 [(0, .inr (.inr (some 94))), (1, .inl l1), (2, .inl l2), (3, .inl l3), (4, .inl l4)] m P := by
  intro n
  induction n using Nat.strongRecOn with
  | _ n IH =>
    intro m l1 l2 l3 l4 hmu hF hV hi0 hi1 hi2 hi3 hi4 hi5 hi6 hi7 r_W r_OW r_AX3 r_YE
    refine g_216_27 l1 l2 l3 l4 ?_
    have f1 : 0 ≤ (m 94 10).toInt ∧ (m 94 10).toInt ≤ 6 := rs_94_10 (m := m) hV
    have yc := YE_cd r_YE
    obtain ⟨c, hB, hd, hs, hp, hT⟩ := r_YE
    have cAX := AX_dp r_AX3 hT
    have c4 := YB_c4 hB cAX
    have cl : (c 130 (m 100 l3.toNatClampNeg).toNatClampNeg).toInt < (c 87 9).toInt := (by rw [cAX.2.1]; omega)
    have b2 := i_bd l3
    try have tc2 := tn_cast (x := l2) (by omega)
    try have ow2 := r_OW l2.toNatClampNeg (by omega) (by omega)
    have hg3 : (0 ≤ l3 ∧ l3.toNatClampNeg < 3100) := i_ix (by omega) (by omega)
    refine ⟨hg3, ?_⟩
    first | have f4 : 0 ≤ (m 102 l3.toNatClampNeg).toInt ∧ (m 102 l3.toNatClampNeg).toInt ≤ 60 := ra_102 (m := m) hV (k := l3.toNatClampNeg) (i_ix (n := 3100) (by omega) (by omega)).2 | have b5 := i_bd (m 102 l3.toNatClampNeg)
    have b6 := i_bd l4
    refine zd (fun (h7 : (m 102 l3.toNatClampNeg) ≤ l4) => ?_) (fun (h7 : ¬ (m 102 l3.toNatClampNeg) ≤ l4) => ?_)
    · skip
      have g8 := i_le h7
      try have tc2 := tn_cast (x := l2) (by omega)
      try have ow2 := r_OW l2.toNatClampNeg (by omega) (by omega)
      have hg9 : (0 ≤ l3 ∧ l3.toNatClampNeg < 3100) := i_ix (by omega) (by omega)
      refine ⟨hg9, ?_⟩
      try have tc2 := tn_cast (x := l2) (by omega)
      try have ow2 := r_OW l2.toNatClampNeg (by omega) (by omega)
      have b10 := i_bd l1
      have b11 := i_bd l2
      first | have e12 : ((m 102 l3.toNatClampNeg) + (1 : Int32)).toInt = (m 102 l3.toNatClampNeg).toInt + (1) := i_addk rfl (by omega) (by omega) | have b13 := i_bd ((m 102 l3.toNatClampNeg) + (1 : Int32))
      first | have e14 : (l2 + ((m 102 l3.toNatClampNeg) + (1 : Int32))).toInt = l2.toInt + ((m 102 l3.toNatClampNeg) + (1 : Int32)).toInt := i_add (by omega) (by omega) | have b15 := i_bd (l2 + ((m 102 l3.toNatClampNeg) + (1 : Int32)))
      exact OUT2 _ (l1) ((l2 + ((m 102 l3.toNatClampNeg) + (1 : Int32)))) (show (l1.toInt - (l2 + ((m 102 l3.toNatClampNeg) + (1 : Int32))).toInt).toNat < n2 from by omega) hF hV (by omega) (by omega) (show (m 94 10).toInt = 3 from by omega) r_W r_OW r_AX3 (show qYD (m 99) (m 100) (m 98) (m 101) (m 102) AT (m 107) (m 108) (m 109) OW (m 112) (m 113) (m 114) (m 94 55) (m 94 46) ro 0 0 0 1 (m 110) (m 119) (m 94 76) (m 94 75) (m 103) (m 111) (m 104) AG (m 94 77) (m 94 60) st oo (m 117) (l2 + ((m 102 l3.toNatClampNeg) + (1 : Int32))).toInt (gDp aa oo 0) from by first | (exact YE_end ⟨c, hB, hd, hs, hp, hT⟩ (by omega) (by omega) (by omega)) | (exfalso; omega; done) | (exfalso; contradiction; done))
    · skip
      have g16 := i_nle h7
      have hg17 : (0 ≤ l3 ∧ l3.toNatClampNeg < 3100) := i_ix (by omega) (by omega)
      refine ⟨hg17, ?_⟩
      have f18 : 0 ≤ (m 94 16).toInt ∧ (m 94 16).toInt ≤ 64 := rs_94_16 (m := m) hV
      have hg19 : (m 94 16) ≠ 0 := i_nz (by omega)
      refine ⟨hg19, ?_⟩
      first | have f20 : 0 ≤ (m 103 l3.toNatClampNeg).toInt ∧ (m 103 l3.toNatClampNeg).toInt ≤ 4599 := ra_103 (m := m) hV (k := l3.toNatClampNeg) (i_ix (n := 3100) (by omega) (by omega)).2 | have b21 := i_bd (m 103 l3.toNatClampNeg)
      first | have e22 : ((m 103 l3.toNatClampNeg) + (1 : Int32)).toInt = (m 103 l3.toNatClampNeg).toInt + (1) := i_addk rfl (by omega) (by omega) | have b23 := i_bd ((m 103 l3.toNatClampNeg) + (1 : Int32))
      first | have e24 : (((m 103 l3.toNatClampNeg) + (1 : Int32)) + l4).toInt = ((m 103 l3.toNatClampNeg) + (1 : Int32)).toInt + l4.toInt := i_add (by omega) (by omega) | have b25 := i_bd (((m 103 l3.toNatClampNeg) + (1 : Int32)) + l4)
      first | have f26 := i_div (x := (((m 103 l3.toNatClampNeg) + (1 : Int32)) + l4)) (y := (m 94 16)) (by omega) (by omega) | have b27 := i_bd ((((m 103 l3.toNatClampNeg) + (1 : Int32)) + l4) / (m 94 16))
      try have dv : 0 ≤ (((((m 103 l3.toNatClampNeg) + (1 : Int32)) + l4) / (m 94 16))).toInt ∧ (((((m 103 l3.toNatClampNeg) + (1 : Int32)) + l4) / (m 94 16))).toInt ≤ 499 := i_div4 (by omega) (by omega) (by omega)
      have hg28 : (0 ≤ ((((m 103 l3.toNatClampNeg) + (1 : Int32)) + l4) / (m 94 16)) ∧ ((((m 103 l3.toNatClampNeg) + (1 : Int32)) + l4) / (m 94 16)).toNatClampNeg < 512) := i_ix (by omega) (by omega)
      refine ⟨hg28, ?_⟩
      first | have f29 : 0 ≤ (m 117 ((((m 103 l3.toNatClampNeg) + (1 : Int32)) + l4) / (m 94 16)).toNatClampNeg).toInt ∧ (m 117 ((((m 103 l3.toNatClampNeg) + (1 : Int32)) + l4) / (m 94 16)).toNatClampNeg).toInt ≤ 1 := ra_117 (m := m) hV (k := ((((m 103 l3.toNatClampNeg) + (1 : Int32)) + l4) / (m 94 16)).toNatClampNeg) (i_ix (n := 512) (by omega) (by omega)).2 | have b30 := i_bd (m 117 ((((m 103 l3.toNatClampNeg) + (1 : Int32)) + l4) / (m 94 16)).toNatClampNeg)
      have li31 : (0 : Int32).toInt = 0 := rfl
      refine zd (fun (h32 : (m 117 ((((m 103 l3.toNatClampNeg) + (1 : Int32)) + l4) / (m 94 16)).toNatClampNeg) = (0 : Int32)) => ?_) (fun (h32 : ¬ (m 117 ((((m 103 l3.toNatClampNeg) + (1 : Int32)) + l4) / (m 94 16)).toNatClampNeg) = (0 : Int32)) => ?_)
      · skip
        have g33 := i_eq h32
        try have tc2 := tn_cast (x := l2) (by omega)
        try have ow2 := r_OW l2.toNatClampNeg (by omega) (by omega)
        have b34 := i_bd l1
        have b35 := i_bd l2
        first | have e36 : (l4 + (1 : Int32)).toInt = l4.toInt + (1) := i_addk rfl (by omega) (by omega) | have b37 := i_bd (l4 + (1 : Int32))
        exact IH (61 - (l4 + (1 : Int32)).toInt).toNat (by omega) _ (l1) (l2) (l3) ((l4 + (1 : Int32))) rfl hF hV (by omega) (by omega) (by omega) (by omega) (by omega) (by omega) (by omega) (show (m 94 10).toInt = 3 from by omega) r_W r_OW r_AX3 (show qYE (m 99) (m 100) (m 98) (m 101) (m 102) AT (m 107) (m 108) (m 109) OW (m 112) (m 113) (m 114) (m 94 55) (m 94 46) ro 0 0 0 1 (m 110) (m 119) (m 94 76) (m 94 75) (m 103) (m 111) (m 104) AG (m 94 77) (m 94 60) st oo (m 117) l2.toInt l3 (l4 + (1 : Int32)) (gDp aa oo 0) from by first | (exact ⟨c, hB, hd, hs, hp, by rw [← (YE_n hB hd hs.1 hs.2.1 hs.2.2 cl (by omega) (by omega) (YE_ix hB cAX hp.1 yc.1 (by omega) (by omega) (by omega) (by omega)) (by assumption))]; exact hT⟩) | (exfalso; omega; done) | (exfalso; contradiction; done))
      · skip
        have g38 := i_ne h32
        refine sp_192 (l3) (l4) hV (by omega) (by omega) (by omega) (show l4.toInt < (m 102 l3.toNatClampNeg).toInt from by omega) (fun v2 m1 hV_m1 p0_m1 => zmi_n ?_)
        have p0_m1 : v2 = zrf (m 98) (m 101) (m 108) l3.toNatClampNeg l4.toNatClampNeg := p0_m1
        try have := W_ref r_W (by omega) (by omega) (by omega) (by omega) p0_m1
        have b39 := i_bd v2
        refine sp_207ry (aa := c) (v2) hV_m1 (by omega) (by omega) (show (m 94 10).toInt = 3 from by omega) (show qU (m 99) v2 from by first | (exact (YE_y hB hd hs.1 hs.2.1 hs.2.2 cl (by omega) (by omega) (YE_ix hB cAX hp.1 yc.1 (by omega) (by omega) (by omega) (by omega)) (by assumption) p0_m1.symm).1) | (exfalso; omega; done) | (exfalso; contradiction; done)) r_OW (show qAX c (m 94 13) (m 94 14) (m 94 15) (m 94 16) from by first | (exact cAX) | (exact r_AX3) | (exfalso; omega; done) | (exfalso; contradiction; done)) hB (fun m3 hV_m3 p0_m3 p1_m3 => zmv_n ?_)
        have p0_m3 : zOw (m 99) (m3 103) (m3 111) := p0_m3
        have p1_m3 : qYB (m 99) (m 100) (m 98) (m 101) (m 102) AT (m 107) (m 108) (m 109) OW (m 112) (m 113) (m 114) (m 94 55) (m 94 46) ro 0 0 0 1 (m3 110) (m3 119) (m 94 76) (m3 94 75) (m3 103) (m3 111) (m3 104) AG (m3 94 77) (m3 94 60) st oo (aCm c (qNo (m 100) v2)) := p1_m3
        try have tc2 := tn_cast (x := l2) (by omega)
        try have ow2 := p0_m3 l2.toNatClampNeg (by omega) (by omega)
        have b40 := i_bd l1
        have b41 := i_bd l2
        first | have e42 : (l4 + (1 : Int32)).toInt = l4.toInt + (1) := i_addk rfl (by omega) (by omega) | have b43 := i_bd (l4 + (1 : Int32))
        exact IH (61 - (l4 + (1 : Int32)).toInt).toNat (by omega) _ (l1) (l2) (l3) ((l4 + (1 : Int32))) rfl (zF_zov (zF_zov hF ws_192_216) ws_207_216) hV_m3 (by omega) (by omega) (by omega) (by omega) (by omega) (by omega) (by omega) (show (m 94 10).toInt = 3 from by omega) r_W p0_m3 r_AX3 (show qYE (m 99) (m 100) (m 98) (m 101) (m 102) AT (m 107) (m 108) (m 109) OW (m 112) (m 113) (m 114) (m 94 55) (m 94 46) ro 0 0 0 1 (m3 110) (m3 119) (m 94 76) (m3 94 75) (m3 103) (m3 111) (m3 104) AG (m3 94 77) (m3 94 60) st oo (m 117) l2.toInt l3 (l4 + (1 : Int32)) (gDp aa oo 0) from by first | (exact YE_cm p1_m3 hd hs hp hT (YE_y hB hd hs.1 hs.2.1 hs.2.2 cl (by omega) (by omega) (YE_ix hB cAX hp.1 yc.1 (by omega) (by omega) (by omega) (by omega)) (by assumption) p0_m1.symm).2) | (exfalso; omega; done) | (exfalso; contradiction; done))
set_option maxHeartbeats 8000000 in
theorem lp_216ry_2 {X : Nat × (Nat → Int32)} {P : Option ma_V → (Nat → Nat → Int32) → Prop} {aa : Nat→Nat→Int32} {AT : Nat→Int32} {OW : Nat→Int32} {AG : Nat→Int32} {ro : Int32} {st : Int} {oo : Int} {en : Int32} {m0 : Nat → Nat → Int32} (h0 : zV m0) (K : ∀ m₉, zF wr_216 m0 m₉ → zV m₉ → (zOw (m₉ 99) (m₉ 103) (m₉ 111)) → (qYB (m₉ 99) (m₉ 100) (m₉ 98) (m₉ 101) (m₉ 102) AT (m₉ 107) (m₉ 108) (m₉ 109) OW (m₉ 112) (m₉ 113) (m₉ 114) (m₉ 94 55) (m₉ 94 46) ro 0 0 0 1 (m₉ 110) (m₉ 119) (m₉ 94 76) (m₉ 94 75) (m₉ 103) (m₉ 111) (m₉ 104) AG (m₉ 94 77) (m₉ 94 60) st oo (gDp aa oo 0)) → P none m₉) : ∀ (n : Nat) (m : Nat → Nat → Int32) (l1 : Int32) (l2 : Int32), (l1.toInt - l2.toInt).toNat = n → zF wr_216 m0 m → zV m → (0 ≤ l2.toInt) → (l1.toInt = oo) → ((m 94 10).toInt = 3) → (zW (m 94 7) (m 98) (m 101) (m 102) (m 108)) → (zOw (m 99) (m 103) (m 111)) → (qAX aa (m 94 13) (m 94 14) (m 94 15) (m 94 16)) → (qYD (m 99) (m 100) (m 98) (m 101) (m 102) AT (m 107) (m 108) (m 109) OW (m 112) (m 113) (m 114) (m 94 55) (m 94 46) ro 0 0 0 1 (m 110) (m 119) (m 94 76) (m 94 75) (m 103) (m 111) (m 104) AG (m 94 77) (m 94 60) st oo (m 117) l2.toInt (gDp aa oo 0)) → zm X 3 64 216 2 [(0, .inr (.inr (some 94))), (1, .inl l1), (2, .inl l2)] m P := by
  intro n
  induction n using Nat.strongRecOn with
  | _ n IH =>
    intro m l1 l2 hmu hF hV hi0 hi1 hi2 r_W r_OW r_AX3 r_YD
    refine g_216_2 l1 l2 ?_
    have f1 : 0 ≤ (m 94 10).toInt ∧ (m 94 10).toInt ≤ 6 := rs_94_10 (m := m) hV
    have b2 := i_bd l1
    have b3 := i_bd l2
    refine zd (fun (h4 : l1 ≤ l2) => ?_) (fun (h4 : ¬ l1 ≤ l2) => ?_)
    · skip
      have g5 := i_le h4
      try have yd := YD_p r_YD
      try have tc2 := tn_cast (x := l2) (by omega)
      try have ow2 := r_OW l2.toNatClampNeg (by omega) (by omega)
      exact K _ hF hV r_OW (show qYB (m 99) (m 100) (m 98) (m 101) (m 102) AT (m 107) (m 108) (m 109) OW (m 112) (m 113) (m 114) (m 94 55) (m 94 46) ro 0 0 0 1 (m 110) (m 119) (m 94 76) (m 94 75) (m 103) (m 111) (m 104) AG (m 94 77) (m 94 60) st oo (gDp aa oo 0) from by first | (exact (YD_end r_YD (by omega)).1) | (exfalso; omega; done) | (exfalso; contradiction; done))
    · skip
      have g6 := i_nle h4
      try have yd := YD_p r_YD
      have hg7 : (0 ≤ l2 ∧ l2.toNatClampNeg < 4600) := i_ix (by omega) (by omega)
      refine ⟨hg7, ?_⟩
      have li8 : (0 : Int32).toInt = 0 := rfl
      first | have f9 : -1 ≤ (m 111 l2.toNatClampNeg).toInt ∧ (m 111 l2.toNatClampNeg).toInt ≤ 3099 := ra_111 (m := m) hV (k := l2.toNatClampNeg) (i_ix (n := 4600) (by omega) (by omega)).2 | have b10 := i_bd (m 111 l2.toNatClampNeg)
      refine zd (fun (h11 : (0 : Int32) ≤ (m 111 l2.toNatClampNeg)) => ?_) (fun (h11 : ¬ (0 : Int32) ≤ (m 111 l2.toNatClampNeg)) => ?_)
      · skip
        have g12 := i_le h11
        try have yd := YD_p r_YD
        try have tc2 := tn_cast (x := l2) (by omega)
        try have ow2 := r_OW l2.toNatClampNeg (by omega) (by omega)
        exact lp_216ry_27 (en := en) h0 K (fun _ _ _ z1 z2 z3 y0 y1 y2 y3 y4 y5 y6 => IH _ z1 _ _ _ rfl z2 z3 y0 y1 y2 y3 y4 y5 y6) _ _ (l1) (l2) ((m 111 l2.toNatClampNeg)) ((0 : Int32)) rfl hF hV (by omega) (by omega) (by omega) (by omega) (by omega) (by omega) (by omega) (show (m 94 10).toInt = 3 from by omega) r_W r_OW r_AX3 (show qYE (m 99) (m 100) (m 98) (m 101) (m 102) AT (m 107) (m 108) (m 109) OW (m 112) (m 113) (m 114) (m 94 55) (m 94 46) ro 0 0 0 1 (m 110) (m 119) (m 94 76) (m 94 75) (m 103) (m 111) (m 104) AG (m 94 77) (m 94 60) st oo (m 117) l2.toInt (m 111 l2.toNatClampNeg) (0 : Int32) (gDp aa oo 0) from by first | (exact YD_go r_YD r_OW (by omega) rfl (by omega) (by omega) (by decide)) | (exfalso; omega; done) | (exfalso; contradiction; done))
      · skip
        have g13 := i_nle h11
        try have yd := YD_p r_YD
        try have tc2 := tn_cast (x := l2) (by omega)
        try have ow2 := r_OW l2.toNatClampNeg (by omega) (by omega)
        first | have e14 : (l2 + (1 : Int32)).toInt = l2.toInt + (1) := i_addk rfl (by omega) (by omega) | have b15 := i_bd (l2 + (1 : Int32))
        exact IH (l1.toInt - (l2 + (1 : Int32)).toInt).toNat (by omega) _ (l1) ((l2 + (1 : Int32))) rfl hF hV (by omega) (by omega) (show (m 94 10).toInt = 3 from by omega) r_W r_OW r_AX3 (show qYD (m 99) (m 100) (m 98) (m 101) (m 102) AT (m 107) (m 108) (m 109) OW (m 112) (m 113) (m 114) (m 94 55) (m 94 46) ro 0 0 0 1 (m 110) (m 119) (m 94 76) (m 94 75) (m 103) (m 111) (m 104) AG (m 94 77) (m 94 60) st oo (m 117) (l2 + (1 : Int32)).toInt (gDp aa oo 0) from by first | (exact YD_fr r_YD (by omega) (show (m 111 l2.toNatClampNeg).toInt < 0 by omega) (by omega)) | (exfalso; omega; done) | (exfalso; contradiction; done))
set_option maxHeartbeats 8000000 in
theorem sp_216ry {X : Nat × (Nat → Int32)} {P : Option ma_V → (Nat → Nat → Int32) → Prop} {aa : Nat→Nat→Int32} {AT : Nat→Int32} {OW : Nat→Int32} {AG : Nat→Int32} {ro : Int32} {st : Int} {oo : Int} {m : Nat → Nat → Int32} (en : Int32) (hV : zV m) (hpre0 : 0 ≤ en.toInt) (hpre1 : en.toInt = oo) (hpre2 : (m 94 10).toInt = 3) (r_W : zW (m 94 7) (m 98) (m 101) (m 102) (m 108)) (r_OW : zOw (m 99) (m 103) (m 111)) (r_AX3 : qAX aa (m 94 13) (m 94 14) (m 94 15) (m 94 16)) (r_DT : qDt (m 117) aa) (r_YB : qYB (m 99) (m 100) (m 98) (m 101) (m 102) AT (m 107) (m 108) (m 109) OW (m 112) (m 113) (m 114) (m 94 55) (m 94 46) ro 0 0 0 1 (m 110) (m 119) (m 94 76) (m 94 75) (m 103) (m 111) (m 104) AG (m 94 77) (m 94 60) st oo aa) (KZ : ∀ m₉, zV (zov wr_216 m m₉) → (zOw (m 99) (m₉ 103) (m₉ 111)) → (qYB (m 99) (m 100) (m 98) (m 101) (m 102) AT (m 107) (m 108) (m 109) OW (m 112) (m 113) (m 114) (m 94 55) (m 94 46) ro 0 0 0 1 (m₉ 110) (m₉ 119) (m 94 76) (m₉ 94 75) (m₉ 103) (m₉ 111) (m₉ 104) AG (m₉ 94 77) (m₉ 94 60) st oo (gDp aa oo 0)) → P none (zov wr_216 m m₉)) : zm X 3 64 216 0 [(0, .inr (.inr (some 94))), (1, .inl en)] m P := by
  have K : ∀ m₉, zF wr_216 m m₉ → zV m₉ → (zOw (m₉ 99) (m₉ 103) (m₉ 111)) → (qYB (m₉ 99) (m₉ 100) (m₉ 98) (m₉ 101) (m₉ 102) AT (m₉ 107) (m₉ 108) (m₉ 109) OW (m₉ 112) (m₉ 113) (m₉ 114) (m₉ 94 55) (m₉ 94 46) ro 0 0 0 1 (m₉ 110) (m₉ 119) (m₉ 94 76) (m₉ 94 75) (m₉ 103) (m₉ 111) (m₉ 104) AG (m₉ 94 77) (m₉ 94 60) st oo (gDp aa oo 0)) → P none m₉ := by
    intro m₉ hf z q0 q1
    have e := zov_eq hf
    rw [e] at z ⊢
    try rw [e] at q0
    try rw [e] at q1
    exact KZ m₉ z q0 q1
  refine g_216_0 en ?_
  have f1 : 0 ≤ (m 94 10).toInt ∧ (m 94 10).toInt ≤ 6 := rs_94_10 (m := m) hV
  try have tc2 := tn_cast (x := l2) (by omega)
  try have ow2 := r_OW l2.toNatClampNeg (by omega) (by omega)
  have b2 := i_bd en
  have li3 : (0 : Int32).toInt = 0 := rfl
  exact lp_216ry_2 (en := en) hV K _ _ (en) ((0 : Int32)) rfl zF_rfl hV (by omega) (by omega) (show (m 94 10).toInt = 3 from by omega) r_W r_OW r_AX3 (show qYD (m 99) (m 100) (m 98) (m 101) (m 102) AT (m 107) (m 108) (m 109) OW (m 112) (m 113) (m 114) (m 94 55) (m 94 46) ro 0 0 0 1 (m 110) (m 119) (m 94 76) (m 94 75) (m 103) (m 111) (m 104) AG (m 94 77) (m 94 60) st oo (m 117) (0 : Int32).toInt (gDp aa oo 0) from by first | (exact YD_0 r_YB r_DT) | (exfalso; omega; done) | (exfalso; contradiction; done))
theorem lp_215ry_4 {X : Nat × (Nat → Int32)} {P : Option ma_V → (Nat → Nat → Int32) → Prop} {aa : Nat→Nat→Int32} {ro : Int32} {m0 : Nat → Nat → Int32} (h0 : zV m0) (K : ∀ v m₉, zF wr_215 m0 m₉ → zV m₉ → (v = 0 ∨ v = 1) → ((v.toInt = 1 ∧ gFu aa) ∨ (v.toInt = 0 ∧ ¬ gFu aa)) → P (some (.inl v)) m₉) : ∀ (n : Nat) (m : Nat → Nat → Int32) (l1 : Int32) (l2 : Int32), (3100 - l2.toInt).toNat = n → zF wr_215 m0 m → zV m → (0 ≤ l2.toInt) → (l2.toInt ≤ 3100) → (0 ≤ l1.toInt) → (l1.toInt ≤ 61 * l2.toInt) → (qRB (m 99) (m 100) (m 98) (m 101) (m 102) (m 103) (m 107) (m 108) (m 109) (m 111) (m 112) (m 113) (m 114) (m 94 55) (m 94 46) ro 0 0 0 1 aa) → (qAv aa) → (qAL aa (m 94 13) (m 94 14) (m 94 15) (m 94 16) (m 94 59) (m 94 60) (m 94 61)) → (qAg (m 99) (m 100) (m 104) aa) → (l1.toInt = sm (zbG (m 99) (m 103) (m 94 14) (m 104) (m 94 15)) (m 102) l2.toNatClampNeg) → zm X 1 21 215 4 [(0, .inr (.inr (some 94))), (1, .inl l1), (2, .inl l2)] m P := by
  intro n
  induction n using Nat.strongRecOn with
  | _ n IH =>
    intro m l1 l2 hmu hF hV hi0 hi1 hi2 hi3 r_RB r_AV r_AL r_AGq r_SG
    refine g_215_4 l1 l2 ?_
    have li1 : (3100 : Int32).toInt = 3100 := rfl
    have b2 := i_bd l2
    refine zd (fun (h3 : (3100 : Int32) ≤ l2) => ?_) (fun (h3 : ¬ (3100 : Int32) ≤ l2) => ?_)
    · skip
      have g4 := i_le h3
      have b5 := i_bd l1
      have f6 : 0 ≤ (m 94 14).toInt ∧ (m 94 14).toInt ≤ 1500 := rs_94_14 (m := m) hV
      have f7 : 0 ≤ (m 94 60).toInt ∧ (m 94 60).toInt ≤ 1600 := rs_94_60 (m := m) hV
      first | have e8 : ((m 94 14) - (m 94 60)).toInt = (m 94 14).toInt - (m 94 60).toInt := i_sub (by omega) (by omega) | have b9 := i_bd ((m 94 14) - (m 94 60))
      refine zd (fun (h10 : l1 ≤ ((m 94 14) - (m 94 60))) => ?_) (fun (h10 : ¬ l1 ≤ ((m 94 14) - (m 94 60))) => ?_)
      · skip
        have g11 := i_le h10
        try have alb := AL_b r_AL r_AV
        have li12 : (0 : Int32).toInt = 0 := rfl
        exact K ((0 : Int32)) _ hF hV (by decide) (show ((0 : Int32).toInt = 1 ∧ gFu aa) ∨ ((0 : Int32).toInt = 0 ∧ ¬ gFu aa) from by first | (exact Or.inl ⟨rfl, (OF_y r_RB.1 r_AV r_AL r_AGq (sm_full r_SG (by omega))).mpr (by omega)⟩) | (exact Or.inr ⟨rfl, fun z => absurd ((OF_y r_RB.1 r_AV r_AL r_AGq (sm_full r_SG (by omega))).mp z) (by omega)⟩) | (exfalso; omega; done) | (exfalso; contradiction; done))
      · skip
        have g13 := i_nle h10
        try have alb := AL_b r_AL r_AV
        have li14 : (1 : Int32).toInt = 1 := rfl
        exact K ((1 : Int32)) _ hF hV (by decide) (show ((1 : Int32).toInt = 1 ∧ gFu aa) ∨ ((1 : Int32).toInt = 0 ∧ ¬ gFu aa) from by first | (exact Or.inl ⟨rfl, (OF_y r_RB.1 r_AV r_AL r_AGq (sm_full r_SG (by omega))).mpr (by omega)⟩) | (exact Or.inr ⟨rfl, fun z => absurd ((OF_y r_RB.1 r_AV r_AL r_AGq (sm_full r_SG (by omega))).mp z) (by omega)⟩) | (exfalso; omega; done) | (exfalso; contradiction; done))
    · skip
      have g15 := i_nle h3
      have hg16 : (0 ≤ l2 ∧ l2.toNatClampNeg < 3100) := i_ix (by omega) (by omega)
      refine ⟨hg16, ?_⟩
      first | have f17 : 0 ≤ (m 99 l2.toNatClampNeg).toInt ∧ (m 99 l2.toNatClampNeg).toInt ≤ 1 := ra_99 (m := m) hV (k := l2.toNatClampNeg) (i_ix (n := 3100) (by omega) (by omega)).2 | have b18 := i_bd (m 99 l2.toNatClampNeg)
      have li19 : (0 : Int32).toInt = 0 := rfl
      refine zd (fun (h20 : (m 99 l2.toNatClampNeg) = (0 : Int32)) => ?_) (fun (h20 : ¬ (m 99 l2.toNatClampNeg) = (0 : Int32)) => ?_)
      · skip
        have g21 := i_eq h20
        try have alb := AL_b r_AL r_AV
        have b22 := i_bd l1
        first | have e23 : (l2 + (1 : Int32)).toInt = l2.toInt + (1) := i_addk rfl (by omega) (by omega) | have b24 := i_bd (l2 + (1 : Int32))
        exact IH (3100 - (l2 + (1 : Int32)).toInt).toNat (by omega) _ (l1) ((l2 + (1 : Int32))) rfl hF hV (by omega) (by omega) (by omega) (by omega) r_RB r_AV r_AL r_AGq (show l1.toInt = sm (zbG (m 99) (m 103) (m 94 14) (m 104) (m 94 15)) (m 102) (l2 + (1 : Int32)).toNatClampNeg from by first | (exact sm_add r_SG (decide_eq_true ⟨by assumption, by omega, by assumption⟩) (tn_succ (by omega) (by omega)) (by omega)) | (exact sm_skip r_SG (decide_eq_false (fun z => by obtain ⟨z1, z2, z3⟩ := z; first | exact z1 (by assumption) | (exfalso; omega) | exact absurd z3 (by assumption))) (tn_succ (by omega) (by omega))) | (exact rfl) | (exfalso; omega; done) | (exfalso; contradiction; done))
      · skip
        have g25 := i_ne h20
        have hg26 : (0 ≤ l2 ∧ l2.toNatClampNeg < 3100) := i_ix (by omega) (by omega)
        refine ⟨hg26, ?_⟩
        have f27 : 0 ≤ (m 94 14).toInt ∧ (m 94 14).toInt ≤ 1500 := rs_94_14 (m := m) hV
        first | have f28 : 0 ≤ (m 103 l2.toNatClampNeg).toInt ∧ (m 103 l2.toNatClampNeg).toInt ≤ 4599 := ra_103 (m := m) hV (k := l2.toNatClampNeg) (i_ix (n := 3100) (by omega) (by omega)).2 | have b29 := i_bd (m 103 l2.toNatClampNeg)
        refine zd (fun (h30 : (m 94 14) ≤ (m 103 l2.toNatClampNeg)) => ?_) (fun (h30 : ¬ (m 94 14) ≤ (m 103 l2.toNatClampNeg)) => ?_)
        · skip
          have g31 := i_le h30
          have hg32 : (0 ≤ l2 ∧ l2.toNatClampNeg < 3100) := i_ix (by omega) (by omega)
          refine ⟨hg32, ?_⟩
          have b33 := i_bd (m 104 l2.toNatClampNeg)
          first | have e34 : ((m 104 l2.toNatClampNeg) + (1 : Int32)).toInt = (m 104 l2.toNatClampNeg).toInt + (1) := i_addk rfl (by omega) (by omega) | have b35 := i_bd ((m 104 l2.toNatClampNeg) + (1 : Int32))
          have b36 := i_bd (m 94 15)
          refine zd (fun (h37 : ((m 104 l2.toNatClampNeg) + (1 : Int32)) = (m 94 15)) => ?_) (fun (h37 : ¬ ((m 104 l2.toNatClampNeg) + (1 : Int32)) = (m 94 15)) => ?_)
          · skip
            have g38 := i_eq h37
            have hg39 : (0 ≤ l2 ∧ l2.toNatClampNeg < 3100) := i_ix (by omega) (by omega)
            refine ⟨hg39, ?_⟩
            try have alb := AL_b r_AL r_AV
            have b40 := i_bd l1
            first | have f41 : 0 ≤ (m 102 l2.toNatClampNeg).toInt ∧ (m 102 l2.toNatClampNeg).toInt ≤ 60 := ra_102 (m := m) hV (k := l2.toNatClampNeg) (i_ix (n := 3100) (by omega) (by omega)).2 | have b42 := i_bd (m 102 l2.toNatClampNeg)
            first | have e43 : ((m 102 l2.toNatClampNeg) + (1 : Int32)).toInt = (m 102 l2.toNatClampNeg).toInt + (1) := i_addk rfl (by omega) (by omega) | have b44 := i_bd ((m 102 l2.toNatClampNeg) + (1 : Int32))
            first | have e45 : (l1 + ((m 102 l2.toNatClampNeg) + (1 : Int32))).toInt = l1.toInt + ((m 102 l2.toNatClampNeg) + (1 : Int32)).toInt := i_add (by omega) (by omega) | have b46 := i_bd (l1 + ((m 102 l2.toNatClampNeg) + (1 : Int32)))
            first | have e47 : (l2 + (1 : Int32)).toInt = l2.toInt + (1) := i_addk rfl (by omega) (by omega) | have b48 := i_bd (l2 + (1 : Int32))
            exact IH (3100 - (l2 + (1 : Int32)).toInt).toNat (by omega) _ ((l1 + ((m 102 l2.toNatClampNeg) + (1 : Int32)))) ((l2 + (1 : Int32))) rfl hF hV (by omega) (by omega) (by omega) (by omega) r_RB r_AV r_AL r_AGq (show (l1 + ((m 102 l2.toNatClampNeg) + (1 : Int32))).toInt = sm (zbG (m 99) (m 103) (m 94 14) (m 104) (m 94 15)) (m 102) (l2 + (1 : Int32)).toNatClampNeg from by first | (exact sm_add r_SG (decide_eq_true ⟨by assumption, by omega, by assumption⟩) (tn_succ (by omega) (by omega)) (by omega)) | (exact sm_skip r_SG (decide_eq_false (fun z => by obtain ⟨z1, z2, z3⟩ := z; first | exact z1 (by assumption) | (exfalso; omega) | exact absurd z3 (by assumption))) (tn_succ (by omega) (by omega))) | (exact rfl) | (exfalso; omega; done) | (exfalso; contradiction; done))
          · skip
            have g49 := i_ne h37
            try have alb := AL_b r_AL r_AV
            have b50 := i_bd l1
            first | have e51 : (l2 + (1 : Int32)).toInt = l2.toInt + (1) := i_addk rfl (by omega) (by omega) | have b52 := i_bd (l2 + (1 : Int32))
            exact IH (3100 - (l2 + (1 : Int32)).toInt).toNat (by omega) _ (l1) ((l2 + (1 : Int32))) rfl hF hV (by omega) (by omega) (by omega) (by omega) r_RB r_AV r_AL r_AGq (show l1.toInt = sm (zbG (m 99) (m 103) (m 94 14) (m 104) (m 94 15)) (m 102) (l2 + (1 : Int32)).toNatClampNeg from by first | (exact sm_add r_SG (decide_eq_true ⟨by assumption, by omega, by assumption⟩) (tn_succ (by omega) (by omega)) (by omega)) | (exact sm_skip r_SG (decide_eq_false (fun z => by obtain ⟨z1, z2, z3⟩ := z; first | exact z1 (by assumption) | (exfalso; omega) | exact absurd z3 (by assumption))) (tn_succ (by omega) (by omega))) | (exact rfl) | (exfalso; omega; done) | (exfalso; contradiction; done))
        · skip
          have g53 := i_nle h30
          try have alb := AL_b r_AL r_AV
          have b54 := i_bd l1
          first | have e55 : (l2 + (1 : Int32)).toInt = l2.toInt + (1) := i_addk rfl (by omega) (by omega) | have b56 := i_bd (l2 + (1 : Int32))
          exact IH (3100 - (l2 + (1 : Int32)).toInt).toNat (by omega) _ (l1) ((l2 + (1 : Int32))) rfl hF hV (by omega) (by omega) (by omega) (by omega) r_RB r_AV r_AL r_AGq (show l1.toInt = sm (zbG (m 99) (m 103) (m 94 14) (m 104) (m 94 15)) (m 102) (l2 + (1 : Int32)).toNatClampNeg from by first | (exact sm_add r_SG (decide_eq_true ⟨by assumption, by omega, by assumption⟩) (tn_succ (by omega) (by omega)) (by omega)) | (exact sm_skip r_SG (decide_eq_false (fun z => by obtain ⟨z1, z2, z3⟩ := z; first | exact z1 (by assumption) | (exfalso; omega) | exact absurd z3 (by assumption))) (tn_succ (by omega) (by omega))) | (exact rfl) | (exfalso; omega; done) | (exfalso; contradiction; done))
theorem sp_215ry {X : Nat × (Nat → Int32)} {P : Option ma_V → (Nat → Nat → Int32) → Prop} {aa : Nat→Nat→Int32} {ro : Int32} {m : Nat → Nat → Int32}  (hV : zV m) (r_RB : qRB (m 99) (m 100) (m 98) (m 101) (m 102) (m 103) (m 107) (m 108) (m 109) (m 111) (m 112) (m 113) (m 114) (m 94 55) (m 94 46) ro 0 0 0 1 aa) (r_AV : qAv aa) (r_AL : qAL aa (m 94 13) (m 94 14) (m 94 15) (m 94 16) (m 94 59) (m 94 60) (m 94 61)) (r_AGq : qAg (m 99) (m 100) (m 104) aa) (KZ : ∀ v m₉, zV (zov wr_215 m m₉) → (v = 0 ∨ v = 1) → ((v.toInt = 1 ∧ gFu aa) ∨ (v.toInt = 0 ∧ ¬ gFu aa)) → P (some (.inl v)) (zov wr_215 m m₉)) : zm X 1 21 215 0 [(0, .inr (.inr (some 94)))] m P := by
  have K : ∀ v m₉, zF wr_215 m m₉ → zV m₉ → (v = 0 ∨ v = 1) → ((v.toInt = 1 ∧ gFu aa) ∨ (v.toInt = 0 ∧ ¬ gFu aa)) → P (some (.inl v)) m₉ := by
    intro v m₉ hf z q0 q1
    have e := zov_eq hf
    rw [e] at z ⊢
    try rw [e] at q0
    try rw [e] at q1
    exact KZ v m₉ z q0 q1
  refine g_215_0  ?_
  try have alb := AL_b r_AL r_AV
  have li1 : (0 : Int32).toInt = 0 := rfl
  exact lp_215ry_4 hV K _ _ ((0 : Int32)) ((0 : Int32)) rfl zF_rfl hV (by omega) (by omega) (by omega) (by omega) r_RB r_AV r_AL r_AGq (show (0 : Int32).toInt = sm (zbG (m 99) (m 103) (m 94 14) (m 104) (m 94 15)) (m 102) (0 : Int32).toNatClampNeg from by first | (exact rfl) | (exfalso; omega; done) | (exfalso; contradiction; done))

