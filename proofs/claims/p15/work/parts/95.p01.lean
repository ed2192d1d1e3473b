/-! SWEEP and COUNTS: what a call makes of the heap -/
noncomputable def oRo (a : Nat → Nat → Int32) (i o : Int32) : Nat → Nat → Int32 := qIf (zSl i ∧ (o = -1 ∨ zRq a o)) (aR0 a i o) a
noncomputable def oLi (a : Nat → Nat → Int32) (o i t : Int32) : Nat → Nat → Int32 := qIf (zRq a o ∧ (t = -1 ∨ zRq a t) ∧ zHw a o i ∧ zIr a o i) (aL0 a o.toNatClampNeg i t) a
noncomputable def oGr (a : Nat → Nat → Int32) (r : Int32) : Nat → Nat → Int32 := qIf (zSl r) (qIf (aNm a (aTy a) = -1) (aTw a) (aR0 (aTw a) r (aTy a))) a
noncomputable def oSg (a : Nat → Nat → Int32) (i r : Int32) : Nat → Nat → Int32 := qIf (zSl i ∧ zSl r ∧ aNm a (a 73 i.toNatClampNeg) ≠ -1) (aR0 a r (a 73 i.toNatClampNeg)) a
section E1A
variable {ab d : Nat → Nat → Int32} {o i x v w t rt n b ki kw kn : Int32} {e : Nat} {L : Int64}
theorem oli_y (h : zRq ab o ∧ (t = -1 ∨ zRq ab t) ∧ zHw ab o i ∧ zIr ab o i ∧ d = aL0 ab o.toNatClampNeg i t ∧ v = w) : d = oLi ab o i t := h.2.2.2.2.1.trans (qIf_y ⟨h.1, h.2.1, h.2.2.1, h.2.2.2.1⟩).symm
theorem cli_y (h : zRq ab o ∧ (t = -1 ∨ zRq ab t) ∧ zHw ab o i ∧ zIr ab o i ∧ d = cLe (aL0 ab o.toNatClampNeg i t) (aRef ab o.toNatClampNeg i) ∧ v = w) : d = kLi ab o i t := h.2.2.2.2.1.trans (qIf_y ⟨h.1, h.2.1, h.2.2.1, h.2.2.2.1⟩).symm
theorem oli_x (hd : d = ab) (h : (e = 4 ∧ (¬ zRq ab o ∨ (zRq ab o ∧ t ≠ -1 ∧ ¬ zRq ab t))) ∨ (e = 1 ∧ zRq ab o ∧ (t = -1 ∨ zRq ab t) ∧ ¬ zHw ab o i) ∨ (e = 5 ∧ zRq ab o ∧ (t = -1 ∨ zRq ab t) ∧ zHw ab o i ∧ ¬ zIr ab o i)) : d = oLi ab o i t := hd.trans (qIf_n (fun q => by
  rcases h with h | h | h
  · rcases h.2 with h2 | h2
    · exact h2 q.1
    · exact q.2.1.elim h2.2.1 h2.2.2
  · exact h.2.2.2 q.2.2.1
  · exact h.2.2.2.2 q.2.2.2)).symm
theorem cli_x (hd : d = ab) (h : (e = 4 ∧ (¬ zRq ab o ∨ (zRq ab o ∧ t ≠ -1 ∧ ¬ zRq ab t))) ∨ (e = 1 ∧ zRq ab o ∧ (t = -1 ∨ zRq ab t) ∧ ¬ zHw ab o i) ∨ (e = 5 ∧ zRq ab o ∧ (t = -1 ∨ zRq ab t) ∧ zHw ab o i ∧ ¬ zIr ab o i)) : d = kLi ab o i t := hd.trans (qIf_n (fun q => by
  rcases h with h | h | h
  · rcases h.2 with h2 | h2
    · exact h2 q.1
    · exact q.2.1.elim h2.2.1 h2.2.2
  · exact h.2.2.2 q.2.2.1
  · exact h.2.2.2.2 q.2.2.2)).symm
theorem oro_y (h : (0 ≤ i.toInt ∧ i.toInt ≤ 15) ∧ (o = -1 ∨ zRq ab o) ∧ d = aR0 ab i o ∧ v = w) : d = oRo ab i o := h.2.2.1.trans (qIf_y ⟨h.1, h.2.1⟩).symm
theorem cro_y (h : (0 ≤ i.toInt ∧ i.toInt ≤ 15) ∧ (o = -1 ∨ zRq ab o) ∧ d = cLe (aR0 ab i o) (ab 72 i.toNatClampNeg) ∧ v = w) : d = kRo ab i o := h.2.2.1.trans (qIf_y ⟨h.1, h.2.1⟩).symm
theorem oro_x (hd : d = ab) (h : (e = 2 ∧ ¬ (0 ≤ i.toInt ∧ i.toInt ≤ 15)) ∨ ((0 ≤ i.toInt ∧ i.toInt ≤ 15) ∧ e = 4 ∧ o ≠ -1 ∧ ¬ zRq ab o)) : d = oRo ab i o := hd.trans (qIf_n (kwe_n h)).symm
theorem cro_x (hd : d = ab) (h : (e = 2 ∧ ¬ (0 ≤ i.toInt ∧ i.toInt ≤ 15)) ∨ ((0 ≤ i.toInt ∧ i.toInt ≤ 15) ∧ e = 4 ∧ o ≠ -1 ∧ ¬ zRq ab o)) : d = kRo ab i o := hd.trans (qIf_n (kwe_n h)).symm
theorem osg_y (h : (0 ≤ i.toInt ∧ i.toInt ≤ 15) ∧ (0 ≤ rt.toInt ∧ rt.toInt ≤ 15) ∧ ((aNm ab (ab 73 i.toNatClampNeg) = -1 ∧ d = ab ∧ v = -1) ∨ (aNm ab (ab 73 i.toNatClampNeg) = ab 73 i.toNatClampNeg ∧ 0 ≤ (ab 73 i.toNatClampNeg).toInt ∧ d = aR0 ab rt (ab 73 i.toNatClampNeg) ∧ v = ab 73 i.toNatClampNeg))) : d = oSg ab i rt := by
  rcases h.2.2 with q | q
  · exact q.2.1.trans (qIf_n (fun z => z.2.2 q.1)).symm
  · refine q.2.2.1.trans (qIf_y ⟨h.1, h.2.1, fun z => ?_⟩).symm
    have q2 := q.2.1
    rw [← q.1, z] at q2
    exact absurd q2 (by decide)
theorem csg_y (h : (0 ≤ i.toInt ∧ i.toInt ≤ 15) ∧ (0 ≤ rt.toInt ∧ rt.toInt ≤ 15) ∧ ((aNm ab (ab 73 i.toNatClampNeg) = -1 ∧ d = ab ∧ v = -1) ∨ (aNm ab (ab 73 i.toNatClampNeg) = ab 73 i.toNatClampNeg ∧ 0 ≤ (ab 73 i.toNatClampNeg).toInt ∧ d = cLe (aR0 ab rt (ab 73 i.toNatClampNeg)) (ab 72 rt.toNatClampNeg) ∧ v = ab 73 i.toNatClampNeg))) : d = kSg ab i rt := by
  rcases h.2.2 with q | q
  · exact q.2.1.trans (qIf_n (fun z => z.2.2 q.1)).symm
  · refine q.2.2.1.trans (qIf_y ⟨h.1, h.2.1, fun z => ?_⟩).symm
    have q2 := q.2.1
    rw [← q.1, z] at q2
    exact absurd q2 (by decide)
theorem osg_x (hd : d = ab) (h : e = 2 ∧ ¬ ((0 ≤ i.toInt ∧ i.toInt ≤ 15) ∧ (0 ≤ rt.toInt ∧ rt.toInt ≤ 15))) : d = oSg ab i rt := hd.trans (qIf_n (fun q => h.2 ⟨q.1, q.2.1⟩)).symm
theorem csg_x (hd : d = ab) (h : e = 2 ∧ ¬ ((0 ≤ i.toInt ∧ i.toInt ≤ 15) ∧ (0 ≤ rt.toInt ∧ rt.toInt ≤ 15))) : d = kSg ab i rt := hd.trans (qIf_n (fun q => h.2 ⟨q.1, q.2.1⟩)).symm
theorem ogr_y (h : (0 ≤ rt.toInt ∧ rt.toInt ≤ 15) ∧ ((aNm ab (aTy ab) = -1 ∧ d = aTw ab ∧ v = -1) ∨ (aNm ab (aTy ab) = aTy ab ∧ 0 ≤ (aTy ab).toInt ∧ d = aR0 (aTw ab) rt (aTy ab) ∧ v = aTy ab))) : d = oGr ab rt := by
  unfold oGr
  rw [qIf_y (show zSl rt from h.1)]
  rcases h.2 with q | q
  · rw [qIf_y q.1]
    exact q.2.1
  · refine q.2.2.1.trans (qIf_n (fun z => ?_)).symm
    have q2 := q.2.1
    rw [← q.1, z] at q2
    exact absurd q2 (by decide)
theorem cgr_y (h : (0 ≤ rt.toInt ∧ rt.toInt ≤ 15) ∧ ((aNm ab (aTy ab) = -1 ∧ d = aTw ab ∧ v = -1) ∨ (aNm ab (aTy ab) = aTy ab ∧ 0 ≤ (aTy ab).toInt ∧ d = cLe (aR0 (aTw ab) rt (aTy ab)) (aTw ab 72 rt.toNatClampNeg) ∧ v = aTy ab))) : d = kGr ab rt := by
  unfold kGr
  rw [qIf_y (show zSl rt from h.1)]
  rcases h.2 with q | q
  · rw [qIf_y q.1]
    exact q.2.1
  · refine q.2.2.1.trans (qIf_n (fun z => ?_)).symm
    have q2 := q.2.1
    rw [← q.1, z] at q2
    exact absurd q2 (by decide)
theorem ogr_x (hd : d = ab) (h : e = 2 ∧ ¬ (0 ≤ rt.toInt ∧ rt.toInt ≤ 15)) : d = oGr ab rt := hd.trans (qIf_n h.2).symm
theorem cgr_x (hd : d = ab) (h : e = 2 ∧ ¬ (0 ≤ rt.toInt ∧ rt.toInt ≤ 15)) : d = kGr ab rt := hd.trans (qIf_n h.2).symm
theorem cho_y (h : zRq ab o ∧ (¬ b = 0 ∨ ¬ ab 133 o.toNatClampNeg = 0) ∧ d = cLe (ma_u ab 133 o.toNatClampNeg (ab 133 o.toNatClampNeg + (if b = 0 then -1 else 1))) o ∧ v = w) : d = kHo ab o b := h.2.2.1.trans (qIf_y ⟨h.1, h.2.1⟩).symm
theorem cho_x (hd : d = ab) (h : (e = 4 ∧ ¬ zRq ab o) ∨ (e = 6 ∧ zRq ab o ∧ b = 0 ∧ ab 133 o.toNatClampNeg = 0)) : d = kHo ab o b := hd.trans (qIf_n (fun q => by
  rcases h with h | h
  · exact h.2 q.1
  · exact q.2.elim (fun z => z h.2.2.1) (fun z => z h.2.2.2))).symm
theorem omk_y (h : (0 ≤ ki.toInt ∧ ki.toInt < kn.toInt ∧ 0 ≤ rt.toInt ∧ rt.toInt ≤ 15) ∧ d = sMk ab ki kw L rt ∧ v = w) : d = qIf (0 ≤ ki.toInt ∧ ki.toInt < kn.toInt ∧ zSl rt) (sMk ab ki kw L rt) ab := h.2.1.trans (qIf_y h.1).symm
theorem cmk_y (h : (0 ≤ ki.toInt ∧ ki.toInt < kn.toInt ∧ 0 ≤ rt.toInt ∧ rt.toInt ≤ 15) ∧ d = kMk ab ki kw L rt ∧ v = w) : d = qIf (0 ≤ ki.toInt ∧ ki.toInt < kn.toInt ∧ zSl rt) (kMk ab ki kw L rt) ab := h.2.1.trans (qIf_y h.1).symm
theorem omk_x (hd : d = ab) (h : e = 2 ∧ ¬ (0 ≤ ki.toInt ∧ ki.toInt < kn.toInt ∧ 0 ≤ rt.toInt ∧ rt.toInt ≤ 15)) : d = qIf (0 ≤ ki.toInt ∧ ki.toInt < kn.toInt ∧ zSl rt) (sMk ab ki kw L rt) ab := hd.trans (qIf_n h.2).symm
theorem cmk_x (hd : d = ab) (h : e = 2 ∧ ¬ (0 ≤ ki.toInt ∧ ki.toInt < kn.toInt ∧ 0 ≤ rt.toInt ∧ rt.toInt ≤ 15)) : d = qIf (0 ≤ ki.toInt ∧ ki.toInt < kn.toInt ∧ zSl rt) (kMk ab ki kw L rt) ab := hd.trans (qIf_n h.2).symm
theorem orw_y (h : (0 ≤ n.toInt ∧ n.toInt ≤ 60 ∧ 0 ≤ rt.toInt ∧ rt.toInt ≤ 15) ∧ d = (if b = 0 then sMk ab 17 n 0 rt else sMk ab 16 n (-1) rt) ∧ v = w) : d = qIf (0 ≤ n.toInt ∧ n.toInt ≤ 60 ∧ zSl rt) (if b = 0 then sMk ab 17 n 0 rt else sMk ab 16 n (-1) rt) ab := h.2.1.trans (qIf_y h.1).symm
theorem crw_y (h : (0 ≤ n.toInt ∧ n.toInt ≤ 60 ∧ 0 ≤ rt.toInt ∧ rt.toInt ≤ 15) ∧ d = (if b = 0 then kMk ab 17 n 0 rt else kMk ab 16 n (-1) rt) ∧ v = w) : d = qIf (0 ≤ n.toInt ∧ n.toInt ≤ 60 ∧ zSl rt) (if b = 0 then kMk ab 17 n 0 rt else kMk ab 16 n (-1) rt) ab := h.2.1.trans (qIf_y h.1).symm
theorem orw_x (hd : d = ab) (h : e = 2 ∧ ¬ (0 ≤ n.toInt ∧ n.toInt ≤ 60 ∧ 0 ≤ rt.toInt ∧ rt.toInt ≤ 15)) : d = qIf (0 ≤ n.toInt ∧ n.toInt ≤ 60 ∧ zSl rt) (if b = 0 then sMk ab 17 n 0 rt else sMk ab 16 n (-1) rt) ab := hd.trans (qIf_n h.2).symm
theorem crw_x (hd : d = ab) (h : e = 2 ∧ ¬ (0 ≤ n.toInt ∧ n.toInt ≤ 60 ∧ 0 ≤ rt.toInt ∧ rt.toInt ≤ 15)) : d = qIf (0 ≤ n.toInt ∧ n.toInt ≤ 60 ∧ zSl rt) (if b = 0 then kMk ab 17 n 0 rt else kMk ab 16 n (-1) rt) ab := hd.trans (qIf_n h.2).symm
end E1A
section E1B
variable {a b aa : Nat → Nat → Int32} {x y i o r t : Int32} {n k : Nat} {B : Int} {S S' : ma_S} {P : Nat}
theorem Ro_o (h : a 87 8 = 0) : xRo a i o = oRo a i o := by
  unfold xRo oRo
  rw [r0_rt h]
theorem Li_o (h : a 87 8 = 0) : xLi a o i t = oLi a o i t := by
  unfold xLi oLi aLn aL0
  rw [NC_0 (by rw [ci_87]; exact h)]
theorem Gr_o (h : a 87 8 = 0) : xGr a r = oGr a r := by
  unfold xGr oGr
  rw [r0_rt (tw_87.trans h)]
theorem Sg_o (h : a 87 8 = 0) : ySg a i r = oSg a i r := by
  have e : aSt a (a 73 i.toNatClampNeg) = a := if_neg (fun w => w h)
  unfold ySg oSg
  rw [e, r0_rt h]
theorem If_7c {P : Prop} {a' : Nat → Nat → Int32} (h : P → a' 87 k = a 87 k) : qIf P a' a 87 k = a 87 k := by
  by_cases w : P
  · rw [qIf_y w]
    exact h w
  · rw [qIf_n w]
/-- both: alike, and the collector's row stays -/
def zAx (a b d : Nat → Nat → Int32) : Prop := zO8 a b ∧ ∀ k, a 87 k = d 87 k
theorem Ax_0 (h : zO8 a b) : zAx a b a := ⟨h, fun _ => rfl⟩
theorem Ax_pu (h : zO8 a b) : zAx (xPu a o i x) (xPu b o i x) a := ⟨O8_if (by rw [O8_Rq h, O8_Hw h, O8_Ir h]) (fun _ => O8_ci h) h, fun _ => If_87 ci_87⟩
theorem Ax_we (h : zO8 a b) : zAx (xWe a i o) (xWe b i o) a := ⟨O8_if (by rw [O8_Rq h]) (fun _ => by rw [O8_Nm h]; exact O8_u h) h, fun _ => If_87 (xu_o (by omega))⟩
theorem Ax_wi (h : zO8 a b) : zAx (xWi a o) (xWi b o) a := ⟨O8_if (O8_Rq h) (fun _ => O8_u h) h, fun _ => If_87 (xu_o (by omega))⟩
theorem Ax_ho (h : zO8 a b) : zAx (xHo a o x) (xHo b o x) a := ⟨O8_if (by rw [O8_Rq h, O8_c (c := 133) h (by decide) (by decide) (by decide) (by decide)]) (fun _ => by rw [O8_c (c := 133) h (by decide) (by decide) (by decide) (by decide)]; exact O8_u h) h, fun _ => If_87 (xu_o (by omega))⟩
theorem Ax_ro (h : zO8 a b) : zAx (oRo a i o) (oRo b i o) a := ⟨O8_if (by rw [O8_Rq h]) (fun _ => O8_r0 h) h, fun _ => If_87 r0_87⟩
theorem l0_87 : aL0 a n i y 87 k = a 87 k := ci_87
theorem O8_l0 (h : zO8 a b) : zO8 (aL0 a n i y) (aL0 b n i y) := by
  unfold aL0
  rw [O8_Nm h]
  exact O8_ci h
theorem Ax_li (h : zO8 a b) : zAx (oLi a o i t) (oLi b o i t) a := ⟨O8_if (by rw [O8_Rq h, O8_Rq h, O8_Hw h, O8_Ir h]) (fun _ => O8_l0 h) h, fun _ => If_87 l0_87⟩
theorem Ax_gr (h : zO8 a b) : zAx (oGr a r) (oGr b r) a := by
  have tw := O8_tw h
  refine ⟨O8_if Iff.rfl (fun _ => O8_if (by rw [tw.2, O8_Nm h]) (fun _ => tw.1) (by rw [tw.2]; exact O8_r0 tw.1)) h, fun k => If_87 ?_⟩
  by_cases w : aNm a (aTy a) = -1
  · rw [qIf_y w]
    exact tw_87
  · rw [qIf_n w]
    exact r0_87.trans tw_87
theorem Ax_sg (h : zO8 a b) : zAx (oSg a i r) (oSg b i r) a := ⟨O8_if (by rw [O8_Nm h, O8_c (c := 73) h (by decide) (by decide) (by decide) (by decide)]) (fun _ => by rw [O8_c (c := 73) h (by decide) (by decide) (by decide) (by decide)]; exact O8_r0 h) h, fun _ => If_87 r0_87⟩
/-! COUNTS -/
theorem sl_16 (h : zSl i) : i.toNatClampNeg < 16 := by
  have c := tn_cast h.1
  have := h.2
  omega
theorem O8_rt (h : zO8 a b) (hV : cV a [] B) (hi : zSl i) : zO8 (kRt a i y) (kRt b i y) := by
  unfold kRt
  rw [O8_c (c := 72) h (by decide) (by decide) (by decide) (by decide)]
  exact Le_o8 (O8_r0 h) (V_r0 hV (sl_16 hi))
theorem X87 : cXr 87 := Or.inr (Or.inr (Or.inr rfl))
theorem rt_87 (hV : cV a [] B) (hi : zSl i) : kRt a i y 87 k = a 87 k := (Le_x X87 (V_r0 hV (sl_16 hi))).trans r0_87
theorem Ax_kro (h : zO8 a b) (hV : cV a [] B) : zAx (kRo a i o) (kRo b i o) a := ⟨O8_if (by rw [O8_Rq h]) (fun w => O8_rt h hV w.1) h, fun _ => If_7c (fun w => rt_87 hV w.1)⟩
theorem V_l0 (hV : cV a [] B) (hq : zRq a o) (hw : zHw a o i) (hi : zIr a o i) : cV (aL0 a o.toNatClampNeg i t) [] B := V_0 (C_li (y := t) (K' := fun m => Int32.ofInt (cRf a m) + Int32.ofNat (cIs t m) - Int32.ofNat (cIs (aRef a o.toNatClampNeg i) m)) (C_ofV hV) (Rq_wp hq hw) hi (fun _ _ => rfl))
theorem Ax_kli (h : zO8 a b) (hV : cV a [] B) : zAx (kLi a o i t) (kLi b o i t) a := by
  refine ⟨O8_if (by rw [O8_Rq h, O8_Rq h, O8_Hw h, O8_Ir h]) (fun w => ?_) h, fun _ => If_7c (fun w => ?_)⟩
  · rw [O8_rf h]
    exact Le_o8 (O8_l0 h) (V_l0 hV ((O8_Rq h).mpr w.1) ((O8_Hw h).mpr w.2.2.1) ((O8_Ir h).mpr w.2.2.2))
  · exact (Le_x X87 (V_l0 hV w.1 w.2.2.1 w.2.2.2)).trans l0_87
theorem V_h0 (hV : cV a [] B) (hB : B + 1 ≤ 1000000) (hq : zRq a o) (hb : ¬ x = 0 ∨ ¬ a 133 o.toNatClampNeg = 0) : cV (ma_u a 133 o.toNatClampNeg (a 133 o.toNatClampNeg + (if x = 0 then -1 else 1))) [] (B + 1) := by
  by_cases w : x = 0
  · rw [if_pos w]
    exact V_ho4 hV (al_of hq) hB (Or.inr ⟨rfl, hb.elim (fun q => absurd w q) id⟩)
  · rw [if_neg w]
    exact V_ho4 hV (al_of hq) hB (Or.inl rfl)
theorem Ax_kho (h : zO8 a b) (hV : cV a [] B) (hB : B + 1 ≤ 1000000) : zAx (kHo a o x) (kHo b o x) a := by
  have e := O8_c (c := 133) (k := o.toNatClampNeg) h (by decide) (by decide) (by decide) (by decide)
  refine ⟨O8_if (by rw [O8_Rq h, e]) (fun w => ?_) h, fun _ => If_7c (fun w => ?_)⟩
  · rw [← e] at w ⊢
    exact Le_o8 (O8_u h) (V_h0 hV hB ((O8_Rq h).mpr w.1) w.2)
  · exact (Le_x X87 (V_h0 hV hB w.1 w.2)).trans (xu_o (by omega))
theorem Ax_kgr (h : zO8 a b) (hV : cV a [] B) : zAx (kGr a r) (kGr b r) a := by
  have tw := O8_tw h
  have vt := V_tw4 hV
  refine ⟨O8_if Iff.rfl (fun w => O8_if (by rw [tw.2, O8_Nm h]) (fun _ => tw.1) (by rw [tw.2]; exact O8_rt tw.1 vt w)) h, fun k => If_7c (fun w => ?_)⟩
  by_cases q : aNm a (aTy a) = -1
  · rw [qIf_y q]
    exact tw_87
  · rw [qIf_n q]
    exact (rt_87 vt w).trans tw_87
theorem Ax_ksg (h : zO8 a b) (hV : cV a [] B) : zAx (kSg a i r) (kSg b i r) a := ⟨O8_if (by rw [O8_Nm h, O8_c (c := 73) h (by decide) (by decide) (by decide) (by decide)]) (fun w => by rw [O8_c (c := 73) h (by decide) (by decide) (by decide) (by decide)]; exact O8_rt h hV w.2.1) h, fun _ => If_7c (fun w => rt_87 hV w.2.1)⟩
/-- what the class tells of aS 88, as aT -/
theorem T_88 : zO8 (aT P S) (aS 88 S) := fun c k h1 h2 h3 h4 => (T_o8 c k h1 h2 h3 h4).trans (Of_S c k h1 h2 h3)
theorem Q_A {X Y : Nat → Nat → Int32} (h : zQ aa (aT P S)) (hx : zAx X Y aa) (hs : aS 88 S' = Y) (fq : zfP P (mI S') = zfP P (mI S)) : zQ X (aT P S') := by
  refine Q_of (fun c k h1 h2 h3 h4 => ?_) (fun k hk => ?_)
  · rw [hx.1 c k h1 h2 h3 h4, ← hs]
    exact (T_88 c k h1 h2 h3 h4).symm
  · have e : aT P S' 87 k = aT P S 87 k := by rw [T_7, T_7, fq]
    rw [e, hx.2 k]
    exact hk.elim (fun w => Q_k h w) (fun w => by rw [w]; exact Q_8e h)
theorem Q_88o (h : zQ aa (aT P S)) : zO8 aa (aS 88 S) := fun c k h1 h2 h3 h4 => (Q_8 h c k h1 h2 h3 h4).trans (T_88 c k h1 h2 h3 h4)
theorem Q_80 (h : zQ aa (aT P S)) : aa 87 8 = 0 := (Q_8e h).trans T_8
end E1B
