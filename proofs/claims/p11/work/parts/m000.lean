/-! from 95.za0 -/
/-! the reference answers (written by wip/tools/gen15a.py) -/
/-! ANSWERS, once more: a choice, and what makes an answer one -/
def zSel (C A B : Prop) : Prop := (¬ C ∧ A) ∨ (C ∧ B)
def zFu (P : Int32 → Int32 → Prop) : Prop := ∀ th v th2 v2, P th v → P th2 v2 → th2.toInt = th.toInt ∧ (th.toInt = 0 → v2 = v)
theorem fu_k {k : Int} (h : k ≠ 0) : zFu (fun th _ => th.toInt = k) := fun th v th2 v2 a b => ⟨b.trans a.symm, fun z => absurd (a.symm.trans z) h⟩
theorem fu_v {x : Int32} : zFu (fun th v => th.toInt = 0 ∧ v = x) := fun th v th2 v2 a b => ⟨b.1.trans a.1.symm, fun _ => b.2.trans a.2.symm⟩
theorem fu_s {C : Prop} {P Q : Int32 → Int32 → Prop} (h : zFu P) (g : zFu Q) : zFu (fun th v => zSel C (P th v) (Q th v)) := fun th v th2 v2 a b => by
  rcases a with a | a
  · rcases b with b | b
    · exact h th v th2 v2 a.2 b.2
    · exact absurd b.1 a.1
  · rcases b with b | b
    · exact absurd a.1 b.1
    · exact g th v th2 v2 a.2 b.2
def qSlt (i : Int32) : Prop := 0 ≤ i.toInt ∧ i.toInt ≤ 15
/-! where a heap stands -/
def qNwe (a : Nat → Nat → Int32) (i o th v : Int32) : Prop := zSel (qSlt i) (th.toInt = 1) (zSel (o = -1 ∨ zRq a o) (th.toInt = 3) (th.toInt = 0 ∧ v = a 73 i.toNatClampNeg))
def qNro (a : Nat → Nat → Int32) (i o th v : Int32) : Prop := zSel (qSlt i) (th.toInt = 1) (zSel (o = -1 ∨ zRq a o) (th.toInt = 3) (th.toInt = 0 ∧ v = aNm a (a 72 i.toNatClampNeg)))
def qNsg (a : Nat → Nat → Int32) (i r th v : Int32) : Prop := zSel (qSlt i ∧ qSlt r) (th.toInt = 1) (th.toInt = 0 ∧ v = aNm a (a 73 i.toNatClampNeg))
def qNgr (a : Nat → Nat → Int32) (r th v : Int32) : Prop := zSel (qSlt r) (th.toInt = 1) (th.toInt = 0 ∧ v = aNm a (aTy a))
def qNli (a : Nat → Nat → Int32) (o i t th v : Int32) : Prop := zSel (zRq a o ∧ (t = -1 ∨ zRq a t)) (th.toInt = 2) (zSel (zHw a o i) (th.toInt = 3) (zSel (zIr a o i) (th.toInt = 4) (th.toInt = 0 ∧ v = aNm a (aRef a o.toNatClampNeg i))))
def qNho (c : Prop) (a : Nat → Nat → Int32) (o b th v : Int32) : Prop := zSel (zRq a o) (th.toInt = 2) (zSel (c ∧ (¬ b = 0 ∨ ¬ a 133 o.toNatClampNeg = 0)) (th.toInt = 3) (th.toInt = 0 ∧ v = a 133 o.toNatClampNeg + (if b = 0 then -1 else 1)))
theorem fu_ro {a : Nat → Nat → Int32} {i o : Int32} : zFu (qNro a i o) := fu_s (fu_k (by decide)) (fu_s (fu_k (by decide)) fu_v)
section G1
variable {a : Nat → Nat → Int32} {us nr kr kd ws at₉ ho wd wi ow rt wk wl : Nat → Int32} {wm nu ro fo le ra pi o i s x : Int32} {k : Nat}
theorem R3_n (h : qR3 us nr rt a k) (h0 : 0 ≤ i.toInt) (h1 : i.toInt ≤ 15) (hx : (rt i.toNatClampNeg).toInt < 0) : a k i.toNatClampNeg = -1 := by
  have c := tn_cast h0
  rw [(h _ (by omega)).2]
  exact if_pos hx
theorem R3_y (h : qR3 us nr rt a k) (h0 : 0 ≤ i.toInt) (h1 : i.toInt ≤ 15) (hx : ¬ (rt i.toNatClampNeg).toInt < 0) : a k i.toNatClampNeg = nr (rt i.toNatClampNeg).toNatClampNeg := by
  have c := tn_cast h0
  rw [(h _ (by omega)).2]
  exact if_neg hx
/-- what a slot that is used, or none, is named -/
theorem Nm_R3 (hR : qR1 us nr ws at₉ ho a) (h : qR3 us nr rt a k) (h0 : 0 ≤ i.toInt) (h1 : i.toInt ≤ 15) : aNm a (a k i.toNatClampNeg) = a k i.toNatClampNeg := by
  have c := tn_cast h0
  have q := h i.toNatClampNeg (by omega)
  rw [q.2]
  exact Nm_no hR q.1
end G1
section G2
variable {a : Nat → Nat → Int32} {us nr kr kd ws at₉ ho wd wi ow rt wk wl : Nat → Int32} {wm nu ro fo le ra pi o i s x b po ol : Int32} {k : Nat} {c : Prop}
end G2
/-! from 95.za1 -/
/-! the reference answers (written by wip/tools/gen15a.py) -/
theorem sp_250an {X : Nat × (Nat → Int32)} {P : Option ma_V → (Nat → Nat → Int32) → Prop} {T : Nat} {aa : Nat→Nat→Int32} {ro : Int32} {fo : Int32} {le : Int32} {ra : Int32} {pi : Int32} {m : Nat → Nat → Int32} (ix : Int32) (ob : Int32) (hV : zV m) (hpre0 : (m 94 8).toInt ≠ 0) (r_W : zW (m 94 7) (m 98) (m 101) (m 102) (m 108)) (r_GW : zGW T (m 94 55) (m 109)) (r_GU : zGU T (m 94 46) (m 99)) (r_OW : zOw (m 99) (m 103) (m 111)) (r_DX : zDX (m 94 10) (m 99) (m 112) (m 113) (m 114) (m 94 55) (m 98) (m 101) (m 102) (m 108)) (r_GG : zGG (m 94 58) (m 94 56) (m 94 57) (m 106)) (r_HA : zHA (m 94 10) (m 94 11) (m 94 13) (m 94 14) (m 94 16) (m 94 61) (m 94 59) (m 94 60) (m 99) (m 102) (m 103) (m 111) (m 117) (m 98) (m 101) (m 108)) (r_RGc : zRG (m 94 10) (m 94 18) (m 94 64) (m 94 63) (m 99) (m 103) (m 102) (m 116)) (hpre9 : (m 94 58).toInt = 0 ∨ (m 94 10).toInt = 5) (r_RB : qRB (m 99) (m 100) (m 98) (m 101) (m 102) (m 103) (m 107) (m 108) (m 109) (m 111) (m 112) (m 113) (m 114) (m 94 55) (m 94 46) ro fo le ra pi aa) (r_QI : qI aa) (KZ : ∀ v m₉, zV (zov wr_250 m m₉) → (qNro aa ix ob (m₉ 94 0) v) → P (some (.inl v)) (zov wr_250 m m₉)) : zm X 5 111 250 0 [(0, .inr (.inr (some 94))), (1, .inl ix), (2, .inl ob)] m P := by
  have K : ∀ v m₉, zF wr_250 m m₉ → zV m₉ → (qNro aa ix ob (m₉ 94 0) v) → P (some (.inl v)) m₉ := by
    intro v m₉ hf z q0
    have e := zov_eq hf
    rw [e] at z ⊢
    try rw [e] at q0
    exact KZ v m₉ z q0
  refine g_250_0 ix ob ?_
  have f1 : 0 ≤ (m 94 8).toInt ∧ (m 94 8).toInt ≤ 1 := rs_94_8 (m := m) hV
  have f2 : 0 ≤ (m 94 58).toInt ∧ (m 94 58).toInt ≤ 1 := rs_94_58 (m := m) hV
  have f3 : 0 ≤ (m 94 10).toInt ∧ (m 94 10).toInt ≤ 6 := rs_94_10 (m := m) hV
  have b4 := i_bd ix
  have li5 : (0 : Int32).toInt = 0 := rfl
  refine zd (fun (h6 : ix < (0 : Int32)) => ?_) (fun (h6 : ¬ ix < (0 : Int32)) => ?_)
  · skip
    have g7 := i_lt h6
    have hV8 : zV (ma_u m 94 0 (1 : Int32)) := uf_94_0 hV
    exact K ((0 : Int32)) _ (zF_u zF_rfl rfl) hV8 (show qNro aa ix ob (1 : Int32) (0 : Int32) from by first | (exfalso; omega; done) | (exact Or.inl ⟨fun w => by have w1 := w.1; have w2 := w.2; omega, rfl⟩) | (exact Or.inr ⟨⟨by omega, by omega⟩, Or.inr ⟨Or.inl (by assumption), rfl, ((Nm_R3 r_RB.1 r_RB.2.2.1 (by omega) (by omega)).trans (R3_n r_RB.2.2.1 (by omega) (by omega) (by omega))).symm⟩⟩) | (exact Or.inr ⟨⟨by omega, by omega⟩, Or.inr ⟨Or.inl (by assumption), rfl, ((Nm_R3 r_RB.1 r_RB.2.2.1 (by omega) (by omega)).trans (R3_y r_RB.2.2.1 (by omega) (by omega) (by omega))).symm⟩⟩) | (exfalso; omega; done) | (exfalso; contradiction; done))
  · skip
    have g9 := i_nlt h6
    have li10 : (16 : Int32).toInt = 16 := rfl
    refine zd (fun (h11 : (16 : Int32) ≤ ix) => ?_) (fun (h11 : ¬ (16 : Int32) ≤ ix) => ?_)
    · skip
      have g12 := i_le h11
      have hV13 : zV (ma_u m 94 0 (1 : Int32)) := uf_94_0 hV
      exact K ((0 : Int32)) _ (zF_u zF_rfl rfl) hV13 (show qNro aa ix ob (1 : Int32) (0 : Int32) from by first | (exfalso; omega; done) | (exact Or.inl ⟨fun w => by have w1 := w.1; have w2 := w.2; omega, rfl⟩) | (exact Or.inr ⟨⟨by omega, by omega⟩, Or.inr ⟨Or.inl (by assumption), rfl, ((Nm_R3 r_RB.1 r_RB.2.2.1 (by omega) (by omega)).trans (R3_n r_RB.2.2.1 (by omega) (by omega) (by omega))).symm⟩⟩) | (exact Or.inr ⟨⟨by omega, by omega⟩, Or.inr ⟨Or.inl (by assumption), rfl, ((Nm_R3 r_RB.1 r_RB.2.2.1 (by omega) (by omega)).trans (R3_y r_RB.2.2.1 (by omega) (by omega) (by omega))).symm⟩⟩) | (exfalso; omega; done) | (exfalso; contradiction; done))
    · skip
      have g14 := i_nle h11
      refine zd (fun (h15 : (m 94 8) = (0 : Int32)) => ?_) (fun (h15 : ¬ (m 94 8) = (0 : Int32)) => ?_)
      · skip
        have g16 := i_eq h15
        have hV17 : zV (ma_u m 94 0 (2 : Int32)) := uf_94_0 hV
        exact K ((0 : Int32)) _ (zF_u zF_rfl rfl) hV17 (show qNro aa ix ob (2 : Int32) (0 : Int32) from by first | (exfalso; omega; done) | (exact Or.inl ⟨fun w => by have w1 := w.1; have w2 := w.2; omega, rfl⟩) | (exact Or.inr ⟨⟨by omega, by omega⟩, Or.inr ⟨Or.inl (by assumption), rfl, ((Nm_R3 r_RB.1 r_RB.2.2.1 (by omega) (by omega)).trans (R3_n r_RB.2.2.1 (by omega) (by omega) (by omega))).symm⟩⟩) | (exact Or.inr ⟨⟨by omega, by omega⟩, Or.inr ⟨Or.inl (by assumption), rfl, ((Nm_R3 r_RB.1 r_RB.2.2.1 (by omega) (by omega)).trans (R3_y r_RB.2.2.1 (by omega) (by omega) (by omega))).symm⟩⟩) | (exfalso; omega; done) | (exfalso; contradiction; done))
      · skip
        have g18 := i_ne h15
        have b19 := i_bd ob
        have li20 : (-1 : Int32).toInt = -1 := rfl
        refine zd (fun (h21 : ob = (-1 : Int32)) => ?_) (fun (h21 : ¬ ob = (-1 : Int32)) => ?_)
        · skip
          have g22 := i_eq h21
          refine zd (fun (h23 : ob = (-1 : Int32)) => ?_) (fun (h23 : ¬ ob = (-1 : Int32)) => ?_)
          · skip
            have g24 := i_eq h23
            have hg25 : (0 ≤ ix ∧ ix.toNatClampNeg < 16) := i_ix (by omega) (by omega)
            refine ⟨hg25, ?_⟩
            first | have f26 : -1 ≤ (m 112 ix.toNatClampNeg).toInt ∧ (m 112 ix.toNatClampNeg).toInt ≤ 3099 := ra_112 (m := m) hV (k := ix.toNatClampNeg) (i_ix (n := 16) (by omega) (by omega)).2 | have b27 := i_bd (m 112 ix.toNatClampNeg)
            refine zd (fun (h28 : (0 : Int32) ≤ (m 112 ix.toNatClampNeg)) => ?_) (fun (h28 : ¬ (0 : Int32) ≤ (m 112 ix.toNatClampNeg)) => ?_)
            · skip
              have g29 := i_le h28
              have hg30 : (0 ≤ (m 112 ix.toNatClampNeg) ∧ (m 112 ix.toNatClampNeg).toNatClampNeg < 3100) := i_ix (by omega) (by omega)
              refine ⟨hg30, ?_⟩
              have hV31 : zV (ma_u m 94 0 (0 : Int32)) := uf_94_0 hV
              have hV32 : zV (ma_u (ma_u m 94 0 (0 : Int32)) 94 0 (0 : Int32)) := uf_94_0 hV31
              refine sp_238 (ix) ((-1 : Int32)) hV32 (by omega) (by omega) (by omega) (by omega) (show ((m 94 10).toInt = 2 ∨ (m 94 10).toInt = 3) → (-1 : Int32).toInt < 0 ∨ (m 99) (-1 : Int32).toNatClampNeg ≠ 0 from by first | (exact fun _ => Or.inl (by decide)) | (exfalso; omega; done) | (exfalso; contradiction; done)) r_W r_GW r_GU r_OW r_DX r_GG r_HA r_RGc (show (m 94 58).toInt = 0 ∨ (m 94 10).toInt = 5 from by omega) (fun m11 hV_m11 p0_m11 p1_m11 p2_m11 p3_m11 p4_m11 p5_m11 p6_m11 p7_m11 => zmv_n ?_)
              have p0_m11 : zGW T (m11 94 55) (m11 109) := p0_m11
              have p1_m11 : zGU T (m 94 46) (m11 99) := p1_m11
              have p2_m11 : zOw (m11 99) (m 103) (m11 111) := p2_m11
              have p3_m11 : zDX (m 94 10) (m11 99) (m11 112) (m11 113) (m11 114) (m11 94 55) (m 98) (m 101) (m 102) (m 108) := p3_m11
              have p4_m11 : zGG (m 94 58) (m11 94 56) (m 94 57) (m11 106) := p4_m11
              have p5_m11 : zHA (m 94 10) (m 94 11) (m 94 13) (m 94 14) (m 94 16) (m 94 61) (m 94 59) (m 94 60) (m11 99) (m 102) (m 103) (m11 111) (m 117) (m 98) (m 101) (m 108) := p5_m11
              have p6_m11 : zRG (m 94 10) (m 94 18) (m 94 64) (m 94 63) (m11 99) (m 103) (m 102) (m 116) := p6_m11
              have p7_m11 : (m 94 58).toInt = 0 ∨ (m 94 10).toInt = 5 := p7_m11
              first | have f33 : 0 ≤ (m 100 (m 112 ix.toNatClampNeg).toNatClampNeg).toInt ∧ (m 100 (m 112 ix.toNatClampNeg).toNatClampNeg).toInt ≤ 100000 := ra_100 (m := m) hV (k := (m 112 ix.toNatClampNeg).toNatClampNeg) (i_ix (n := 3100) (by omega) (by omega)).2 | have b34 := i_bd (m 100 (m 112 ix.toNatClampNeg).toNatClampNeg)
              exact K ((m 100 (m 112 ix.toNatClampNeg).toNatClampNeg)) _ (zF_zov (zF_u (zF_u zF_rfl rfl) rfl) ws_238_250) hV_m11 (show qNro aa ix ob (0 : Int32) (m 100 (m 112 ix.toNatClampNeg).toNatClampNeg) from by first | (exfalso; omega; done) | (exact Or.inl ⟨fun w => by have w1 := w.1; have w2 := w.2; omega, rfl⟩) | (exact Or.inr ⟨⟨by omega, by omega⟩, Or.inr ⟨Or.inl (by assumption), rfl, ((Nm_R3 r_RB.1 r_RB.2.2.1 (by omega) (by omega)).trans (R3_n r_RB.2.2.1 (by omega) (by omega) (by omega))).symm⟩⟩) | (exact Or.inr ⟨⟨by omega, by omega⟩, Or.inr ⟨Or.inl (by assumption), rfl, ((Nm_R3 r_RB.1 r_RB.2.2.1 (by omega) (by omega)).trans (R3_y r_RB.2.2.1 (by omega) (by omega) (by omega))).symm⟩⟩) | (exfalso; omega; done) | (exfalso; contradiction; done))
            · skip
              have g35 := i_nle h28
              have hV36 : zV (ma_u m 94 0 (0 : Int32)) := uf_94_0 hV
              have hV37 : zV (ma_u (ma_u m 94 0 (0 : Int32)) 94 0 (0 : Int32)) := uf_94_0 hV36
              refine sp_238 (ix) ((-1 : Int32)) hV37 (by omega) (by omega) (by omega) (by omega) (show ((m 94 10).toInt = 2 ∨ (m 94 10).toInt = 3) → (-1 : Int32).toInt < 0 ∨ (m 99) (-1 : Int32).toNatClampNeg ≠ 0 from by first | (exact fun _ => Or.inl (by decide)) | (exfalso; omega; done) | (exfalso; contradiction; done)) r_W r_GW r_GU r_OW r_DX r_GG r_HA r_RGc (show (m 94 58).toInt = 0 ∨ (m 94 10).toInt = 5 from by omega) (fun m13 hV_m13 p0_m13 p1_m13 p2_m13 p3_m13 p4_m13 p5_m13 p6_m13 p7_m13 => zmv_n ?_)
              have p0_m13 : zGW T (m13 94 55) (m13 109) := p0_m13
              have p1_m13 : zGU T (m 94 46) (m13 99) := p1_m13
              have p2_m13 : zOw (m13 99) (m 103) (m13 111) := p2_m13
              have p3_m13 : zDX (m 94 10) (m13 99) (m13 112) (m13 113) (m13 114) (m13 94 55) (m 98) (m 101) (m 102) (m 108) := p3_m13
              have p4_m13 : zGG (m 94 58) (m13 94 56) (m 94 57) (m13 106) := p4_m13
              have p5_m13 : zHA (m 94 10) (m 94 11) (m 94 13) (m 94 14) (m 94 16) (m 94 61) (m 94 59) (m 94 60) (m13 99) (m 102) (m 103) (m13 111) (m 117) (m 98) (m 101) (m 108) := p5_m13
              have p6_m13 : zRG (m 94 10) (m 94 18) (m 94 64) (m 94 63) (m13 99) (m 103) (m 102) (m 116) := p6_m13
              have p7_m13 : (m 94 58).toInt = 0 ∨ (m 94 10).toInt = 5 := p7_m13
              exact K ((-1 : Int32)) _ (zF_zov (zF_u (zF_u zF_rfl rfl) rfl) ws_238_250) hV_m13 (show qNro aa ix ob (0 : Int32) (-1 : Int32) from by first | (exfalso; omega; done) | (exact Or.inl ⟨fun w => by have w1 := w.1; have w2 := w.2; omega, rfl⟩) | (exact Or.inr ⟨⟨by omega, by omega⟩, Or.inr ⟨Or.inl (by assumption), rfl, ((Nm_R3 r_RB.1 r_RB.2.2.1 (by omega) (by omega)).trans (R3_n r_RB.2.2.1 (by omega) (by omega) (by omega))).symm⟩⟩) | (exact Or.inr ⟨⟨by omega, by omega⟩, Or.inr ⟨Or.inl (by assumption), rfl, ((Nm_R3 r_RB.1 r_RB.2.2.1 (by omega) (by omega)).trans (R3_y r_RB.2.2.1 (by omega) (by omega) (by omega))).symm⟩⟩) | (exfalso; omega; done) | (exfalso; contradiction; done))
          · skip
            have g38 := i_ne h23
            have hV39 : zV (ma_u m 94 0 (0 : Int32)) := uf_94_0 hV
            have hV40 : zV (ma_u (ma_u m 94 0 (0 : Int32)) 94 0 (3 : Int32)) := uf_94_0 hV39
            exact K ((0 : Int32)) _ (zF_u (zF_u zF_rfl rfl) rfl) hV40 (show qNro aa ix ob (3 : Int32) (0 : Int32) from by first | (exfalso; omega; done) | (exact Or.inl ⟨fun w => by have w1 := w.1; have w2 := w.2; omega, rfl⟩) | (exact Or.inr ⟨⟨by omega, by omega⟩, Or.inr ⟨Or.inl (by assumption), rfl, ((Nm_R3 r_RB.1 r_RB.2.2.1 (by omega) (by omega)).trans (R3_n r_RB.2.2.1 (by omega) (by omega) (by omega))).symm⟩⟩) | (exact Or.inr ⟨⟨by omega, by omega⟩, Or.inr ⟨Or.inl (by assumption), rfl, ((Nm_R3 r_RB.1 r_RB.2.2.1 (by omega) (by omega)).trans (R3_y r_RB.2.2.1 (by omega) (by omega) (by omega))).symm⟩⟩) | (exfalso; omega; done) | (exfalso; contradiction; done))
        · skip
          have g41 := i_ne h21
          have hV42 : zV (ma_u m 94 0 (0 : Int32)) := uf_94_0 hV
          refine sp_245rm (aa := aa) (ob) hV42 r_W r_RB r_QI (fun v2 m1 hV_m1 p0_m1 p1_m1 p2_m1 => zmi_n ?_)
          have p0_m1 : -1 ≤ v2.toInt ∧ v2.toInt ≤ 3099 := p0_m1
          have p1_m1 : v2.toInt < 0 ∨ (m 99) v2.toNatClampNeg ≠ 0 := p1_m1
          have p2_m1 : qRe (m 99) (m 100) aa ob v2 := p2_m1
          refine zd (fun (h43 : ob = (-1 : Int32)) => ?_) (fun (h43 : ¬ ob = (-1 : Int32)) => ?_)
          · skip
            have g44 := i_eq h43
            have hg45 : (0 ≤ ix ∧ ix.toNatClampNeg < 16) := i_ix (by omega) (by omega)
            refine ⟨hg45, ?_⟩
            first | have f46 : -1 ≤ (m 112 ix.toNatClampNeg).toInt ∧ (m 112 ix.toNatClampNeg).toInt ≤ 3099 := ra_112 (m := m) hV (k := ix.toNatClampNeg) (i_ix (n := 16) (by omega) (by omega)).2 | have b47 := i_bd (m 112 ix.toNatClampNeg)
            refine zd (fun (h48 : (0 : Int32) ≤ (m 112 ix.toNatClampNeg)) => ?_) (fun (h48 : ¬ (0 : Int32) ≤ (m 112 ix.toNatClampNeg)) => ?_)
            · skip
              have g49 := i_le h48
              have hg50 : (0 ≤ (m 112 ix.toNatClampNeg) ∧ (m 112 ix.toNatClampNeg).toNatClampNeg < 3100) := i_ix (by omega) (by omega)
              refine ⟨hg50, ?_⟩
              have b51 := i_bd v2
              have hV52 : zV (ma_u (zov wr_245 (ma_u m 94 0 (0 : Int32)) m1) 94 0 (0 : Int32)) := uf_94_0 hV_m1
              refine sp_238 (ix) (v2) hV52 (by omega) (by omega) (by omega) (by omega) (show ((m 94 10).toInt = 2 ∨ (m 94 10).toInt = 3) → v2.toInt < 0 ∨ (m 99) v2.toNatClampNeg ≠ 0 from by first | (exact fun _ => p1_m1) | (exact fun _ => Or.inl (by decide)) | (exfalso; omega; done) | (exfalso; contradiction; done)) r_W r_GW r_GU r_OW r_DX r_GG r_HA r_RGc (show (m 94 58).toInt = 0 ∨ (m 94 10).toInt = 5 from by omega) (fun m3 hV_m3 p0_m3 p1_m3 p2_m3 p3_m3 p4_m3 p5_m3 p6_m3 p7_m3 => zmv_n ?_)
              have p0_m3 : zGW T (m3 94 55) (m3 109) := p0_m3
              have p1_m3 : zGU T (m 94 46) (m3 99) := p1_m3
              have p2_m3 : zOw (m3 99) (m 103) (m3 111) := p2_m3
              have p3_m3 : zDX (m 94 10) (m3 99) (m3 112) (m3 113) (m3 114) (m3 94 55) (m 98) (m 101) (m 102) (m 108) := p3_m3
              have p4_m3 : zGG (m 94 58) (m3 94 56) (m 94 57) (m3 106) := p4_m3
              have p5_m3 : zHA (m 94 10) (m 94 11) (m 94 13) (m 94 14) (m 94 16) (m 94 61) (m 94 59) (m 94 60) (m3 99) (m 102) (m 103) (m3 111) (m 117) (m 98) (m 101) (m 108) := p5_m3
              have p6_m3 : zRG (m 94 10) (m 94 18) (m 94 64) (m 94 63) (m3 99) (m 103) (m 102) (m 116) := p6_m3
              have p7_m3 : (m 94 58).toInt = 0 ∨ (m 94 10).toInt = 5 := p7_m3
              first | have f53 : 0 ≤ (m 100 (m 112 ix.toNatClampNeg).toNatClampNeg).toInt ∧ (m 100 (m 112 ix.toNatClampNeg).toNatClampNeg).toInt ≤ 100000 := ra_100 (m := m) hV (k := (m 112 ix.toNatClampNeg).toNatClampNeg) (i_ix (n := 3100) (by omega) (by omega)).2 | have b54 := i_bd (m 100 (m 112 ix.toNatClampNeg).toNatClampNeg)
              exact K ((m 100 (m 112 ix.toNatClampNeg).toNatClampNeg)) _ (zF_zov (zF_u (zF_zov (zF_u zF_rfl rfl) ws_245_250) rfl) ws_238_250) hV_m3 (show qNro aa ix ob (0 : Int32) (m 100 (m 112 ix.toNatClampNeg).toNatClampNeg) from by first | (exfalso; omega; done) | (exact Or.inl ⟨fun w => by have w1 := w.1; have w2 := w.2; omega, rfl⟩) | (exact Or.inr ⟨⟨by omega, by omega⟩, Or.inl ⟨fun w => w.elim (by assumption) (Re_n p2_m1 (by omega)), rfl⟩⟩) | (exact Or.inr ⟨⟨by omega, by omega⟩, Or.inr ⟨Or.inr (Re_y p2_m1 (by omega)).2.2.2, rfl, ((Nm_R3 r_RB.1 r_RB.2.2.1 (by omega) (by omega)).trans (R3_n r_RB.2.2.1 (by omega) (by omega) (by omega))).symm⟩⟩) | (exact Or.inr ⟨⟨by omega, by omega⟩, Or.inr ⟨Or.inr (Re_y p2_m1 (by omega)).2.2.2, rfl, ((Nm_R3 r_RB.1 r_RB.2.2.1 (by omega) (by omega)).trans (R3_y r_RB.2.2.1 (by omega) (by omega) (by omega))).symm⟩⟩) | (exfalso; omega; done) | (exfalso; contradiction; done))
            · skip
              have g55 := i_nle h48
              have b56 := i_bd v2
              have hV57 : zV (ma_u (zov wr_245 (ma_u m 94 0 (0 : Int32)) m1) 94 0 (0 : Int32)) := uf_94_0 hV_m1
              refine sp_238 (ix) (v2) hV57 (by omega) (by omega) (by omega) (by omega) (show ((m 94 10).toInt = 2 ∨ (m 94 10).toInt = 3) → v2.toInt < 0 ∨ (m 99) v2.toNatClampNeg ≠ 0 from by first | (exact fun _ => p1_m1) | (exact fun _ => Or.inl (by decide)) | (exfalso; omega; done) | (exfalso; contradiction; done)) r_W r_GW r_GU r_OW r_DX r_GG r_HA r_RGc (show (m 94 58).toInt = 0 ∨ (m 94 10).toInt = 5 from by omega) (fun m5 hV_m5 p0_m5 p1_m5 p2_m5 p3_m5 p4_m5 p5_m5 p6_m5 p7_m5 => zmv_n ?_)
              have p0_m5 : zGW T (m5 94 55) (m5 109) := p0_m5
              have p1_m5 : zGU T (m 94 46) (m5 99) := p1_m5
              have p2_m5 : zOw (m5 99) (m 103) (m5 111) := p2_m5
              have p3_m5 : zDX (m 94 10) (m5 99) (m5 112) (m5 113) (m5 114) (m5 94 55) (m 98) (m 101) (m 102) (m 108) := p3_m5
              have p4_m5 : zGG (m 94 58) (m5 94 56) (m 94 57) (m5 106) := p4_m5
              have p5_m5 : zHA (m 94 10) (m 94 11) (m 94 13) (m 94 14) (m 94 16) (m 94 61) (m 94 59) (m 94 60) (m5 99) (m 102) (m 103) (m5 111) (m 117) (m 98) (m 101) (m 108) := p5_m5
              have p6_m5 : zRG (m 94 10) (m 94 18) (m 94 64) (m 94 63) (m5 99) (m 103) (m 102) (m 116) := p6_m5
              have p7_m5 : (m 94 58).toInt = 0 ∨ (m 94 10).toInt = 5 := p7_m5
              exact K ((-1 : Int32)) _ (zF_zov (zF_u (zF_zov (zF_u zF_rfl rfl) ws_245_250) rfl) ws_238_250) hV_m5 (show qNro aa ix ob (0 : Int32) (-1 : Int32) from by first | (exfalso; omega; done) | (exact Or.inl ⟨fun w => by have w1 := w.1; have w2 := w.2; omega, rfl⟩) | (exact Or.inr ⟨⟨by omega, by omega⟩, Or.inl ⟨fun w => w.elim (by assumption) (Re_n p2_m1 (by omega)), rfl⟩⟩) | (exact Or.inr ⟨⟨by omega, by omega⟩, Or.inr ⟨Or.inr (Re_y p2_m1 (by omega)).2.2.2, rfl, ((Nm_R3 r_RB.1 r_RB.2.2.1 (by omega) (by omega)).trans (R3_n r_RB.2.2.1 (by omega) (by omega) (by omega))).symm⟩⟩) | (exact Or.inr ⟨⟨by omega, by omega⟩, Or.inr ⟨Or.inr (Re_y p2_m1 (by omega)).2.2.2, rfl, ((Nm_R3 r_RB.1 r_RB.2.2.1 (by omega) (by omega)).trans (R3_y r_RB.2.2.1 (by omega) (by omega) (by omega))).symm⟩⟩) | (exfalso; omega; done) | (exfalso; contradiction; done))
          · skip
            have g58 := i_ne h43
            have b59 := i_bd v2
            refine zd (fun (h60 : (0 : Int32) ≤ v2) => ?_) (fun (h60 : ¬ (0 : Int32) ≤ v2) => ?_)
            · skip
              have g61 := i_le h60
              have hg62 : (0 ≤ ix ∧ ix.toNatClampNeg < 16) := i_ix (by omega) (by omega)
              refine ⟨hg62, ?_⟩
              first | have f63 : -1 ≤ (m 112 ix.toNatClampNeg).toInt ∧ (m 112 ix.toNatClampNeg).toInt ≤ 3099 := ra_112 (m := m) hV (k := ix.toNatClampNeg) (i_ix (n := 16) (by omega) (by omega)).2 | have b64 := i_bd (m 112 ix.toNatClampNeg)
              refine zd (fun (h65 : (0 : Int32) ≤ (m 112 ix.toNatClampNeg)) => ?_) (fun (h65 : ¬ (0 : Int32) ≤ (m 112 ix.toNatClampNeg)) => ?_)
              · skip
                have g66 := i_le h65
                have hg67 : (0 ≤ (m 112 ix.toNatClampNeg) ∧ (m 112 ix.toNatClampNeg).toNatClampNeg < 3100) := i_ix (by omega) (by omega)
                refine ⟨hg67, ?_⟩
                have hV68 : zV (ma_u (zov wr_245 (ma_u m 94 0 (0 : Int32)) m1) 94 0 (0 : Int32)) := uf_94_0 hV_m1
                refine sp_238 (ix) (v2) hV68 (by omega) (by omega) (by omega) (by omega) (show ((m 94 10).toInt = 2 ∨ (m 94 10).toInt = 3) → v2.toInt < 0 ∨ (m 99) v2.toNatClampNeg ≠ 0 from by first | (exact fun _ => p1_m1) | (exact fun _ => Or.inl (by decide)) | (exfalso; omega; done) | (exfalso; contradiction; done)) r_W r_GW r_GU r_OW r_DX r_GG r_HA r_RGc (show (m 94 58).toInt = 0 ∨ (m 94 10).toInt = 5 from by omega) (fun m7 hV_m7 p0_m7 p1_m7 p2_m7 p3_m7 p4_m7 p5_m7 p6_m7 p7_m7 => zmv_n ?_)
                have p0_m7 : zGW T (m7 94 55) (m7 109) := p0_m7
                have p1_m7 : zGU T (m 94 46) (m7 99) := p1_m7
                have p2_m7 : zOw (m7 99) (m 103) (m7 111) := p2_m7
                have p3_m7 : zDX (m 94 10) (m7 99) (m7 112) (m7 113) (m7 114) (m7 94 55) (m 98) (m 101) (m 102) (m 108) := p3_m7
                have p4_m7 : zGG (m 94 58) (m7 94 56) (m 94 57) (m7 106) := p4_m7
                have p5_m7 : zHA (m 94 10) (m 94 11) (m 94 13) (m 94 14) (m 94 16) (m 94 61) (m 94 59) (m 94 60) (m7 99) (m 102) (m 103) (m7 111) (m 117) (m 98) (m 101) (m 108) := p5_m7
                have p6_m7 : zRG (m 94 10) (m 94 18) (m 94 64) (m 94 63) (m7 99) (m 103) (m 102) (m 116) := p6_m7
                have p7_m7 : (m 94 58).toInt = 0 ∨ (m 94 10).toInt = 5 := p7_m7
                first | have f69 : 0 ≤ (m 100 (m 112 ix.toNatClampNeg).toNatClampNeg).toInt ∧ (m 100 (m 112 ix.toNatClampNeg).toNatClampNeg).toInt ≤ 100000 := ra_100 (m := m) hV (k := (m 112 ix.toNatClampNeg).toNatClampNeg) (i_ix (n := 3100) (by omega) (by omega)).2 | have b70 := i_bd (m 100 (m 112 ix.toNatClampNeg).toNatClampNeg)
                exact K ((m 100 (m 112 ix.toNatClampNeg).toNatClampNeg)) _ (zF_zov (zF_u (zF_zov (zF_u zF_rfl rfl) ws_245_250) rfl) ws_238_250) hV_m7 (show qNro aa ix ob (0 : Int32) (m 100 (m 112 ix.toNatClampNeg).toNatClampNeg) from by first | (exfalso; omega; done) | (exact Or.inl ⟨fun w => by have w1 := w.1; have w2 := w.2; omega, rfl⟩) | (exact Or.inr ⟨⟨by omega, by omega⟩, Or.inl ⟨fun w => w.elim (by assumption) (Re_n p2_m1 (by omega)), rfl⟩⟩) | (exact Or.inr ⟨⟨by omega, by omega⟩, Or.inr ⟨Or.inr (Re_y p2_m1 (by omega)).2.2.2, rfl, ((Nm_R3 r_RB.1 r_RB.2.2.1 (by omega) (by omega)).trans (R3_n r_RB.2.2.1 (by omega) (by omega) (by omega))).symm⟩⟩) | (exact Or.inr ⟨⟨by omega, by omega⟩, Or.inr ⟨Or.inr (Re_y p2_m1 (by omega)).2.2.2, rfl, ((Nm_R3 r_RB.1 r_RB.2.2.1 (by omega) (by omega)).trans (R3_y r_RB.2.2.1 (by omega) (by omega) (by omega))).symm⟩⟩) | (exfalso; omega; done) | (exfalso; contradiction; done))
              · skip
                have g71 := i_nle h65
                have hV72 : zV (ma_u (zov wr_245 (ma_u m 94 0 (0 : Int32)) m1) 94 0 (0 : Int32)) := uf_94_0 hV_m1
                refine sp_238 (ix) (v2) hV72 (by omega) (by omega) (by omega) (by omega) (show ((m 94 10).toInt = 2 ∨ (m 94 10).toInt = 3) → v2.toInt < 0 ∨ (m 99) v2.toNatClampNeg ≠ 0 from by first | (exact fun _ => p1_m1) | (exact fun _ => Or.inl (by decide)) | (exfalso; omega; done) | (exfalso; contradiction; done)) r_W r_GW r_GU r_OW r_DX r_GG r_HA r_RGc (show (m 94 58).toInt = 0 ∨ (m 94 10).toInt = 5 from by omega) (fun m9 hV_m9 p0_m9 p1_m9 p2_m9 p3_m9 p4_m9 p5_m9 p6_m9 p7_m9 => zmv_n ?_)
                have p0_m9 : zGW T (m9 94 55) (m9 109) := p0_m9
                have p1_m9 : zGU T (m 94 46) (m9 99) := p1_m9
                have p2_m9 : zOw (m9 99) (m 103) (m9 111) := p2_m9
                have p3_m9 : zDX (m 94 10) (m9 99) (m9 112) (m9 113) (m9 114) (m9 94 55) (m 98) (m 101) (m 102) (m 108) := p3_m9
                have p4_m9 : zGG (m 94 58) (m9 94 56) (m 94 57) (m9 106) := p4_m9
                have p5_m9 : zHA (m 94 10) (m 94 11) (m 94 13) (m 94 14) (m 94 16) (m 94 61) (m 94 59) (m 94 60) (m9 99) (m 102) (m 103) (m9 111) (m 117) (m 98) (m 101) (m 108) := p5_m9
                have p6_m9 : zRG (m 94 10) (m 94 18) (m 94 64) (m 94 63) (m9 99) (m 103) (m 102) (m 116) := p6_m9
                have p7_m9 : (m 94 58).toInt = 0 ∨ (m 94 10).toInt = 5 := p7_m9
                exact K ((-1 : Int32)) _ (zF_zov (zF_u (zF_zov (zF_u zF_rfl rfl) ws_245_250) rfl) ws_238_250) hV_m9 (show qNro aa ix ob (0 : Int32) (-1 : Int32) from by first | (exfalso; omega; done) | (exact Or.inl ⟨fun w => by have w1 := w.1; have w2 := w.2; omega, rfl⟩) | (exact Or.inr ⟨⟨by omega, by omega⟩, Or.inl ⟨fun w => w.elim (by assumption) (Re_n p2_m1 (by omega)), rfl⟩⟩) | (exact Or.inr ⟨⟨by omega, by omega⟩, Or.inr ⟨Or.inr (Re_y p2_m1 (by omega)).2.2.2, rfl, ((Nm_R3 r_RB.1 r_RB.2.2.1 (by omega) (by omega)).trans (R3_n r_RB.2.2.1 (by omega) (by omega) (by omega))).symm⟩⟩) | (exact Or.inr ⟨⟨by omega, by omega⟩, Or.inr ⟨Or.inr (Re_y p2_m1 (by omega)).2.2.2, rfl, ((Nm_R3 r_RB.1 r_RB.2.2.1 (by omega) (by omega)).trans (R3_y r_RB.2.2.1 (by omega) (by omega) (by omega))).symm⟩⟩) | (exfalso; omega; done) | (exfalso; contradiction; done))
            · skip
              have g73 := i_nle h60
              have hV74 : zV (ma_u (zov wr_245 (ma_u m 94 0 (0 : Int32)) m1) 94 0 (3 : Int32)) := uf_94_0 hV_m1
              exact K ((0 : Int32)) _ (zF_u (zF_zov (zF_u zF_rfl rfl) ws_245_250) rfl) hV74 (show qNro aa ix ob (3 : Int32) (0 : Int32) from by first | (exfalso; omega; done) | (exact Or.inl ⟨fun w => by have w1 := w.1; have w2 := w.2; omega, rfl⟩) | (exact Or.inr ⟨⟨by omega, by omega⟩, Or.inl ⟨fun w => w.elim (by assumption) (Re_n p2_m1 (by omega)), rfl⟩⟩) | (exact Or.inr ⟨⟨by omega, by omega⟩, Or.inr ⟨Or.inr (Re_y p2_m1 (by omega)).2.2.2, rfl, ((Nm_R3 r_RB.1 r_RB.2.2.1 (by omega) (by omega)).trans (R3_n r_RB.2.2.1 (by omega) (by omega) (by omega))).symm⟩⟩) | (exact Or.inr ⟨⟨by omega, by omega⟩, Or.inr ⟨Or.inr (Re_y p2_m1 (by omega)).2.2.2, rfl, ((Nm_R3 r_RB.1 r_RB.2.2.1 (by omega) (by omega)).trans (R3_y r_RB.2.2.1 (by omega) (by omega) (by omega))).symm⟩⟩) | (exfalso; omega; done) | (exfalso; contradiction; done))

/-! from 95.za8 -/
/-! the reference answers (written by wip/tools/gen15a.py) -/
theorem sp_250av {X : Nat × (Nat → Int32)} {P : Option ma_V → (Nat → Nat → Int32) → Prop} {T : Nat} {m : Nat → Nat → Int32} (ix : Int32) (ob : Int32) (hV : zV m) (hpre0 : (m 94 8).toInt = 0) (KZ : ∀ v m₉, zV (zov wr_250 m m₉) → ((¬ ((0 ≤ ix.toInt ∧ ix.toInt ≤ 15)) ∧ (m₉ 94 0).toInt = 1) ∨ (((0 ≤ ix.toInt ∧ ix.toInt ≤ 15)) ∧ (m₉ 94 0).toInt = 2)) → P (some (.inl v)) (zov wr_250 m m₉)) : zm X 5 111 250 0 [(0, .inr (.inr (some 94))), (1, .inl ix), (2, .inl ob)] m P := by
  have K : ∀ v m₉, zF wr_250 m m₉ → zV m₉ → ((¬ ((0 ≤ ix.toInt ∧ ix.toInt ≤ 15)) ∧ (m₉ 94 0).toInt = 1) ∨ (((0 ≤ ix.toInt ∧ ix.toInt ≤ 15)) ∧ (m₉ 94 0).toInt = 2)) → P (some (.inl v)) m₉ := by
    intro v m₉ hf z q0
    have e := zov_eq hf
    rw [e] at z ⊢
    try rw [e] at q0
    exact KZ v m₉ z q0
  refine g_250_0 ix ob ?_
  have f1 : 0 ≤ (m 94 8).toInt ∧ (m 94 8).toInt ≤ 1 := rs_94_8 (m := m) hV
  have b2 := i_bd ix
  have li3 : (0 : Int32).toInt = 0 := rfl
  refine zd (fun (h4 : ix < (0 : Int32)) => ?_) (fun (h4 : ¬ ix < (0 : Int32)) => ?_)
  · skip
    have g5 := i_lt h4
    have hV6 : zV (ma_u m 94 0 (1 : Int32)) := uf_94_0 hV
    have li7 : (1 : Int32).toInt = 1 := rfl
    exact K ((0 : Int32)) _ (zF_u zF_rfl rfl) hV6 (show (¬ ((0 ≤ ix.toInt ∧ ix.toInt ≤ 15)) ∧ (1 : Int32).toInt = 1) ∨ (((0 ≤ ix.toInt ∧ ix.toInt ≤ 15)) ∧ (1 : Int32).toInt = 2) from by omega)
  · skip
    have g8 := i_nlt h4
    have li9 : (16 : Int32).toInt = 16 := rfl
    refine zd (fun (h10 : (16 : Int32) ≤ ix) => ?_) (fun (h10 : ¬ (16 : Int32) ≤ ix) => ?_)
    · skip
      have g11 := i_le h10
      have hV12 : zV (ma_u m 94 0 (1 : Int32)) := uf_94_0 hV
      have li13 : (1 : Int32).toInt = 1 := rfl
      exact K ((0 : Int32)) _ (zF_u zF_rfl rfl) hV12 (show (¬ ((0 ≤ ix.toInt ∧ ix.toInt ≤ 15)) ∧ (1 : Int32).toInt = 1) ∨ (((0 ≤ ix.toInt ∧ ix.toInt ≤ 15)) ∧ (1 : Int32).toInt = 2) from by omega)
    · skip
      have g14 := i_nle h10
      refine zd (fun (h15 : (m 94 8) = (0 : Int32)) => ?_) (fun (h15 : ¬ (m 94 8) = (0 : Int32)) => ?_)
      · skip
        have g16 := i_eq h15
        have hV17 : zV (ma_u m 94 0 (2 : Int32)) := uf_94_0 hV
        have li18 : (2 : Int32).toInt = 2 := rfl
        exact K ((0 : Int32)) _ (zF_u zF_rfl rfl) hV17 (show (¬ ((0 ≤ ix.toInt ∧ ix.toInt ≤ 15)) ∧ (2 : Int32).toInt = 1) ∨ (((0 ≤ ix.toInt ∧ ix.toInt ≤ 15)) ∧ (2 : Int32).toInt = 2) from by omega)
      · skip
        have g19 := i_ne h15
        have b20 := i_bd ob
        have li21 : (-1 : Int32).toInt = -1 := rfl
        refine zd (fun (h22 : ob = (-1 : Int32)) => ?_) (fun (h22 : ¬ ob = (-1 : Int32)) => ?_)
        · skip
          have g23 := i_eq h22
          refine zd (fun (h24 : ob = (-1 : Int32)) => ?_) (fun (h24 : ¬ ob = (-1 : Int32)) => ?_)
          · skip
            have g25 := i_eq h24
            have hg26 : (0 ≤ ix ∧ ix.toNatClampNeg < 16) := i_ix (by omega) (by omega)
            refine ⟨hg26, ?_⟩
            first | have f27 : -1 ≤ (m 112 ix.toNatClampNeg).toInt ∧ (m 112 ix.toNatClampNeg).toInt ≤ 3099 := ra_112 (m := m) hV (k := ix.toNatClampNeg) (i_ix (n := 16) (by omega) (by omega)).2 | have b28 := i_bd (m 112 ix.toNatClampNeg)
            refine zd (fun (h29 : (0 : Int32) ≤ (m 112 ix.toNatClampNeg)) => ?_) (fun (h29 : ¬ (0 : Int32) ≤ (m 112 ix.toNatClampNeg)) => ?_)
            · skip
              have g30 := i_le h29
              have hg31 : (0 ≤ (m 112 ix.toNatClampNeg) ∧ (m 112 ix.toNatClampNeg).toNatClampNeg < 3100) := i_ix (by omega) (by omega)
              refine ⟨hg31, ?_⟩
              have hV32 : zV (ma_u m 94 0 (0 : Int32)) := uf_94_0 hV
              have hV33 : zV (ma_u (ma_u m 94 0 (0 : Int32)) 94 0 (0 : Int32)) := uf_94_0 hV32
              have f34 : 0 ≤ (m 94 58).toInt ∧ (m 94 58).toInt ≤ 1 := rs_94_58 (m := m) hV
              have f35 : 0 ≤ (m 94 10).toInt ∧ (m 94 10).toInt ≤ 6 := rs_94_10 (m := m) hV
              refine sp_238 (ix) ((-1 : Int32)) hV33 (by omega) (by omega) (by omega) (by omega) (show ((m 94 10).toInt = 2 ∨ (m 94 10).toInt = 3) → (-1 : Int32).toInt < 0 ∨ (m 99) (-1 : Int32).toNatClampNeg ≠ 0 from by first | (exfalso; omega; done) | (exfalso; contradiction; done)) (show zW (m 94 7) (m 98) (m 101) (m 102) (m 108) from by first | (exfalso; omega; done) | (exfalso; contradiction; done)) (show zGW T (m 94 55) (m 109) from by first | (exfalso; omega; done) | (exfalso; contradiction; done)) (show zGU T (m 94 46) (m 99) from by first | (exfalso; omega; done) | (exfalso; contradiction; done)) (show zOw (m 99) (m 103) (m 111) from by first | (exfalso; omega; done) | (exfalso; contradiction; done)) (show zDX (m 94 10) (m 99) (m 112) (m 113) (m 114) (m 94 55) (m 98) (m 101) (m 102) (m 108) from by first | (exfalso; omega; done) | (exfalso; contradiction; done)) (show zGG (m 94 58) (m 94 56) (m 94 57) (m 106) from by first | (exact fun z => absurd z (by decide)) | (exact fun z => absurd z (by omega)) | (exfalso; omega; done) | (exfalso; contradiction; done)) (show zHA (m 94 10) (m 94 11) (m 94 13) (m 94 14) (m 94 16) (m 94 61) (m 94 59) (m 94 60) (m 99) (m 102) (m 103) (m 111) (m 117) (m 98) (m 101) (m 108) from by first | (exfalso; omega; done) | (exfalso; contradiction; done)) (show zRG (m 94 10) (m 94 18) (m 94 64) (m 94 63) (m 99) (m 103) (m 102) (m 116) from by first | (exfalso; omega; done) | (exfalso; contradiction; done)) (show (m 94 58).toInt = 0 ∨ (m 94 10).toInt = 5 from by omega) (fun m11 hV_m11 p0_m11 p1_m11 p2_m11 p3_m11 p4_m11 p5_m11 p6_m11 p7_m11 => zmv_n ?_)
              have p0_m11 : zGW T (m11 94 55) (m11 109) := p0_m11
              have p1_m11 : zGU T (m 94 46) (m11 99) := p1_m11
              have p2_m11 : zOw (m11 99) (m 103) (m11 111) := p2_m11
              have p3_m11 : zDX (m 94 10) (m11 99) (m11 112) (m11 113) (m11 114) (m11 94 55) (m 98) (m 101) (m 102) (m 108) := p3_m11
              have p4_m11 : zGG (m 94 58) (m11 94 56) (m 94 57) (m11 106) := p4_m11
              have p5_m11 : zHA (m 94 10) (m 94 11) (m 94 13) (m 94 14) (m 94 16) (m 94 61) (m 94 59) (m 94 60) (m11 99) (m 102) (m 103) (m11 111) (m 117) (m 98) (m 101) (m 108) := p5_m11
              have p6_m11 : zRG (m 94 10) (m 94 18) (m 94 64) (m 94 63) (m11 99) (m 103) (m 102) (m 116) := p6_m11
              have p7_m11 : (m 94 58).toInt = 0 ∨ (m 94 10).toInt = 5 := p7_m11
              first | have f36 : 0 ≤ (m 100 (m 112 ix.toNatClampNeg).toNatClampNeg).toInt ∧ (m 100 (m 112 ix.toNatClampNeg).toNatClampNeg).toInt ≤ 100000 := ra_100 (m := m) hV (k := (m 112 ix.toNatClampNeg).toNatClampNeg) (i_ix (n := 3100) (by omega) (by omega)).2 | have b37 := i_bd (m 100 (m 112 ix.toNatClampNeg).toNatClampNeg)
              exact K ((m 100 (m 112 ix.toNatClampNeg).toNatClampNeg)) _ (zF_zov (zF_u (zF_u zF_rfl rfl) rfl) ws_238_250) hV_m11 (show (¬ ((0 ≤ ix.toInt ∧ ix.toInt ≤ 15)) ∧ (0 : Int32).toInt = 1) ∨ (((0 ≤ ix.toInt ∧ ix.toInt ≤ 15)) ∧ (0 : Int32).toInt = 2) from by omega)
            · skip
              have g38 := i_nle h29
              have hV39 : zV (ma_u m 94 0 (0 : Int32)) := uf_94_0 hV
              have hV40 : zV (ma_u (ma_u m 94 0 (0 : Int32)) 94 0 (0 : Int32)) := uf_94_0 hV39
              have f41 : 0 ≤ (m 94 58).toInt ∧ (m 94 58).toInt ≤ 1 := rs_94_58 (m := m) hV
              have f42 : 0 ≤ (m 94 10).toInt ∧ (m 94 10).toInt ≤ 6 := rs_94_10 (m := m) hV
              refine sp_238 (ix) ((-1 : Int32)) hV40 (by omega) (by omega) (by omega) (by omega) (show ((m 94 10).toInt = 2 ∨ (m 94 10).toInt = 3) → (-1 : Int32).toInt < 0 ∨ (m 99) (-1 : Int32).toNatClampNeg ≠ 0 from by first | (exfalso; omega; done) | (exfalso; contradiction; done)) (show zW (m 94 7) (m 98) (m 101) (m 102) (m 108) from by first | (exfalso; omega; done) | (exfalso; contradiction; done)) (show zGW T (m 94 55) (m 109) from by first | (exfalso; omega; done) | (exfalso; contradiction; done)) (show zGU T (m 94 46) (m 99) from by first | (exfalso; omega; done) | (exfalso; contradiction; done)) (show zOw (m 99) (m 103) (m 111) from by first | (exfalso; omega; done) | (exfalso; contradiction; done)) (show zDX (m 94 10) (m 99) (m 112) (m 113) (m 114) (m 94 55) (m 98) (m 101) (m 102) (m 108) from by first | (exfalso; omega; done) | (exfalso; contradiction; done)) (show zGG (m 94 58) (m 94 56) (m 94 57) (m 106) from by first | (exact fun z => absurd z (by decide)) | (exact fun z => absurd z (by omega)) | (exfalso; omega; done) | (exfalso; contradiction; done)) (show zHA (m 94 10) (m 94 11) (m 94 13) (m 94 14) (m 94 16) (m 94 61) (m 94 59) (m 94 60) (m 99) (m 102) (m 103) (m 111) (m 117) (m 98) (m 101) (m 108) from by first | (exfalso; omega; done) | (exfalso; contradiction; done)) (show zRG (m 94 10) (m 94 18) (m 94 64) (m 94 63) (m 99) (m 103) (m 102) (m 116) from by first | (exfalso; omega; done) | (exfalso; contradiction; done)) (show (m 94 58).toInt = 0 ∨ (m 94 10).toInt = 5 from by omega) (fun m13 hV_m13 p0_m13 p1_m13 p2_m13 p3_m13 p4_m13 p5_m13 p6_m13 p7_m13 => zmv_n ?_)
              have p0_m13 : zGW T (m13 94 55) (m13 109) := p0_m13
              have p1_m13 : zGU T (m 94 46) (m13 99) := p1_m13
              have p2_m13 : zOw (m13 99) (m 103) (m13 111) := p2_m13
              have p3_m13 : zDX (m 94 10) (m13 99) (m13 112) (m13 113) (m13 114) (m13 94 55) (m 98) (m 101) (m 102) (m 108) := p3_m13
              have p4_m13 : zGG (m 94 58) (m13 94 56) (m 94 57) (m13 106) := p4_m13
              have p5_m13 : zHA (m 94 10) (m 94 11) (m 94 13) (m 94 14) (m 94 16) (m 94 61) (m 94 59) (m 94 60) (m13 99) (m 102) (m 103) (m13 111) (m 117) (m 98) (m 101) (m 108) := p5_m13
              have p6_m13 : zRG (m 94 10) (m 94 18) (m 94 64) (m 94 63) (m13 99) (m 103) (m 102) (m 116) := p6_m13
              have p7_m13 : (m 94 58).toInt = 0 ∨ (m 94 10).toInt = 5 := p7_m13
              exact K ((-1 : Int32)) _ (zF_zov (zF_u (zF_u zF_rfl rfl) rfl) ws_238_250) hV_m13 (show (¬ ((0 ≤ ix.toInt ∧ ix.toInt ≤ 15)) ∧ (0 : Int32).toInt = 1) ∨ (((0 ≤ ix.toInt ∧ ix.toInt ≤ 15)) ∧ (0 : Int32).toInt = 2) from by omega)
          · skip
            have g43 := i_ne h24
            have hV44 : zV (ma_u m 94 0 (0 : Int32)) := uf_94_0 hV
            have hV45 : zV (ma_u (ma_u m 94 0 (0 : Int32)) 94 0 (3 : Int32)) := uf_94_0 hV44
            have li46 : (3 : Int32).toInt = 3 := rfl
            exact K ((0 : Int32)) _ (zF_u (zF_u zF_rfl rfl) rfl) hV45 (show (¬ ((0 ≤ ix.toInt ∧ ix.toInt ≤ 15)) ∧ (3 : Int32).toInt = 1) ∨ (((0 ≤ ix.toInt ∧ ix.toInt ≤ 15)) ∧ (3 : Int32).toInt = 2) from by omega)
        · skip
          have g47 := i_ne h22
          have hV48 : zV (ma_u m 94 0 (0 : Int32)) := uf_94_0 hV
          refine sp_245 (ob) hV48 (show zW (m 94 7) (m 98) (m 101) (m 102) (m 108) from by first | (exfalso; omega; done) | (exfalso; contradiction; done)) (show zDX (m 94 10) (m 99) (m 112) (m 113) (m 114) (m 94 55) (m 98) (m 101) (m 102) (m 108) from by first | (exfalso; omega; done) | (exfalso; contradiction; done)) (fun v2 m1 hV_m1 p0_m1 p1_m1 => zmi_n ?_)
          have p0_m1 : -1 ≤ v2.toInt ∧ v2.toInt ≤ 3099 := p0_m1
          have p1_m1 : v2.toInt < 0 ∨ (m 99) v2.toNatClampNeg ≠ 0 := p1_m1
          refine zd (fun (h49 : ob = (-1 : Int32)) => ?_) (fun (h49 : ¬ ob = (-1 : Int32)) => ?_)
          · skip
            have g50 := i_eq h49
            have hg51 : (0 ≤ ix ∧ ix.toNatClampNeg < 16) := i_ix (by omega) (by omega)
            refine ⟨hg51, ?_⟩
            first | have f52 : -1 ≤ (m 112 ix.toNatClampNeg).toInt ∧ (m 112 ix.toNatClampNeg).toInt ≤ 3099 := ra_112 (m := m) hV (k := ix.toNatClampNeg) (i_ix (n := 16) (by omega) (by omega)).2 | have b53 := i_bd (m 112 ix.toNatClampNeg)
            refine zd (fun (h54 : (0 : Int32) ≤ (m 112 ix.toNatClampNeg)) => ?_) (fun (h54 : ¬ (0 : Int32) ≤ (m 112 ix.toNatClampNeg)) => ?_)
            · skip
              have g55 := i_le h54
              have hg56 : (0 ≤ (m 112 ix.toNatClampNeg) ∧ (m 112 ix.toNatClampNeg).toNatClampNeg < 3100) := i_ix (by omega) (by omega)
              refine ⟨hg56, ?_⟩
              have b57 := i_bd v2
              have hV58 : zV (ma_u (zov wr_245 (ma_u m 94 0 (0 : Int32)) m1) 94 0 (0 : Int32)) := uf_94_0 hV_m1
              have f59 : 0 ≤ (m 94 58).toInt ∧ (m 94 58).toInt ≤ 1 := rs_94_58 (m := m) hV
              have f60 : 0 ≤ (m 94 10).toInt ∧ (m 94 10).toInt ≤ 6 := rs_94_10 (m := m) hV
              refine sp_238 (ix) (v2) hV58 (by omega) (by omega) (by omega) (by omega) (show ((m 94 10).toInt = 2 ∨ (m 94 10).toInt = 3) → v2.toInt < 0 ∨ (m 99) v2.toNatClampNeg ≠ 0 from by first | (exfalso; omega; done) | (exfalso; contradiction; done)) (show zW (m 94 7) (m 98) (m 101) (m 102) (m 108) from by first | (exfalso; omega; done) | (exfalso; contradiction; done)) (show zGW T (m 94 55) (m 109) from by first | (exfalso; omega; done) | (exfalso; contradiction; done)) (show zGU T (m 94 46) (m 99) from by first | (exfalso; omega; done) | (exfalso; contradiction; done)) (show zOw (m 99) (m 103) (m 111) from by first | (exfalso; omega; done) | (exfalso; contradiction; done)) (show zDX (m 94 10) (m 99) (m 112) (m 113) (m 114) (m 94 55) (m 98) (m 101) (m 102) (m 108) from by first | (exfalso; omega; done) | (exfalso; contradiction; done)) (show zGG (m 94 58) (m 94 56) (m 94 57) (m 106) from by first | (exact fun z => absurd z (by decide)) | (exact fun z => absurd z (by omega)) | (exfalso; omega; done) | (exfalso; contradiction; done)) (show zHA (m 94 10) (m 94 11) (m 94 13) (m 94 14) (m 94 16) (m 94 61) (m 94 59) (m 94 60) (m 99) (m 102) (m 103) (m 111) (m 117) (m 98) (m 101) (m 108) from by first | (exfalso; omega; done) | (exfalso; contradiction; done)) (show zRG (m 94 10) (m 94 18) (m 94 64) (m 94 63) (m 99) (m 103) (m 102) (m 116) from by first | (exfalso; omega; done) | (exfalso; contradiction; done)) (show (m 94 58).toInt = 0 ∨ (m 94 10).toInt = 5 from by omega) (fun m3 hV_m3 p0_m3 p1_m3 p2_m3 p3_m3 p4_m3 p5_m3 p6_m3 p7_m3 => zmv_n ?_)
              have p0_m3 : zGW T (m3 94 55) (m3 109) := p0_m3
              have p1_m3 : zGU T (m 94 46) (m3 99) := p1_m3
              have p2_m3 : zOw (m3 99) (m 103) (m3 111) := p2_m3
              have p3_m3 : zDX (m 94 10) (m3 99) (m3 112) (m3 113) (m3 114) (m3 94 55) (m 98) (m 101) (m 102) (m 108) := p3_m3
              have p4_m3 : zGG (m 94 58) (m3 94 56) (m 94 57) (m3 106) := p4_m3
              have p5_m3 : zHA (m 94 10) (m 94 11) (m 94 13) (m 94 14) (m 94 16) (m 94 61) (m 94 59) (m 94 60) (m3 99) (m 102) (m 103) (m3 111) (m 117) (m 98) (m 101) (m 108) := p5_m3
              have p6_m3 : zRG (m 94 10) (m 94 18) (m 94 64) (m 94 63) (m3 99) (m 103) (m 102) (m 116) := p6_m3
              have p7_m3 : (m 94 58).toInt = 0 ∨ (m 94 10).toInt = 5 := p7_m3
              first | have f61 : 0 ≤ (m 100 (m 112 ix.toNatClampNeg).toNatClampNeg).toInt ∧ (m 100 (m 112 ix.toNatClampNeg).toNatClampNeg).toInt ≤ 100000 := ra_100 (m := m) hV (k := (m 112 ix.toNatClampNeg).toNatClampNeg) (i_ix (n := 3100) (by omega) (by omega)).2 | have b62 := i_bd (m 100 (m 112 ix.toNatClampNeg).toNatClampNeg)
              exact K ((m 100 (m 112 ix.toNatClampNeg).toNatClampNeg)) _ (zF_zov (zF_u (zF_zov (zF_u zF_rfl rfl) ws_245_250) rfl) ws_238_250) hV_m3 (show (¬ ((0 ≤ ix.toInt ∧ ix.toInt ≤ 15)) ∧ (0 : Int32).toInt = 1) ∨ (((0 ≤ ix.toInt ∧ ix.toInt ≤ 15)) ∧ (0 : Int32).toInt = 2) from by omega)
            · skip
              have g63 := i_nle h54
              have b64 := i_bd v2
              have hV65 : zV (ma_u (zov wr_245 (ma_u m 94 0 (0 : Int32)) m1) 94 0 (0 : Int32)) := uf_94_0 hV_m1
              have f66 : 0 ≤ (m 94 58).toInt ∧ (m 94 58).toInt ≤ 1 := rs_94_58 (m := m) hV
              have f67 : 0 ≤ (m 94 10).toInt ∧ (m 94 10).toInt ≤ 6 := rs_94_10 (m := m) hV
              refine sp_238 (ix) (v2) hV65 (by omega) (by omega) (by omega) (by omega) (show ((m 94 10).toInt = 2 ∨ (m 94 10).toInt = 3) → v2.toInt < 0 ∨ (m 99) v2.toNatClampNeg ≠ 0 from by first | (exfalso; omega; done) | (exfalso; contradiction; done)) (show zW (m 94 7) (m 98) (m 101) (m 102) (m 108) from by first | (exfalso; omega; done) | (exfalso; contradiction; done)) (show zGW T (m 94 55) (m 109) from by first | (exfalso; omega; done) | (exfalso; contradiction; done)) (show zGU T (m 94 46) (m 99) from by first | (exfalso; omega; done) | (exfalso; contradiction; done)) (show zOw (m 99) (m 103) (m 111) from by first | (exfalso; omega; done) | (exfalso; contradiction; done)) (show zDX (m 94 10) (m 99) (m 112) (m 113) (m 114) (m 94 55) (m 98) (m 101) (m 102) (m 108) from by first | (exfalso; omega; done) | (exfalso; contradiction; done)) (show zGG (m 94 58) (m 94 56) (m 94 57) (m 106) from by first | (exact fun z => absurd z (by decide)) | (exact fun z => absurd z (by omega)) | (exfalso; omega; done) | (exfalso; contradiction; done)) (show zHA (m 94 10) (m 94 11) (m 94 13) (m 94 14) (m 94 16) (m 94 61) (m 94 59) (m 94 60) (m 99) (m 102) (m 103) (m 111) (m 117) (m 98) (m 101) (m 108) from by first | (exfalso; omega; done) | (exfalso; contradiction; done)) (show zRG (m 94 10) (m 94 18) (m 94 64) (m 94 63) (m 99) (m 103) (m 102) (m 116) from by first | (exfalso; omega; done) | (exfalso; contradiction; done)) (show (m 94 58).toInt = 0 ∨ (m 94 10).toInt = 5 from by omega) (fun m5 hV_m5 p0_m5 p1_m5 p2_m5 p3_m5 p4_m5 p5_m5 p6_m5 p7_m5 => zmv_n ?_)
              have p0_m5 : zGW T (m5 94 55) (m5 109) := p0_m5
              have p1_m5 : zGU T (m 94 46) (m5 99) := p1_m5
              have p2_m5 : zOw (m5 99) (m 103) (m5 111) := p2_m5
              have p3_m5 : zDX (m 94 10) (m5 99) (m5 112) (m5 113) (m5 114) (m5 94 55) (m 98) (m 101) (m 102) (m 108) := p3_m5
              have p4_m5 : zGG (m 94 58) (m5 94 56) (m 94 57) (m5 106) := p4_m5
              have p5_m5 : zHA (m 94 10) (m 94 11) (m 94 13) (m 94 14) (m 94 16) (m 94 61) (m 94 59) (m 94 60) (m5 99) (m 102) (m 103) (m5 111) (m 117) (m 98) (m 101) (m 108) := p5_m5
              have p6_m5 : zRG (m 94 10) (m 94 18) (m 94 64) (m 94 63) (m5 99) (m 103) (m 102) (m 116) := p6_m5
              have p7_m5 : (m 94 58).toInt = 0 ∨ (m 94 10).toInt = 5 := p7_m5
              exact K ((-1 : Int32)) _ (zF_zov (zF_u (zF_zov (zF_u zF_rfl rfl) ws_245_250) rfl) ws_238_250) hV_m5 (show (¬ ((0 ≤ ix.toInt ∧ ix.toInt ≤ 15)) ∧ (0 : Int32).toInt = 1) ∨ (((0 ≤ ix.toInt ∧ ix.toInt ≤ 15)) ∧ (0 : Int32).toInt = 2) from by omega)
          · skip
            have g68 := i_ne h49
            have b69 := i_bd v2
            refine zd (fun (h70 : (0 : Int32) ≤ v2) => ?_) (fun (h70 : ¬ (0 : Int32) ≤ v2) => ?_)
            · skip
              have g71 := i_le h70
              have hg72 : (0 ≤ ix ∧ ix.toNatClampNeg < 16) := i_ix (by omega) (by omega)
              refine ⟨hg72, ?_⟩
              first | have f73 : -1 ≤ (m 112 ix.toNatClampNeg).toInt ∧ (m 112 ix.toNatClampNeg).toInt ≤ 3099 := ra_112 (m := m) hV (k := ix.toNatClampNeg) (i_ix (n := 16) (by omega) (by omega)).2 | have b74 := i_bd (m 112 ix.toNatClampNeg)
              refine zd (fun (h75 : (0 : Int32) ≤ (m 112 ix.toNatClampNeg)) => ?_) (fun (h75 : ¬ (0 : Int32) ≤ (m 112 ix.toNatClampNeg)) => ?_)
              · skip
                have g76 := i_le h75
                have hg77 : (0 ≤ (m 112 ix.toNatClampNeg) ∧ (m 112 ix.toNatClampNeg).toNatClampNeg < 3100) := i_ix (by omega) (by omega)
                refine ⟨hg77, ?_⟩
                have hV78 : zV (ma_u (zov wr_245 (ma_u m 94 0 (0 : Int32)) m1) 94 0 (0 : Int32)) := uf_94_0 hV_m1
                have f79 : 0 ≤ (m 94 58).toInt ∧ (m 94 58).toInt ≤ 1 := rs_94_58 (m := m) hV
                have f80 : 0 ≤ (m 94 10).toInt ∧ (m 94 10).toInt ≤ 6 := rs_94_10 (m := m) hV
                refine sp_238 (ix) (v2) hV78 (by omega) (by omega) (by omega) (by omega) (show ((m 94 10).toInt = 2 ∨ (m 94 10).toInt = 3) → v2.toInt < 0 ∨ (m 99) v2.toNatClampNeg ≠ 0 from by first | (exfalso; omega; done) | (exfalso; contradiction; done)) (show zW (m 94 7) (m 98) (m 101) (m 102) (m 108) from by first | (exfalso; omega; done) | (exfalso; contradiction; done)) (show zGW T (m 94 55) (m 109) from by first | (exfalso; omega; done) | (exfalso; contradiction; done)) (show zGU T (m 94 46) (m 99) from by first | (exfalso; omega; done) | (exfalso; contradiction; done)) (show zOw (m 99) (m 103) (m 111) from by first | (exfalso; omega; done) | (exfalso; contradiction; done)) (show zDX (m 94 10) (m 99) (m 112) (m 113) (m 114) (m 94 55) (m 98) (m 101) (m 102) (m 108) from by first | (exfalso; omega; done) | (exfalso; contradiction; done)) (show zGG (m 94 58) (m 94 56) (m 94 57) (m 106) from by first | (exact fun z => absurd z (by decide)) | (exact fun z => absurd z (by omega)) | (exfalso; omega; done) | (exfalso; contradiction; done)) (show zHA (m 94 10) (m 94 11) (m 94 13) (m 94 14) (m 94 16) (m 94 61) (m 94 59) (m 94 60) (m 99) (m 102) (m 103) (m 111) (m 117) (m 98) (m 101) (m 108) from by first | (exfalso; omega; done) | (exfalso; contradiction; done)) (show zRG (m 94 10) (m 94 18) (m 94 64) (m 94 63) (m 99) (m 103) (m 102) (m 116) from by first | (exfalso; omega; done) | (exfalso; contradiction; done)) (show (m 94 58).toInt = 0 ∨ (m 94 10).toInt = 5 from by omega) (fun m7 hV_m7 p0_m7 p1_m7 p2_m7 p3_m7 p4_m7 p5_m7 p6_m7 p7_m7 => zmv_n ?_)
                have p0_m7 : zGW T (m7 94 55) (m7 109) := p0_m7
                have p1_m7 : zGU T (m 94 46) (m7 99) := p1_m7
                have p2_m7 : zOw (m7 99) (m 103) (m7 111) := p2_m7
                have p3_m7 : zDX (m 94 10) (m7 99) (m7 112) (m7 113) (m7 114) (m7 94 55) (m 98) (m 101) (m 102) (m 108) := p3_m7
                have p4_m7 : zGG (m 94 58) (m7 94 56) (m 94 57) (m7 106) := p4_m7
                have p5_m7 : zHA (m 94 10) (m 94 11) (m 94 13) (m 94 14) (m 94 16) (m 94 61) (m 94 59) (m 94 60) (m7 99) (m 102) (m 103) (m7 111) (m 117) (m 98) (m 101) (m 108) := p5_m7
                have p6_m7 : zRG (m 94 10) (m 94 18) (m 94 64) (m 94 63) (m7 99) (m 103) (m 102) (m 116) := p6_m7
                have p7_m7 : (m 94 58).toInt = 0 ∨ (m 94 10).toInt = 5 := p7_m7
                first | have f81 : 0 ≤ (m 100 (m 112 ix.toNatClampNeg).toNatClampNeg).toInt ∧ (m 100 (m 112 ix.toNatClampNeg).toNatClampNeg).toInt ≤ 100000 := ra_100 (m := m) hV (k := (m 112 ix.toNatClampNeg).toNatClampNeg) (i_ix (n := 3100) (by omega) (by omega)).2 | have b82 := i_bd (m 100 (m 112 ix.toNatClampNeg).toNatClampNeg)
                exact K ((m 100 (m 112 ix.toNatClampNeg).toNatClampNeg)) _ (zF_zov (zF_u (zF_zov (zF_u zF_rfl rfl) ws_245_250) rfl) ws_238_250) hV_m7 (show (¬ ((0 ≤ ix.toInt ∧ ix.toInt ≤ 15)) ∧ (0 : Int32).toInt = 1) ∨ (((0 ≤ ix.toInt ∧ ix.toInt ≤ 15)) ∧ (0 : Int32).toInt = 2) from by omega)
              · skip
                have g83 := i_nle h75
                have hV84 : zV (ma_u (zov wr_245 (ma_u m 94 0 (0 : Int32)) m1) 94 0 (0 : Int32)) := uf_94_0 hV_m1
                have f85 : 0 ≤ (m 94 58).toInt ∧ (m 94 58).toInt ≤ 1 := rs_94_58 (m := m) hV
                have f86 : 0 ≤ (m 94 10).toInt ∧ (m 94 10).toInt ≤ 6 := rs_94_10 (m := m) hV
                refine sp_238 (ix) (v2) hV84 (by omega) (by omega) (by omega) (by omega) (show ((m 94 10).toInt = 2 ∨ (m 94 10).toInt = 3) → v2.toInt < 0 ∨ (m 99) v2.toNatClampNeg ≠ 0 from by first | (exfalso; omega; done) | (exfalso; contradiction; done)) (show zW (m 94 7) (m 98) (m 101) (m 102) (m 108) from by first | (exfalso; omega; done) | (exfalso; contradiction; done)) (show zGW T (m 94 55) (m 109) from by first | (exfalso; omega; done) | (exfalso; contradiction; done)) (show zGU T (m 94 46) (m 99) from by first | (exfalso; omega; done) | (exfalso; contradiction; done)) (show zOw (m 99) (m 103) (m 111) from by first | (exfalso; omega; done) | (exfalso; contradiction; done)) (show zDX (m 94 10) (m 99) (m 112) (m 113) (m 114) (m 94 55) (m 98) (m 101) (m 102) (m 108) from by first | (exfalso; omega; done) | (exfalso; contradiction; done)) (show zGG (m 94 58) (m 94 56) (m 94 57) (m 106) from by first | (exact fun z => absurd z (by decide)) | (exact fun z => absurd z (by omega)) | (exfalso; omega; done) | (exfalso; contradiction; done)) (show zHA (m 94 10) (m 94 11) (m 94 13) (m 94 14) (m 94 16) (m 94 61) (m 94 59) (m 94 60) (m 99) (m 102) (m 103) (m 111) (m 117) (m 98) (m 101) (m 108) from by first | (exfalso; omega; done) | (exfalso; contradiction; done)) (show zRG (m 94 10) (m 94 18) (m 94 64) (m 94 63) (m 99) (m 103) (m 102) (m 116) from by first | (exfalso; omega; done) | (exfalso; contradiction; done)) (show (m 94 58).toInt = 0 ∨ (m 94 10).toInt = 5 from by omega) (fun m9 hV_m9 p0_m9 p1_m9 p2_m9 p3_m9 p4_m9 p5_m9 p6_m9 p7_m9 => zmv_n ?_)
                have p0_m9 : zGW T (m9 94 55) (m9 109) := p0_m9
                have p1_m9 : zGU T (m 94 46) (m9 99) := p1_m9
                have p2_m9 : zOw (m9 99) (m 103) (m9 111) := p2_m9
                have p3_m9 : zDX (m 94 10) (m9 99) (m9 112) (m9 113) (m9 114) (m9 94 55) (m 98) (m 101) (m 102) (m 108) := p3_m9
                have p4_m9 : zGG (m 94 58) (m9 94 56) (m 94 57) (m9 106) := p4_m9
                have p5_m9 : zHA (m 94 10) (m 94 11) (m 94 13) (m 94 14) (m 94 16) (m 94 61) (m 94 59) (m 94 60) (m9 99) (m 102) (m 103) (m9 111) (m 117) (m 98) (m 101) (m 108) := p5_m9
                have p6_m9 : zRG (m 94 10) (m 94 18) (m 94 64) (m 94 63) (m9 99) (m 103) (m 102) (m 116) := p6_m9
                have p7_m9 : (m 94 58).toInt = 0 ∨ (m 94 10).toInt = 5 := p7_m9
                exact K ((-1 : Int32)) _ (zF_zov (zF_u (zF_zov (zF_u zF_rfl rfl) ws_245_250) rfl) ws_238_250) hV_m9 (show (¬ ((0 ≤ ix.toInt ∧ ix.toInt ≤ 15)) ∧ (0 : Int32).toInt = 1) ∨ (((0 ≤ ix.toInt ∧ ix.toInt ≤ 15)) ∧ (0 : Int32).toInt = 2) from by omega)
            · skip
              have g87 := i_nle h70
              have hV88 : zV (ma_u (zov wr_245 (ma_u m 94 0 (0 : Int32)) m1) 94 0 (3 : Int32)) := uf_94_0 hV_m1
              have li89 : (3 : Int32).toInt = 3 := rfl
              exact K ((0 : Int32)) _ (zF_u (zF_zov (zF_u zF_rfl rfl) ws_245_250) rfl) hV88 (show (¬ ((0 ≤ ix.toInt ∧ ix.toInt ≤ 15)) ∧ (3 : Int32).toInt = 1) ∨ (((0 ≤ ix.toInt ∧ ix.toInt ≤ 15)) ∧ (3 : Int32).toInt = 2) from by omega)

