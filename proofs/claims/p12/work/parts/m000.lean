/-! from 95.za0 -/
/-! the reference answers (written by wip/tools/gen15a.py) -/
/-! ANSWERS, once more: a choice, and what makes an answer one -/
def zSel (C A B : Prop) : Prop := (¬ C ∧ A) ∨ (C ∧ B)
def zFu (P : Int32 → Int32 → Prop) : Prop := ∀ th v th2 v2, P th v → P th2 v2 → th2.toInt = th.toInt ∧ (th.toInt = 0 → v2 = v)
theorem fu_k {k : Int} (h : k ≠ 0) : zFu (fun th _ => th.toInt = k) := fun th v th2 v2 a b => ⟨b.trans a.symm, fun z => absurd (a.symm.trans z) h⟩
theorem fu_v {x : Int32} : zFu (fun th v => th.toInt = 0 ∧ v = x) := fun th v th2 v2 a b => ⟨b.1.trans a.1.symm, fun _ => b.2.trans a.2.symm⟩
theorem fu_s {C : Prop} {P Q : Int32 → Int32 → Prop} (h : zFu P) (g : zFu Q) : zFu (fun th v => zSel C (P th v) (Q th v)) := fun th v th2 v2 a b => by
  rcases a with a | a
  · rcases b with b | b
    · exact h th v th2 v2 a.2 b.2
    · exact absurd b.1 a.1
  · rcases b with b | b
    · exact absurd a.1 b.1
    · exact g th v th2 v2 a.2 b.2
def qSlt (i : Int32) : Prop := 0 ≤ i.toInt ∧ i.toInt ≤ 15
/-! where a heap stands -/
def qNwe (a : Nat → Nat → Int32) (i o th v : Int32) : Prop := zSel (qSlt i) (th.toInt = 1) (zSel (o = -1 ∨ zRq a o) (th.toInt = 3) (th.toInt = 0 ∧ v = a 73 i.toNatClampNeg))
def qNro (a : Nat → Nat → Int32) (i o th v : Int32) : Prop := zSel (qSlt i) (th.toInt = 1) (zSel (o = -1 ∨ zRq a o) (th.toInt = 3) (th.toInt = 0 ∧ v = aNm a (a 72 i.toNatClampNeg)))
def qNsg (a : Nat → Nat → Int32) (i r th v : Int32) : Prop := zSel (qSlt i ∧ qSlt r) (th.toInt = 1) (th.toInt = 0 ∧ v = aNm a (a 73 i.toNatClampNeg))
def qNgr (a : Nat → Nat → Int32) (r th v : Int32) : Prop := zSel (qSlt r) (th.toInt = 1) (th.toInt = 0 ∧ v = aNm a (aTy a))
def qNli (a : Nat → Nat → Int32) (o i t th v : Int32) : Prop := zSel (zRq a o ∧ (t = -1 ∨ zRq a t)) (th.toInt = 2) (zSel (zHw a o i) (th.toInt = 3) (zSel (zIr a o i) (th.toInt = 4) (th.toInt = 0 ∧ v = aNm a (aRef a o.toNatClampNeg i))))
def qNho (c : Prop) (a : Nat → Nat → Int32) (o b th v : Int32) : Prop := zSel (zRq a o) (th.toInt = 2) (zSel (c ∧ (¬ b = 0 ∨ ¬ a 133 o.toNatClampNeg = 0)) (th.toInt = 3) (th.toInt = 0 ∧ v = a 133 o.toNatClampNeg + (if b = 0 then -1 else 1)))
theorem fu_we {a : Nat → Nat → Int32} {i o : Int32} : zFu (qNwe a i o) := fu_s (fu_k (by decide)) (fu_s (fu_k (by decide)) fu_v)
section G1
variable {a : Nat → Nat → Int32} {us nr kr kd ws at₉ ho wd wi ow rt wk wl : Nat → Int32} {wm nu ro fo le ra pi o i s x : Int32} {k : Nat}
theorem R3_n (h : qR3 us nr rt a k) (h0 : 0 ≤ i.toInt) (h1 : i.toInt ≤ 15) (hx : (rt i.toNatClampNeg).toInt < 0) : a k i.toNatClampNeg = -1 := by
  have c := tn_cast h0
  rw [(h _ (by omega)).2]
  exact if_pos hx
theorem R3_y (h : qR3 us nr rt a k) (h0 : 0 ≤ i.toInt) (h1 : i.toInt ≤ 15) (hx : ¬ (rt i.toNatClampNeg).toInt < 0) : a k i.toNatClampNeg = nr (rt i.toNatClampNeg).toNatClampNeg := by
  have c := tn_cast h0
  rw [(h _ (by omega)).2]
  exact if_neg hx
end G1
section G2
variable {a : Nat → Nat → Int32} {us nr kr kd ws at₉ ho wd wi ow rt wk wl : Nat → Int32} {wm nu ro fo le ra pi o i s x b po ol : Int32} {k : Nat} {c : Prop}
end G2
theorem sp_251an {X : Nat × (Nat → Int32)} {P : Option ma_V → (Nat → Nat → Int32) → Prop} {T : Nat} {aa : Nat→Nat→Int32} {ro : Int32} {fo : Int32} {le : Int32} {ra : Int32} {pi : Int32} {m : Nat → Nat → Int32} (ix : Int32) (ob : Int32) (hV : zV m) (hpre0 : (m 94 8).toInt ≠ 0) (r_W : zW (m 94 7) (m 98) (m 101) (m 102) (m 108)) (r_GW : zGW T (m 94 55) (m 109)) (r_GU : zGU T (m 94 46) (m 99)) (r_OW : zOw (m 99) (m 103) (m 111)) (r_DX : zDX (m 94 10) (m 99) (m 112) (m 113) (m 114) (m 94 55) (m 98) (m 101) (m 102) (m 108)) (r_GG : zGG (m 94 58) (m 94 56) (m 94 57) (m 106)) (r_HA : zHA (m 94 10) (m 94 11) (m 94 13) (m 94 14) (m 94 16) (m 94 61) (m 94 59) (m 94 60) (m 99) (m 102) (m 103) (m 111) (m 117) (m 98) (m 101) (m 108)) (r_RGc : zRG (m 94 10) (m 94 18) (m 94 64) (m 94 63) (m 99) (m 103) (m 102) (m 116)) (hpre9 : (m 94 58).toInt = 0 ∨ (m 94 10).toInt = 5) (r_RB : qRB (m 99) (m 100) (m 98) (m 101) (m 102) (m 103) (m 107) (m 108) (m 109) (m 111) (m 112) (m 113) (m 114) (m 94 55) (m 94 46) ro fo le ra pi aa) (r_QI : qI aa) (KZ : ∀ v m₉, zV (zov wr_251 m m₉) → (qNwe aa ix ob (m₉ 94 0) v) → P (some (.inl v)) (zov wr_251 m m₉)) : zm X 5 109 251 0 [(0, .inr (.inr (some 94))), (1, .inl ix), (2, .inl ob)] m P := by
  have K : ∀ v m₉, zF wr_251 m m₉ → zV m₉ → (qNwe aa ix ob (m₉ 94 0) v) → P (some (.inl v)) m₉ := by
    intro v m₉ hf z q0
    have e := zov_eq hf
    rw [e] at z ⊢
    try rw [e] at q0
    exact KZ v m₉ z q0
  refine g_251_0 ix ob ?_
  have f1 : 0 ≤ (m 94 8).toInt ∧ (m 94 8).toInt ≤ 1 := rs_94_8 (m := m) hV
  have f2 : 0 ≤ (m 94 58).toInt ∧ (m 94 58).toInt ≤ 1 := rs_94_58 (m := m) hV
  have f3 : 0 ≤ (m 94 10).toInt ∧ (m 94 10).toInt ≤ 6 := rs_94_10 (m := m) hV
  have b4 := i_bd ix
  have li5 : (0 : Int32).toInt = 0 := rfl
  refine zd (fun (h6 : ix < (0 : Int32)) => ?_) (fun (h6 : ¬ ix < (0 : Int32)) => ?_)
  · skip
    have g7 := i_lt h6
    have hV8 : zV (ma_u m 94 0 (1 : Int32)) := uf_94_0 hV
    exact K ((0 : Int32)) _ (zF_u zF_rfl rfl) hV8 (show qNwe aa ix ob (1 : Int32) (0 : Int32) from by first | (exfalso; omega; done) | (exact Or.inl ⟨fun w => by have w1 := w.1; have w2 := w.2; omega, rfl⟩) | (exact Or.inr ⟨⟨by omega, by omega⟩, Or.inr ⟨Or.inl (by assumption), rfl, (R3_n r_RB.2.2.2.1 (by omega) (by omega) (by omega)).symm⟩⟩) | (exact Or.inr ⟨⟨by omega, by omega⟩, Or.inr ⟨Or.inl (by assumption), rfl, (R3_y r_RB.2.2.2.1 (by omega) (by omega) (by omega)).symm⟩⟩) | (exfalso; omega; done) | (exfalso; contradiction; done))
  · skip
    have g9 := i_nlt h6
    have li10 : (16 : Int32).toInt = 16 := rfl
    refine zd (fun (h11 : (16 : Int32) ≤ ix) => ?_) (fun (h11 : ¬ (16 : Int32) ≤ ix) => ?_)
    · skip
      have g12 := i_le h11
      have hV13 : zV (ma_u m 94 0 (1 : Int32)) := uf_94_0 hV
      exact K ((0 : Int32)) _ (zF_u zF_rfl rfl) hV13 (show qNwe aa ix ob (1 : Int32) (0 : Int32) from by first | (exfalso; omega; done) | (exact Or.inl ⟨fun w => by have w1 := w.1; have w2 := w.2; omega, rfl⟩) | (exact Or.inr ⟨⟨by omega, by omega⟩, Or.inr ⟨Or.inl (by assumption), rfl, (R3_n r_RB.2.2.2.1 (by omega) (by omega) (by omega)).symm⟩⟩) | (exact Or.inr ⟨⟨by omega, by omega⟩, Or.inr ⟨Or.inl (by assumption), rfl, (R3_y r_RB.2.2.2.1 (by omega) (by omega) (by omega)).symm⟩⟩) | (exfalso; omega; done) | (exfalso; contradiction; done))
    · skip
      have g14 := i_nle h11
      refine zd (fun (h15 : (m 94 8) = (0 : Int32)) => ?_) (fun (h15 : ¬ (m 94 8) = (0 : Int32)) => ?_)
      · skip
        have g16 := i_eq h15
        have hV17 : zV (ma_u m 94 0 (2 : Int32)) := uf_94_0 hV
        exact K ((0 : Int32)) _ (zF_u zF_rfl rfl) hV17 (show qNwe aa ix ob (2 : Int32) (0 : Int32) from by first | (exfalso; omega; done) | (exact Or.inl ⟨fun w => by have w1 := w.1; have w2 := w.2; omega, rfl⟩) | (exact Or.inr ⟨⟨by omega, by omega⟩, Or.inr ⟨Or.inl (by assumption), rfl, (R3_n r_RB.2.2.2.1 (by omega) (by omega) (by omega)).symm⟩⟩) | (exact Or.inr ⟨⟨by omega, by omega⟩, Or.inr ⟨Or.inl (by assumption), rfl, (R3_y r_RB.2.2.2.1 (by omega) (by omega) (by omega)).symm⟩⟩) | (exfalso; omega; done) | (exfalso; contradiction; done))
      · skip
        have g18 := i_ne h15
        have b19 := i_bd ob
        have li20 : (-1 : Int32).toInt = -1 := rfl
        refine zd (fun (h21 : ob = (-1 : Int32)) => ?_) (fun (h21 : ¬ ob = (-1 : Int32)) => ?_)
        · skip
          have g22 := i_eq h21
          refine zd (fun (h23 : ob = (-1 : Int32)) => ?_) (fun (h23 : ¬ ob = (-1 : Int32)) => ?_)
          · skip
            have g24 := i_eq h23
            have hg25 : (0 ≤ ix ∧ ix.toNatClampNeg < 16) := i_ix (by omega) (by omega)
            refine ⟨hg25, ?_⟩
            first | have f26 : -1 ≤ (m 113 ix.toNatClampNeg).toInt ∧ (m 113 ix.toNatClampNeg).toInt ≤ 3099 := ra_113 (m := m) hV (k := ix.toNatClampNeg) (i_ix (n := 16) (by omega) (by omega)).2 | have b27 := i_bd (m 113 ix.toNatClampNeg)
            refine zd (fun (h28 : (0 : Int32) ≤ (m 113 ix.toNatClampNeg)) => ?_) (fun (h28 : ¬ (0 : Int32) ≤ (m 113 ix.toNatClampNeg)) => ?_)
            · skip
              have g29 := i_le h28
              have hg30 : (0 ≤ (m 113 ix.toNatClampNeg) ∧ (m 113 ix.toNatClampNeg).toNatClampNeg < 3100) := i_ix (by omega) (by omega)
              refine ⟨hg30, ?_⟩
              have hg31 : (0 ≤ ix ∧ ix.toNatClampNeg < 16) := i_ix (by omega) (by omega)
              refine ⟨hg31, ?_⟩
              have hV32 : zV (ma_u m 94 0 (0 : Int32)) := uf_94_0 hV
              have hV33 : zV (ma_u (ma_u m 94 0 (0 : Int32)) 94 0 (0 : Int32)) := uf_94_0 hV32
              have hV34 : zV (ma_u (ma_u (ma_u m 94 0 (0 : Int32)) 94 0 (0 : Int32)) 113 ix.toNatClampNeg (-1 : Int32)) := ua_113 hV33 (by omega) (by omega)
              first | have f35 : 0 ≤ (m 100 (m 113 ix.toNatClampNeg).toNatClampNeg).toInt ∧ (m 100 (m 113 ix.toNatClampNeg).toNatClampNeg).toInt ≤ 100000 := ra_100 (m := m) hV (k := (m 113 ix.toNatClampNeg).toNatClampNeg) (i_ix (n := 3100) (by omega) (by omega)).2 | have b36 := i_bd (m 100 (m 113 ix.toNatClampNeg).toNatClampNeg)
              exact K ((m 100 (m 113 ix.toNatClampNeg).toNatClampNeg)) _ (zF_u (zF_u (zF_u zF_rfl rfl) rfl) rfl) hV34 (show qNwe aa ix ob (0 : Int32) (m 100 (m 113 ix.toNatClampNeg).toNatClampNeg) from by first | (exfalso; omega; done) | (exact Or.inl ⟨fun w => by have w1 := w.1; have w2 := w.2; omega, rfl⟩) | (exact Or.inr ⟨⟨by omega, by omega⟩, Or.inr ⟨Or.inl (by assumption), rfl, (R3_n r_RB.2.2.2.1 (by omega) (by omega) (by omega)).symm⟩⟩) | (exact Or.inr ⟨⟨by omega, by omega⟩, Or.inr ⟨Or.inl (by assumption), rfl, (R3_y r_RB.2.2.2.1 (by omega) (by omega) (by omega)).symm⟩⟩) | (exfalso; omega; done) | (exfalso; contradiction; done))
            · skip
              have g37 := i_nle h28
              have hg38 : (0 ≤ ix ∧ ix.toNatClampNeg < 16) := i_ix (by omega) (by omega)
              refine ⟨hg38, ?_⟩
              have hV39 : zV (ma_u m 94 0 (0 : Int32)) := uf_94_0 hV
              have hV40 : zV (ma_u (ma_u m 94 0 (0 : Int32)) 94 0 (0 : Int32)) := uf_94_0 hV39
              have hV41 : zV (ma_u (ma_u (ma_u m 94 0 (0 : Int32)) 94 0 (0 : Int32)) 113 ix.toNatClampNeg (-1 : Int32)) := ua_113 hV40 (by omega) (by omega)
              exact K ((-1 : Int32)) _ (zF_u (zF_u (zF_u zF_rfl rfl) rfl) rfl) hV41 (show qNwe aa ix ob (0 : Int32) (-1 : Int32) from by first | (exfalso; omega; done) | (exact Or.inl ⟨fun w => by have w1 := w.1; have w2 := w.2; omega, rfl⟩) | (exact Or.inr ⟨⟨by omega, by omega⟩, Or.inr ⟨Or.inl (by assumption), rfl, (R3_n r_RB.2.2.2.1 (by omega) (by omega) (by omega)).symm⟩⟩) | (exact Or.inr ⟨⟨by omega, by omega⟩, Or.inr ⟨Or.inl (by assumption), rfl, (R3_y r_RB.2.2.2.1 (by omega) (by omega) (by omega)).symm⟩⟩) | (exfalso; omega; done) | (exfalso; contradiction; done))
          · skip
            have g42 := i_ne h23
            have hV43 : zV (ma_u m 94 0 (0 : Int32)) := uf_94_0 hV
            have hV44 : zV (ma_u (ma_u m 94 0 (0 : Int32)) 94 0 (3 : Int32)) := uf_94_0 hV43
            exact K ((0 : Int32)) _ (zF_u (zF_u zF_rfl rfl) rfl) hV44 (show qNwe aa ix ob (3 : Int32) (0 : Int32) from by first | (exfalso; omega; done) | (exact Or.inl ⟨fun w => by have w1 := w.1; have w2 := w.2; omega, rfl⟩) | (exact Or.inr ⟨⟨by omega, by omega⟩, Or.inr ⟨Or.inl (by assumption), rfl, (R3_n r_RB.2.2.2.1 (by omega) (by omega) (by omega)).symm⟩⟩) | (exact Or.inr ⟨⟨by omega, by omega⟩, Or.inr ⟨Or.inl (by assumption), rfl, (R3_y r_RB.2.2.2.1 (by omega) (by omega) (by omega)).symm⟩⟩) | (exfalso; omega; done) | (exfalso; contradiction; done))
        · skip
          have g45 := i_ne h21
          have hV46 : zV (ma_u m 94 0 (0 : Int32)) := uf_94_0 hV
          refine sp_245rm (aa := aa) (ob) hV46 r_W r_RB r_QI (fun v2 m1 hV_m1 p0_m1 p1_m1 p2_m1 => zmi_n ?_)
          have p0_m1 : -1 ≤ v2.toInt ∧ v2.toInt ≤ 3099 := p0_m1
          have p1_m1 : v2.toInt < 0 ∨ (m 99) v2.toNatClampNeg ≠ 0 := p1_m1
          have p2_m1 : qRe (m 99) (m 100) aa ob v2 := p2_m1
          refine zd (fun (h47 : ob = (-1 : Int32)) => ?_) (fun (h47 : ¬ ob = (-1 : Int32)) => ?_)
          · skip
            have g48 := i_eq h47
            have hg49 : (0 ≤ ix ∧ ix.toNatClampNeg < 16) := i_ix (by omega) (by omega)
            refine ⟨hg49, ?_⟩
            first | have f50 : -1 ≤ (m 113 ix.toNatClampNeg).toInt ∧ (m 113 ix.toNatClampNeg).toInt ≤ 3099 := ra_113 (m := m) hV (k := ix.toNatClampNeg) (i_ix (n := 16) (by omega) (by omega)).2 | have b51 := i_bd (m 113 ix.toNatClampNeg)
            refine zd (fun (h52 : (0 : Int32) ≤ (m 113 ix.toNatClampNeg)) => ?_) (fun (h52 : ¬ (0 : Int32) ≤ (m 113 ix.toNatClampNeg)) => ?_)
            · skip
              have g53 := i_le h52
              have hg54 : (0 ≤ (m 113 ix.toNatClampNeg) ∧ (m 113 ix.toNatClampNeg).toNatClampNeg < 3100) := i_ix (by omega) (by omega)
              refine ⟨hg54, ?_⟩
              have hg55 : (0 ≤ ix ∧ ix.toNatClampNeg < 16) := i_ix (by omega) (by omega)
              refine ⟨hg55, ?_⟩
              have hV56 : zV (ma_u (zov wr_245 (ma_u m 94 0 (0 : Int32)) m1) 94 0 (0 : Int32)) := uf_94_0 hV_m1
              have b58 := i_bd v2
              have hV57 : zV (ma_u (ma_u (zov wr_245 (ma_u m 94 0 (0 : Int32)) m1) 94 0 (0 : Int32)) 113 ix.toNatClampNeg v2) := ua_113 hV56 (by omega) (by omega)
              first | have f59 : 0 ≤ (m 100 (m 113 ix.toNatClampNeg).toNatClampNeg).toInt ∧ (m 100 (m 113 ix.toNatClampNeg).toNatClampNeg).toInt ≤ 100000 := ra_100 (m := m) hV (k := (m 113 ix.toNatClampNeg).toNatClampNeg) (i_ix (n := 3100) (by omega) (by omega)).2 | have b60 := i_bd (m 100 (m 113 ix.toNatClampNeg).toNatClampNeg)
              exact K ((m 100 (m 113 ix.toNatClampNeg).toNatClampNeg)) _ (zF_u (zF_u (zF_zov (zF_u zF_rfl rfl) ws_245_251) rfl) rfl) hV57 (show qNwe aa ix ob (0 : Int32) (m 100 (m 113 ix.toNatClampNeg).toNatClampNeg) from by first | (exfalso; omega; done) | (exact Or.inl ⟨fun w => by have w1 := w.1; have w2 := w.2; omega, rfl⟩) | (exact Or.inr ⟨⟨by omega, by omega⟩, Or.inl ⟨fun w => w.elim (by assumption) (Re_n p2_m1 (by omega)), rfl⟩⟩) | (exact Or.inr ⟨⟨by omega, by omega⟩, Or.inr ⟨Or.inr (Re_y p2_m1 (by omega)).2.2.2, rfl, (R3_n r_RB.2.2.2.1 (by omega) (by omega) (by omega)).symm⟩⟩) | (exact Or.inr ⟨⟨by omega, by omega⟩, Or.inr ⟨Or.inr (Re_y p2_m1 (by omega)).2.2.2, rfl, (R3_y r_RB.2.2.2.1 (by omega) (by omega) (by omega)).symm⟩⟩) | (exfalso; omega; done) | (exfalso; contradiction; done))
            · skip
              have g61 := i_nle h52
              have hg62 : (0 ≤ ix ∧ ix.toNatClampNeg < 16) := i_ix (by omega) (by omega)
              refine ⟨hg62, ?_⟩
              have hV63 : zV (ma_u (zov wr_245 (ma_u m 94 0 (0 : Int32)) m1) 94 0 (0 : Int32)) := uf_94_0 hV_m1
              have b65 := i_bd v2
              have hV64 : zV (ma_u (ma_u (zov wr_245 (ma_u m 94 0 (0 : Int32)) m1) 94 0 (0 : Int32)) 113 ix.toNatClampNeg v2) := ua_113 hV63 (by omega) (by omega)
              exact K ((-1 : Int32)) _ (zF_u (zF_u (zF_zov (zF_u zF_rfl rfl) ws_245_251) rfl) rfl) hV64 (show qNwe aa ix ob (0 : Int32) (-1 : Int32) from by first | (exfalso; omega; done) | (exact Or.inl ⟨fun w => by have w1 := w.1; have w2 := w.2; omega, rfl⟩) | (exact Or.inr ⟨⟨by omega, by omega⟩, Or.inl ⟨fun w => w.elim (by assumption) (Re_n p2_m1 (by omega)), rfl⟩⟩) | (exact Or.inr ⟨⟨by omega, by omega⟩, Or.inr ⟨Or.inr (Re_y p2_m1 (by omega)).2.2.2, rfl, (R3_n r_RB.2.2.2.1 (by omega) (by omega) (by omega)).symm⟩⟩) | (exact Or.inr ⟨⟨by omega, by omega⟩, Or.inr ⟨Or.inr (Re_y p2_m1 (by omega)).2.2.2, rfl, (R3_y r_RB.2.2.2.1 (by omega) (by omega) (by omega)).symm⟩⟩) | (exfalso; omega; done) | (exfalso; contradiction; done))
          · skip
            have g66 := i_ne h47
            have b67 := i_bd v2
            refine zd (fun (h68 : (0 : Int32) ≤ v2) => ?_) (fun (h68 : ¬ (0 : Int32) ≤ v2) => ?_)
            · skip
              have g69 := i_le h68
              have hg70 : (0 ≤ ix ∧ ix.toNatClampNeg < 16) := i_ix (by omega) (by omega)
              refine ⟨hg70, ?_⟩
              first | have f71 : -1 ≤ (m 113 ix.toNatClampNeg).toInt ∧ (m 113 ix.toNatClampNeg).toInt ≤ 3099 := ra_113 (m := m) hV (k := ix.toNatClampNeg) (i_ix (n := 16) (by omega) (by omega)).2 | have b72 := i_bd (m 113 ix.toNatClampNeg)
              refine zd (fun (h73 : (0 : Int32) ≤ (m 113 ix.toNatClampNeg)) => ?_) (fun (h73 : ¬ (0 : Int32) ≤ (m 113 ix.toNatClampNeg)) => ?_)
              · skip
                have g74 := i_le h73
                have hg75 : (0 ≤ (m 113 ix.toNatClampNeg) ∧ (m 113 ix.toNatClampNeg).toNatClampNeg < 3100) := i_ix (by omega) (by omega)
                refine ⟨hg75, ?_⟩
                have hg76 : (0 ≤ ix ∧ ix.toNatClampNeg < 16) := i_ix (by omega) (by omega)
                refine ⟨hg76, ?_⟩
                have hV77 : zV (ma_u (zov wr_245 (ma_u m 94 0 (0 : Int32)) m1) 94 0 (0 : Int32)) := uf_94_0 hV_m1
                have hV78 : zV (ma_u (ma_u (zov wr_245 (ma_u m 94 0 (0 : Int32)) m1) 94 0 (0 : Int32)) 113 ix.toNatClampNeg v2) := ua_113 hV77 (by omega) (by omega)
                first | have f79 : 0 ≤ (m 100 (m 113 ix.toNatClampNeg).toNatClampNeg).toInt ∧ (m 100 (m 113 ix.toNatClampNeg).toNatClampNeg).toInt ≤ 100000 := ra_100 (m := m) hV (k := (m 113 ix.toNatClampNeg).toNatClampNeg) (i_ix (n := 3100) (by omega) (by omega)).2 | have b80 := i_bd (m 100 (m 113 ix.toNatClampNeg).toNatClampNeg)
                exact K ((m 100 (m 113 ix.toNatClampNeg).toNatClampNeg)) _ (zF_u (zF_u (zF_zov (zF_u zF_rfl rfl) ws_245_251) rfl) rfl) hV78 (show qNwe aa ix ob (0 : Int32) (m 100 (m 113 ix.toNatClampNeg).toNatClampNeg) from by first | (exfalso; omega; done) | (exact Or.inl ⟨fun w => by have w1 := w.1; have w2 := w.2; omega, rfl⟩) | (exact Or.inr ⟨⟨by omega, by omega⟩, Or.inl ⟨fun w => w.elim (by assumption) (Re_n p2_m1 (by omega)), rfl⟩⟩) | (exact Or.inr ⟨⟨by omega, by omega⟩, Or.inr ⟨Or.inr (Re_y p2_m1 (by omega)).2.2.2, rfl, (R3_n r_RB.2.2.2.1 (by omega) (by omega) (by omega)).symm⟩⟩) | (exact Or.inr ⟨⟨by omega, by omega⟩, Or.inr ⟨Or.inr (Re_y p2_m1 (by omega)).2.2.2, rfl, (R3_y r_RB.2.2.2.1 (by omega) (by omega) (by omega)).symm⟩⟩) | (exfalso; omega; done) | (exfalso; contradiction; done))
              · skip
                have g81 := i_nle h73
                have hg82 : (0 ≤ ix ∧ ix.toNatClampNeg < 16) := i_ix (by omega) (by omega)
                refine ⟨hg82, ?_⟩
                have hV83 : zV (ma_u (zov wr_245 (ma_u m 94 0 (0 : Int32)) m1) 94 0 (0 : Int32)) := uf_94_0 hV_m1
                have hV84 : zV (ma_u (ma_u (zov wr_245 (ma_u m 94 0 (0 : Int32)) m1) 94 0 (0 : Int32)) 113 ix.toNatClampNeg v2) := ua_113 hV83 (by omega) (by omega)
                exact K ((-1 : Int32)) _ (zF_u (zF_u (zF_zov (zF_u zF_rfl rfl) ws_245_251) rfl) rfl) hV84 (show qNwe aa ix ob (0 : Int32) (-1 : Int32) from by first | (exfalso; omega; done) | (exact Or.inl ⟨fun w => by have w1 := w.1; have w2 := w.2; omega, rfl⟩) | (exact Or.inr ⟨⟨by omega, by omega⟩, Or.inl ⟨fun w => w.elim (by assumption) (Re_n p2_m1 (by omega)), rfl⟩⟩) | (exact Or.inr ⟨⟨by omega, by omega⟩, Or.inr ⟨Or.inr (Re_y p2_m1 (by omega)).2.2.2, rfl, (R3_n r_RB.2.2.2.1 (by omega) (by omega) (by omega)).symm⟩⟩) | (exact Or.inr ⟨⟨by omega, by omega⟩, Or.inr ⟨Or.inr (Re_y p2_m1 (by omega)).2.2.2, rfl, (R3_y r_RB.2.2.2.1 (by omega) (by omega) (by omega)).symm⟩⟩) | (exfalso; omega; done) | (exfalso; contradiction; done))
            · skip
              have g85 := i_nle h68
              have hV86 : zV (ma_u (zov wr_245 (ma_u m 94 0 (0 : Int32)) m1) 94 0 (3 : Int32)) := uf_94_0 hV_m1
              exact K ((0 : Int32)) _ (zF_u (zF_zov (zF_u zF_rfl rfl) ws_245_251) rfl) hV86 (show qNwe aa ix ob (3 : Int32) (0 : Int32) from by first | (exfalso; omega; done) | (exact Or.inl ⟨fun w => by have w1 := w.1; have w2 := w.2; omega, rfl⟩) | (exact Or.inr ⟨⟨by omega, by omega⟩, Or.inl ⟨fun w => w.elim (by assumption) (Re_n p2_m1 (by omega)), rfl⟩⟩) | (exact Or.inr ⟨⟨by omega, by omega⟩, Or.inr ⟨Or.inr (Re_y p2_m1 (by omega)).2.2.2, rfl, (R3_n r_RB.2.2.2.1 (by omega) (by omega) (by omega)).symm⟩⟩) | (exact Or.inr ⟨⟨by omega, by omega⟩, Or.inr ⟨Or.inr (Re_y p2_m1 (by omega)).2.2.2, rfl, (R3_y r_RB.2.2.2.1 (by omega) (by omega) (by omega)).symm⟩⟩) | (exfalso; omega; done) | (exfalso; contradiction; done))

/-! from 95.za8 -/
/-! the reference answers (written by wip/tools/gen15a.py) -/
theorem sp_251av {X : Nat × (Nat → Int32)} {P : Option ma_V → (Nat → Nat → Int32) → Prop} {m : Nat → Nat → Int32} (ix : Int32) (ob : Int32) (hV : zV m) (hpre0 : (m 94 8).toInt = 0) (KZ : ∀ v m₉, zV (zov wr_251 m m₉) → ((¬ ((0 ≤ ix.toInt ∧ ix.toInt ≤ 15)) ∧ (m₉ 94 0).toInt = 1) ∨ (((0 ≤ ix.toInt ∧ ix.toInt ≤ 15)) ∧ (m₉ 94 0).toInt = 2)) → P (some (.inl v)) (zov wr_251 m m₉)) : zm X 5 109 251 0 [(0, .inr (.inr (some 94))), (1, .inl ix), (2, .inl ob)] m P := by
  have K : ∀ v m₉, zF wr_251 m m₉ → zV m₉ → ((¬ ((0 ≤ ix.toInt ∧ ix.toInt ≤ 15)) ∧ (m₉ 94 0).toInt = 1) ∨ (((0 ≤ ix.toInt ∧ ix.toInt ≤ 15)) ∧ (m₉ 94 0).toInt = 2)) → P (some (.inl v)) m₉ := by
    intro v m₉ hf z q0
    have e := zov_eq hf
    rw [e] at z ⊢
    try rw [e] at q0
    exact KZ v m₉ z q0
  refine g_251_0 ix ob ?_
  have f1 : 0 ≤ (m 94 8).toInt ∧ (m 94 8).toInt ≤ 1 := rs_94_8 (m := m) hV
  have b2 := i_bd ix
  have li3 : (0 : Int32).toInt = 0 := rfl
  refine zd (fun (h4 : ix < (0 : Int32)) => ?_) (fun (h4 : ¬ ix < (0 : Int32)) => ?_)
  · skip
    have g5 := i_lt h4
    have hV6 : zV (ma_u m 94 0 (1 : Int32)) := uf_94_0 hV
    have li7 : (1 : Int32).toInt = 1 := rfl
    exact K ((0 : Int32)) _ (zF_u zF_rfl rfl) hV6 (show (¬ ((0 ≤ ix.toInt ∧ ix.toInt ≤ 15)) ∧ (1 : Int32).toInt = 1) ∨ (((0 ≤ ix.toInt ∧ ix.toInt ≤ 15)) ∧ (1 : Int32).toInt = 2) from by omega)
  · skip
    have g8 := i_nlt h4
    have li9 : (16 : Int32).toInt = 16 := rfl
    refine zd (fun (h10 : (16 : Int32) ≤ ix) => ?_) (fun (h10 : ¬ (16 : Int32) ≤ ix) => ?_)
    · skip
      have g11 := i_le h10
      have hV12 : zV (ma_u m 94 0 (1 : Int32)) := uf_94_0 hV
      have li13 : (1 : Int32).toInt = 1 := rfl
      exact K ((0 : Int32)) _ (zF_u zF_rfl rfl) hV12 (show (¬ ((0 ≤ ix.toInt ∧ ix.toInt ≤ 15)) ∧ (1 : Int32).toInt = 1) ∨ (((0 ≤ ix.toInt ∧ ix.toInt ≤ 15)) ∧ (1 : Int32).toInt = 2) from by omega)
    · skip
      have g14 := i_nle h10
      refine zd (fun (h15 : (m 94 8) = (0 : Int32)) => ?_) (fun (h15 : ¬ (m 94 8) = (0 : Int32)) => ?_)
      · skip
        have g16 := i_eq h15
        have hV17 : zV (ma_u m 94 0 (2 : Int32)) := uf_94_0 hV
        have li18 : (2 : Int32).toInt = 2 := rfl
        exact K ((0 : Int32)) _ (zF_u zF_rfl rfl) hV17 (show (¬ ((0 ≤ ix.toInt ∧ ix.toInt ≤ 15)) ∧ (2 : Int32).toInt = 1) ∨ (((0 ≤ ix.toInt ∧ ix.toInt ≤ 15)) ∧ (2 : Int32).toInt = 2) from by omega)
      · skip
        have g19 := i_ne h15
        have b20 := i_bd ob
        have li21 : (-1 : Int32).toInt = -1 := rfl
        refine zd (fun (h22 : ob = (-1 : Int32)) => ?_) (fun (h22 : ¬ ob = (-1 : Int32)) => ?_)
        · skip
          have g23 := i_eq h22
          refine zd (fun (h24 : ob = (-1 : Int32)) => ?_) (fun (h24 : ¬ ob = (-1 : Int32)) => ?_)
          · skip
            have g25 := i_eq h24
            have hg26 : (0 ≤ ix ∧ ix.toNatClampNeg < 16) := i_ix (by omega) (by omega)
            refine ⟨hg26, ?_⟩
            first | have f27 : -1 ≤ (m 113 ix.toNatClampNeg).toInt ∧ (m 113 ix.toNatClampNeg).toInt ≤ 3099 := ra_113 (m := m) hV (k := ix.toNatClampNeg) (i_ix (n := 16) (by omega) (by omega)).2 | have b28 := i_bd (m 113 ix.toNatClampNeg)
            refine zd (fun (h29 : (0 : Int32) ≤ (m 113 ix.toNatClampNeg)) => ?_) (fun (h29 : ¬ (0 : Int32) ≤ (m 113 ix.toNatClampNeg)) => ?_)
            · skip
              have g30 := i_le h29
              have hg31 : (0 ≤ (m 113 ix.toNatClampNeg) ∧ (m 113 ix.toNatClampNeg).toNatClampNeg < 3100) := i_ix (by omega) (by omega)
              refine ⟨hg31, ?_⟩
              have hg32 : (0 ≤ ix ∧ ix.toNatClampNeg < 16) := i_ix (by omega) (by omega)
              refine ⟨hg32, ?_⟩
              have hV33 : zV (ma_u m 94 0 (0 : Int32)) := uf_94_0 hV
              have hV34 : zV (ma_u (ma_u m 94 0 (0 : Int32)) 94 0 (0 : Int32)) := uf_94_0 hV33
              have hV35 : zV (ma_u (ma_u (ma_u m 94 0 (0 : Int32)) 94 0 (0 : Int32)) 113 ix.toNatClampNeg (-1 : Int32)) := ua_113 hV34 (by omega) (by omega)
              first | have f36 : 0 ≤ (m 100 (m 113 ix.toNatClampNeg).toNatClampNeg).toInt ∧ (m 100 (m 113 ix.toNatClampNeg).toNatClampNeg).toInt ≤ 100000 := ra_100 (m := m) hV (k := (m 113 ix.toNatClampNeg).toNatClampNeg) (i_ix (n := 3100) (by omega) (by omega)).2 | have b37 := i_bd (m 100 (m 113 ix.toNatClampNeg).toNatClampNeg)
              exact K ((m 100 (m 113 ix.toNatClampNeg).toNatClampNeg)) _ (zF_u (zF_u (zF_u zF_rfl rfl) rfl) rfl) hV35 (show (¬ ((0 ≤ ix.toInt ∧ ix.toInt ≤ 15)) ∧ (0 : Int32).toInt = 1) ∨ (((0 ≤ ix.toInt ∧ ix.toInt ≤ 15)) ∧ (0 : Int32).toInt = 2) from by omega)
            · skip
              have g38 := i_nle h29
              have hg39 : (0 ≤ ix ∧ ix.toNatClampNeg < 16) := i_ix (by omega) (by omega)
              refine ⟨hg39, ?_⟩
              have hV40 : zV (ma_u m 94 0 (0 : Int32)) := uf_94_0 hV
              have hV41 : zV (ma_u (ma_u m 94 0 (0 : Int32)) 94 0 (0 : Int32)) := uf_94_0 hV40
              have hV42 : zV (ma_u (ma_u (ma_u m 94 0 (0 : Int32)) 94 0 (0 : Int32)) 113 ix.toNatClampNeg (-1 : Int32)) := ua_113 hV41 (by omega) (by omega)
              exact K ((-1 : Int32)) _ (zF_u (zF_u (zF_u zF_rfl rfl) rfl) rfl) hV42 (show (¬ ((0 ≤ ix.toInt ∧ ix.toInt ≤ 15)) ∧ (0 : Int32).toInt = 1) ∨ (((0 ≤ ix.toInt ∧ ix.toInt ≤ 15)) ∧ (0 : Int32).toInt = 2) from by omega)
          · skip
            have g43 := i_ne h24
            have hV44 : zV (ma_u m 94 0 (0 : Int32)) := uf_94_0 hV
            have hV45 : zV (ma_u (ma_u m 94 0 (0 : Int32)) 94 0 (3 : Int32)) := uf_94_0 hV44
            have li46 : (3 : Int32).toInt = 3 := rfl
            exact K ((0 : Int32)) _ (zF_u (zF_u zF_rfl rfl) rfl) hV45 (show (¬ ((0 ≤ ix.toInt ∧ ix.toInt ≤ 15)) ∧ (3 : Int32).toInt = 1) ∨ (((0 ≤ ix.toInt ∧ ix.toInt ≤ 15)) ∧ (3 : Int32).toInt = 2) from by omega)
        · skip
          have g47 := i_ne h22
          have hV48 : zV (ma_u m 94 0 (0 : Int32)) := uf_94_0 hV
          refine sp_245 (ob) hV48 (show zW (m 94 7) (m 98) (m 101) (m 102) (m 108) from by first | (exfalso; omega; done) | (exfalso; contradiction; done)) (show zDX (m 94 10) (m 99) (m 112) (m 113) (m 114) (m 94 55) (m 98) (m 101) (m 102) (m 108) from by first | (exfalso; omega; done) | (exfalso; contradiction; done)) (fun v2 m1 hV_m1 p0_m1 p1_m1 => zmi_n ?_)
          have p0_m1 : -1 ≤ v2.toInt ∧ v2.toInt ≤ 3099 := p0_m1
          have p1_m1 : v2.toInt < 0 ∨ (m 99) v2.toNatClampNeg ≠ 0 := p1_m1
          refine zd (fun (h49 : ob = (-1 : Int32)) => ?_) (fun (h49 : ¬ ob = (-1 : Int32)) => ?_)
          · skip
            have g50 := i_eq h49
            have hg51 : (0 ≤ ix ∧ ix.toNatClampNeg < 16) := i_ix (by omega) (by omega)
            refine ⟨hg51, ?_⟩
            first | have f52 : -1 ≤ (m 113 ix.toNatClampNeg).toInt ∧ (m 113 ix.toNatClampNeg).toInt ≤ 3099 := ra_113 (m := m) hV (k := ix.toNatClampNeg) (i_ix (n := 16) (by omega) (by omega)).2 | have b53 := i_bd (m 113 ix.toNatClampNeg)
            refine zd (fun (h54 : (0 : Int32) ≤ (m 113 ix.toNatClampNeg)) => ?_) (fun (h54 : ¬ (0 : Int32) ≤ (m 113 ix.toNatClampNeg)) => ?_)
            · skip
              have g55 := i_le h54
              have hg56 : (0 ≤ (m 113 ix.toNatClampNeg) ∧ (m 113 ix.toNatClampNeg).toNatClampNeg < 3100) := i_ix (by omega) (by omega)
              refine ⟨hg56, ?_⟩
              have hg57 : (0 ≤ ix ∧ ix.toNatClampNeg < 16) := i_ix (by omega) (by omega)
              refine ⟨hg57, ?_⟩
              have hV58 : zV (ma_u (zov wr_245 (ma_u m 94 0 (0 : Int32)) m1) 94 0 (0 : Int32)) := uf_94_0 hV_m1
              have b60 := i_bd v2
              have hV59 : zV (ma_u (ma_u (zov wr_245 (ma_u m 94 0 (0 : Int32)) m1) 94 0 (0 : Int32)) 113 ix.toNatClampNeg v2) := ua_113 hV58 (by omega) (by omega)
              first | have f61 : 0 ≤ (m 100 (m 113 ix.toNatClampNeg).toNatClampNeg).toInt ∧ (m 100 (m 113 ix.toNatClampNeg).toNatClampNeg).toInt ≤ 100000 := ra_100 (m := m) hV (k := (m 113 ix.toNatClampNeg).toNatClampNeg) (i_ix (n := 3100) (by omega) (by omega)).2 | have b62 := i_bd (m 100 (m 113 ix.toNatClampNeg).toNatClampNeg)
              exact K ((m 100 (m 113 ix.toNatClampNeg).toNatClampNeg)) _ (zF_u (zF_u (zF_zov (zF_u zF_rfl rfl) ws_245_251) rfl) rfl) hV59 (show (¬ ((0 ≤ ix.toInt ∧ ix.toInt ≤ 15)) ∧ (0 : Int32).toInt = 1) ∨ (((0 ≤ ix.toInt ∧ ix.toInt ≤ 15)) ∧ (0 : Int32).toInt = 2) from by omega)
            · skip
              have g63 := i_nle h54
              have hg64 : (0 ≤ ix ∧ ix.toNatClampNeg < 16) := i_ix (by omega) (by omega)
              refine ⟨hg64, ?_⟩
              have hV65 : zV (ma_u (zov wr_245 (ma_u m 94 0 (0 : Int32)) m1) 94 0 (0 : Int32)) := uf_94_0 hV_m1
              have b67 := i_bd v2
              have hV66 : zV (ma_u (ma_u (zov wr_245 (ma_u m 94 0 (0 : Int32)) m1) 94 0 (0 : Int32)) 113 ix.toNatClampNeg v2) := ua_113 hV65 (by omega) (by omega)
              exact K ((-1 : Int32)) _ (zF_u (zF_u (zF_zov (zF_u zF_rfl rfl) ws_245_251) rfl) rfl) hV66 (show (¬ ((0 ≤ ix.toInt ∧ ix.toInt ≤ 15)) ∧ (0 : Int32).toInt = 1) ∨ (((0 ≤ ix.toInt ∧ ix.toInt ≤ 15)) ∧ (0 : Int32).toInt = 2) from by omega)
          · skip
            have g68 := i_ne h49
            have b69 := i_bd v2
            refine zd (fun (h70 : (0 : Int32) ≤ v2) => ?_) (fun (h70 : ¬ (0 : Int32) ≤ v2) => ?_)
            · skip
              have g71 := i_le h70
              have hg72 : (0 ≤ ix ∧ ix.toNatClampNeg < 16) := i_ix (by omega) (by omega)
              refine ⟨hg72, ?_⟩
              first | have f73 : -1 ≤ (m 113 ix.toNatClampNeg).toInt ∧ (m 113 ix.toNatClampNeg).toInt ≤ 3099 := ra_113 (m := m) hV (k := ix.toNatClampNeg) (i_ix (n := 16) (by omega) (by omega)).2 | have b74 := i_bd (m 113 ix.toNatClampNeg)
              refine zd (fun (h75 : (0 : Int32) ≤ (m 113 ix.toNatClampNeg)) => ?_) (fun (h75 : ¬ (0 : Int32) ≤ (m 113 ix.toNatClampNeg)) => ?_)
              · skip
                have g76 := i_le h75
                have hg77 : (0 ≤ (m 113 ix.toNatClampNeg) ∧ (m 113 ix.toNatClampNeg).toNatClampNeg < 3100) := i_ix (by omega) (by omega)
                refine ⟨hg77, ?_⟩
                have hg78 : (0 ≤ ix ∧ ix.toNatClampNeg < 16) := i_ix (by omega) (by omega)
                refine ⟨hg78, ?_⟩
                have hV79 : zV (ma_u (zov wr_245 (ma_u m 94 0 (0 : Int32)) m1) 94 0 (0 : Int32)) := uf_94_0 hV_m1
                have hV80 : zV (ma_u (ma_u (zov wr_245 (ma_u m 94 0 (0 : Int32)) m1) 94 0 (0 : Int32)) 113 ix.toNatClampNeg v2) := ua_113 hV79 (by omega) (by omega)
                first | have f81 : 0 ≤ (m 100 (m 113 ix.toNatClampNeg).toNatClampNeg).toInt ∧ (m 100 (m 113 ix.toNatClampNeg).toNatClampNeg).toInt ≤ 100000 := ra_100 (m := m) hV (k := (m 113 ix.toNatClampNeg).toNatClampNeg) (i_ix (n := 3100) (by omega) (by omega)).2 | have b82 := i_bd (m 100 (m 113 ix.toNatClampNeg).toNatClampNeg)
                exact K ((m 100 (m 113 ix.toNatClampNeg).toNatClampNeg)) _ (zF_u (zF_u (zF_zov (zF_u zF_rfl rfl) ws_245_251) rfl) rfl) hV80 (show (¬ ((0 ≤ ix.toInt ∧ ix.toInt ≤ 15)) ∧ (0 : Int32).toInt = 1) ∨ (((0 ≤ ix.toInt ∧ ix.toInt ≤ 15)) ∧ (0 : Int32).toInt = 2) from by omega)
              · skip
                have g83 := i_nle h75
                have hg84 : (0 ≤ ix ∧ ix.toNatClampNeg < 16) := i_ix (by omega) (by omega)
                refine ⟨hg84, ?_⟩
                have hV85 : zV (ma_u (zov wr_245 (ma_u m 94 0 (0 : Int32)) m1) 94 0 (0 : Int32)) := uf_94_0 hV_m1
                have hV86 : zV (ma_u (ma_u (zov wr_245 (ma_u m 94 0 (0 : Int32)) m1) 94 0 (0 : Int32)) 113 ix.toNatClampNeg v2) := ua_113 hV85 (by omega) (by omega)
                exact K ((-1 : Int32)) _ (zF_u (zF_u (zF_zov (zF_u zF_rfl rfl) ws_245_251) rfl) rfl) hV86 (show (¬ ((0 ≤ ix.toInt ∧ ix.toInt ≤ 15)) ∧ (0 : Int32).toInt = 1) ∨ (((0 ≤ ix.toInt ∧ ix.toInt ≤ 15)) ∧ (0 : Int32).toInt = 2) from by omega)
            · skip
              have g87 := i_nle h70
              have hV88 : zV (ma_u (zov wr_245 (ma_u m 94 0 (0 : Int32)) m1) 94 0 (3 : Int32)) := uf_94_0 hV_m1
              have li89 : (3 : Int32).toInt = 3 := rfl
              exact K ((0 : Int32)) _ (zF_u (zF_zov (zF_u zF_rfl rfl) ws_245_251) rfl) hV88 (show (¬ ((0 ≤ ix.toInt ∧ ix.toInt ≤ 15)) ∧ (3 : Int32).toInt = 1) ∨ (((0 ≤ ix.toInt ∧ ix.toInt ≤ 15)) ∧ (3 : Int32).toInt = 2) from by omega)
