/-! from 95.za0 -/
/-! the reference answers (written by wip/tools/gen15a.py) -/
/-! ANSWERS, once more: a choice, and what makes an answer one -/
def zSel (C A B : Prop) : Prop := (¬ C ∧ A) ∨ (C ∧ B)
def zFu (P : Int32 → Int32 → Prop) : Prop := ∀ th v th2 v2, P th v → P th2 v2 → th2.toInt = th.toInt ∧ (th.toInt = 0 → v2 = v)
theorem fu_k {k : Int} (h : k ≠ 0) : zFu (fun th _ => th.toInt = k) := fun th v th2 v2 a b => ⟨b.trans a.symm, fun z => absurd (a.symm.trans z) h⟩
theorem fu_v {x : Int32} : zFu (fun th v => th.toInt = 0 ∧ v = x) := fun th v th2 v2 a b => ⟨b.1.trans a.1.symm, fun _ => b.2.trans a.2.symm⟩
theorem fu_s {C : Prop} {P Q : Int32 → Int32 → Prop} (h : zFu P) (g : zFu Q) : zFu (fun th v => zSel C (P th v) (Q th v)) := fun th v th2 v2 a b => by
  rcases a with a | a
  · rcases b with b | b
    · exact h th v th2 v2 a.2 b.2
    · exact absurd b.1 a.1
  · rcases b with b | b
    · exact absurd a.1 b.1
    · exact g th v th2 v2 a.2 b.2
def qSlt (i : Int32) : Prop := 0 ≤ i.toInt ∧ i.toInt ≤ 15
/-! where a heap stands -/
def qNwe (a : Nat → Nat → Int32) (i o th v : Int32) : Prop := zSel (qSlt i) (th.toInt = 1) (zSel (o = -1 ∨ zRq a o) (th.toInt = 3) (th.toInt = 0 ∧ v = a 73 i.toNatClampNeg))
def qNro (a : Nat → Nat → Int32) (i o th v : Int32) : Prop := zSel (qSlt i) (th.toInt = 1) (zSel (o = -1 ∨ zRq a o) (th.toInt = 3) (th.toInt = 0 ∧ v = aNm a (a 72 i.toNatClampNeg)))
def qNsg (a : Nat → Nat → Int32) (i r th v : Int32) : Prop := zSel (qSlt i ∧ qSlt r) (th.toInt = 1) (th.toInt = 0 ∧ v = aNm a (a 73 i.toNatClampNeg))
def qNgr (a : Nat → Nat → Int32) (r th v : Int32) : Prop := zSel (qSlt r) (th.toInt = 1) (th.toInt = 0 ∧ v = aNm a (aTy a))
def qNli (a : Nat → Nat → Int32) (o i t th v : Int32) : Prop := zSel (zRq a o ∧ (t = -1 ∨ zRq a t)) (th.toInt = 2) (zSel (zHw a o i) (th.toInt = 3) (zSel (zIr a o i) (th.toInt = 4) (th.toInt = 0 ∧ v = aNm a (aRef a o.toNatClampNeg i))))
def qNho (c : Prop) (a : Nat → Nat → Int32) (o b th v : Int32) : Prop := zSel (zRq a o) (th.toInt = 2) (zSel (c ∧ (¬ b = 0 ∨ ¬ a 133 o.toNatClampNeg = 0)) (th.toInt = 3) (th.toInt = 0 ∧ v = a 133 o.toNatClampNeg + (if b = 0 then -1 else 1)))
theorem fu_sg {a : Nat → Nat → Int32} {i r : Int32} : zFu (qNsg a i r) := fu_s (fu_k (by decide)) fu_v
section G1
variable {a : Nat → Nat → Int32} {us nr kr kd ws at₉ ho wd wi ow rt wk wl : Nat → Int32} {wm nu ro fo le ra pi o i s x : Int32} {k : Nat}
theorem R3_n (h : qR3 us nr rt a k) (h0 : 0 ≤ i.toInt) (h1 : i.toInt ≤ 15) (hx : (rt i.toNatClampNeg).toInt < 0) : a k i.toNatClampNeg = -1 := by
  have c := tn_cast h0
  rw [(h _ (by omega)).2]
  exact if_pos hx
theorem R3_y (h : qR3 us nr rt a k) (h0 : 0 ≤ i.toInt) (h1 : i.toInt ≤ 15) (hx : ¬ (rt i.toNatClampNeg).toInt < 0) : a k i.toNatClampNeg = nr (rt i.toNatClampNeg).toNatClampNeg := by
  have c := tn_cast h0
  rw [(h _ (by omega)).2]
  exact if_neg hx
/-- what a slot that is used, or none, is named -/
theorem Nm_R3 (hR : qR1 us nr ws at₉ ho a) (h : qR3 us nr rt a k) (h0 : 0 ≤ i.toInt) (h1 : i.toInt ≤ 15) : aNm a (a k i.toNatClampNeg) = a k i.toNatClampNeg := by
  have c := tn_cast h0
  have q := h i.toNatClampNeg (by omega)
  rw [q.2]
  exact Nm_no hR q.1
end G1
section G2
variable {a : Nat → Nat → Int32} {us nr kr kd ws at₉ ho wd wi ow rt wk wl : Nat → Int32} {wm nu ro fo le ra pi o i s x b po ol : Int32} {k : Nat} {c : Prop}
end G2
/-! from 95.za2 -/
/-! the reference answers (written by wip/tools/gen15a.py) -/
theorem sp_252an {X : Nat × (Nat → Int32)} {P : Option ma_V → (Nat → Nat → Int32) → Prop} {T : Nat} {aa : Nat→Nat→Int32} {ro : Int32} {fo : Int32} {le : Int32} {ra : Int32} {pi : Int32} {m : Nat → Nat → Int32} (ix : Int32) (r1 : Int32) (hV : zV m) (hpre0 : (m 94 8).toInt ≠ 0) (r_W : zW (m 94 7) (m 98) (m 101) (m 102) (m 108)) (r_GW : zGW T (m 94 55) (m 109)) (r_GU : zGU T (m 94 46) (m 99)) (r_OW : zOw (m 99) (m 103) (m 111)) (r_DX : zDX (m 94 10) (m 99) (m 112) (m 113) (m 114) (m 94 55) (m 98) (m 101) (m 102) (m 108)) (r_GG : zGG (m 94 58) (m 94 56) (m 94 57) (m 106)) (r_HA : zHA (m 94 10) (m 94 11) (m 94 13) (m 94 14) (m 94 16) (m 94 61) (m 94 59) (m 94 60) (m 99) (m 102) (m 103) (m 111) (m 117) (m 98) (m 101) (m 108)) (r_RGc : zRG (m 94 10) (m 94 18) (m 94 64) (m 94 63) (m 99) (m 103) (m 102) (m 116)) (hpre9 : (m 94 58).toInt = 0 ∨ (m 94 10).toInt = 5) (r_RB : qRB (m 99) (m 100) (m 98) (m 101) (m 102) (m 103) (m 107) (m 108) (m 109) (m 111) (m 112) (m 113) (m 114) (m 94 55) (m 94 46) ro fo le ra pi aa) (r_QI : qI aa) (KZ : ∀ v m₉, zV (zov wr_252 m m₉) → (qNsg aa ix r1 (m₉ 94 0) v) → P (some (.inl v)) (zov wr_252 m m₉)) : zm X 5 111 252 0 [(0, .inr (.inr (some 94))), (1, .inl ix), (2, .inl r1)] m P := by
  have K : ∀ v m₉, zF wr_252 m m₉ → zV m₉ → (qNsg aa ix r1 (m₉ 94 0) v) → P (some (.inl v)) m₉ := by
    intro v m₉ hf z q0
    have e := zov_eq hf
    rw [e] at z ⊢
    try rw [e] at q0
    exact KZ v m₉ z q0
  refine g_252_0 ix r1 ?_
  have f1 : 0 ≤ (m 94 8).toInt ∧ (m 94 8).toInt ≤ 1 := rs_94_8 (m := m) hV
  have f2 : 0 ≤ (m 94 58).toInt ∧ (m 94 58).toInt ≤ 1 := rs_94_58 (m := m) hV
  have f3 : 0 ≤ (m 94 10).toInt ∧ (m 94 10).toInt ≤ 6 := rs_94_10 (m := m) hV
  have b4 := i_bd ix
  have li5 : (0 : Int32).toInt = 0 := rfl
  refine zd (fun (h6 : ix < (0 : Int32)) => ?_) (fun (h6 : ¬ ix < (0 : Int32)) => ?_)
  · skip
    have g7 := i_lt h6
    have hV8 : zV (ma_u m 94 0 (1 : Int32)) := uf_94_0 hV
    exact K ((0 : Int32)) _ (zF_u zF_rfl rfl) hV8 (show qNsg aa ix r1 (1 : Int32) (0 : Int32) from by first | (exfalso; omega; done) | (exact Or.inl ⟨fun w => by have w1 := w.1.1; have w2 := w.1.2; have w3 := w.2.1; have w4 := w.2.2; omega, rfl⟩) | (exact Or.inr ⟨⟨⟨by omega, by omega⟩, ⟨by omega, by omega⟩⟩, rfl, ((Nm_R3 r_RB.1 r_RB.2.2.2.1 (by omega) (by omega)).trans (R3_n r_RB.2.2.2.1 (by omega) (by omega) (by omega))).symm⟩) | (exact Or.inr ⟨⟨⟨by omega, by omega⟩, ⟨by omega, by omega⟩⟩, rfl, ((Nm_R3 r_RB.1 r_RB.2.2.2.1 (by omega) (by omega)).trans (R3_y r_RB.2.2.2.1 (by omega) (by omega) (by omega))).symm⟩) | (exfalso; omega; done) | (exfalso; contradiction; done))
  · skip
    have g9 := i_nlt h6
    have li10 : (16 : Int32).toInt = 16 := rfl
    refine zd (fun (h11 : (16 : Int32) ≤ ix) => ?_) (fun (h11 : ¬ (16 : Int32) ≤ ix) => ?_)
    · skip
      have g12 := i_le h11
      have hV13 : zV (ma_u m 94 0 (1 : Int32)) := uf_94_0 hV
      exact K ((0 : Int32)) _ (zF_u zF_rfl rfl) hV13 (show qNsg aa ix r1 (1 : Int32) (0 : Int32) from by first | (exfalso; omega; done) | (exact Or.inl ⟨fun w => by have w1 := w.1.1; have w2 := w.1.2; have w3 := w.2.1; have w4 := w.2.2; omega, rfl⟩) | (exact Or.inr ⟨⟨⟨by omega, by omega⟩, ⟨by omega, by omega⟩⟩, rfl, ((Nm_R3 r_RB.1 r_RB.2.2.2.1 (by omega) (by omega)).trans (R3_n r_RB.2.2.2.1 (by omega) (by omega) (by omega))).symm⟩) | (exact Or.inr ⟨⟨⟨by omega, by omega⟩, ⟨by omega, by omega⟩⟩, rfl, ((Nm_R3 r_RB.1 r_RB.2.2.2.1 (by omega) (by omega)).trans (R3_y r_RB.2.2.2.1 (by omega) (by omega) (by omega))).symm⟩) | (exfalso; omega; done) | (exfalso; contradiction; done))
    · skip
      have g14 := i_nle h11
      have b15 := i_bd r1
      refine zd (fun (h16 : r1 < (0 : Int32)) => ?_) (fun (h16 : ¬ r1 < (0 : Int32)) => ?_)
      · skip
        have g17 := i_lt h16
        have hV18 : zV (ma_u m 94 0 (1 : Int32)) := uf_94_0 hV
        exact K ((0 : Int32)) _ (zF_u zF_rfl rfl) hV18 (show qNsg aa ix r1 (1 : Int32) (0 : Int32) from by first | (exfalso; omega; done) | (exact Or.inl ⟨fun w => by have w1 := w.1.1; have w2 := w.1.2; have w3 := w.2.1; have w4 := w.2.2; omega, rfl⟩) | (exact Or.inr ⟨⟨⟨by omega, by omega⟩, ⟨by omega, by omega⟩⟩, rfl, ((Nm_R3 r_RB.1 r_RB.2.2.2.1 (by omega) (by omega)).trans (R3_n r_RB.2.2.2.1 (by omega) (by omega) (by omega))).symm⟩) | (exact Or.inr ⟨⟨⟨by omega, by omega⟩, ⟨by omega, by omega⟩⟩, rfl, ((Nm_R3 r_RB.1 r_RB.2.2.2.1 (by omega) (by omega)).trans (R3_y r_RB.2.2.2.1 (by omega) (by omega) (by omega))).symm⟩) | (exfalso; omega; done) | (exfalso; contradiction; done))
      · skip
        have g19 := i_nlt h16
        refine zd (fun (h20 : (16 : Int32) ≤ r1) => ?_) (fun (h20 : ¬ (16 : Int32) ≤ r1) => ?_)
        · skip
          have g21 := i_le h20
          have hV22 : zV (ma_u m 94 0 (1 : Int32)) := uf_94_0 hV
          exact K ((0 : Int32)) _ (zF_u zF_rfl rfl) hV22 (show qNsg aa ix r1 (1 : Int32) (0 : Int32) from by first | (exfalso; omega; done) | (exact Or.inl ⟨fun w => by have w1 := w.1.1; have w2 := w.1.2; have w3 := w.2.1; have w4 := w.2.2; omega, rfl⟩) | (exact Or.inr ⟨⟨⟨by omega, by omega⟩, ⟨by omega, by omega⟩⟩, rfl, ((Nm_R3 r_RB.1 r_RB.2.2.2.1 (by omega) (by omega)).trans (R3_n r_RB.2.2.2.1 (by omega) (by omega) (by omega))).symm⟩) | (exact Or.inr ⟨⟨⟨by omega, by omega⟩, ⟨by omega, by omega⟩⟩, rfl, ((Nm_R3 r_RB.1 r_RB.2.2.2.1 (by omega) (by omega)).trans (R3_y r_RB.2.2.2.1 (by omega) (by omega) (by omega))).symm⟩) | (exfalso; omega; done) | (exfalso; contradiction; done))
        · skip
          have g23 := i_nle h20
          refine zd (fun (h24 : (m 94 8) = (0 : Int32)) => ?_) (fun (h24 : ¬ (m 94 8) = (0 : Int32)) => ?_)
          · skip
            have g25 := i_eq h24
            have hV26 : zV (ma_u m 94 0 (2 : Int32)) := uf_94_0 hV
            exact K ((0 : Int32)) _ (zF_u zF_rfl rfl) hV26 (show qNsg aa ix r1 (2 : Int32) (0 : Int32) from by first | (exfalso; omega; done) | (exact Or.inl ⟨fun w => by have w1 := w.1.1; have w2 := w.1.2; have w3 := w.2.1; have w4 := w.2.2; omega, rfl⟩) | (exact Or.inr ⟨⟨⟨by omega, by omega⟩, ⟨by omega, by omega⟩⟩, rfl, ((Nm_R3 r_RB.1 r_RB.2.2.2.1 (by omega) (by omega)).trans (R3_n r_RB.2.2.2.1 (by omega) (by omega) (by omega))).symm⟩) | (exact Or.inr ⟨⟨⟨by omega, by omega⟩, ⟨by omega, by omega⟩⟩, rfl, ((Nm_R3 r_RB.1 r_RB.2.2.2.1 (by omega) (by omega)).trans (R3_y r_RB.2.2.2.1 (by omega) (by omega) (by omega))).symm⟩) | (exfalso; omega; done) | (exfalso; contradiction; done))
          · skip
            have g27 := i_ne h24
            have hg28 : (0 ≤ ix ∧ ix.toNatClampNeg < 16) := i_ix (by omega) (by omega)
            refine ⟨hg28, ?_⟩
            first | have f29 : -1 ≤ (m 113 ix.toNatClampNeg).toInt ∧ (m 113 ix.toNatClampNeg).toInt ≤ 3099 := ra_113 (m := m) hV (k := ix.toNatClampNeg) (i_ix (n := 16) (by omega) (by omega)).2 | have b30 := i_bd (m 113 ix.toNatClampNeg)
            refine zd (fun (h31 : (0 : Int32) ≤ (m 113 ix.toNatClampNeg)) => ?_) (fun (h31 : ¬ (0 : Int32) ≤ (m 113 ix.toNatClampNeg)) => ?_)
            · skip
              have g32 := i_le h31
              refine zd (fun (h33 : (m 94 58) = (0 : Int32)) => ?_) (fun (h33 : ¬ (m 94 58) = (0 : Int32)) => ?_)
              · skip
                have g34 := i_eq h33
                have hV35 : zV (ma_u m 94 0 (0 : Int32)) := uf_94_0 hV
                refine sp_238 (r1) ((m 113 ix.toNatClampNeg)) hV35 (by omega) (by omega) (by omega) (by omega) (show ((m 94 10).toInt = 2 ∨ (m 94 10).toInt = 3) → (m 113 ix.toNatClampNeg).toInt < 0 ∨ (m 99) (m 113 ix.toNatClampNeg).toNatClampNeg ≠ 0 from by first | (exact fun hp => (r_DX hp).2.1 ix.toNatClampNeg (by rw [tn_cast (by omega)]; omega)) | (exfalso; omega; done) | (exfalso; contradiction; done)) r_W r_GW r_GU r_OW r_DX r_GG r_HA r_RGc (show (m 94 58).toInt = 0 ∨ (m 94 10).toInt = 5 from by omega) (fun m1 hV_m1 p0_m1 p1_m1 p2_m1 p3_m1 p4_m1 p5_m1 p6_m1 p7_m1 => zmv_n ?_)
                have p0_m1 : zGW T (m1 94 55) (m1 109) := p0_m1
                have p1_m1 : zGU T (m 94 46) (m1 99) := p1_m1
                have p2_m1 : zOw (m1 99) (m 103) (m1 111) := p2_m1
                have p3_m1 : zDX (m 94 10) (m1 99) (m1 112) (m1 113) (m1 114) (m1 94 55) (m 98) (m 101) (m 102) (m 108) := p3_m1
                have p4_m1 : zGG (m 94 58) (m1 94 56) (m 94 57) (m1 106) := p4_m1
                have p5_m1 : zHA (m 94 10) (m 94 11) (m 94 13) (m 94 14) (m 94 16) (m 94 61) (m 94 59) (m 94 60) (m1 99) (m 102) (m 103) (m1 111) (m 117) (m 98) (m 101) (m 108) := p5_m1
                have p6_m1 : zRG (m 94 10) (m 94 18) (m 94 64) (m 94 63) (m1 99) (m 103) (m 102) (m 116) := p6_m1
                have p7_m1 : (m 94 58).toInt = 0 ∨ (m 94 10).toInt = 5 := p7_m1
                have hg36 : (0 ≤ (m 113 ix.toNatClampNeg) ∧ (m 113 ix.toNatClampNeg).toNatClampNeg < 3100) := i_ix (by omega) (by omega)
                refine ⟨hg36, ?_⟩
                first | have f37 : 0 ≤ (m 100 (m 113 ix.toNatClampNeg).toNatClampNeg).toInt ∧ (m 100 (m 113 ix.toNatClampNeg).toNatClampNeg).toInt ≤ 100000 := ra_100 (m := m) hV (k := (m 113 ix.toNatClampNeg).toNatClampNeg) (i_ix (n := 3100) (by omega) (by omega)).2 | have b38 := i_bd (m 100 (m 113 ix.toNatClampNeg).toNatClampNeg)
                exact K ((m 100 (m 113 ix.toNatClampNeg).toNatClampNeg)) _ (zF_zov (zF_u zF_rfl rfl) ws_238_252) hV_m1 (show qNsg aa ix r1 (0 : Int32) (m 100 (m 113 ix.toNatClampNeg).toNatClampNeg) from by first | (exfalso; omega; done) | (exact Or.inl ⟨fun w => by have w1 := w.1.1; have w2 := w.1.2; have w3 := w.2.1; have w4 := w.2.2; omega, rfl⟩) | (exact Or.inr ⟨⟨⟨by omega, by omega⟩, ⟨by omega, by omega⟩⟩, rfl, ((Nm_R3 r_RB.1 r_RB.2.2.2.1 (by omega) (by omega)).trans (R3_n r_RB.2.2.2.1 (by omega) (by omega) (by omega))).symm⟩) | (exact Or.inr ⟨⟨⟨by omega, by omega⟩, ⟨by omega, by omega⟩⟩, rfl, ((Nm_R3 r_RB.1 r_RB.2.2.2.1 (by omega) (by omega)).trans (R3_y r_RB.2.2.2.1 (by omega) (by omega) (by omega))).symm⟩) | (exfalso; omega; done) | (exfalso; contradiction; done))
              · skip
                have g39 := i_ne h33
                refine zd (fun (h40 : (m 113 ix.toNatClampNeg) < (0 : Int32)) => ?_) (fun (h40 : ¬ (m 113 ix.toNatClampNeg) < (0 : Int32)) => ?_)
                · skip
                  have g41 := i_lt h40
                  have hV42 : zV (ma_u m 94 0 (0 : Int32)) := uf_94_0 hV
                  refine sp_238 (r1) ((m 113 ix.toNatClampNeg)) hV42 (by omega) (by omega) (by omega) (by omega) (show ((m 94 10).toInt = 2 ∨ (m 94 10).toInt = 3) → (m 113 ix.toNatClampNeg).toInt < 0 ∨ (m 99) (m 113 ix.toNatClampNeg).toNatClampNeg ≠ 0 from by first | (exact fun hp => (r_DX hp).2.1 ix.toNatClampNeg (by rw [tn_cast (by omega)]; omega)) | (exfalso; omega; done) | (exfalso; contradiction; done)) r_W r_GW r_GU r_OW r_DX r_GG r_HA r_RGc (show (m 94 58).toInt = 0 ∨ (m 94 10).toInt = 5 from by omega) (fun m3 hV_m3 p0_m3 p1_m3 p2_m3 p3_m3 p4_m3 p5_m3 p6_m3 p7_m3 => zmv_n ?_)
                  have p0_m3 : zGW T (m3 94 55) (m3 109) := p0_m3
                  have p1_m3 : zGU T (m 94 46) (m3 99) := p1_m3
                  have p2_m3 : zOw (m3 99) (m 103) (m3 111) := p2_m3
                  have p3_m3 : zDX (m 94 10) (m3 99) (m3 112) (m3 113) (m3 114) (m3 94 55) (m 98) (m 101) (m 102) (m 108) := p3_m3
                  have p4_m3 : zGG (m 94 58) (m3 94 56) (m 94 57) (m3 106) := p4_m3
                  have p5_m3 : zHA (m 94 10) (m 94 11) (m 94 13) (m 94 14) (m 94 16) (m 94 61) (m 94 59) (m 94 60) (m3 99) (m 102) (m 103) (m3 111) (m 117) (m 98) (m 101) (m 108) := p5_m3
                  have p6_m3 : zRG (m 94 10) (m 94 18) (m 94 64) (m 94 63) (m3 99) (m 103) (m 102) (m 116) := p6_m3
                  have p7_m3 : (m 94 58).toInt = 0 ∨ (m 94 10).toInt = 5 := p7_m3
                  have hg43 : (0 ≤ (m 113 ix.toNatClampNeg) ∧ (m 113 ix.toNatClampNeg).toNatClampNeg < 3100) := i_ix (by omega) (by omega)
                  refine ⟨hg43, ?_⟩
                  first | have f44 : 0 ≤ (m 100 (m 113 ix.toNatClampNeg).toNatClampNeg).toInt ∧ (m 100 (m 113 ix.toNatClampNeg).toNatClampNeg).toInt ≤ 100000 := ra_100 (m := m) hV (k := (m 113 ix.toNatClampNeg).toNatClampNeg) (i_ix (n := 3100) (by omega) (by omega)).2 | have b45 := i_bd (m 100 (m 113 ix.toNatClampNeg).toNatClampNeg)
                  exact K ((m 100 (m 113 ix.toNatClampNeg).toNatClampNeg)) _ (zF_zov (zF_u zF_rfl rfl) ws_238_252) hV_m3 (show qNsg aa ix r1 (0 : Int32) (m 100 (m 113 ix.toNatClampNeg).toNatClampNeg) from by first | (exfalso; omega; done) | (exact Or.inl ⟨fun w => by have w1 := w.1.1; have w2 := w.1.2; have w3 := w.2.1; have w4 := w.2.2; omega, rfl⟩) | (exact Or.inr ⟨⟨⟨by omega, by omega⟩, ⟨by omega, by omega⟩⟩, rfl, ((Nm_R3 r_RB.1 r_RB.2.2.2.1 (by omega) (by omega)).trans (R3_n r_RB.2.2.2.1 (by omega) (by omega) (by omega))).symm⟩) | (exact Or.inr ⟨⟨⟨by omega, by omega⟩, ⟨by omega, by omega⟩⟩, rfl, ((Nm_R3 r_RB.1 r_RB.2.2.2.1 (by omega) (by omega)).trans (R3_y r_RB.2.2.2.1 (by omega) (by omega) (by omega))).symm⟩) | (exfalso; omega; done) | (exfalso; contradiction; done))
                · skip
                  have g46 := i_nlt h40
                  have hg47 : (0 ≤ (m 113 ix.toNatClampNeg) ∧ (m 113 ix.toNatClampNeg).toNatClampNeg < 3100) := i_ix (by omega) (by omega)
                  refine ⟨hg47, ?_⟩
                  have b48 := i_bd (m 106 (m 113 ix.toNatClampNeg).toNatClampNeg)
                  refine zd (fun (h49 : (m 106 (m 113 ix.toNatClampNeg).toNatClampNeg) = (0 : Int32)) => ?_) (fun (h49 : ¬ (m 106 (m 113 ix.toNatClampNeg).toNatClampNeg) = (0 : Int32)) => ?_)
                  · skip
                    have g50 := i_eq h49
                    have hg51 : (0 ≤ (m 113 ix.toNatClampNeg) ∧ (m 113 ix.toNatClampNeg).toNatClampNeg < 3100) := i_ix (by omega) (by omega)
                    refine ⟨hg51, ?_⟩
                    have f52 : 0 ≤ (m 94 56).toInt ∧ (m 94 56).toInt ≤ 3100 := rs_94_56 (m := m) hV
                    try have gk := G1_room (r_GG (by omega)) (by assumption) (by omega)
                    have hg53 : (0 ≤ (m 94 56) ∧ (m 94 56).toNatClampNeg < 3100) := i_ix (by omega) (by omega)
                    refine ⟨hg53, ?_⟩
                    have hV54 : zV (ma_u m 94 0 (0 : Int32)) := uf_94_0 hV
                    have hV55 : zV (ma_u (ma_u m 94 0 (0 : Int32)) 106 (m 113 ix.toNatClampNeg).toNatClampNeg (1 : Int32)) := ua_106 hV54
                    have hV56 : zV (ma_u (ma_u (ma_u m 94 0 (0 : Int32)) 106 (m 113 ix.toNatClampNeg).toNatClampNeg (1 : Int32)) 115 (m 94 56).toNatClampNeg (m 113 ix.toNatClampNeg)) := ua_115 hV55 (by omega) (by omega)
                    first | have e58 : ((m 94 56) + (1 : Int32)).toInt = (m 94 56).toInt + (1) := i_addk rfl (by omega) (by omega) | have b59 := i_bd ((m 94 56) + (1 : Int32))
                    have hV57 : zV (ma_u (ma_u (ma_u (ma_u m 94 0 (0 : Int32)) 106 (m 113 ix.toNatClampNeg).toNatClampNeg (1 : Int32)) 115 (m 94 56).toNatClampNeg (m 113 ix.toNatClampNeg)) 94 56 ((m 94 56) + (1 : Int32))) := us_94_56 hV56 (by omega) (by omega)
                    refine sp_238 (r1) ((m 113 ix.toNatClampNeg)) hV57 (by omega) (by omega) (by omega) (by omega) (show ((m 94 10).toInt = 2 ∨ (m 94 10).toInt = 3) → (m 113 ix.toNatClampNeg).toInt < 0 ∨ (m 99) (m 113 ix.toNatClampNeg).toNatClampNeg ≠ 0 from by first | (exact fun hp => (r_DX hp).2.1 ix.toNatClampNeg (by rw [tn_cast (by omega)]; omega)) | (exfalso; omega; done) | (exfalso; contradiction; done)) r_W r_GW r_GU r_OW r_DX (show zGG (m 94 58) ((m 94 56) + (1 : Int32)) (m 94 57) ((ma_u m 106 (m 113 ix.toNatClampNeg).toNatClampNeg (1 : Int32)) 106) from by first | (exact fun z => G1_push (r_GG z) (by assumption) (by omega) (by decide) (by assumption)) | (exact fun z => absurd z (by decide)) | (exact fun z => absurd z (by omega)) | (exfalso; omega; done) | (exfalso; contradiction; done)) r_HA r_RGc (show (m 94 58).toInt = 0 ∨ (m 94 10).toInt = 5 from by omega) (fun m5 hV_m5 p0_m5 p1_m5 p2_m5 p3_m5 p4_m5 p5_m5 p6_m5 p7_m5 => zmv_n ?_)
                    have p0_m5 : zGW T (m5 94 55) (m5 109) := p0_m5
                    have p1_m5 : zGU T (m 94 46) (m5 99) := p1_m5
                    have p2_m5 : zOw (m5 99) (m 103) (m5 111) := p2_m5
                    have p3_m5 : zDX (m 94 10) (m5 99) (m5 112) (m5 113) (m5 114) (m5 94 55) (m 98) (m 101) (m 102) (m 108) := p3_m5
                    have p4_m5 : zGG (m 94 58) (m5 94 56) (m 94 57) (m5 106) := p4_m5
                    have p5_m5 : zHA (m 94 10) (m 94 11) (m 94 13) (m 94 14) (m 94 16) (m 94 61) (m 94 59) (m 94 60) (m5 99) (m 102) (m 103) (m5 111) (m 117) (m 98) (m 101) (m 108) := p5_m5
                    have p6_m5 : zRG (m 94 10) (m 94 18) (m 94 64) (m 94 63) (m5 99) (m 103) (m 102) (m 116) := p6_m5
                    have p7_m5 : (m 94 58).toInt = 0 ∨ (m 94 10).toInt = 5 := p7_m5
                    have hg60 : (0 ≤ (m 113 ix.toNatClampNeg) ∧ (m 113 ix.toNatClampNeg).toNatClampNeg < 3100) := i_ix (by omega) (by omega)
                    refine ⟨hg60, ?_⟩
                    first | have f61 : 0 ≤ (m 100 (m 113 ix.toNatClampNeg).toNatClampNeg).toInt ∧ (m 100 (m 113 ix.toNatClampNeg).toNatClampNeg).toInt ≤ 100000 := ra_100 (m := m) hV (k := (m 113 ix.toNatClampNeg).toNatClampNeg) (i_ix (n := 3100) (by omega) (by omega)).2 | have b62 := i_bd (m 100 (m 113 ix.toNatClampNeg).toNatClampNeg)
                    exact K ((m 100 (m 113 ix.toNatClampNeg).toNatClampNeg)) _ (zF_zov (zF_u (zF_u (zF_u (zF_u zF_rfl rfl) rfl) rfl) rfl) ws_238_252) hV_m5 (show qNsg aa ix r1 (0 : Int32) (m 100 (m 113 ix.toNatClampNeg).toNatClampNeg) from by first | (exfalso; omega; done) | (exact Or.inl ⟨fun w => by have w1 := w.1.1; have w2 := w.1.2; have w3 := w.2.1; have w4 := w.2.2; omega, rfl⟩) | (exact Or.inr ⟨⟨⟨by omega, by omega⟩, ⟨by omega, by omega⟩⟩, rfl, ((Nm_R3 r_RB.1 r_RB.2.2.2.1 (by omega) (by omega)).trans (R3_n r_RB.2.2.2.1 (by omega) (by omega) (by omega))).symm⟩) | (exact Or.inr ⟨⟨⟨by omega, by omega⟩, ⟨by omega, by omega⟩⟩, rfl, ((Nm_R3 r_RB.1 r_RB.2.2.2.1 (by omega) (by omega)).trans (R3_y r_RB.2.2.2.1 (by omega) (by omega) (by omega))).symm⟩) | (exfalso; omega; done) | (exfalso; contradiction; done))
                  · skip
                    have g63 := i_ne h49
                    have hV64 : zV (ma_u m 94 0 (0 : Int32)) := uf_94_0 hV
                    refine sp_238 (r1) ((m 113 ix.toNatClampNeg)) hV64 (by omega) (by omega) (by omega) (by omega) (show ((m 94 10).toInt = 2 ∨ (m 94 10).toInt = 3) → (m 113 ix.toNatClampNeg).toInt < 0 ∨ (m 99) (m 113 ix.toNatClampNeg).toNatClampNeg ≠ 0 from by first | (exact fun hp => (r_DX hp).2.1 ix.toNatClampNeg (by rw [tn_cast (by omega)]; omega)) | (exfalso; omega; done) | (exfalso; contradiction; done)) r_W r_GW r_GU r_OW r_DX r_GG r_HA r_RGc (show (m 94 58).toInt = 0 ∨ (m 94 10).toInt = 5 from by omega) (fun m7 hV_m7 p0_m7 p1_m7 p2_m7 p3_m7 p4_m7 p5_m7 p6_m7 p7_m7 => zmv_n ?_)
                    have p0_m7 : zGW T (m7 94 55) (m7 109) := p0_m7
                    have p1_m7 : zGU T (m 94 46) (m7 99) := p1_m7
                    have p2_m7 : zOw (m7 99) (m 103) (m7 111) := p2_m7
                    have p3_m7 : zDX (m 94 10) (m7 99) (m7 112) (m7 113) (m7 114) (m7 94 55) (m 98) (m 101) (m 102) (m 108) := p3_m7
                    have p4_m7 : zGG (m 94 58) (m7 94 56) (m 94 57) (m7 106) := p4_m7
                    have p5_m7 : zHA (m 94 10) (m 94 11) (m 94 13) (m 94 14) (m 94 16) (m 94 61) (m 94 59) (m 94 60) (m7 99) (m 102) (m 103) (m7 111) (m 117) (m 98) (m 101) (m 108) := p5_m7
                    have p6_m7 : zRG (m 94 10) (m 94 18) (m 94 64) (m 94 63) (m7 99) (m 103) (m 102) (m 116) := p6_m7
                    have p7_m7 : (m 94 58).toInt = 0 ∨ (m 94 10).toInt = 5 := p7_m7
                    have hg65 : (0 ≤ (m 113 ix.toNatClampNeg) ∧ (m 113 ix.toNatClampNeg).toNatClampNeg < 3100) := i_ix (by omega) (by omega)
                    refine ⟨hg65, ?_⟩
                    first | have f66 : 0 ≤ (m 100 (m 113 ix.toNatClampNeg).toNatClampNeg).toInt ∧ (m 100 (m 113 ix.toNatClampNeg).toNatClampNeg).toInt ≤ 100000 := ra_100 (m := m) hV (k := (m 113 ix.toNatClampNeg).toNatClampNeg) (i_ix (n := 3100) (by omega) (by omega)).2 | have b67 := i_bd (m 100 (m 113 ix.toNatClampNeg).toNatClampNeg)
                    exact K ((m 100 (m 113 ix.toNatClampNeg).toNatClampNeg)) _ (zF_zov (zF_u zF_rfl rfl) ws_238_252) hV_m7 (show qNsg aa ix r1 (0 : Int32) (m 100 (m 113 ix.toNatClampNeg).toNatClampNeg) from by first | (exfalso; omega; done) | (exact Or.inl ⟨fun w => by have w1 := w.1.1; have w2 := w.1.2; have w3 := w.2.1; have w4 := w.2.2; omega, rfl⟩) | (exact Or.inr ⟨⟨⟨by omega, by omega⟩, ⟨by omega, by omega⟩⟩, rfl, ((Nm_R3 r_RB.1 r_RB.2.2.2.1 (by omega) (by omega)).trans (R3_n r_RB.2.2.2.1 (by omega) (by omega) (by omega))).symm⟩) | (exact Or.inr ⟨⟨⟨by omega, by omega⟩, ⟨by omega, by omega⟩⟩, rfl, ((Nm_R3 r_RB.1 r_RB.2.2.2.1 (by omega) (by omega)).trans (R3_y r_RB.2.2.2.1 (by omega) (by omega) (by omega))).symm⟩) | (exfalso; omega; done) | (exfalso; contradiction; done))
            · skip
              have g68 := i_nle h31
              have hV69 : zV (ma_u m 94 0 (0 : Int32)) := uf_94_0 hV
              have li70 : (-1 : Int32).toInt = -1 := rfl
              exact K ((-1 : Int32)) _ (zF_u zF_rfl rfl) hV69 (show qNsg aa ix r1 (0 : Int32) (-1 : Int32) from by first | (exfalso; omega; done) | (exact Or.inl ⟨fun w => by have w1 := w.1.1; have w2 := w.1.2; have w3 := w.2.1; have w4 := w.2.2; omega, rfl⟩) | (exact Or.inr ⟨⟨⟨by omega, by omega⟩, ⟨by omega, by omega⟩⟩, rfl, ((Nm_R3 r_RB.1 r_RB.2.2.2.1 (by omega) (by omega)).trans (R3_n r_RB.2.2.2.1 (by omega) (by omega) (by omega))).symm⟩) | (exact Or.inr ⟨⟨⟨by omega, by omega⟩, ⟨by omega, by omega⟩⟩, rfl, ((Nm_R3 r_RB.1 r_RB.2.2.2.1 (by omega) (by omega)).trans (R3_y r_RB.2.2.2.1 (by omega) (by omega) (by omega))).symm⟩) | (exfalso; omega; done) | (exfalso; contradiction; done))
/-! from 95.za9 -/
/-! the reference answers (written by wip/tools/gen15a.py) -/
theorem sp_252av {X : Nat × (Nat → Int32)} {P : Option ma_V → (Nat → Nat → Int32) → Prop} {T : Nat} {m : Nat → Nat → Int32} (ix : Int32) (r1 : Int32) (hV : zV m) (hpre0 : (m 94 8).toInt = 0) (KZ : ∀ v m₉, zV (zov wr_252 m m₉) → ((¬ ((0 ≤ ix.toInt ∧ ix.toInt ≤ 15) ∧ (0 ≤ r1.toInt ∧ r1.toInt ≤ 15)) ∧ (m₉ 94 0).toInt = 1) ∨ (((0 ≤ ix.toInt ∧ ix.toInt ≤ 15) ∧ (0 ≤ r1.toInt ∧ r1.toInt ≤ 15)) ∧ (m₉ 94 0).toInt = 2)) → P (some (.inl v)) (zov wr_252 m m₉)) : zm X 5 111 252 0 [(0, .inr (.inr (some 94))), (1, .inl ix), (2, .inl r1)] m P := by
  have K : ∀ v m₉, zF wr_252 m m₉ → zV m₉ → ((¬ ((0 ≤ ix.toInt ∧ ix.toInt ≤ 15) ∧ (0 ≤ r1.toInt ∧ r1.toInt ≤ 15)) ∧ (m₉ 94 0).toInt = 1) ∨ (((0 ≤ ix.toInt ∧ ix.toInt ≤ 15) ∧ (0 ≤ r1.toInt ∧ r1.toInt ≤ 15)) ∧ (m₉ 94 0).toInt = 2)) → P (some (.inl v)) m₉ := by
    intro v m₉ hf z q0
    have e := zov_eq hf
    rw [e] at z ⊢
    try rw [e] at q0
    exact KZ v m₉ z q0
  refine g_252_0 ix r1 ?_
  have f1 : 0 ≤ (m 94 8).toInt ∧ (m 94 8).toInt ≤ 1 := rs_94_8 (m := m) hV
  have b2 := i_bd ix
  have li3 : (0 : Int32).toInt = 0 := rfl
  refine zd (fun (h4 : ix < (0 : Int32)) => ?_) (fun (h4 : ¬ ix < (0 : Int32)) => ?_)
  · skip
    have g5 := i_lt h4
    have hV6 : zV (ma_u m 94 0 (1 : Int32)) := uf_94_0 hV
    have li7 : (1 : Int32).toInt = 1 := rfl
    exact K ((0 : Int32)) _ (zF_u zF_rfl rfl) hV6 (show (¬ ((0 ≤ ix.toInt ∧ ix.toInt ≤ 15) ∧ (0 ≤ r1.toInt ∧ r1.toInt ≤ 15)) ∧ (1 : Int32).toInt = 1) ∨ (((0 ≤ ix.toInt ∧ ix.toInt ≤ 15) ∧ (0 ≤ r1.toInt ∧ r1.toInt ≤ 15)) ∧ (1 : Int32).toInt = 2) from by omega)
  · skip
    have g8 := i_nlt h4
    have li9 : (16 : Int32).toInt = 16 := rfl
    refine zd (fun (h10 : (16 : Int32) ≤ ix) => ?_) (fun (h10 : ¬ (16 : Int32) ≤ ix) => ?_)
    · skip
      have g11 := i_le h10
      have hV12 : zV (ma_u m 94 0 (1 : Int32)) := uf_94_0 hV
      have li13 : (1 : Int32).toInt = 1 := rfl
      exact K ((0 : Int32)) _ (zF_u zF_rfl rfl) hV12 (show (¬ ((0 ≤ ix.toInt ∧ ix.toInt ≤ 15) ∧ (0 ≤ r1.toInt ∧ r1.toInt ≤ 15)) ∧ (1 : Int32).toInt = 1) ∨ (((0 ≤ ix.toInt ∧ ix.toInt ≤ 15) ∧ (0 ≤ r1.toInt ∧ r1.toInt ≤ 15)) ∧ (1 : Int32).toInt = 2) from by omega)
    · skip
      have g14 := i_nle h10
      have b15 := i_bd r1
      refine zd (fun (h16 : r1 < (0 : Int32)) => ?_) (fun (h16 : ¬ r1 < (0 : Int32)) => ?_)
      · skip
        have g17 := i_lt h16
        have hV18 : zV (ma_u m 94 0 (1 : Int32)) := uf_94_0 hV
        have li19 : (1 : Int32).toInt = 1 := rfl
        exact K ((0 : Int32)) _ (zF_u zF_rfl rfl) hV18 (show (¬ ((0 ≤ ix.toInt ∧ ix.toInt ≤ 15) ∧ (0 ≤ r1.toInt ∧ r1.toInt ≤ 15)) ∧ (1 : Int32).toInt = 1) ∨ (((0 ≤ ix.toInt ∧ ix.toInt ≤ 15) ∧ (0 ≤ r1.toInt ∧ r1.toInt ≤ 15)) ∧ (1 : Int32).toInt = 2) from by omega)
      · skip
        have g20 := i_nlt h16
        refine zd (fun (h21 : (16 : Int32) ≤ r1) => ?_) (fun (h21 : ¬ (16 : Int32) ≤ r1) => ?_)
        · skip
          have g22 := i_le h21
          have hV23 : zV (ma_u m 94 0 (1 : Int32)) := uf_94_0 hV
          have li24 : (1 : Int32).toInt = 1 := rfl
          exact K ((0 : Int32)) _ (zF_u zF_rfl rfl) hV23 (show (¬ ((0 ≤ ix.toInt ∧ ix.toInt ≤ 15) ∧ (0 ≤ r1.toInt ∧ r1.toInt ≤ 15)) ∧ (1 : Int32).toInt = 1) ∨ (((0 ≤ ix.toInt ∧ ix.toInt ≤ 15) ∧ (0 ≤ r1.toInt ∧ r1.toInt ≤ 15)) ∧ (1 : Int32).toInt = 2) from by omega)
        · skip
          have g25 := i_nle h21
          refine zd (fun (h26 : (m 94 8) = (0 : Int32)) => ?_) (fun (h26 : ¬ (m 94 8) = (0 : Int32)) => ?_)
          · skip
            have g27 := i_eq h26
            have hV28 : zV (ma_u m 94 0 (2 : Int32)) := uf_94_0 hV
            have li29 : (2 : Int32).toInt = 2 := rfl
            exact K ((0 : Int32)) _ (zF_u zF_rfl rfl) hV28 (show (¬ ((0 ≤ ix.toInt ∧ ix.toInt ≤ 15) ∧ (0 ≤ r1.toInt ∧ r1.toInt ≤ 15)) ∧ (2 : Int32).toInt = 1) ∨ (((0 ≤ ix.toInt ∧ ix.toInt ≤ 15) ∧ (0 ≤ r1.toInt ∧ r1.toInt ≤ 15)) ∧ (2 : Int32).toInt = 2) from by omega)
          · skip
            have g30 := i_ne h26
            have hg31 : (0 ≤ ix ∧ ix.toNatClampNeg < 16) := i_ix (by omega) (by omega)
            refine ⟨hg31, ?_⟩
            first | have f32 : -1 ≤ (m 113 ix.toNatClampNeg).toInt ∧ (m 113 ix.toNatClampNeg).toInt ≤ 3099 := ra_113 (m := m) hV (k := ix.toNatClampNeg) (i_ix (n := 16) (by omega) (by omega)).2 | have b33 := i_bd (m 113 ix.toNatClampNeg)
            refine zd (fun (h34 : (0 : Int32) ≤ (m 113 ix.toNatClampNeg)) => ?_) (fun (h34 : ¬ (0 : Int32) ≤ (m 113 ix.toNatClampNeg)) => ?_)
            · skip
              have g35 := i_le h34
              have f36 : 0 ≤ (m 94 58).toInt ∧ (m 94 58).toInt ≤ 1 := rs_94_58 (m := m) hV
              refine zd (fun (h37 : (m 94 58) = (0 : Int32)) => ?_) (fun (h37 : ¬ (m 94 58) = (0 : Int32)) => ?_)
              · skip
                have g38 := i_eq h37
                have hV39 : zV (ma_u m 94 0 (0 : Int32)) := uf_94_0 hV
                have f40 : 0 ≤ (m 94 10).toInt ∧ (m 94 10).toInt ≤ 6 := rs_94_10 (m := m) hV
                refine sp_238 (r1) ((m 113 ix.toNatClampNeg)) hV39 (by omega) (by omega) (by omega) (by omega) (show ((m 94 10).toInt = 2 ∨ (m 94 10).toInt = 3) → (m 113 ix.toNatClampNeg).toInt < 0 ∨ (m 99) (m 113 ix.toNatClampNeg).toNatClampNeg ≠ 0 from by first | (exfalso; omega; done) | (exfalso; contradiction; done)) (show zW (m 94 7) (m 98) (m 101) (m 102) (m 108) from by first | (exfalso; omega; done) | (exfalso; contradiction; done)) (show zGW T (m 94 55) (m 109) from by first | (exfalso; omega; done) | (exfalso; contradiction; done)) (show zGU T (m 94 46) (m 99) from by first | (exfalso; omega; done) | (exfalso; contradiction; done)) (show zOw (m 99) (m 103) (m 111) from by first | (exfalso; omega; done) | (exfalso; contradiction; done)) (show zDX (m 94 10) (m 99) (m 112) (m 113) (m 114) (m 94 55) (m 98) (m 101) (m 102) (m 108) from by first | (exfalso; omega; done) | (exfalso; contradiction; done)) (show zGG (m 94 58) (m 94 56) (m 94 57) (m 106) from by first | (exact fun z => absurd z (by decide)) | (exact fun z => absurd z (by omega)) | (exfalso; omega; done) | (exfalso; contradiction; done)) (show zHA (m 94 10) (m 94 11) (m 94 13) (m 94 14) (m 94 16) (m 94 61) (m 94 59) (m 94 60) (m 99) (m 102) (m 103) (m 111) (m 117) (m 98) (m 101) (m 108) from by first | (exfalso; omega; done) | (exfalso; contradiction; done)) (show zRG (m 94 10) (m 94 18) (m 94 64) (m 94 63) (m 99) (m 103) (m 102) (m 116) from by first | (exfalso; omega; done) | (exfalso; contradiction; done)) (show (m 94 58).toInt = 0 ∨ (m 94 10).toInt = 5 from by omega) (fun m1 hV_m1 p0_m1 p1_m1 p2_m1 p3_m1 p4_m1 p5_m1 p6_m1 p7_m1 => zmv_n ?_)
                have p0_m1 : zGW T (m1 94 55) (m1 109) := p0_m1
                have p1_m1 : zGU T (m 94 46) (m1 99) := p1_m1
                have p2_m1 : zOw (m1 99) (m 103) (m1 111) := p2_m1
                have p3_m1 : zDX (m 94 10) (m1 99) (m1 112) (m1 113) (m1 114) (m1 94 55) (m 98) (m 101) (m 102) (m 108) := p3_m1
                have p4_m1 : zGG (m 94 58) (m1 94 56) (m 94 57) (m1 106) := p4_m1
                have p5_m1 : zHA (m 94 10) (m 94 11) (m 94 13) (m 94 14) (m 94 16) (m 94 61) (m 94 59) (m 94 60) (m1 99) (m 102) (m 103) (m1 111) (m 117) (m 98) (m 101) (m 108) := p5_m1
                have p6_m1 : zRG (m 94 10) (m 94 18) (m 94 64) (m 94 63) (m1 99) (m 103) (m 102) (m 116) := p6_m1
                have p7_m1 : (m 94 58).toInt = 0 ∨ (m 94 10).toInt = 5 := p7_m1
                have hg41 : (0 ≤ (m 113 ix.toNatClampNeg) ∧ (m 113 ix.toNatClampNeg).toNatClampNeg < 3100) := i_ix (by omega) (by omega)
                refine ⟨hg41, ?_⟩
                first | have f42 : 0 ≤ (m 100 (m 113 ix.toNatClampNeg).toNatClampNeg).toInt ∧ (m 100 (m 113 ix.toNatClampNeg).toNatClampNeg).toInt ≤ 100000 := ra_100 (m := m) hV (k := (m 113 ix.toNatClampNeg).toNatClampNeg) (i_ix (n := 3100) (by omega) (by omega)).2 | have b43 := i_bd (m 100 (m 113 ix.toNatClampNeg).toNatClampNeg)
                exact K ((m 100 (m 113 ix.toNatClampNeg).toNatClampNeg)) _ (zF_zov (zF_u zF_rfl rfl) ws_238_252) hV_m1 (show (¬ ((0 ≤ ix.toInt ∧ ix.toInt ≤ 15) ∧ (0 ≤ r1.toInt ∧ r1.toInt ≤ 15)) ∧ (0 : Int32).toInt = 1) ∨ (((0 ≤ ix.toInt ∧ ix.toInt ≤ 15) ∧ (0 ≤ r1.toInt ∧ r1.toInt ≤ 15)) ∧ (0 : Int32).toInt = 2) from by omega)
              · skip
                have g44 := i_ne h37
                refine zd (fun (h45 : (m 113 ix.toNatClampNeg) < (0 : Int32)) => ?_) (fun (h45 : ¬ (m 113 ix.toNatClampNeg) < (0 : Int32)) => ?_)
                · skip
                  have g46 := i_lt h45
                  have hV47 : zV (ma_u m 94 0 (0 : Int32)) := uf_94_0 hV
                  have f48 : 0 ≤ (m 94 10).toInt ∧ (m 94 10).toInt ≤ 6 := rs_94_10 (m := m) hV
                  refine sp_238 (r1) ((m 113 ix.toNatClampNeg)) hV47 (by omega) (by omega) (by omega) (by omega) (show ((m 94 10).toInt = 2 ∨ (m 94 10).toInt = 3) → (m 113 ix.toNatClampNeg).toInt < 0 ∨ (m 99) (m 113 ix.toNatClampNeg).toNatClampNeg ≠ 0 from by first | (exfalso; omega; done) | (exfalso; contradiction; done)) (show zW (m 94 7) (m 98) (m 101) (m 102) (m 108) from by first | (exfalso; omega; done) | (exfalso; contradiction; done)) (show zGW T (m 94 55) (m 109) from by first | (exfalso; omega; done) | (exfalso; contradiction; done)) (show zGU T (m 94 46) (m 99) from by first | (exfalso; omega; done) | (exfalso; contradiction; done)) (show zOw (m 99) (m 103) (m 111) from by first | (exfalso; omega; done) | (exfalso; contradiction; done)) (show zDX (m 94 10) (m 99) (m 112) (m 113) (m 114) (m 94 55) (m 98) (m 101) (m 102) (m 108) from by first | (exfalso; omega; done) | (exfalso; contradiction; done)) (show zGG (m 94 58) (m 94 56) (m 94 57) (m 106) from by first | (exact fun z => absurd z (by decide)) | (exact fun z => absurd z (by omega)) | (exfalso; omega; done) | (exfalso; contradiction; done)) (show zHA (m 94 10) (m 94 11) (m 94 13) (m 94 14) (m 94 16) (m 94 61) (m 94 59) (m 94 60) (m 99) (m 102) (m 103) (m 111) (m 117) (m 98) (m 101) (m 108) from by first | (exfalso; omega; done) | (exfalso; contradiction; done)) (show zRG (m 94 10) (m 94 18) (m 94 64) (m 94 63) (m 99) (m 103) (m 102) (m 116) from by first | (exfalso; omega; done) | (exfalso; contradiction; done)) (show (m 94 58).toInt = 0 ∨ (m 94 10).toInt = 5 from by omega) (fun m3 hV_m3 p0_m3 p1_m3 p2_m3 p3_m3 p4_m3 p5_m3 p6_m3 p7_m3 => zmv_n ?_)
                  have p0_m3 : zGW T (m3 94 55) (m3 109) := p0_m3
                  have p1_m3 : zGU T (m 94 46) (m3 99) := p1_m3
                  have p2_m3 : zOw (m3 99) (m 103) (m3 111) := p2_m3
                  have p3_m3 : zDX (m 94 10) (m3 99) (m3 112) (m3 113) (m3 114) (m3 94 55) (m 98) (m 101) (m 102) (m 108) := p3_m3
                  have p4_m3 : zGG (m 94 58) (m3 94 56) (m 94 57) (m3 106) := p4_m3
                  have p5_m3 : zHA (m 94 10) (m 94 11) (m 94 13) (m 94 14) (m 94 16) (m 94 61) (m 94 59) (m 94 60) (m3 99) (m 102) (m 103) (m3 111) (m 117) (m 98) (m 101) (m 108) := p5_m3
                  have p6_m3 : zRG (m 94 10) (m 94 18) (m 94 64) (m 94 63) (m3 99) (m 103) (m 102) (m 116) := p6_m3
                  have p7_m3 : (m 94 58).toInt = 0 ∨ (m 94 10).toInt = 5 := p7_m3
                  have hg49 : (0 ≤ (m 113 ix.toNatClampNeg) ∧ (m 113 ix.toNatClampNeg).toNatClampNeg < 3100) := i_ix (by omega) (by omega)
                  refine ⟨hg49, ?_⟩
                  first | have f50 : 0 ≤ (m 100 (m 113 ix.toNatClampNeg).toNatClampNeg).toInt ∧ (m 100 (m 113 ix.toNatClampNeg).toNatClampNeg).toInt ≤ 100000 := ra_100 (m := m) hV (k := (m 113 ix.toNatClampNeg).toNatClampNeg) (i_ix (n := 3100) (by omega) (by omega)).2 | have b51 := i_bd (m 100 (m 113 ix.toNatClampNeg).toNatClampNeg)
                  exact K ((m 100 (m 113 ix.toNatClampNeg).toNatClampNeg)) _ (zF_zov (zF_u zF_rfl rfl) ws_238_252) hV_m3 (show (¬ ((0 ≤ ix.toInt ∧ ix.toInt ≤ 15) ∧ (0 ≤ r1.toInt ∧ r1.toInt ≤ 15)) ∧ (0 : Int32).toInt = 1) ∨ (((0 ≤ ix.toInt ∧ ix.toInt ≤ 15) ∧ (0 ≤ r1.toInt ∧ r1.toInt ≤ 15)) ∧ (0 : Int32).toInt = 2) from by omega)
                · skip
                  have g52 := i_nlt h45
                  have hg53 : (0 ≤ (m 113 ix.toNatClampNeg) ∧ (m 113 ix.toNatClampNeg).toNatClampNeg < 3100) := i_ix (by omega) (by omega)
                  refine ⟨hg53, ?_⟩
                  have b54 := i_bd (m 106 (m 113 ix.toNatClampNeg).toNatClampNeg)
                  refine zd (fun (h55 : (m 106 (m 113 ix.toNatClampNeg).toNatClampNeg) = (0 : Int32)) => ?_) (fun (h55 : ¬ (m 106 (m 113 ix.toNatClampNeg).toNatClampNeg) = (0 : Int32)) => ?_)
                  · skip
                    have g56 := i_eq h55
                    have hg57 : (0 ≤ (m 113 ix.toNatClampNeg) ∧ (m 113 ix.toNatClampNeg).toNatClampNeg < 3100) := i_ix (by omega) (by omega)
                    refine ⟨hg57, ?_⟩
                    have f58 : 0 ≤ (m 94 56).toInt ∧ (m 94 56).toInt ≤ 3100 := rs_94_56 (m := m) hV
                    have hg59 : (0 ≤ (m 94 56) ∧ (m 94 56).toNatClampNeg < 3100) := i_ix (by omega) (by omega)
                    refine ⟨hg59, ?_⟩
                    have hV60 : zV (ma_u m 94 0 (0 : Int32)) := uf_94_0 hV
                    have hV61 : zV (ma_u (ma_u m 94 0 (0 : Int32)) 106 (m 113 ix.toNatClampNeg).toNatClampNeg (1 : Int32)) := ua_106 hV60
                    have hV62 : zV (ma_u (ma_u (ma_u m 94 0 (0 : Int32)) 106 (m 113 ix.toNatClampNeg).toNatClampNeg (1 : Int32)) 115 (m 94 56).toNatClampNeg (m 113 ix.toNatClampNeg)) := ua_115 hV61 (by omega) (by omega)
                    first | have e64 : ((m 94 56) + (1 : Int32)).toInt = (m 94 56).toInt + (1) := i_addk rfl (by omega) (by omega) | have b65 := i_bd ((m 94 56) + (1 : Int32))
                    have hV63 : zV (ma_u (ma_u (ma_u (ma_u m 94 0 (0 : Int32)) 106 (m 113 ix.toNatClampNeg).toNatClampNeg (1 : Int32)) 115 (m 94 56).toNatClampNeg (m 113 ix.toNatClampNeg)) 94 56 ((m 94 56) + (1 : Int32))) := us_94_56 hV62 (by omega) (by omega)
                    have f66 : 0 ≤ (m 94 10).toInt ∧ (m 94 10).toInt ≤ 6 := rs_94_10 (m := m) hV
                    refine sp_238 (r1) ((m 113 ix.toNatClampNeg)) hV63 (by omega) (by omega) (by omega) (by omega) (show ((m 94 10).toInt = 2 ∨ (m 94 10).toInt = 3) → (m 113 ix.toNatClampNeg).toInt < 0 ∨ (m 99) (m 113 ix.toNatClampNeg).toNatClampNeg ≠ 0 from by first | (exfalso; omega; done) | (exfalso; contradiction; done)) (show zW (m 94 7) (m 98) (m 101) (m 102) (m 108) from by first | (exfalso; omega; done) | (exfalso; contradiction; done)) (show zGW T (m 94 55) (m 109) from by first | (exfalso; omega; done) | (exfalso; contradiction; done)) (show zGU T (m 94 46) (m 99) from by first | (exfalso; omega; done) | (exfalso; contradiction; done)) (show zOw (m 99) (m 103) (m 111) from by first | (exfalso; omega; done) | (exfalso; contradiction; done)) (show zDX (m 94 10) (m 99) (m 112) (m 113) (m 114) (m 94 55) (m 98) (m 101) (m 102) (m 108) from by first | (exfalso; omega; done) | (exfalso; contradiction; done)) (show zGG (m 94 58) ((m 94 56) + (1 : Int32)) (m 94 57) ((ma_u m 106 (m 113 ix.toNatClampNeg).toNatClampNeg (1 : Int32)) 106) from by first | (exact fun z => absurd z (by decide)) | (exact fun z => absurd z (by omega)) | (exfalso; omega; done) | (exfalso; contradiction; done)) (show zHA (m 94 10) (m 94 11) (m 94 13) (m 94 14) (m 94 16) (m 94 61) (m 94 59) (m 94 60) (m 99) (m 102) (m 103) (m 111) (m 117) (m 98) (m 101) (m 108) from by first | (exfalso; omega; done) | (exfalso; contradiction; done)) (show zRG (m 94 10) (m 94 18) (m 94 64) (m 94 63) (m 99) (m 103) (m 102) (m 116) from by first | (exfalso; omega; done) | (exfalso; contradiction; done)) (show (m 94 58).toInt = 0 ∨ (m 94 10).toInt = 5 from by omega) (fun m5 hV_m5 p0_m5 p1_m5 p2_m5 p3_m5 p4_m5 p5_m5 p6_m5 p7_m5 => zmv_n ?_)
                    have p0_m5 : zGW T (m5 94 55) (m5 109) := p0_m5
                    have p1_m5 : zGU T (m 94 46) (m5 99) := p1_m5
                    have p2_m5 : zOw (m5 99) (m 103) (m5 111) := p2_m5
                    have p3_m5 : zDX (m 94 10) (m5 99) (m5 112) (m5 113) (m5 114) (m5 94 55) (m 98) (m 101) (m 102) (m 108) := p3_m5
                    have p4_m5 : zGG (m 94 58) (m5 94 56) (m 94 57) (m5 106) := p4_m5
                    have p5_m5 : zHA (m 94 10) (m 94 11) (m 94 13) (m 94 14) (m 94 16) (m 94 61) (m 94 59) (m 94 60) (m5 99) (m 102) (m 103) (m5 111) (m 117) (m 98) (m 101) (m 108) := p5_m5
                    have p6_m5 : zRG (m 94 10) (m 94 18) (m 94 64) (m 94 63) (m5 99) (m 103) (m 102) (m 116) := p6_m5
                    have p7_m5 : (m 94 58).toInt = 0 ∨ (m 94 10).toInt = 5 := p7_m5
                    have hg67 : (0 ≤ (m 113 ix.toNatClampNeg) ∧ (m 113 ix.toNatClampNeg).toNatClampNeg < 3100) := i_ix (by omega) (by omega)
                    refine ⟨hg67, ?_⟩
                    first | have f68 : 0 ≤ (m 100 (m 113 ix.toNatClampNeg).toNatClampNeg).toInt ∧ (m 100 (m 113 ix.toNatClampNeg).toNatClampNeg).toInt ≤ 100000 := ra_100 (m := m) hV (k := (m 113 ix.toNatClampNeg).toNatClampNeg) (i_ix (n := 3100) (by omega) (by omega)).2 | have b69 := i_bd (m 100 (m 113 ix.toNatClampNeg).toNatClampNeg)
                    exact K ((m 100 (m 113 ix.toNatClampNeg).toNatClampNeg)) _ (zF_zov (zF_u (zF_u (zF_u (zF_u zF_rfl rfl) rfl) rfl) rfl) ws_238_252) hV_m5 (show (¬ ((0 ≤ ix.toInt ∧ ix.toInt ≤ 15) ∧ (0 ≤ r1.toInt ∧ r1.toInt ≤ 15)) ∧ (0 : Int32).toInt = 1) ∨ (((0 ≤ ix.toInt ∧ ix.toInt ≤ 15) ∧ (0 ≤ r1.toInt ∧ r1.toInt ≤ 15)) ∧ (0 : Int32).toInt = 2) from by omega)
                  · skip
                    have g70 := i_ne h55
                    have hV71 : zV (ma_u m 94 0 (0 : Int32)) := uf_94_0 hV
                    have f72 : 0 ≤ (m 94 10).toInt ∧ (m 94 10).toInt ≤ 6 := rs_94_10 (m := m) hV
                    refine sp_238 (r1) ((m 113 ix.toNatClampNeg)) hV71 (by omega) (by omega) (by omega) (by omega) (show ((m 94 10).toInt = 2 ∨ (m 94 10).toInt = 3) → (m 113 ix.toNatClampNeg).toInt < 0 ∨ (m 99) (m 113 ix.toNatClampNeg).toNatClampNeg ≠ 0 from by first | (exfalso; omega; done) | (exfalso; contradiction; done)) (show zW (m 94 7) (m 98) (m 101) (m 102) (m 108) from by first | (exfalso; omega; done) | (exfalso; contradiction; done)) (show zGW T (m 94 55) (m 109) from by first | (exfalso; omega; done) | (exfalso; contradiction; done)) (show zGU T (m 94 46) (m 99) from by first | (exfalso; omega; done) | (exfalso; contradiction; done)) (show zOw (m 99) (m 103) (m 111) from by first | (exfalso; omega; done) | (exfalso; contradiction; done)) (show zDX (m 94 10) (m 99) (m 112) (m 113) (m 114) (m 94 55) (m 98) (m 101) (m 102) (m 108) from by first | (exfalso; omega; done) | (exfalso; contradiction; done)) (show zGG (m 94 58) (m 94 56) (m 94 57) (m 106) from by first | (exact fun z => absurd z (by decide)) | (exact fun z => absurd z (by omega)) | (exfalso; omega; done) | (exfalso; contradiction; done)) (show zHA (m 94 10) (m 94 11) (m 94 13) (m 94 14) (m 94 16) (m 94 61) (m 94 59) (m 94 60) (m 99) (m 102) (m 103) (m 111) (m 117) (m 98) (m 101) (m 108) from by first | (exfalso; omega; done) | (exfalso; contradiction; done)) (show zRG (m 94 10) (m 94 18) (m 94 64) (m 94 63) (m 99) (m 103) (m 102) (m 116) from by first | (exfalso; omega; done) | (exfalso; contradiction; done)) (show (m 94 58).toInt = 0 ∨ (m 94 10).toInt = 5 from by omega) (fun m7 hV_m7 p0_m7 p1_m7 p2_m7 p3_m7 p4_m7 p5_m7 p6_m7 p7_m7 => zmv_n ?_)
                    have p0_m7 : zGW T (m7 94 55) (m7 109) := p0_m7
                    have p1_m7 : zGU T (m 94 46) (m7 99) := p1_m7
                    have p2_m7 : zOw (m7 99) (m 103) (m7 111) := p2_m7
                    have p3_m7 : zDX (m 94 10) (m7 99) (m7 112) (m7 113) (m7 114) (m7 94 55) (m 98) (m 101) (m 102) (m 108) := p3_m7
                    have p4_m7 : zGG (m 94 58) (m7 94 56) (m 94 57) (m7 106) := p4_m7
                    have p5_m7 : zHA (m 94 10) (m 94 11) (m 94 13) (m 94 14) (m 94 16) (m 94 61) (m 94 59) (m 94 60) (m7 99) (m 102) (m 103) (m7 111) (m 117) (m 98) (m 101) (m 108) := p5_m7
                    have p6_m7 : zRG (m 94 10) (m 94 18) (m 94 64) (m 94 63) (m7 99) (m 103) (m 102) (m 116) := p6_m7
                    have p7_m7 : (m 94 58).toInt = 0 ∨ (m 94 10).toInt = 5 := p7_m7
                    have hg73 : (0 ≤ (m 113 ix.toNatClampNeg) ∧ (m 113 ix.toNatClampNeg).toNatClampNeg < 3100) := i_ix (by omega) (by omega)
                    refine ⟨hg73, ?_⟩
                    first | have f74 : 0 ≤ (m 100 (m 113 ix.toNatClampNeg).toNatClampNeg).toInt ∧ (m 100 (m 113 ix.toNatClampNeg).toNatClampNeg).toInt ≤ 100000 := ra_100 (m := m) hV (k := (m 113 ix.toNatClampNeg).toNatClampNeg) (i_ix (n := 3100) (by omega) (by omega)).2 | have b75 := i_bd (m 100 (m 113 ix.toNatClampNeg).toNatClampNeg)
                    exact K ((m 100 (m 113 ix.toNatClampNeg).toNatClampNeg)) _ (zF_zov (zF_u zF_rfl rfl) ws_238_252) hV_m7 (show (¬ ((0 ≤ ix.toInt ∧ ix.toInt ≤ 15) ∧ (0 ≤ r1.toInt ∧ r1.toInt ≤ 15)) ∧ (0 : Int32).toInt = 1) ∨ (((0 ≤ ix.toInt ∧ ix.toInt ≤ 15) ∧ (0 ≤ r1.toInt ∧ r1.toInt ≤ 15)) ∧ (0 : Int32).toInt = 2) from by omega)
            · skip
              have g76 := i_nle h34
              have hV77 : zV (ma_u m 94 0 (0 : Int32)) := uf_94_0 hV
              have li78 : (-1 : Int32).toInt = -1 := rfl
              exact K ((-1 : Int32)) _ (zF_u zF_rfl rfl) hV77 (show (¬ ((0 ≤ ix.toInt ∧ ix.toInt ≤ 15) ∧ (0 ≤ r1.toInt ∧ r1.toInt ≤ 15)) ∧ (0 : Int32).toInt = 1) ∨ (((0 ≤ ix.toInt ∧ ix.toInt ≤ 15) ∧ (0 ≤ r1.toInt ∧ r1.toInt ≤ 15)) ∧ (0 : Int32).toInt = 2) from by omega)
