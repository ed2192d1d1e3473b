/-! from 95.za0 -/
/-! the reference answers (written by wip/tools/gen15a.py) -/
/-! ANSWERS, once more: a choice, and what makes an answer one -/
def zSel (C A B : Prop) : Prop := (¬ C ∧ A) ∨ (C ∧ B)
def zFu (P : Int32 → Int32 → Prop) : Prop := ∀ th v th2 v2, P th v → P th2 v2 → th2.toInt = th.toInt ∧ (th.toInt = 0 → v2 = v)
theorem fu_k {k : Int} (h : k ≠ 0) : zFu (fun th _ => th.toInt = k) := fun th v th2 v2 a b => ⟨b.trans a.symm, fun z => absurd (a.symm.trans z) h⟩
theorem fu_v {x : Int32} : zFu (fun th v => th.toInt = 0 ∧ v = x) := fun th v th2 v2 a b => ⟨b.1.trans a.1.symm, fun _ => b.2.trans a.2.symm⟩
theorem fu_s {C : Prop} {P Q : Int32 → Int32 → Prop} (h : zFu P) (g : zFu Q) : zFu (fun th v => zSel C (P th v) (Q th v)) := fun th v th2 v2 a b => by
  rcases a with a | a
  · rcases b with b | b
    · exact h th v th2 v2 a.2 b.2
    · exact absurd b.1 a.1
  · rcases b with b | b
    · exact absurd a.1 b.1
    · exact g th v th2 v2 a.2 b.2
def qSlt (i : Int32) : Prop := 0 ≤ i.toInt ∧ i.toInt ≤ 15
/-! where a heap stands -/
def qNwe (a : Nat → Nat → Int32) (i o th v : Int32) : Prop := zSel (qSlt i) (th.toInt = 1) (zSel (o = -1 ∨ zRq a o) (th.toInt = 3) (th.toInt = 0 ∧ v = a 73 i.toNatClampNeg))
def qNro (a : Nat → Nat → Int32) (i o th v : Int32) : Prop := zSel (qSlt i) (th.toInt = 1) (zSel (o = -1 ∨ zRq a o) (th.toInt = 3) (th.toInt = 0 ∧ v = aNm a (a 72 i.toNatClampNeg)))
def qNsg (a : Nat → Nat → Int32) (i r th v : Int32) : Prop := zSel (qSlt i ∧ qSlt r) (th.toInt = 1) (th.toInt = 0 ∧ v = aNm a (a 73 i.toNatClampNeg))
def qNgr (a : Nat → Nat → Int32) (r th v : Int32) : Prop := zSel (qSlt r) (th.toInt = 1) (th.toInt = 0 ∧ v = aNm a (aTy a))
def qNli (a : Nat → Nat → Int32) (o i t th v : Int32) : Prop := zSel (zRq a o ∧ (t = -1 ∨ zRq a t)) (th.toInt = 2) (zSel (zHw a o i) (th.toInt = 3) (zSel (zIr a o i) (th.toInt = 4) (th.toInt = 0 ∧ v = aNm a (aRef a o.toNatClampNeg i))))
def qNho (c : Prop) (a : Nat → Nat → Int32) (o b th v : Int32) : Prop := zSel (zRq a o) (th.toInt = 2) (zSel (c ∧ (¬ b = 0 ∨ ¬ a 133 o.toNatClampNeg = 0)) (th.toInt = 3) (th.toInt = 0 ∧ v = a 133 o.toNatClampNeg + (if b = 0 then -1 else 1)))
section G1
variable {a : Nat → Nat → Int32} {us nr kr kd ws at₉ ho wd wi ow rt wk wl : Nat → Int32} {wm nu ro fo le ra pi o i s x : Int32} {k : Nat}
end G1
section G2
variable {a : Nat → Nat → Int32} {us nr kr kd ws at₉ ho wd wi ow rt wk wl : Nat → Int32} {wm nu ro fo le ra pi o i s x b po ol : Int32} {k : Nat} {c : Prop}
end G2
/-! from 95.za5 -/
/-! the reference answers (written by wip/tools/gen15a.py) -/
theorem sp_244av {X : Nat × (Nat → Int32)} {P : Option ma_V → (Nat → Nat → Int32) → Prop} {m : Nat → Nat → Int32} (ob : Int32) (ix : Int32) (va : Int32) (hV : zV m) (hpre0 : (m 94 8).toInt = 0) (KZ : ∀ v m₉, zV (zov wr_244 m m₉) → ((m₉ 94 0).toInt = 1) → P (some (.inl v)) (zov wr_244 m m₉)) : zm X 5 109 244 0 [(0, .inr (.inr (some 94))), (1, .inl ob), (2, .inl ix), (3, .inl va)] m P := by
  have K : ∀ v m₉, zF wr_244 m m₉ → zV m₉ → ((m₉ 94 0).toInt = 1) → P (some (.inl v)) m₉ := by
    intro v m₉ hf z q0
    have e := zov_eq hf
    rw [e] at z ⊢
    try rw [e] at q0
    exact KZ v m₉ z q0
  refine g_244_0 ob ix va ?_
  have f1 : 0 ≤ (m 94 8).toInt ∧ (m 94 8).toInt ≤ 1 := rs_94_8 (m := m) hV
  have li2 : (0 : Int32).toInt = 0 := rfl
  refine zd (fun (h3 : (m 94 8) = (0 : Int32)) => ?_) (fun (h3 : ¬ (m 94 8) = (0 : Int32)) => ?_)
  · skip
    have g4 := i_eq h3
    have hV5 : zV (ma_u m 94 0 (1 : Int32)) := uf_94_0 hV
    have li6 : (1 : Int32).toInt = 1 := rfl
    exact K ((0 : Int32)) _ (zF_u zF_rfl rfl) hV5 (show (1 : Int32).toInt = 1 from by omega)
  · skip
    have g7 := i_ne h3
    have b8 := i_bd ob
    have hV9 : zV (ma_u m 94 0 (0 : Int32)) := uf_94_0 hV
    refine sp_245 (ob) hV9 (show zW (m 94 7) (m 98) (m 101) (m 102) (m 108) from by first | (exfalso; omega; done) | (exfalso; contradiction; done)) (show zDX (m 94 10) (m 99) (m 112) (m 113) (m 114) (m 94 55) (m 98) (m 101) (m 102) (m 108) from by first | (exfalso; omega; done) | (exfalso; contradiction; done)) (fun v2 m1 hV_m1 p0_m1 p1_m1 => zmi_n ?_)
    have p0_m1 : -1 ≤ v2.toInt ∧ v2.toInt ≤ 3099 := p0_m1
    have p1_m1 : v2.toInt < 0 ∨ (m 99) v2.toNatClampNeg ≠ 0 := p1_m1
    have b10 := i_bd v2
    refine zd (fun (h11 : (0 : Int32) ≤ v2) => ?_) (fun (h11 : ¬ (0 : Int32) ≤ v2) => ?_)
    · skip
      have g12 := i_le h11
      have b13 := i_bd ix
      refine zd (fun (h14 : ix < (0 : Int32)) => ?_) (fun (h14 : ¬ ix < (0 : Int32)) => ?_)
      · skip
        have g15 := i_lt h14
        have hV16 : zV (ma_u (zov wr_245 (ma_u m 94 0 (0 : Int32)) m1) 94 0 (3 : Int32)) := uf_94_0 hV_m1
        have li17 : (3 : Int32).toInt = 3 := rfl
        exact K ((0 : Int32)) _ (zF_u (zF_zov (zF_u zF_rfl rfl) ws_245_244) rfl) hV16 (show (3 : Int32).toInt = 1 from by omega)
      · skip
        have g18 := i_nlt h14
        have hg19 : (0 ≤ v2 ∧ v2.toNatClampNeg < 3100) := i_ix (by omega) (by omega)
        refine ⟨hg19, ?_⟩
        first | have f20 : 0 ≤ (m 102 v2.toNatClampNeg).toInt ∧ (m 102 v2.toNatClampNeg).toInt ≤ 60 := ra_102 (m := m) hV (k := v2.toNatClampNeg) (i_ix (n := 3100) (by omega) (by omega)).2 | have b21 := i_bd (m 102 v2.toNatClampNeg)
        refine zd (fun (h22 : ix < (m 102 v2.toNatClampNeg)) => ?_) (fun (h22 : ¬ ix < (m 102 v2.toNatClampNeg)) => ?_)
        · skip
          have g23 := i_lt h22
          have hg24 : (0 ≤ v2 ∧ v2.toNatClampNeg < 3100) := i_ix (by omega) (by omega)
          refine ⟨hg24, ?_⟩
          first | have f25 : 0 ≤ (m 101 v2.toNatClampNeg).toInt ∧ (m 101 v2.toNatClampNeg).toInt ≤ 17 := ra_101 (m := m) hV (k := v2.toNatClampNeg) (i_ix (n := 3100) (by omega) (by omega)).2 | have b26 := i_bd (m 101 v2.toNatClampNeg)
          have li27 : (16 : Int32).toInt = 16 := rfl
          refine zd (fun (h28 : (m 101 v2.toNatClampNeg) = (16 : Int32)) => ?_) (fun (h28 : ¬ (m 101 v2.toNatClampNeg) = (16 : Int32)) => ?_)
          · skip
            have g29 := i_eq h28
            have hV30 : zV (ma_u (zov wr_245 (ma_u m 94 0 (0 : Int32)) m1) 94 0 (4 : Int32)) := uf_94_0 hV_m1
            have li31 : (4 : Int32).toInt = 4 := rfl
            exact K ((0 : Int32)) _ (zF_u (zF_zov (zF_u zF_rfl rfl) ws_245_244) rfl) hV30 (show (4 : Int32).toInt = 1 from by omega)
          · skip
            have g32 := i_ne h28
            have hg33 : (0 ≤ v2 ∧ v2.toNatClampNeg < 3100) := i_ix (by omega) (by omega)
            refine ⟨hg33, ?_⟩
            refine zd (fun (h34 : (16 : Int32) ≤ (m 101 v2.toNatClampNeg)) => ?_) (fun (h34 : ¬ (16 : Int32) ≤ (m 101 v2.toNatClampNeg)) => ?_)
            · skip
              have g35 := i_le h34
              have li36 : (60 : Int32).toInt = 60 := rfl
              first | have e37 : (v2 * (60 : Int32)).toInt = v2.toInt * 60 := i_mulk rfl (by omega) (by omega) | have b38 := i_bd (v2 * (60 : Int32))
              first | have e39 : ((v2 * (60 : Int32)) + ix).toInt = (v2 * (60 : Int32)).toInt + ix.toInt := i_add (by omega) (by omega) | have b40 := i_bd ((v2 * (60 : Int32)) + ix)
              have hg41 : (0 ≤ ((v2 * (60 : Int32)) + ix) ∧ ((v2 * (60 : Int32)) + ix).toNatClampNeg < 186000) := i_ix (by omega) (by omega)
              refine ⟨hg41, ?_⟩
              have hg42 : (0 ≤ ((v2 * (60 : Int32)) + ix) ∧ ((v2 * (60 : Int32)) + ix).toNatClampNeg < 186000) := i_ix (by omega) (by omega)
              refine ⟨hg42, ?_⟩
              have hV43 : zV (ma_u (zov wr_245 (ma_u m 94 0 (0 : Int32)) m1) 94 0 (0 : Int32)) := uf_94_0 hV_m1
              have hV44 : zV (ma_u (ma_u (zov wr_245 (ma_u m 94 0 (0 : Int32)) m1) 94 0 (0 : Int32)) 108 ((v2 * (60 : Int32)) + ix).toNatClampNeg va) := ua_108 hV43
              have b45 := i_bd (m 108 ((v2 * (60 : Int32)) + ix).toNatClampNeg)
              exact K ((m 108 ((v2 * (60 : Int32)) + ix).toNatClampNeg)) _ (zF_u (zF_u (zF_zov (zF_u zF_rfl rfl) ws_245_244) rfl) rfl) hV44 (show (0 : Int32).toInt = 1 from by omega)
            · skip
              have g46 := i_nle h34
              have hg47 : (0 ≤ v2 ∧ v2.toNatClampNeg < 3100) := i_ix (by omega) (by omega)
              refine ⟨hg47, ?_⟩
              have hg48 : (0 ≤ (m 101 v2.toNatClampNeg) ∧ (m 101 v2.toNatClampNeg).toNatClampNeg < 16) := i_ix (by omega) (by omega)
              refine ⟨hg48, ?_⟩
              have b49 := i_bd (((m 98 (m 101 v2.toNatClampNeg).toNatClampNeg) >>> (ix &&& 31)) &&& (1 : Int32))
              have li50 : (1 : Int32).toInt = 1 := rfl
              refine zd (fun (h51 : (((m 98 (m 101 v2.toNatClampNeg).toNatClampNeg) >>> (ix &&& 31)) &&& (1 : Int32)) = (1 : Int32)) => ?_) (fun (h51 : ¬ (((m 98 (m 101 v2.toNatClampNeg).toNatClampNeg) >>> (ix &&& 31)) &&& (1 : Int32)) = (1 : Int32)) => ?_)
              · skip
                have g52 := i_eq h51
                have hV53 : zV (ma_u (zov wr_245 (ma_u m 94 0 (0 : Int32)) m1) 94 0 (4 : Int32)) := uf_94_0 hV_m1
                have li54 : (4 : Int32).toInt = 4 := rfl
                exact K ((0 : Int32)) _ (zF_u (zF_zov (zF_u zF_rfl rfl) ws_245_244) rfl) hV53 (show (4 : Int32).toInt = 1 from by omega)
              · skip
                have g55 := i_ne h51
                have li56 : (60 : Int32).toInt = 60 := rfl
                first | have e57 : (v2 * (60 : Int32)).toInt = v2.toInt * 60 := i_mulk rfl (by omega) (by omega) | have b58 := i_bd (v2 * (60 : Int32))
                first | have e59 : ((v2 * (60 : Int32)) + ix).toInt = (v2 * (60 : Int32)).toInt + ix.toInt := i_add (by omega) (by omega) | have b60 := i_bd ((v2 * (60 : Int32)) + ix)
                have hg61 : (0 ≤ ((v2 * (60 : Int32)) + ix) ∧ ((v2 * (60 : Int32)) + ix).toNatClampNeg < 186000) := i_ix (by omega) (by omega)
                refine ⟨hg61, ?_⟩
                have hg62 : (0 ≤ ((v2 * (60 : Int32)) + ix) ∧ ((v2 * (60 : Int32)) + ix).toNatClampNeg < 186000) := i_ix (by omega) (by omega)
                refine ⟨hg62, ?_⟩
                have hV63 : zV (ma_u (zov wr_245 (ma_u m 94 0 (0 : Int32)) m1) 94 0 (0 : Int32)) := uf_94_0 hV_m1
                have hV64 : zV (ma_u (ma_u (zov wr_245 (ma_u m 94 0 (0 : Int32)) m1) 94 0 (0 : Int32)) 108 ((v2 * (60 : Int32)) + ix).toNatClampNeg va) := ua_108 hV63
                have b65 := i_bd (m 108 ((v2 * (60 : Int32)) + ix).toNatClampNeg)
                exact K ((m 108 ((v2 * (60 : Int32)) + ix).toNatClampNeg)) _ (zF_u (zF_u (zF_zov (zF_u zF_rfl rfl) ws_245_244) rfl) rfl) hV64 (show (0 : Int32).toInt = 1 from by omega)
        · skip
          have g66 := i_nlt h22
          have hV67 : zV (ma_u (zov wr_245 (ma_u m 94 0 (0 : Int32)) m1) 94 0 (3 : Int32)) := uf_94_0 hV_m1
          have li68 : (3 : Int32).toInt = 3 := rfl
          exact K ((0 : Int32)) _ (zF_u (zF_zov (zF_u zF_rfl rfl) ws_245_244) rfl) hV67 (show (3 : Int32).toInt = 1 from by omega)
    · skip
      have g69 := i_nle h11
      have hV70 : zV (ma_u (zov wr_245 (ma_u m 94 0 (0 : Int32)) m1) 94 0 (2 : Int32)) := uf_94_0 hV_m1
      have li71 : (2 : Int32).toInt = 2 := rfl
      exact K ((0 : Int32)) _ (zF_u (zF_zov (zF_u zF_rfl rfl) ws_245_244) rfl) hV70 (show (2 : Int32).toInt = 1 from by omega)
theorem sp_249av {X : Nat × (Nat → Int32)} {P : Option ma_V → (Nat → Nat → Int32) → Prop} {m : Nat → Nat → Int32} (ob : Int32) (ix : Int32) (hV : zV m) (hpre0 : (m 94 8).toInt = 0) (KZ : ∀ v m₉, zV (zov wr_249 m m₉) → ((m₉ 94 0).toInt = 1) → P (some (.inl v)) (zov wr_249 m m₉)) : zm X 5 109 249 0 [(0, .inr (.inr (some 94))), (1, .inl ob), (2, .inl ix)] m P := by
  have K : ∀ v m₉, zF wr_249 m m₉ → zV m₉ → ((m₉ 94 0).toInt = 1) → P (some (.inl v)) m₉ := by
    intro v m₉ hf z q0
    have e := zov_eq hf
    rw [e] at z ⊢
    try rw [e] at q0
    exact KZ v m₉ z q0
  refine g_249_0 ob ix ?_
  have f1 : 0 ≤ (m 94 8).toInt ∧ (m 94 8).toInt ≤ 1 := rs_94_8 (m := m) hV
  have li2 : (0 : Int32).toInt = 0 := rfl
  refine zd (fun (h3 : (m 94 8) = (0 : Int32)) => ?_) (fun (h3 : ¬ (m 94 8) = (0 : Int32)) => ?_)
  · skip
    have g4 := i_eq h3
    have hV5 : zV (ma_u m 94 0 (1 : Int32)) := uf_94_0 hV
    have li6 : (1 : Int32).toInt = 1 := rfl
    exact K ((0 : Int32)) _ (zF_u zF_rfl rfl) hV5 (show (1 : Int32).toInt = 1 from by omega)
  · skip
    have g7 := i_ne h3
    have b8 := i_bd ob
    have hV9 : zV (ma_u m 94 0 (0 : Int32)) := uf_94_0 hV
    refine sp_245 (ob) hV9 (show zW (m 94 7) (m 98) (m 101) (m 102) (m 108) from by first | (exfalso; omega; done) | (exfalso; contradiction; done)) (show zDX (m 94 10) (m 99) (m 112) (m 113) (m 114) (m 94 55) (m 98) (m 101) (m 102) (m 108) from by first | (exfalso; omega; done) | (exfalso; contradiction; done)) (fun v2 m1 hV_m1 p0_m1 p1_m1 => zmi_n ?_)
    have p0_m1 : -1 ≤ v2.toInt ∧ v2.toInt ≤ 3099 := p0_m1
    have p1_m1 : v2.toInt < 0 ∨ (m 99) v2.toNatClampNeg ≠ 0 := p1_m1
    have b10 := i_bd v2
    refine zd (fun (h11 : (0 : Int32) ≤ v2) => ?_) (fun (h11 : ¬ (0 : Int32) ≤ v2) => ?_)
    · skip
      have g12 := i_le h11
      have b13 := i_bd ix
      refine zd (fun (h14 : ix < (0 : Int32)) => ?_) (fun (h14 : ¬ ix < (0 : Int32)) => ?_)
      · skip
        have g15 := i_lt h14
        have hV16 : zV (ma_u (zov wr_245 (ma_u m 94 0 (0 : Int32)) m1) 94 0 (3 : Int32)) := uf_94_0 hV_m1
        have li17 : (3 : Int32).toInt = 3 := rfl
        exact K ((0 : Int32)) _ (zF_u (zF_zov (zF_u zF_rfl rfl) ws_245_249) rfl) hV16 (show (3 : Int32).toInt = 1 from by omega)
      · skip
        have g18 := i_nlt h14
        have hg19 : (0 ≤ v2 ∧ v2.toNatClampNeg < 3100) := i_ix (by omega) (by omega)
        refine ⟨hg19, ?_⟩
        first | have f20 : 0 ≤ (m 102 v2.toNatClampNeg).toInt ∧ (m 102 v2.toNatClampNeg).toInt ≤ 60 := ra_102 (m := m) hV (k := v2.toNatClampNeg) (i_ix (n := 3100) (by omega) (by omega)).2 | have b21 := i_bd (m 102 v2.toNatClampNeg)
        refine zd (fun (h22 : ix < (m 102 v2.toNatClampNeg)) => ?_) (fun (h22 : ¬ ix < (m 102 v2.toNatClampNeg)) => ?_)
        · skip
          have g23 := i_lt h22
          have hg24 : (0 ≤ v2 ∧ v2.toNatClampNeg < 3100) := i_ix (by omega) (by omega)
          refine ⟨hg24, ?_⟩
          first | have f25 : 0 ≤ (m 101 v2.toNatClampNeg).toInt ∧ (m 101 v2.toNatClampNeg).toInt ≤ 17 := ra_101 (m := m) hV (k := v2.toNatClampNeg) (i_ix (n := 3100) (by omega) (by omega)).2 | have b26 := i_bd (m 101 v2.toNatClampNeg)
          have li27 : (16 : Int32).toInt = 16 := rfl
          refine zd (fun (h28 : (m 101 v2.toNatClampNeg) = (16 : Int32)) => ?_) (fun (h28 : ¬ (m 101 v2.toNatClampNeg) = (16 : Int32)) => ?_)
          · skip
            have g29 := i_eq h28
            have li30 : (60 : Int32).toInt = 60 := rfl
            first | have e31 : (v2 * (60 : Int32)).toInt = v2.toInt * 60 := i_mulk rfl (by omega) (by omega) | have b32 := i_bd (v2 * (60 : Int32))
            first | have e33 : ((v2 * (60 : Int32)) + ix).toInt = (v2 * (60 : Int32)).toInt + ix.toInt := i_add (by omega) (by omega) | have b34 := i_bd ((v2 * (60 : Int32)) + ix)
            have hg35 : (0 ≤ ((v2 * (60 : Int32)) + ix) ∧ ((v2 * (60 : Int32)) + ix).toNatClampNeg < 186000) := i_ix (by omega) (by omega)
            refine ⟨hg35, ?_⟩
            have b36 := i_bd (m 108 ((v2 * (60 : Int32)) + ix).toNatClampNeg)
            refine zd (fun (h37 : (0 : Int32) ≤ (m 108 ((v2 * (60 : Int32)) + ix).toNatClampNeg)) => ?_) (fun (h37 : ¬ (0 : Int32) ≤ (m 108 ((v2 * (60 : Int32)) + ix).toNatClampNeg)) => ?_)
            · skip
              have g38 := i_le h37
              have hg39 : (0 ≤ (m 108 ((v2 * (60 : Int32)) + ix).toNatClampNeg) ∧ (m 108 ((v2 * (60 : Int32)) + ix).toNatClampNeg).toNatClampNeg < 3100) := i_ix (by omega) (by omega)
              refine ⟨hg39, ?_⟩
              have hV40 : zV (ma_u (zov wr_245 (ma_u m 94 0 (0 : Int32)) m1) 94 0 (0 : Int32)) := uf_94_0 hV_m1
              first | have f41 : 0 ≤ (m 100 (m 108 ((v2 * (60 : Int32)) + ix).toNatClampNeg).toNatClampNeg).toInt ∧ (m 100 (m 108 ((v2 * (60 : Int32)) + ix).toNatClampNeg).toNatClampNeg).toInt ≤ 100000 := ra_100 (m := m) hV (k := (m 108 ((v2 * (60 : Int32)) + ix).toNatClampNeg).toNatClampNeg) (i_ix (n := 3100) (by omega) (by omega)).2 | have b42 := i_bd (m 100 (m 108 ((v2 * (60 : Int32)) + ix).toNatClampNeg).toNatClampNeg)
              exact K ((m 100 (m 108 ((v2 * (60 : Int32)) + ix).toNatClampNeg).toNatClampNeg)) _ (zF_u (zF_zov (zF_u zF_rfl rfl) ws_245_249) rfl) hV40 (show (0 : Int32).toInt = 1 from by omega)
            · skip
              have g43 := i_nle h37
              have hV44 : zV (ma_u (zov wr_245 (ma_u m 94 0 (0 : Int32)) m1) 94 0 (0 : Int32)) := uf_94_0 hV_m1
              have li45 : (-1 : Int32).toInt = -1 := rfl
              exact K ((-1 : Int32)) _ (zF_u (zF_zov (zF_u zF_rfl rfl) ws_245_249) rfl) hV44 (show (0 : Int32).toInt = 1 from by omega)
          · skip
            have g46 := i_ne h28
            have hg47 : (0 ≤ v2 ∧ v2.toNatClampNeg < 3100) := i_ix (by omega) (by omega)
            refine ⟨hg47, ?_⟩
            refine zd (fun (h48 : (16 : Int32) ≤ (m 101 v2.toNatClampNeg)) => ?_) (fun (h48 : ¬ (16 : Int32) ≤ (m 101 v2.toNatClampNeg)) => ?_)
            · skip
              have g49 := i_le h48
              have li50 : (60 : Int32).toInt = 60 := rfl
              first | have e51 : (v2 * (60 : Int32)).toInt = v2.toInt * 60 := i_mulk rfl (by omega) (by omega) | have b52 := i_bd (v2 * (60 : Int32))
              first | have e53 : ((v2 * (60 : Int32)) + ix).toInt = (v2 * (60 : Int32)).toInt + ix.toInt := i_add (by omega) (by omega) | have b54 := i_bd ((v2 * (60 : Int32)) + ix)
              have hg55 : (0 ≤ ((v2 * (60 : Int32)) + ix) ∧ ((v2 * (60 : Int32)) + ix).toNatClampNeg < 186000) := i_ix (by omega) (by omega)
              refine ⟨hg55, ?_⟩
              have hV56 : zV (ma_u (zov wr_245 (ma_u m 94 0 (0 : Int32)) m1) 94 0 (0 : Int32)) := uf_94_0 hV_m1
              have b57 := i_bd (m 108 ((v2 * (60 : Int32)) + ix).toNatClampNeg)
              exact K ((m 108 ((v2 * (60 : Int32)) + ix).toNatClampNeg)) _ (zF_u (zF_zov (zF_u zF_rfl rfl) ws_245_249) rfl) hV56 (show (0 : Int32).toInt = 1 from by omega)
            · skip
              have g58 := i_nle h48
              have hg59 : (0 ≤ v2 ∧ v2.toNatClampNeg < 3100) := i_ix (by omega) (by omega)
              refine ⟨hg59, ?_⟩
              have hg60 : (0 ≤ (m 101 v2.toNatClampNeg) ∧ (m 101 v2.toNatClampNeg).toNatClampNeg < 16) := i_ix (by omega) (by omega)
              refine ⟨hg60, ?_⟩
              have b61 := i_bd (((m 98 (m 101 v2.toNatClampNeg).toNatClampNeg) >>> (ix &&& 31)) &&& (1 : Int32))
              have li62 : (1 : Int32).toInt = 1 := rfl
              refine zd (fun (h63 : (((m 98 (m 101 v2.toNatClampNeg).toNatClampNeg) >>> (ix &&& 31)) &&& (1 : Int32)) = (1 : Int32)) => ?_) (fun (h63 : ¬ (((m 98 (m 101 v2.toNatClampNeg).toNatClampNeg) >>> (ix &&& 31)) &&& (1 : Int32)) = (1 : Int32)) => ?_)
              · skip
                have g64 := i_eq h63
                have li65 : (60 : Int32).toInt = 60 := rfl
                first | have e66 : (v2 * (60 : Int32)).toInt = v2.toInt * 60 := i_mulk rfl (by omega) (by omega) | have b67 := i_bd (v2 * (60 : Int32))
                first | have e68 : ((v2 * (60 : Int32)) + ix).toInt = (v2 * (60 : Int32)).toInt + ix.toInt := i_add (by omega) (by omega) | have b69 := i_bd ((v2 * (60 : Int32)) + ix)
                have hg70 : (0 ≤ ((v2 * (60 : Int32)) + ix) ∧ ((v2 * (60 : Int32)) + ix).toNatClampNeg < 186000) := i_ix (by omega) (by omega)
                refine ⟨hg70, ?_⟩
                have b71 := i_bd (m 108 ((v2 * (60 : Int32)) + ix).toNatClampNeg)
                refine zd (fun (h72 : (0 : Int32) ≤ (m 108 ((v2 * (60 : Int32)) + ix).toNatClampNeg)) => ?_) (fun (h72 : ¬ (0 : Int32) ≤ (m 108 ((v2 * (60 : Int32)) + ix).toNatClampNeg)) => ?_)
                · skip
                  have g73 := i_le h72
                  have hg74 : (0 ≤ (m 108 ((v2 * (60 : Int32)) + ix).toNatClampNeg) ∧ (m 108 ((v2 * (60 : Int32)) + ix).toNatClampNeg).toNatClampNeg < 3100) := i_ix (by omega) (by omega)
                  refine ⟨hg74, ?_⟩
                  have hV75 : zV (ma_u (zov wr_245 (ma_u m 94 0 (0 : Int32)) m1) 94 0 (0 : Int32)) := uf_94_0 hV_m1
                  first | have f76 : 0 ≤ (m 100 (m 108 ((v2 * (60 : Int32)) + ix).toNatClampNeg).toNatClampNeg).toInt ∧ (m 100 (m 108 ((v2 * (60 : Int32)) + ix).toNatClampNeg).toNatClampNeg).toInt ≤ 100000 := ra_100 (m := m) hV (k := (m 108 ((v2 * (60 : Int32)) + ix).toNatClampNeg).toNatClampNeg) (i_ix (n := 3100) (by omega) (by omega)).2 | have b77 := i_bd (m 100 (m 108 ((v2 * (60 : Int32)) + ix).toNatClampNeg).toNatClampNeg)
                  exact K ((m 100 (m 108 ((v2 * (60 : Int32)) + ix).toNatClampNeg).toNatClampNeg)) _ (zF_u (zF_zov (zF_u zF_rfl rfl) ws_245_249) rfl) hV75 (show (0 : Int32).toInt = 1 from by omega)
                · skip
                  have g78 := i_nle h72
                  have hV79 : zV (ma_u (zov wr_245 (ma_u m 94 0 (0 : Int32)) m1) 94 0 (0 : Int32)) := uf_94_0 hV_m1
                  have li80 : (-1 : Int32).toInt = -1 := rfl
                  exact K ((-1 : Int32)) _ (zF_u (zF_zov (zF_u zF_rfl rfl) ws_245_249) rfl) hV79 (show (0 : Int32).toInt = 1 from by omega)
              · skip
                have g81 := i_ne h63
                have li82 : (60 : Int32).toInt = 60 := rfl
                first | have e83 : (v2 * (60 : Int32)).toInt = v2.toInt * 60 := i_mulk rfl (by omega) (by omega) | have b84 := i_bd (v2 * (60 : Int32))
                first | have e85 : ((v2 * (60 : Int32)) + ix).toInt = (v2 * (60 : Int32)).toInt + ix.toInt := i_add (by omega) (by omega) | have b86 := i_bd ((v2 * (60 : Int32)) + ix)
                have hg87 : (0 ≤ ((v2 * (60 : Int32)) + ix) ∧ ((v2 * (60 : Int32)) + ix).toNatClampNeg < 186000) := i_ix (by omega) (by omega)
                refine ⟨hg87, ?_⟩
                have hV88 : zV (ma_u (zov wr_245 (ma_u m 94 0 (0 : Int32)) m1) 94 0 (0 : Int32)) := uf_94_0 hV_m1
                have b89 := i_bd (m 108 ((v2 * (60 : Int32)) + ix).toNatClampNeg)
                exact K ((m 108 ((v2 * (60 : Int32)) + ix).toNatClampNeg)) _ (zF_u (zF_zov (zF_u zF_rfl rfl) ws_245_249) rfl) hV88 (show (0 : Int32).toInt = 1 from by omega)
        · skip
          have g90 := i_nlt h22
          have hV91 : zV (ma_u (zov wr_245 (ma_u m 94 0 (0 : Int32)) m1) 94 0 (3 : Int32)) := uf_94_0 hV_m1
          have li92 : (3 : Int32).toInt = 3 := rfl
          exact K ((0 : Int32)) _ (zF_u (zF_zov (zF_u zF_rfl rfl) ws_245_249) rfl) hV91 (show (3 : Int32).toInt = 1 from by omega)
    · skip
      have g93 := i_nle h11
      have hV94 : zV (ma_u (zov wr_245 (ma_u m 94 0 (0 : Int32)) m1) 94 0 (2 : Int32)) := uf_94_0 hV_m1
      have li95 : (2 : Int32).toInt = 2 := rfl
      exact K ((0 : Int32)) _ (zF_u (zF_zov (zF_u zF_rfl rfl) ws_245_249) rfl) hV94 (show (2 : Int32).toInt = 1 from by omega)

/-! from 95.zf0 -/
/-! the reference: words that got free (written by wip/tools/gen15f.py) -/
/-! words that got free: what is answered and what is there make what was there -/
theorem i_ws {n w x o : Int32} (h : n + w = o) : (n + x) + (w - x) = o := by
  rw [← h, Int32.sub_eq_add_neg, Int32.add_assoc, ← Int32.add_assoc x, Int32.add_comm x w, Int32.add_assoc w, ← Int32.sub_eq_add_neg, Int32.sub_self, Int32.add_zero]
theorem i_wt {a b n m w : Int32} (h : n + w = a) (g : m + a = b) : (m + n) + w = b := by
  rw [← g, ← h, Int32.add_assoc]
/-! from 95.zk0 -/
/-! the reference: kind, step under the moving collectors; no heap (written by wip/tools/gen15k.py) -/
theorem sp_170um {X : Nat × (Nat → Int32)} {P : Option ma_V → (Nat → Nat → Int32) → Prop} {T : Nat} {aa : Nat→Nat→Int32} {ro : Int32} {fo : Int32} {le : Int32} {ra : Int32} {pi : Int32} {m : Nat → Nat → Int32} (nw : Int32) (rf : Int32) (hV : zV m) (hpre0 : T ≤ 512) (r_W : zW (m 94 7) (m 98) (m 101) (m 102) (m 108)) (r_GW : zGW T (m 94 55) (m 109)) (r_GU : zGU T (m 94 46) (m 99)) (r_OW : zOw (m 99) (m 103) (m 111)) (r_GG : zGG (m 94 58) (m 94 56) (m 94 57) (m 106)) (r_RB : qRB (m 99) (m 100) (m 98) (m 101) (m 102) (m 103) (m 107) (m 108) (m 109) (m 111) (m 112) (m 113) (m 114) (m 94 55) (m 94 46) ro fo le ra pi aa) (KZ : ∀ v m₉, zV (zov wr_170 m m₉) → (qRB (m 99) (m 100) (m₉ 98) (m 101) (m 102) (m 103) (m 107) (m 108) (m 109) (m 111) (m 112) (m 113) (m 114) (m 94 55) (m 94 46) ro fo le ra pi aa) → P (some (.inl v)) (zov wr_170 m m₉)) : zm X 1 21 170 0 [(0, .inr (.inr (some 94))), (1, .inl nw), (2, .inl rf)] m P := by
  have K : ∀ v m₉, zF wr_170 m m₉ → zV m₉ → (qRB (m₉ 99) (m₉ 100) (m₉ 98) (m₉ 101) (m₉ 102) (m₉ 103) (m₉ 107) (m₉ 108) (m₉ 109) (m₉ 111) (m₉ 112) (m₉ 113) (m₉ 114) (m₉ 94 55) (m₉ 94 46) ro fo le ra pi aa) → P (some (.inl v)) m₉ := by
    intro v m₉ hf z q0
    have e := zov_eq hf
    rw [e] at z ⊢
    try rw [e] at q0
    exact KZ v m₉ z q0
  refine g_170_0 nw rf ?_
  have b1 := i_bd nw
  have li2 : (0 : Int32).toInt = 0 := rfl
  refine zd (fun (h3 : nw < (0 : Int32)) => ?_) (fun (h3 : ¬ nw < (0 : Int32)) => ?_)
  · skip
    have g4 := i_lt h3
    have hV5 : zV (ma_u m 94 0 (1 : Int32)) := uf_94_0 hV
    exact K ((0 : Int32)) _ (zF_u zF_rfl rfl) hV5 r_RB
  · skip
    have g6 := i_nlt h3
    have li7 : (8 : Int32).toInt = 8 := rfl
    refine zd (fun (h8 : nw ≤ (8 : Int32)) => ?_) (fun (h8 : ¬ nw ≤ (8 : Int32)) => ?_)
    · skip
      have g9 := i_le h8
      have b10 := i_bd rf
      refine zd (fun (h11 : rf < (0 : Int32)) => ?_) (fun (h11 : ¬ rf < (0 : Int32)) => ?_)
      · skip
        have g12 := i_lt h11
        have hV13 : zV (ma_u m 94 0 (1 : Int32)) := uf_94_0 hV
        exact K ((0 : Int32)) _ (zF_u zF_rfl rfl) hV13 r_RB
      · skip
        have g14 := i_nlt h11
        have b15 := i_bd ((1 : Int32) <<< (nw &&& 31))
        refine zd (fun (h16 : rf < ((1 : Int32) <<< (nw &&& 31))) => ?_) (fun (h16 : ¬ rf < ((1 : Int32) <<< (nw &&& 31))) => ?_)
        · skip
          have g17 := i_lt h16
          have f18 : 0 ≤ (m 94 7).toInt ∧ (m 94 7).toInt ≤ 16 := rs_94_7 (m := m) hV
          have li19 : (16 : Int32).toInt = 16 := rfl
          refine zd (fun (h20 : (m 94 7) = (16 : Int32)) => ?_) (fun (h20 : ¬ (m 94 7) = (16 : Int32)) => ?_)
          · skip
            have g21 := i_eq h20
            have hV22 : zV (ma_u m 94 0 (2 : Int32)) := uf_94_0 hV
            exact K ((0 : Int32)) _ (zF_u zF_rfl rfl) hV22 r_RB
          · skip
            have g23 := i_ne h20
            have hg24 : (0 ≤ (m 94 7) ∧ (m 94 7).toNatClampNeg < 16) := i_ix (by omega) (by omega)
            refine ⟨hg24, ?_⟩
            try have sh := i_shl8 (n := nw) (by omega) (by omega)
            have hg25 : (0 ≤ (m 94 7) ∧ (m 94 7).toNatClampNeg < 16) := i_ix (by omega) (by omega)
            refine ⟨hg25, ?_⟩
            have hV26 : zV (ma_u m 94 0 (0 : Int32)) := uf_94_0 hV
            have hV27 : zV (ma_u (ma_u m 94 0 (0 : Int32)) 97 (m 94 7).toNatClampNeg nw) := ua_97 hV26 (by omega) (by omega)
            have hV28 : zV (ma_u (ma_u (ma_u m 94 0 (0 : Int32)) 97 (m 94 7).toNatClampNeg nw) 98 (m 94 7).toNatClampNeg rf) := ua_98 hV27 (by omega) (by omega)
            first | have e30 : ((m 94 7) + (1 : Int32)).toInt = (m 94 7).toInt + (1) := i_addk rfl (by omega) (by omega) | have b31 := i_bd ((m 94 7) + (1 : Int32))
            have hV29 : zV (ma_u (ma_u (ma_u (ma_u m 94 0 (0 : Int32)) 97 (m 94 7).toNatClampNeg nw) 98 (m 94 7).toNatClampNeg rf) 94 7 ((m 94 7) + (1 : Int32))) := us_94_7 hV28 (by omega) (by omega)
            first | have e32 : (((m 94 7) + (1 : Int32)) - (1 : Int32)).toInt = ((m 94 7) + (1 : Int32)).toInt - (1) := i_subk rfl (by omega) (by omega) | have b33 := i_bd (((m 94 7) + (1 : Int32)) - (1 : Int32))
            exact K ((((m 94 7) + (1 : Int32)) - (1 : Int32))) _ (zF_u (zF_u (zF_u (zF_u zF_rfl rfl) rfl) rfl) rfl) hV29 (show qRB (m 99) (m 100) ((ma_u m 98 (m 94 7).toNatClampNeg rf) 98) (m 101) (m 102) (m 103) (m 107) (m 108) (m 109) (m 111) (m 112) (m 113) (m 114) (m 94 55) (m 94 46) ro fo le ra pi aa from by first | (exact RB_kd r_RB r_W (tn_cast (by omega)) (fun t ht => (ra_101 hV ht).1)) | (exfalso; omega; done) | (exfalso; contradiction; done))
        · skip
          have g34 := i_nlt h16
          have hV35 : zV (ma_u m 94 0 (1 : Int32)) := uf_94_0 hV
          exact K ((0 : Int32)) _ (zF_u zF_rfl rfl) hV35 r_RB
    · skip
      have g36 := i_nle h8
      have hV37 : zV (ma_u m 94 0 (1 : Int32)) := uf_94_0 hV
      exact K ((0 : Int32)) _ (zF_u zF_rfl rfl) hV37 r_RB
theorem sp_257wm {X : Nat × (Nat → Int32)} {P : Option ma_V → (Nat → Nat → Int32) → Prop} {T : Nat} {m : Nat → Nat → Int32} (nn : Int32) (hV : zV m) (hpre0 : (m 94 8).toInt = 1) (hpre1 : ((m 94 10).toInt = 1 ∨ (m 94 10).toInt = 2 ∨ (m 94 10).toInt = 3 ∨ (m 94 10).toInt = 6)) (r_W : zW (m 94 7) (m 98) (m 101) (m 102) (m 108)) (r_GW : zGW T (m 94 55) (m 109)) (r_GU : zGU T (m 94 46) (m 99)) (r_OW : zOw (m 99) (m 103) (m 111)) (r_DX : zDX (m 94 10) (m 99) (m 112) (m 113) (m 114) (m 94 55) (m 98) (m 101) (m 102) (m 108)) (r_GG : zGG (m 94 58) (m 94 56) (m 94 57) (m 106)) (r_HA : zHA (m 94 10) (m 94 11) (m 94 13) (m 94 14) (m 94 16) (m 94 61) (m 94 59) (m 94 60) (m 99) (m 102) (m 103) (m 111) (m 117) (m 98) (m 101) (m 108)) (r_RGc : zRG (m 94 10) (m 94 18) (m 94 64) (m 94 63) (m 99) (m 103) (m 102) (m 116)) (hpre10 : (m 94 58).toInt = 0 ∨ (m 94 10).toInt = 5) (KZ : ∀ v m₉, zV (zov wr_257 m m₉) → (zW (m 94 7) (m 98) (m 101) (m 102) (m 108)) → (zGW T (m₉ 94 55) (m₉ 109)) → (zGU T (m 94 46) (m₉ 99)) → (zOw (m₉ 99) (m 103) (m₉ 111)) → (zDX (m 94 10) (m₉ 99) (m 112) (m₉ 113) (m₉ 114) (m₉ 94 55) (m 98) (m 101) (m 102) (m 108)) → (zGG (m₉ 94 58) (m₉ 94 56) (m₉ 94 57) (m₉ 106)) → (zHA (m 94 10) (m 94 11) (m 94 13) (m 94 14) (m 94 16) (m 94 61) (m 94 59) (m 94 60) (m₉ 99) (m 102) (m 103) (m₉ 111) (m 117) (m 98) (m 101) (m 108)) → (zRG (m 94 10) (m 94 18) (m 94 64) (m 94 63) (m₉ 99) (m 103) (m 102) (m 116)) → ((m₉ 94 58).toInt = 0 ∨ (m 94 10).toInt = 5) → (((nn.toInt < 0 ∨ 1000 < nn.toInt) ∧ (m₉ 94 0).toInt = 1) ∨ ((0 ≤ nn.toInt ∧ nn.toInt ≤ 1000) ∧ (m₉ 94 0).toInt = 3)) → ((m 98) = (m 98) ∧ (m₉ 99) = (m 99) ∧ (m 100) = (m 100) ∧ (m 101) = (m 101) ∧ (m 102) = (m 102) ∧ (m 103) = (m 103) ∧ (m 104) = (m 104) ∧ (m 107) = (m 107) ∧ (m 108) = (m 108) ∧ (m₉ 109) = (m 109) ∧ (m₉ 111) = (m 111) ∧ (m 112) = (m 112) ∧ (m₉ 113) = (m 113) ∧ (m₉ 114) = (m 114) ∧ (m 116) = (m 116) ∧ (m 117) = (m 117) ∧ (m 94 11) = (m 94 11) ∧ (m 94 13) = (m 94 13) ∧ (m 94 14) = (m 94 14) ∧ (m 94 15) = (m 94 15) ∧ (m 94 16) = (m 94 16) ∧ (m 94 18) = (m 94 18) ∧ (m 94 19) = (m 94 19) ∧ (m₉ 94 45) = (m 94 45) ∧ (m 94 46) = (m 94 46) ∧ (m₉ 94 55) = (m 94 55) ∧ (m₉ 94 58) = (m 94 58) ∧ (m 94 59) = (m 94 59) ∧ (m 94 60) = (m 94 60) ∧ (m 94 61) = (m 94 61) ∧ (m 94 63) = (m 94 63) ∧ (m 94 64) = (m 94 64)) → P (some (.inl v)) (zov wr_257 m m₉)) : zm X 5 109 257 0 [(0, .inr (.inr (some 94))), (1, .inl nn)] m P := by
  have K : ∀ v m₉, zF wr_257 m m₉ → zV m₉ → (zW (m₉ 94 7) (m₉ 98) (m₉ 101) (m₉ 102) (m₉ 108)) → (zGW T (m₉ 94 55) (m₉ 109)) → (zGU T (m₉ 94 46) (m₉ 99)) → (zOw (m₉ 99) (m₉ 103) (m₉ 111)) → (zDX (m₉ 94 10) (m₉ 99) (m₉ 112) (m₉ 113) (m₉ 114) (m₉ 94 55) (m₉ 98) (m₉ 101) (m₉ 102) (m₉ 108)) → (zGG (m₉ 94 58) (m₉ 94 56) (m₉ 94 57) (m₉ 106)) → (zHA (m₉ 94 10) (m₉ 94 11) (m₉ 94 13) (m₉ 94 14) (m₉ 94 16) (m₉ 94 61) (m₉ 94 59) (m₉ 94 60) (m₉ 99) (m₉ 102) (m₉ 103) (m₉ 111) (m₉ 117) (m₉ 98) (m₉ 101) (m₉ 108)) → (zRG (m₉ 94 10) (m₉ 94 18) (m₉ 94 64) (m₉ 94 63) (m₉ 99) (m₉ 103) (m₉ 102) (m₉ 116)) → ((m₉ 94 58).toInt = 0 ∨ (m₉ 94 10).toInt = 5) → (((nn.toInt < 0 ∨ 1000 < nn.toInt) ∧ (m₉ 94 0).toInt = 1) ∨ ((0 ≤ nn.toInt ∧ nn.toInt ≤ 1000) ∧ (m₉ 94 0).toInt = 3)) → ((m₉ 98) = (m 98) ∧ (m₉ 99) = (m 99) ∧ (m₉ 100) = (m 100) ∧ (m₉ 101) = (m 101) ∧ (m₉ 102) = (m 102) ∧ (m₉ 103) = (m 103) ∧ (m₉ 104) = (m 104) ∧ (m₉ 107) = (m 107) ∧ (m₉ 108) = (m 108) ∧ (m₉ 109) = (m 109) ∧ (m₉ 111) = (m 111) ∧ (m₉ 112) = (m 112) ∧ (m₉ 113) = (m 113) ∧ (m₉ 114) = (m 114) ∧ (m₉ 116) = (m 116) ∧ (m₉ 117) = (m 117) ∧ (m₉ 94 11) = (m 94 11) ∧ (m₉ 94 13) = (m 94 13) ∧ (m₉ 94 14) = (m 94 14) ∧ (m₉ 94 15) = (m 94 15) ∧ (m₉ 94 16) = (m 94 16) ∧ (m₉ 94 18) = (m 94 18) ∧ (m₉ 94 19) = (m 94 19) ∧ (m₉ 94 45) = (m 94 45) ∧ (m₉ 94 46) = (m 94 46) ∧ (m₉ 94 55) = (m 94 55) ∧ (m₉ 94 58) = (m 94 58) ∧ (m₉ 94 59) = (m 94 59) ∧ (m₉ 94 60) = (m 94 60) ∧ (m₉ 94 61) = (m 94 61) ∧ (m₉ 94 63) = (m 94 63) ∧ (m₉ 94 64) = (m 94 64)) → P (some (.inl v)) m₉ := by
    intro v m₉ hf z q0 q1 q2 q3 q4 q5 q6 q7 q8 q9 q10
    have e := zov_eq hf
    rw [e] at z ⊢
    try rw [e] at q0
    try rw [e] at q1
    try rw [e] at q2
    try rw [e] at q3
    try rw [e] at q4
    try rw [e] at q5
    try rw [e] at q6
    try rw [e] at q7
    try rw [e] at q8
    try rw [e] at q9
    try rw [e] at q10
    exact KZ v m₉ z q0 q1 q2 q3 q4 q5 q6 q7 q8 q9 q10
  refine g_257_0 nn ?_
  have f1 : 0 ≤ (m 94 8).toInt ∧ (m 94 8).toInt ≤ 1 := rs_94_8 (m := m) hV
  have f2 : 0 ≤ (m 94 10).toInt ∧ (m 94 10).toInt ≤ 6 := rs_94_10 (m := m) hV
  have f3 : 0 ≤ (m 94 58).toInt ∧ (m 94 58).toInt ≤ 1 := rs_94_58 (m := m) hV
  have b4 := i_bd nn
  have li5 : (0 : Int32).toInt = 0 := rfl
  refine zd (fun (h6 : nn < (0 : Int32)) => ?_) (fun (h6 : ¬ nn < (0 : Int32)) => ?_)
  · skip
    have g7 := i_lt h6
    have hV8 : zV (ma_u m 94 0 (1 : Int32)) := uf_94_0 hV
    have li9 : (1 : Int32).toInt = 1 := rfl
    exact K ((0 : Int32)) _ (zF_u zF_rfl rfl) hV8 r_W r_GW r_GU r_OW r_DX r_GG r_HA r_RGc (show (m 94 58).toInt = 0 ∨ (m 94 10).toInt = 5 from by omega) (show ((nn.toInt < 0 ∨ 1000 < nn.toInt) ∧ (1 : Int32).toInt = 1) ∨ ((0 ≤ nn.toInt ∧ nn.toInt ≤ 1000) ∧ (1 : Int32).toInt = 3) from by omega) (show (m 98) = (m 98) ∧ (m 99) = (m 99) ∧ (m 100) = (m 100) ∧ (m 101) = (m 101) ∧ (m 102) = (m 102) ∧ (m 103) = (m 103) ∧ (m 104) = (m 104) ∧ (m 107) = (m 107) ∧ (m 108) = (m 108) ∧ (m 109) = (m 109) ∧ (m 111) = (m 111) ∧ (m 112) = (m 112) ∧ (m 113) = (m 113) ∧ (m 114) = (m 114) ∧ (m 116) = (m 116) ∧ (m 117) = (m 117) ∧ (m 94 11) = (m 94 11) ∧ (m 94 13) = (m 94 13) ∧ (m 94 14) = (m 94 14) ∧ (m 94 15) = (m 94 15) ∧ (m 94 16) = (m 94 16) ∧ (m 94 18) = (m 94 18) ∧ (m 94 19) = (m 94 19) ∧ (m 94 45) = (m 94 45) ∧ (m 94 46) = (m 94 46) ∧ (m 94 55) = (m 94 55) ∧ (m 94 58) = (m 94 58) ∧ (m 94 59) = (m 94 59) ∧ (m 94 60) = (m 94 60) ∧ (m 94 61) = (m 94 61) ∧ (m 94 63) = (m 94 63) ∧ (m 94 64) = (m 94 64) from by first | (exact ⟨rfl, rfl, rfl, rfl, rfl, rfl, rfl, rfl, rfl, rfl, rfl, rfl, rfl, rfl, rfl, rfl, rfl, rfl, rfl, rfl, rfl, rfl, rfl, rfl, rfl, rfl, rfl, rfl, rfl, rfl, rfl, rfl⟩) | (exfalso; omega; done) | (exfalso; contradiction; done))
  · skip
    have g10 := i_nlt h6
    have li11 : (1000 : Int32).toInt = 1000 := rfl
    refine zd (fun (h12 : nn ≤ (1000 : Int32)) => ?_) (fun (h12 : ¬ nn ≤ (1000 : Int32)) => ?_)
    · skip
      have g13 := i_le h12
      refine zd (fun (h14 : (m 94 8) = (0 : Int32)) => ?_) (fun (h14 : ¬ (m 94 8) = (0 : Int32)) => ?_)
      · skip
        have g15 := i_eq h14
        have hV16 : zV (ma_u m 94 0 (2 : Int32)) := uf_94_0 hV
        have li17 : (2 : Int32).toInt = 2 := rfl
        exact K ((0 : Int32)) _ (zF_u zF_rfl rfl) hV16 r_W r_GW r_GU r_OW r_DX r_GG r_HA r_RGc (show (m 94 58).toInt = 0 ∨ (m 94 10).toInt = 5 from by omega) (show ((nn.toInt < 0 ∨ 1000 < nn.toInt) ∧ (2 : Int32).toInt = 1) ∨ ((0 ≤ nn.toInt ∧ nn.toInt ≤ 1000) ∧ (2 : Int32).toInt = 3) from by omega) (show (m 98) = (m 98) ∧ (m 99) = (m 99) ∧ (m 100) = (m 100) ∧ (m 101) = (m 101) ∧ (m 102) = (m 102) ∧ (m 103) = (m 103) ∧ (m 104) = (m 104) ∧ (m 107) = (m 107) ∧ (m 108) = (m 108) ∧ (m 109) = (m 109) ∧ (m 111) = (m 111) ∧ (m 112) = (m 112) ∧ (m 113) = (m 113) ∧ (m 114) = (m 114) ∧ (m 116) = (m 116) ∧ (m 117) = (m 117) ∧ (m 94 11) = (m 94 11) ∧ (m 94 13) = (m 94 13) ∧ (m 94 14) = (m 94 14) ∧ (m 94 15) = (m 94 15) ∧ (m 94 16) = (m 94 16) ∧ (m 94 18) = (m 94 18) ∧ (m 94 19) = (m 94 19) ∧ (m 94 45) = (m 94 45) ∧ (m 94 46) = (m 94 46) ∧ (m 94 55) = (m 94 55) ∧ (m 94 58) = (m 94 58) ∧ (m 94 59) = (m 94 59) ∧ (m 94 60) = (m 94 60) ∧ (m 94 61) = (m 94 61) ∧ (m 94 63) = (m 94 63) ∧ (m 94 64) = (m 94 64) from by first | (exact ⟨rfl, rfl, rfl, rfl, rfl, rfl, rfl, rfl, rfl, rfl, rfl, rfl, rfl, rfl, rfl, rfl, rfl, rfl, rfl, rfl, rfl, rfl, rfl, rfl, rfl, rfl, rfl, rfl, rfl, rfl, rfl, rfl⟩) | (exfalso; omega; done) | (exfalso; contradiction; done))
      · skip
        have g18 := i_ne h14
        have li19 : (5 : Int32).toInt = 5 := rfl
        refine zd (fun (h20 : (m 94 10) = (5 : Int32)) => ?_) (fun (h20 : ¬ (m 94 10) = (5 : Int32)) => ?_)
        · skip
          have g21 := i_eq h20
          refine zd (fun (h22 : (m 94 58) = (0 : Int32)) => ?_) (fun (h22 : ¬ (m 94 58) = (0 : Int32)) => ?_)
          · skip
            have g23 := i_eq h22
            have hV24 : zV (ma_u m 94 0 (0 : Int32)) := uf_94_0 hV
            exact K ((0 : Int32)) _ (zF_u zF_rfl rfl) hV24 r_W r_GW r_GU r_OW r_DX r_GG r_HA r_RGc (show (m 94 58).toInt = 0 ∨ (m 94 10).toInt = 5 from by omega) (show ((nn.toInt < 0 ∨ 1000 < nn.toInt) ∧ (0 : Int32).toInt = 1) ∨ ((0 ≤ nn.toInt ∧ nn.toInt ≤ 1000) ∧ (0 : Int32).toInt = 3) from by omega) (show (m 98) = (m 98) ∧ (m 99) = (m 99) ∧ (m 100) = (m 100) ∧ (m 101) = (m 101) ∧ (m 102) = (m 102) ∧ (m 103) = (m 103) ∧ (m 104) = (m 104) ∧ (m 107) = (m 107) ∧ (m 108) = (m 108) ∧ (m 109) = (m 109) ∧ (m 111) = (m 111) ∧ (m 112) = (m 112) ∧ (m 113) = (m 113) ∧ (m 114) = (m 114) ∧ (m 116) = (m 116) ∧ (m 117) = (m 117) ∧ (m 94 11) = (m 94 11) ∧ (m 94 13) = (m 94 13) ∧ (m 94 14) = (m 94 14) ∧ (m 94 15) = (m 94 15) ∧ (m 94 16) = (m 94 16) ∧ (m 94 18) = (m 94 18) ∧ (m 94 19) = (m 94 19) ∧ (m 94 45) = (m 94 45) ∧ (m 94 46) = (m 94 46) ∧ (m 94 55) = (m 94 55) ∧ (m 94 58) = (m 94 58) ∧ (m 94 59) = (m 94 59) ∧ (m 94 60) = (m 94 60) ∧ (m 94 61) = (m 94 61) ∧ (m 94 63) = (m 94 63) ∧ (m 94 64) = (m 94 64) from by first | (exact ⟨rfl, rfl, rfl, rfl, rfl, rfl, rfl, rfl, rfl, rfl, rfl, rfl, rfl, rfl, rfl, rfl, rfl, rfl, rfl, rfl, rfl, rfl, rfl, rfl, rfl, rfl, rfl, rfl, rfl, rfl, rfl, rfl⟩) | (exfalso; omega; done) | (exfalso; contradiction; done))
          · skip
            have g25 := i_ne h22
            have hV26 : zV (ma_u m 94 0 (0 : Int32)) := uf_94_0 hV
            refine sp_222 (nn) hV26 r_W (show zG1 (m 94 56) (m 94 57) (m 106) from by first | (exact G1_0 (by omega) (by omega)) | (exact r_GG (by omega)) | (exfalso; omega; done) | (exfalso; contradiction; done)) (fun v2 m1 hV_m1 p0_m1 p1_m1 p2_m1 => zmi_n ?_)
            have p0_m1 : zG1 (m1 94 56) (m1 94 57) (m1 106) := p0_m1
            have p1_m1 : (m 94 56).toInt ≤ (m1 94 56).toInt := p1_m1
            have p2_m1 : (m 94 57).toInt ≤ (m1 94 57).toInt ∧ ((m1 94 56).toInt ≤ (m1 94 57).toInt ∨ (m 94 57).toInt + nn.toInt ≤ (m1 94 57).toInt) := p2_m1
            have f27 : 0 ≤ (m 94 56).toInt ∧ (m 94 56).toInt ≤ 3100 := rs_94_56 (m := m) hV
            have f28 : 0 ≤ (m1 94 56).toInt ∧ (m1 94 56).toInt ≤ 3100 := rs_94_56 (m := (zov wr_222 (ma_u m 94 0 (0 : Int32)) m1)) hV_m1
            have f29 : 0 ≤ (m 94 57).toInt ∧ (m 94 57).toInt ≤ 3100 := rs_94_57 (m := m) hV
            have f30 : 0 ≤ (m1 94 57).toInt ∧ (m1 94 57).toInt ≤ 3100 := rs_94_57 (m := (zov wr_222 (ma_u m 94 0 (0 : Int32)) m1)) hV_m1
            refine sp_223  hV_m1 r_W r_GW r_GU r_OW r_DX p0_m1 (show (m 94 10).toInt = 5 from by omega) (show (m 94 58).toInt = 1 from by omega) (fun v4 m3 hV_m3 p0_m3 p1_m3 p2_m3 p3_m3 p4_m3 p5_m3 => zmi_n ?_)
            have p0_m3 : zGW T (m3 94 55) (m3 109) := p0_m3
            have p1_m3 : zGU T (m 94 46) (m3 99) := p1_m3
            have p2_m3 : zOw (m3 99) (m 103) (m3 111) := p2_m3
            have p3_m3 : zDX (m 94 10) (m3 99) (m 112) (m3 113) (m3 114) (m3 94 55) (m 98) (m 101) (m 102) (m 108) := p3_m3
            have p4_m3 : zGG (m3 94 58) (m3 94 56) (m1 94 57) (m3 106) := p4_m3
            have p5_m3 : (m3 94 58).toInt = 0 ∨ ((m3 94 58).toInt = 1 ∧ (m1 94 57).toInt < (m3 94 56).toInt ∧ (m1 94 57).toInt = (m1 94 57).toInt) := p5_m3
            have f31 : 0 ≤ (m3 94 58).toInt ∧ (m3 94 58).toInt ≤ 1 := rs_94_58 (m := (zov wr_223 (zov wr_222 (ma_u m 94 0 (0 : Int32)) m1) m3)) hV_m3
            have f32 : 0 ≤ (m3 94 56).toInt ∧ (m3 94 56).toInt ≤ 3100 := rs_94_56 (m := (zov wr_223 (zov wr_222 (ma_u m 94 0 (0 : Int32)) m1) m3)) hV_m3
            have b33 := i_bd v2
            exact K (v2) _ (zF_zov (zF_zov (zF_u zF_rfl rfl) ws_222_257) ws_223_257) hV_m3 r_W p0_m3 p1_m3 p2_m3 p3_m3 p4_m3 (show zHA (m 94 10) (m 94 11) (m 94 13) (m 94 14) (m 94 16) (m 94 61) (m 94 59) (m 94 60) (m3 99) (m 102) (m 103) (m3 111) (m 117) (m 98) (m 101) (m 108) from by first | (exfalso; omega; done) | (exfalso; contradiction; done)) (show zRG (m 94 10) (m 94 18) (m 94 64) (m 94 63) (m3 99) (m 103) (m 102) (m 116) from by first | (exfalso; omega; done) | (exfalso; contradiction; done)) (show (m3 94 58).toInt = 0 ∨ (m 94 10).toInt = 5 from by omega) (show ((nn.toInt < 0 ∨ 1000 < nn.toInt) ∧ (0 : Int32).toInt = 1) ∨ ((0 ≤ nn.toInt ∧ nn.toInt ≤ 1000) ∧ (0 : Int32).toInt = 3) from by omega) (show (m 98) = (m 98) ∧ (m3 99) = (m 99) ∧ (m 100) = (m 100) ∧ (m 101) = (m 101) ∧ (m 102) = (m 102) ∧ (m 103) = (m 103) ∧ (m 104) = (m 104) ∧ (m 107) = (m 107) ∧ (m 108) = (m 108) ∧ (m3 109) = (m 109) ∧ (m3 111) = (m 111) ∧ (m 112) = (m 112) ∧ (m3 113) = (m 113) ∧ (m3 114) = (m 114) ∧ (m 116) = (m 116) ∧ (m 117) = (m 117) ∧ (m 94 11) = (m 94 11) ∧ (m 94 13) = (m 94 13) ∧ (m 94 14) = (m 94 14) ∧ (m 94 15) = (m 94 15) ∧ (m 94 16) = (m 94 16) ∧ (m 94 18) = (m 94 18) ∧ (m 94 19) = (m 94 19) ∧ (m3 94 45) = (m 94 45) ∧ (m 94 46) = (m 94 46) ∧ (m3 94 55) = (m 94 55) ∧ (m3 94 58) = (m 94 58) ∧ (m 94 59) = (m 94 59) ∧ (m 94 60) = (m 94 60) ∧ (m 94 61) = (m 94 61) ∧ (m 94 63) = (m 94 63) ∧ (m 94 64) = (m 94 64) from by first | (exact ⟨rfl, rfl, rfl, rfl, rfl, rfl, rfl, rfl, rfl, rfl, rfl, rfl, rfl, rfl, rfl, rfl, rfl, rfl, rfl, rfl, rfl, rfl, rfl, rfl, rfl, rfl, rfl, rfl, rfl, rfl, rfl, rfl⟩) | (exfalso; omega; done) | (exfalso; contradiction; done))
        · skip
          have g34 := i_ne h20
          have hV35 : zV (ma_u m 94 0 (3 : Int32)) := uf_94_0 hV
          have li36 : (3 : Int32).toInt = 3 := rfl
          exact K ((0 : Int32)) _ (zF_u zF_rfl rfl) hV35 r_W r_GW r_GU r_OW r_DX r_GG r_HA r_RGc (show (m 94 58).toInt = 0 ∨ (m 94 10).toInt = 5 from by omega) (show ((nn.toInt < 0 ∨ 1000 < nn.toInt) ∧ (3 : Int32).toInt = 1) ∨ ((0 ≤ nn.toInt ∧ nn.toInt ≤ 1000) ∧ (3 : Int32).toInt = 3) from by omega) (show (m 98) = (m 98) ∧ (m 99) = (m 99) ∧ (m 100) = (m 100) ∧ (m 101) = (m 101) ∧ (m 102) = (m 102) ∧ (m 103) = (m 103) ∧ (m 104) = (m 104) ∧ (m 107) = (m 107) ∧ (m 108) = (m 108) ∧ (m 109) = (m 109) ∧ (m 111) = (m 111) ∧ (m 112) = (m 112) ∧ (m 113) = (m 113) ∧ (m 114) = (m 114) ∧ (m 116) = (m 116) ∧ (m 117) = (m 117) ∧ (m 94 11) = (m 94 11) ∧ (m 94 13) = (m 94 13) ∧ (m 94 14) = (m 94 14) ∧ (m 94 15) = (m 94 15) ∧ (m 94 16) = (m 94 16) ∧ (m 94 18) = (m 94 18) ∧ (m 94 19) = (m 94 19) ∧ (m 94 45) = (m 94 45) ∧ (m 94 46) = (m 94 46) ∧ (m 94 55) = (m 94 55) ∧ (m 94 58) = (m 94 58) ∧ (m 94 59) = (m 94 59) ∧ (m 94 60) = (m 94 60) ∧ (m 94 61) = (m 94 61) ∧ (m 94 63) = (m 94 63) ∧ (m 94 64) = (m 94 64) from by first | (exact ⟨rfl, rfl, rfl, rfl, rfl, rfl, rfl, rfl, rfl, rfl, rfl, rfl, rfl, rfl, rfl, rfl, rfl, rfl, rfl, rfl, rfl, rfl, rfl, rfl, rfl, rfl, rfl, rfl, rfl, rfl, rfl, rfl⟩) | (exfalso; omega; done) | (exfalso; contradiction; done))
    · skip
      have g37 := i_nle h12
      have hV38 : zV (ma_u m 94 0 (1 : Int32)) := uf_94_0 hV
      have li39 : (1 : Int32).toInt = 1 := rfl
      exact K ((0 : Int32)) _ (zF_u zF_rfl rfl) hV38 r_W r_GW r_GU r_OW r_DX r_GG r_HA r_RGc (show (m 94 58).toInt = 0 ∨ (m 94 10).toInt = 5 from by omega) (show ((nn.toInt < 0 ∨ 1000 < nn.toInt) ∧ (1 : Int32).toInt = 1) ∨ ((0 ≤ nn.toInt ∧ nn.toInt ≤ 1000) ∧ (1 : Int32).toInt = 3) from by omega) (show (m 98) = (m 98) ∧ (m 99) = (m 99) ∧ (m 100) = (m 100) ∧ (m 101) = (m 101) ∧ (m 102) = (m 102) ∧ (m 103) = (m 103) ∧ (m 104) = (m 104) ∧ (m 107) = (m 107) ∧ (m 108) = (m 108) ∧ (m 109) = (m 109) ∧ (m 111) = (m 111) ∧ (m 112) = (m 112) ∧ (m 113) = (m 113) ∧ (m 114) = (m 114) ∧ (m 116) = (m 116) ∧ (m 117) = (m 117) ∧ (m 94 11) = (m 94 11) ∧ (m 94 13) = (m 94 13) ∧ (m 94 14) = (m 94 14) ∧ (m 94 15) = (m 94 15) ∧ (m 94 16) = (m 94 16) ∧ (m 94 18) = (m 94 18) ∧ (m 94 19) = (m 94 19) ∧ (m 94 45) = (m 94 45) ∧ (m 94 46) = (m 94 46) ∧ (m 94 55) = (m 94 55) ∧ (m 94 58) = (m 94 58) ∧ (m 94 59) = (m 94 59) ∧ (m 94 60) = (m 94 60) ∧ (m 94 61) = (m 94 61) ∧ (m 94 63) = (m 94 63) ∧ (m 94 64) = (m 94 64) from by first | (exact ⟨rfl, rfl, rfl, rfl, rfl, rfl, rfl, rfl, rfl, rfl, rfl, rfl, rfl, rfl, rfl, rfl, rfl, rfl, rfl, rfl, rfl, rfl, rfl, rfl, rfl, rfl, rfl, rfl, rfl, rfl, rfl, rfl⟩) | (exfalso; omega; done) | (exfalso; contradiction; done))
theorem n1_170 {X : Nat × (Nat → Int32)} {d w T : Nat} {S : ma_S} {aa : Nat → Nat → Int32} (nw : Int32) (rf : Int32) (hd : 1 ≤ d) (hw : 21 ≤ w) (hT : zT S) (hV : zV (mI S)) (ht : T + 1 ≤ 512) (r_W : zW (mI S 94 7) (mI S 98) (mI S 101) (mI S 102) (mI S 108)) (r_GW : zGW T (mI S 94 55) (mI S 109)) (r_GU : zGU T (mI S 94 46) (mI S 99)) (r_OW : zOw (mI S 99) (mI S 103) (mI S 111)) (r_GG : zGG (mI S 94 58) (mI S 94 56) (mI S 94 57) (mI S 106)) (h8 : (mI S 94 8).toInt = 1) (hp : (mI S 94 10).toInt = 1) (hz : zN1 (mI S) aa) : ma_wp X d w 170 0 [(0, .inr (.inr (some 94))), (1, .inl nw), (2, .inl rf)] [] S (zRj S (fun _ m₉ => zN1 m₉ aa)) := by
  obtain ⟨r_RB, r_QI, r_TP, r_MK, r_WTS, h58⟩ := hz
  exact sp_170um (P := fun o m₉ => zRj S (fun _ m₉ => zN1 m₉ aa) (.inl o) (zst S m₉)) (T := T) (aa := aa) (ro := (mI S 94 11)) (fo := 0) (le := (mI S 94 59)) (ra := 0) (pi := 1) nw rf hV (by omega) r_W r_GW r_GU r_OW r_GG r_RB (fun v m₉ hV₉ q0 => Rj_i v (zov wr_170 (mI S) m₉) ⟨q0, r_QI, r_TP, r_MK, r_WTS, h58⟩) d w S _ hd hw hT rfl (fun _ _ z => z)
theorem n2_170 {X : Nat × (Nat → Int32)} {d w T : Nat} {S : ma_S} {aa : Nat → Nat → Int32} (nw : Int32) (rf : Int32) (hd : 1 ≤ d) (hw : 21 ≤ w) (hT : zT S) (hV : zV (mI S)) (ht : T + 1 ≤ 512) (r_W : zW (mI S 94 7) (mI S 98) (mI S 101) (mI S 102) (mI S 108)) (r_GW : zGW T (mI S 94 55) (mI S 109)) (r_GU : zGU T (mI S 94 46) (mI S 99)) (r_OW : zOw (mI S 99) (mI S 103) (mI S 111)) (r_GG : zGG (mI S 94 58) (mI S 94 56) (mI S 94 57) (mI S 106)) (h8 : (mI S 94 8).toInt = 1) (hp : (mI S 94 10).toInt = 2) (hz : zN2 (mI S) aa) : ma_wp X d w 170 0 [(0, .inr (.inr (some 94))), (1, .inl nw), (2, .inl rf)] [] S (zRj S (fun _ m₉ => zN2 m₉ aa)) := by
  obtain ⟨r_RB, r_HV, r_HL, r_MK, r_WTS, h58⟩ := hz
  exact sp_170um (P := fun o m₉ => zRj S (fun _ m₉ => zN2 m₉ aa) (.inl o) (zst S m₉)) (T := T) (aa := aa) (ro := (aa 87 0)) (fo := 0) (le := 0) (ra := 0) (pi := 1) nw rf hV (by omega) r_W r_GW r_GU r_OW r_GG r_RB (fun v m₉ hV₉ q0 => Rj_i v (zov wr_170 (mI S) m₉) ⟨(RB_87o q0), r_HV, r_HL, r_MK, r_WTS, h58⟩) d w S _ hd hw hT rfl (fun _ _ z => z)
theorem n3_170 {X : Nat × (Nat → Int32)} {d w T : Nat} {S : ma_S} {aa : Nat → Nat → Int32} (nw : Int32) (rf : Int32) (hd : 1 ≤ d) (hw : 21 ≤ w) (hT : zT S) (hV : zV (mI S)) (ht : T + 1 ≤ 512) (r_W : zW (mI S 94 7) (mI S 98) (mI S 101) (mI S 102) (mI S 108)) (r_GW : zGW T (mI S 94 55) (mI S 109)) (r_GU : zGU T (mI S 94 46) (mI S 99)) (r_OW : zOw (mI S 99) (mI S 103) (mI S 111)) (r_GG : zGG (mI S 94 58) (mI S 94 56) (mI S 94 57) (mI S 106)) (h8 : (mI S 94 8).toInt = 1) (hp : (mI S 94 10).toInt = 3) (hz : zN3 (mI S) aa) : ma_wp X d w 170 0 [(0, .inr (.inr (some 94))), (1, .inl nw), (2, .inl rf)] [] S (zRj S (fun _ m₉ => zN3 m₉ aa)) := by
  obtain ⟨r_RB, r_AV, r_AL, r_AGq, r_DT, r_MK, r_WTS, h58⟩ := hz
  exact sp_170um (P := fun o m₉ => zRj S (fun _ m₉ => zN3 m₉ aa) (.inl o) (zst S m₉)) (T := T) (aa := aa) (ro := (aa 87 0)) (fo := 0) (le := 0) (ra := 0) (pi := 1) nw rf hV (by omega) r_W r_GW r_GU r_OW r_GG r_RB (fun v m₉ hV₉ q0 => Rj_i v (zov wr_170 (mI S) m₉) ⟨(RB_87o q0), r_AV, r_AL, r_AGq, r_DT, r_MK, r_WTS, h58⟩) d w S _ hd hw hT rfl (fun _ _ z => z)
theorem n6_170 {X : Nat × (Nat → Int32)} {d w T : Nat} {S : ma_S} {aa : Nat → Nat → Int32} (nw : Int32) (rf : Int32) (hd : 1 ≤ d) (hw : 21 ≤ w) (hT : zT S) (hV : zV (mI S)) (ht : T + 1 ≤ 512) (r_W : zW (mI S 94 7) (mI S 98) (mI S 101) (mI S 102) (mI S 108)) (r_GW : zGW T (mI S 94 55) (mI S 109)) (r_GU : zGU T (mI S 94 46) (mI S 99)) (r_OW : zOw (mI S 99) (mI S 103) (mI S 111)) (r_GG : zGG (mI S 94 58) (mI S 94 56) (mI S 94 57) (mI S 106)) (h8 : (mI S 94 8).toInt = 1) (hp : (mI S 94 10).toInt = 6) (hz : zN6 (mI S) aa) : ma_wp X d w 170 0 [(0, .inr (.inr (some 94))), (1, .inl nw), (2, .inl rf)] [] S (zRj S (fun _ m₉ => zN6 m₉ aa)) := by
  obtain ⟨r_RB, r_RV, r_RL, r_MK, r_WTS, h58⟩ := hz
  exact sp_170um (P := fun o m₉ => zRj S (fun _ m₉ => zN6 m₉ aa) (.inl o) (zst S m₉)) (T := T) (aa := aa) (ro := (aa 87 0)) (fo := 0) (le := 0) (ra := 0) (pi := 1) nw rf hV (by omega) r_W r_GW r_GU r_OW r_GG r_RB (fun v m₉ hV₉ q0 => Rj_i v (zov wr_170 (mI S) m₉) ⟨(RB_87o q0), r_RV, r_RL, r_MK, r_WTS, h58⟩) d w S _ hd hw hT rfl (fun _ _ z => z)
theorem kp_n1 {m m₉ : Nat → Nat → Int32} (hf : (m₉ 98) = (m 98) ∧ (m₉ 99) = (m 99) ∧ (m₉ 100) = (m 100) ∧ (m₉ 101) = (m 101) ∧ (m₉ 102) = (m 102) ∧ (m₉ 103) = (m 103) ∧ (m₉ 104) = (m 104) ∧ (m₉ 107) = (m 107) ∧ (m₉ 108) = (m 108) ∧ (m₉ 109) = (m 109) ∧ (m₉ 111) = (m 111) ∧ (m₉ 112) = (m 112) ∧ (m₉ 113) = (m 113) ∧ (m₉ 114) = (m 114) ∧ (m₉ 116) = (m 116) ∧ (m₉ 117) = (m 117) ∧ (m₉ 94 11) = (m 94 11) ∧ (m₉ 94 13) = (m 94 13) ∧ (m₉ 94 14) = (m 94 14) ∧ (m₉ 94 15) = (m 94 15) ∧ (m₉ 94 16) = (m 94 16) ∧ (m₉ 94 18) = (m 94 18) ∧ (m₉ 94 19) = (m 94 19) ∧ (m₉ 94 45) = (m 94 45) ∧ (m₉ 94 46) = (m 94 46) ∧ (m₉ 94 55) = (m 94 55) ∧ (m₉ 94 58) = (m 94 58) ∧ (m₉ 94 59) = (m 94 59) ∧ (m₉ 94 60) = (m 94 60) ∧ (m₉ 94 61) = (m 94 61) ∧ (m₉ 94 63) = (m 94 63) ∧ (m₉ 94 64) = (m 94 64)) : ∀ aa, zN1 m aa → zN1 m₉ aa := by
  intro aa H
  obtain ⟨r98, r99, r100, r101, r102, r103, r104, r107, r108, r109, r111, r112, r113, r114, r116, r117, f11, f13, f14, f15, f16, f18, f19, f45, f46, f55, f58, f59, f60, f61, f63, f64⟩ := hf
  unfold zN1 at H ⊢
  rw [r98, r99, r100, r101, r102, r103, r107, r108, r109, r111, r112, r113, r114, f11, f45, f46, f55, f58, f59]
  exact H
theorem kp_n2 {m m₉ : Nat → Nat → Int32} (hf : (m₉ 98) = (m 98) ∧ (m₉ 99) = (m 99) ∧ (m₉ 100) = (m 100) ∧ (m₉ 101) = (m 101) ∧ (m₉ 102) = (m 102) ∧ (m₉ 103) = (m 103) ∧ (m₉ 104) = (m 104) ∧ (m₉ 107) = (m 107) ∧ (m₉ 108) = (m 108) ∧ (m₉ 109) = (m 109) ∧ (m₉ 111) = (m 111) ∧ (m₉ 112) = (m 112) ∧ (m₉ 113) = (m 113) ∧ (m₉ 114) = (m 114) ∧ (m₉ 116) = (m 116) ∧ (m₉ 117) = (m 117) ∧ (m₉ 94 11) = (m 94 11) ∧ (m₉ 94 13) = (m 94 13) ∧ (m₉ 94 14) = (m 94 14) ∧ (m₉ 94 15) = (m 94 15) ∧ (m₉ 94 16) = (m 94 16) ∧ (m₉ 94 18) = (m 94 18) ∧ (m₉ 94 19) = (m 94 19) ∧ (m₉ 94 45) = (m 94 45) ∧ (m₉ 94 46) = (m 94 46) ∧ (m₉ 94 55) = (m 94 55) ∧ (m₉ 94 58) = (m 94 58) ∧ (m₉ 94 59) = (m 94 59) ∧ (m₉ 94 60) = (m 94 60) ∧ (m₉ 94 61) = (m 94 61) ∧ (m₉ 94 63) = (m 94 63) ∧ (m₉ 94 64) = (m 94 64)) : ∀ aa, zN2 m aa → zN2 m₉ aa := by
  intro aa H
  obtain ⟨r98, r99, r100, r101, r102, r103, r104, r107, r108, r109, r111, r112, r113, r114, r116, r117, f11, f13, f14, f15, f16, f18, f19, f45, f46, f55, f58, f59, f60, f61, f63, f64⟩ := hf
  unfold zN2 at H ⊢
  rw [r98, r99, r100, r101, r102, r103, r107, r108, r109, r111, r112, r113, r114, f11, f45, f46, f55, f58, f59, f61]
  exact H
theorem kp_n3 {m m₉ : Nat → Nat → Int32} (hf : (m₉ 98) = (m 98) ∧ (m₉ 99) = (m 99) ∧ (m₉ 100) = (m 100) ∧ (m₉ 101) = (m 101) ∧ (m₉ 102) = (m 102) ∧ (m₉ 103) = (m 103) ∧ (m₉ 104) = (m 104) ∧ (m₉ 107) = (m 107) ∧ (m₉ 108) = (m 108) ∧ (m₉ 109) = (m 109) ∧ (m₉ 111) = (m 111) ∧ (m₉ 112) = (m 112) ∧ (m₉ 113) = (m 113) ∧ (m₉ 114) = (m 114) ∧ (m₉ 116) = (m 116) ∧ (m₉ 117) = (m 117) ∧ (m₉ 94 11) = (m 94 11) ∧ (m₉ 94 13) = (m 94 13) ∧ (m₉ 94 14) = (m 94 14) ∧ (m₉ 94 15) = (m 94 15) ∧ (m₉ 94 16) = (m 94 16) ∧ (m₉ 94 18) = (m 94 18) ∧ (m₉ 94 19) = (m 94 19) ∧ (m₉ 94 45) = (m 94 45) ∧ (m₉ 94 46) = (m 94 46) ∧ (m₉ 94 55) = (m 94 55) ∧ (m₉ 94 58) = (m 94 58) ∧ (m₉ 94 59) = (m 94 59) ∧ (m₉ 94 60) = (m 94 60) ∧ (m₉ 94 61) = (m 94 61) ∧ (m₉ 94 63) = (m 94 63) ∧ (m₉ 94 64) = (m 94 64)) : ∀ aa, zN3 m aa → zN3 m₉ aa := by
  intro aa H
  obtain ⟨r98, r99, r100, r101, r102, r103, r104, r107, r108, r109, r111, r112, r113, r114, r116, r117, f11, f13, f14, f15, f16, f18, f19, f45, f46, f55, f58, f59, f60, f61, f63, f64⟩ := hf
  unfold zN3 at H ⊢
  rw [r98, r99, r100, r101, r102, r103, r104, r107, r108, r109, r111, r112, r113, r114, r117, f13, f14, f15, f16, f45, f46, f55, f58, f59, f60, f61]
  exact H
theorem kp_n6 {m m₉ : Nat → Nat → Int32} (hf : (m₉ 98) = (m 98) ∧ (m₉ 99) = (m 99) ∧ (m₉ 100) = (m 100) ∧ (m₉ 101) = (m 101) ∧ (m₉ 102) = (m 102) ∧ (m₉ 103) = (m 103) ∧ (m₉ 104) = (m 104) ∧ (m₉ 107) = (m 107) ∧ (m₉ 108) = (m 108) ∧ (m₉ 109) = (m 109) ∧ (m₉ 111) = (m 111) ∧ (m₉ 112) = (m 112) ∧ (m₉ 113) = (m 113) ∧ (m₉ 114) = (m 114) ∧ (m₉ 116) = (m 116) ∧ (m₉ 117) = (m 117) ∧ (m₉ 94 11) = (m 94 11) ∧ (m₉ 94 13) = (m 94 13) ∧ (m₉ 94 14) = (m 94 14) ∧ (m₉ 94 15) = (m 94 15) ∧ (m₉ 94 16) = (m 94 16) ∧ (m₉ 94 18) = (m 94 18) ∧ (m₉ 94 19) = (m 94 19) ∧ (m₉ 94 45) = (m 94 45) ∧ (m₉ 94 46) = (m 94 46) ∧ (m₉ 94 55) = (m 94 55) ∧ (m₉ 94 58) = (m 94 58) ∧ (m₉ 94 59) = (m 94 59) ∧ (m₉ 94 60) = (m 94 60) ∧ (m₉ 94 61) = (m 94 61) ∧ (m₉ 94 63) = (m 94 63) ∧ (m₉ 94 64) = (m 94 64)) : ∀ aa, zN6 m aa → zN6 m₉ aa := by
  intro aa H
  obtain ⟨r98, r99, r100, r101, r102, r103, r104, r107, r108, r109, r111, r112, r113, r114, r116, r117, f11, f13, f14, f15, f16, f18, f19, f45, f46, f55, f58, f59, f60, f61, f63, f64⟩ := hf
  unfold zN6 at H ⊢
  rw [r98, r99, r100, r101, r102, r103, r107, r108, r109, r111, r112, r113, r114, r116, f18, f19, f45, f46, f55, f58, f63, f64]
  exact H

