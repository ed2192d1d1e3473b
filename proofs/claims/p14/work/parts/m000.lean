/-! from 95.za0 -/
/-! the reference answers (written by wip/tools/gen15a.py) -/
/-! ANSWERS, once more: a choice, and what makes an answer one -/
def zSel (C A B : Prop) : Prop := (¬ C ∧ A) ∨ (C ∧ B)
def zFu (P : Int32 → Int32 → Prop) : Prop := ∀ th v th2 v2, P th v → P th2 v2 → th2.toInt = th.toInt ∧ (th.toInt = 0 → v2 = v)
theorem fu_k {k : Int} (h : k ≠ 0) : zFu (fun th _ => th.toInt = k) := fun th v th2 v2 a b => ⟨b.trans a.symm, fun z => absurd (a.symm.trans z) h⟩
theorem fu_v {x : Int32} : zFu (fun th v => th.toInt = 0 ∧ v = x) := fun th v th2 v2 a b => ⟨b.1.trans a.1.symm, fun _ => b.2.trans a.2.symm⟩
theorem fu_s {C : Prop} {P Q : Int32 → Int32 → Prop} (h : zFu P) (g : zFu Q) : zFu (fun th v => zSel C (P th v) (Q th v)) := fun th v th2 v2 a b => by
  rcases a with a | a
  · rcases b with b | b
    · exact h th v th2 v2 a.2 b.2
    · exact absurd b.1 a.1
  · rcases b with b | b
    · exact absurd a.1 b.1
    · exact g th v th2 v2 a.2 b.2
def qSlt (i : Int32) : Prop := 0 ≤ i.toInt ∧ i.toInt ≤ 15
/-! where a heap stands -/
def qNwe (a : Nat → Nat → Int32) (i o th v : Int32) : Prop := zSel (qSlt i) (th.toInt = 1) (zSel (o = -1 ∨ zRq a o) (th.toInt = 3) (th.toInt = 0 ∧ v = a 73 i.toNatClampNeg))
def qNro (a : Nat → Nat → Int32) (i o th v : Int32) : Prop := zSel (qSlt i) (th.toInt = 1) (zSel (o = -1 ∨ zRq a o) (th.toInt = 3) (th.toInt = 0 ∧ v = aNm a (a 72 i.toNatClampNeg)))
def qNsg (a : Nat → Nat → Int32) (i r th v : Int32) : Prop := zSel (qSlt i ∧ qSlt r) (th.toInt = 1) (th.toInt = 0 ∧ v = aNm a (a 73 i.toNatClampNeg))
def qNgr (a : Nat → Nat → Int32) (r th v : Int32) : Prop := zSel (qSlt r) (th.toInt = 1) (th.toInt = 0 ∧ v = aNm a (aTy a))
def qNli (a : Nat → Nat → Int32) (o i t th v : Int32) : Prop := zSel (zRq a o ∧ (t = -1 ∨ zRq a t)) (th.toInt = 2) (zSel (zHw a o i) (th.toInt = 3) (zSel (zIr a o i) (th.toInt = 4) (th.toInt = 0 ∧ v = aNm a (aRef a o.toNatClampNeg i))))
def qNho (c : Prop) (a : Nat → Nat → Int32) (o b th v : Int32) : Prop := zSel (zRq a o) (th.toInt = 2) (zSel (c ∧ (¬ b = 0 ∨ ¬ a 133 o.toNatClampNeg = 0)) (th.toInt = 3) (th.toInt = 0 ∧ v = a 133 o.toNatClampNeg + (if b = 0 then -1 else 1)))
theorem fu_ho {a : Nat → Nat → Int32} {c : Prop} {o b : Int32} : zFu (qNho c a o b) := fu_s (fu_k (by decide)) (fu_s (fu_k (by decide)) fu_v)
section G1
variable {a : Nat → Nat → Int32} {us nr kr kd ws at₉ ho wd wi ow rt wk wl : Nat → Int32} {wm nu ro fo le ra pi o i s x : Int32} {k : Nat}
end G1
section G2
variable {a : Nat → Nat → Int32} {us nr kr kd ws at₉ ho wd wi ow rt wk wl : Nat → Int32} {wm nu ro fo le ra pi o i s x b po ol : Int32} {k : Nat} {c : Prop}
/-- hold: who can be held -/
def qCan (po ol : Int32) (a : Nat → Nat → Int32) (o : Int32) : Prop := po.toInt ≠ 2 ∧ (po.toInt = 3 → (a 130 o.toNatClampNeg).toInt < ol.toInt)
theorem Re_R1 (hR : qRB us nr kr kd ws at₉ ho wd wi ow rt wk wl wm nu ro fo le ra pi a) (h : qRe us nr a o s) (hs : 0 ≤ s.toInt) : a 130 o.toNatClampNeg = at₉ s.toNatClampNeg ∧ a 133 o.toNatClampNeg = ho s.toNatClampNeg := by
  have q := Re_y h hs
  have z := hR.1.1 s.toNatClampNeg (tn_lt hs (by omega)) q.2.1
  rw [q.2.2.1] at z
  exact ⟨z.2.2.2.1, z.2.2.2.2.1⟩
theorem Ho_2 (hR : qRB us nr kr kd ws at₉ ho wd wi ow rt wk wl wm nu ro fo le ra pi a) (h : qRe us nr a o s) (hs : 0 ≤ s.toInt) (hp : po.toInt = 2) {th v : Int32} (ht : th.toInt = 3) : qNho (qCan po ol a o) a o b th v := Or.inr ⟨(Re_y h hs).2.2.2, Or.inl ⟨fun w => w.1.1 hp, ht⟩⟩
theorem Ho_3 (hR : qRB us nr kr kd ws at₉ ho wd wi ow rt wk wl wm nu ro fo le ra pi a) (h : qRe us nr a o s) (hs : 0 ≤ s.toInt) (hp : po.toInt = 3) (ho : ol.toInt ≤ (at₉ s.toNatClampNeg).toInt) {th v : Int32} (ht : th.toInt = 3) : qNho (qCan po ol a o) a o b th v := Or.inr ⟨(Re_y h hs).2.2.2, Or.inl ⟨fun w => by
  have q := w.1.2 hp
  rw [(Re_R1 hR h hs).1] at q
  omega, ht⟩⟩
theorem Ho_4 (hR : qRB us nr kr kd ws at₉ ho wd wi ow rt wk wl wm nu ro fo le ra pi a) (h : qRe us nr a o s) (hs : 0 ≤ s.toInt) (hb : b = 0) (hz : ho s.toNatClampNeg = 0) {th v : Int32} (ht : th.toInt = 3) : qNho (qCan po ol a o) a o b th v := Or.inr ⟨(Re_y h hs).2.2.2, Or.inl ⟨fun w => w.2.elim (fun z => z hb) (fun z => z (by rw [(Re_R1 hR h hs).2]; exact hz)), ht⟩⟩
theorem Ho_5 (hR : qRB us nr kr kd ws at₉ ho wd wi ow rt wk wl wm nu ro fo le ra pi a) (h : qRe us nr a o s) (hs : 0 ≤ s.toInt) (hp : po.toInt ≠ 2) (h3 : po.toInt = 3 → (at₉ s.toNatClampNeg).toInt < ol.toInt) (hz : ¬ b = 0 ∨ ¬ ho s.toNatClampNeg = 0) {th v : Int32} (ht : th.toInt = 0) (hv : v = ho s.toNatClampNeg + (if b = 0 then -1 else 1)) : qNho (qCan po ol a o) a o b th v := by
  have q := Re_R1 hR h hs
  refine Or.inr ⟨(Re_y h hs).2.2.2, Or.inr ⟨⟨⟨hp, fun w => ?_⟩, ?_⟩, ht, ?_⟩⟩
  · rw [q.1]
    exact h3 w
  · rw [q.2]
    exact hz
  · rw [q.2]
    exact hv
end G2
/-! from 95.za3 -/
/-! the reference answers (written by wip/tools/gen15a.py) -/
theorem sp_253an {X : Nat × (Nat → Int32)} {P : Option ma_V → (Nat → Nat → Int32) → Prop} {T : Nat} {aa : Nat→Nat→Int32} {ro : Int32} {fo : Int32} {le : Int32} {ra : Int32} {pi : Int32} {m : Nat → Nat → Int32} (ob : Int32) (on : Int32) (hV : zV m) (hpre0 : (m 94 8).toInt ≠ 0) (r_W : zW (m 94 7) (m 98) (m 101) (m 102) (m 108)) (r_GW : zGW T (m 94 55) (m 109)) (r_GU : zGU T (m 94 46) (m 99)) (r_OW : zOw (m 99) (m 103) (m 111)) (r_DX : zDX (m 94 10) (m 99) (m 112) (m 113) (m 114) (m 94 55) (m 98) (m 101) (m 102) (m 108)) (r_GG : zGG (m 94 58) (m 94 56) (m 94 57) (m 106)) (r_HA : zHA (m 94 10) (m 94 11) (m 94 13) (m 94 14) (m 94 16) (m 94 61) (m 94 59) (m 94 60) (m 99) (m 102) (m 103) (m 111) (m 117) (m 98) (m 101) (m 108)) (r_RGc : zRG (m 94 10) (m 94 18) (m 94 64) (m 94 63) (m 99) (m 103) (m 102) (m 116)) (hpre9 : (m 94 58).toInt = 0 ∨ (m 94 10).toInt = 5) (r_RB : qRB (m 99) (m 100) (m 98) (m 101) (m 102) (m 103) (m 107) (m 108) (m 109) (m 111) (m 112) (m 113) (m 114) (m 94 55) (m 94 46) ro fo le ra pi aa) (r_QI : qI aa) (KZ : ∀ v m₉, zV (zov wr_253 m m₉) → (qNho (qCan (m 94 10) (m 94 14) aa ob) aa ob on (m₉ 94 0) v) → P (some (.inl v)) (zov wr_253 m m₉)) : zm X 5 109 253 0 [(0, .inr (.inr (some 94))), (1, .inl ob), (2, .inl on)] m P := by
  have K : ∀ v m₉, zF wr_253 m m₉ → zV m₉ → (qNho (qCan (m 94 10) (m 94 14) aa ob) aa ob on (m₉ 94 0) v) → P (some (.inl v)) m₉ := by
    intro v m₉ hf z q0
    have e := zov_eq hf
    rw [e] at z ⊢
    try rw [e] at q0
    exact KZ v m₉ z q0
  refine g_253_0 ob on ?_
  have f1 : 0 ≤ (m 94 8).toInt ∧ (m 94 8).toInt ≤ 1 := rs_94_8 (m := m) hV
  have f2 : 0 ≤ (m 94 58).toInt ∧ (m 94 58).toInt ≤ 1 := rs_94_58 (m := m) hV
  have f3 : 0 ≤ (m 94 10).toInt ∧ (m 94 10).toInt ≤ 6 := rs_94_10 (m := m) hV
  have li4 : (0 : Int32).toInt = 0 := rfl
  refine zd (fun (h5 : (m 94 8) = (0 : Int32)) => ?_) (fun (h5 : ¬ (m 94 8) = (0 : Int32)) => ?_)
  · skip
    have g6 := i_eq h5
    have hV7 : zV (ma_u m 94 0 (1 : Int32)) := uf_94_0 hV
    exact K ((0 : Int32)) _ (zF_u zF_rfl rfl) hV7 (show qNho (qCan (m 94 10) (m 94 14) aa ob) aa ob on (1 : Int32) (0 : Int32) from by first | (exfalso; omega; done) | (exfalso; omega; done) | (exfalso; contradiction; done))
  · skip
    have g8 := i_ne h5
    have b9 := i_bd ob
    have hV10 : zV (ma_u m 94 0 (0 : Int32)) := uf_94_0 hV
    refine sp_245rm (aa := aa) (ob) hV10 r_W r_RB r_QI (fun v2 m1 hV_m1 p0_m1 p1_m1 p2_m1 => zmi_n ?_)
    have p0_m1 : -1 ≤ v2.toInt ∧ v2.toInt ≤ 3099 := p0_m1
    have p1_m1 : v2.toInt < 0 ∨ (m 99) v2.toNatClampNeg ≠ 0 := p1_m1
    have p2_m1 : qRe (m 99) (m 100) aa ob v2 := p2_m1
    have b11 := i_bd v2
    refine zd (fun (h12 : (0 : Int32) ≤ v2) => ?_) (fun (h12 : ¬ (0 : Int32) ≤ v2) => ?_)
    · skip
      have g13 := i_le h12
      have li14 : (2 : Int32).toInt = 2 := rfl
      refine zd (fun (h15 : (m 94 10) = (2 : Int32)) => ?_) (fun (h15 : ¬ (m 94 10) = (2 : Int32)) => ?_)
      · skip
        have g16 := i_eq h15
        have hV17 : zV (ma_u (zov wr_245 (ma_u m 94 0 (0 : Int32)) m1) 94 0 (3 : Int32)) := uf_94_0 hV_m1
        exact K ((0 : Int32)) _ (zF_u (zF_zov (zF_u zF_rfl rfl) ws_245_253) rfl) hV17 (show qNho (qCan (m 94 10) (m 94 14) aa ob) aa ob on (3 : Int32) (0 : Int32) from by first | (exact Or.inl ⟨Re_n p2_m1 (by omega), rfl⟩) | (exact Ho_2 r_RB p2_m1 (by omega) (by omega) rfl) | (exact Ho_3 r_RB p2_m1 (by omega) (by omega) (by omega) rfl) | (exact Ho_4 r_RB p2_m1 (by omega) (i_zer (by omega)) (i_zer (by omega)) rfl) | (exact Ho_5 r_RB p2_m1 (by omega) (by omega) (by first | omega | (intro w; omega)) (Or.inl (i_nz2 (by omega))) rfl (by rw [if_neg (i_nz2 (by omega))])) | (exact Ho_5 r_RB p2_m1 (by omega) (by omega) (by first | omega | (intro w; omega)) (Or.inr (i_nz2 (by omega))) rfl (by rw [if_pos (i_zer (by omega))])) | (exfalso; omega; done) | (exfalso; contradiction; done))
      · skip
        have g18 := i_ne h15
        have li19 : (3 : Int32).toInt = 3 := rfl
        refine zd (fun (h20 : (m 94 10) = (3 : Int32)) => ?_) (fun (h20 : ¬ (m 94 10) = (3 : Int32)) => ?_)
        · skip
          have g21 := i_eq h20
          have hg22 : (0 ≤ v2 ∧ v2.toNatClampNeg < 3100) := i_ix (by omega) (by omega)
          refine ⟨hg22, ?_⟩
          have f23 : 0 ≤ (m 94 14).toInt ∧ (m 94 14).toInt ≤ 1500 := rs_94_14 (m := m) hV
          first | have f24 : 0 ≤ (m 103 v2.toNatClampNeg).toInt ∧ (m 103 v2.toNatClampNeg).toInt ≤ 4599 := ra_103 (m := m) hV (k := v2.toNatClampNeg) (i_ix (n := 3100) (by omega) (by omega)).2 | have b25 := i_bd (m 103 v2.toNatClampNeg)
          refine zd (fun (h26 : (m 94 14) ≤ (m 103 v2.toNatClampNeg)) => ?_) (fun (h26 : ¬ (m 94 14) ≤ (m 103 v2.toNatClampNeg)) => ?_)
          · skip
            have g27 := i_le h26
            have hV28 : zV (ma_u (zov wr_245 (ma_u m 94 0 (0 : Int32)) m1) 94 0 (3 : Int32)) := uf_94_0 hV_m1
            exact K ((0 : Int32)) _ (zF_u (zF_zov (zF_u zF_rfl rfl) ws_245_253) rfl) hV28 (show qNho (qCan (m 94 10) (m 94 14) aa ob) aa ob on (3 : Int32) (0 : Int32) from by first | (exact Or.inl ⟨Re_n p2_m1 (by omega), rfl⟩) | (exact Ho_2 r_RB p2_m1 (by omega) (by omega) rfl) | (exact Ho_3 r_RB p2_m1 (by omega) (by omega) (by omega) rfl) | (exact Ho_4 r_RB p2_m1 (by omega) (i_zer (by omega)) (i_zer (by omega)) rfl) | (exact Ho_5 r_RB p2_m1 (by omega) (by omega) (by first | omega | (intro w; omega)) (Or.inl (i_nz2 (by omega))) rfl (by rw [if_neg (i_nz2 (by omega))])) | (exact Ho_5 r_RB p2_m1 (by omega) (by omega) (by first | omega | (intro w; omega)) (Or.inr (i_nz2 (by omega))) rfl (by rw [if_pos (i_zer (by omega))])) | (exfalso; omega; done) | (exfalso; contradiction; done))
          · skip
            have g29 := i_nle h26
            have b30 := i_bd on
            refine zd (fun (h31 : on = (0 : Int32)) => ?_) (fun (h31 : ¬ on = (0 : Int32)) => ?_)
            · skip
              have g32 := i_eq h31
              have hg33 : (0 ≤ v2 ∧ v2.toNatClampNeg < 3100) := i_ix (by omega) (by omega)
              refine ⟨hg33, ?_⟩
              have b34 := i_bd (m 107 v2.toNatClampNeg)
              refine zd (fun (h35 : (m 107 v2.toNatClampNeg) = (0 : Int32)) => ?_) (fun (h35 : ¬ (m 107 v2.toNatClampNeg) = (0 : Int32)) => ?_)
              · skip
                have g36 := i_eq h35
                have hV37 : zV (ma_u (zov wr_245 (ma_u m 94 0 (0 : Int32)) m1) 94 0 (3 : Int32)) := uf_94_0 hV_m1
                exact K ((0 : Int32)) _ (zF_u (zF_zov (zF_u zF_rfl rfl) ws_245_253) rfl) hV37 (show qNho (qCan (m 94 10) (m 94 14) aa ob) aa ob on (3 : Int32) (0 : Int32) from by first | (exact Or.inl ⟨Re_n p2_m1 (by omega), rfl⟩) | (exact Ho_2 r_RB p2_m1 (by omega) (by omega) rfl) | (exact Ho_3 r_RB p2_m1 (by omega) (by omega) (by omega) rfl) | (exact Ho_4 r_RB p2_m1 (by omega) (i_zer (by omega)) (i_zer (by omega)) rfl) | (exact Ho_5 r_RB p2_m1 (by omega) (by omega) (by first | omega | (intro w; omega)) (Or.inl (i_nz2 (by omega))) rfl (by rw [if_neg (i_nz2 (by omega))])) | (exact Ho_5 r_RB p2_m1 (by omega) (by omega) (by first | omega | (intro w; omega)) (Or.inr (i_nz2 (by omega))) rfl (by rw [if_pos (i_zer (by omega))])) | (exfalso; omega; done) | (exfalso; contradiction; done))
              · skip
                have g38 := i_ne h35
                have hg39 : (0 ≤ v2 ∧ v2.toNatClampNeg < 3100) := i_ix (by omega) (by omega)
                refine ⟨hg39, ?_⟩
                refine zd (fun (h40 : on = (0 : Int32)) => ?_) (fun (h40 : ¬ on = (0 : Int32)) => ?_)
                · skip
                  have g41 := i_eq h40
                  have hg42 : (0 ≤ v2 ∧ v2.toNatClampNeg < 3100) := i_ix (by omega) (by omega)
                  refine ⟨hg42, ?_⟩
                  refine zd (fun (h43 : on = (0 : Int32)) => ?_) (fun (h43 : ¬ on = (0 : Int32)) => ?_)
                  · skip
                    have g44 := i_eq h43
                    have hV45 : zV (ma_u (zov wr_245 (ma_u m 94 0 (0 : Int32)) m1) 94 0 (0 : Int32)) := uf_94_0 hV_m1
                    have hV46 : zV (ma_u (ma_u (zov wr_245 (ma_u m 94 0 (0 : Int32)) m1) 94 0 (0 : Int32)) 107 v2.toNatClampNeg ((m 107 v2.toNatClampNeg) + (-1 : Int32))) := ua_107 hV45
                    refine sp_241 (v2) hV46 (by omega) r_W r_GW r_GU r_OW r_DX (fun m15 hV_m15 p0_m15 p1_m15 p2_m15 p3_m15 p4_m15 => zmv_n ?_)
                    have p0_m15 : zGW T (m15 94 55) (m15 109) := p0_m15
                    have p1_m15 : zGU T (m 94 46) (m15 99) := p1_m15
                    have p2_m15 : zOw (m15 99) (m 103) (m15 111) := p2_m15
                    have p3_m15 : zDX (m 94 10) (m15 99) (m 112) (m15 113) (m15 114) (m15 94 55) (m 98) (m 101) (m 102) (m 108) := p3_m15
                    have p4_m15 : (m 94 10).toInt ≠ 4 → ((m15 99) = (m 99) ∧ (m15 111) = (m 111) ∧ (m15 113) = (m 113) ∧ (m15 114) = (m 114) ∧ (m15 94 55) = (m 94 55) ∧ (m15 109) = (m 109)) := p4_m15
                    first | have e47 : ((m 107 v2.toNatClampNeg) + (-1 : Int32)).toInt = (m 107 v2.toNatClampNeg).toInt + (-1) := i_addk rfl (by omega) (by omega) | have b48 := i_bd ((m 107 v2.toNatClampNeg) + (-1 : Int32))
                    exact K (((m 107 v2.toNatClampNeg) + (-1 : Int32))) _ (zF_zov (zF_u (zF_u (zF_zov (zF_u zF_rfl rfl) ws_245_253) rfl) rfl) ws_241_253) hV_m15 (show qNho (qCan (m 94 10) (m 94 14) aa ob) aa ob on (0 : Int32) ((m 107 v2.toNatClampNeg) + (-1 : Int32)) from by first | (exact Or.inl ⟨Re_n p2_m1 (by omega), rfl⟩) | (exact Ho_2 r_RB p2_m1 (by omega) (by omega) rfl) | (exact Ho_3 r_RB p2_m1 (by omega) (by omega) (by omega) rfl) | (exact Ho_4 r_RB p2_m1 (by omega) (i_zer (by omega)) (i_zer (by omega)) rfl) | (exact Ho_5 r_RB p2_m1 (by omega) (by omega) (by first | omega | (intro w; omega)) (Or.inl (i_nz2 (by omega))) rfl (by rw [if_neg (i_nz2 (by omega))])) | (exact Ho_5 r_RB p2_m1 (by omega) (by omega) (by first | omega | (intro w; omega)) (Or.inr (i_nz2 (by omega))) rfl (by rw [if_pos (i_zer (by omega))])) | (exfalso; omega; done) | (exfalso; contradiction; done))
                  · skip
                    exact absurd h40 h43
                · skip
                  exact absurd h31 h40
            · skip
              have g51 := i_ne h31
              have hg52 : (0 ≤ v2 ∧ v2.toNatClampNeg < 3100) := i_ix (by omega) (by omega)
              refine ⟨hg52, ?_⟩
              refine zd (fun (h53 : on = (0 : Int32)) => ?_) (fun (h53 : ¬ on = (0 : Int32)) => ?_)
              · skip
                exact absurd h53 h31
              · skip
                have g55 := i_ne h53
                have hg56 : (0 ≤ v2 ∧ v2.toNatClampNeg < 3100) := i_ix (by omega) (by omega)
                refine ⟨hg56, ?_⟩
                refine zd (fun (h57 : on = (0 : Int32)) => ?_) (fun (h57 : ¬ on = (0 : Int32)) => ?_)
                · skip
                  exact absurd h57 h53
                · skip
                  have g59 := i_ne h57
                  refine zd (fun (h60 : v2 < (0 : Int32)) => ?_) (fun (h60 : ¬ v2 < (0 : Int32)) => ?_)
                  · skip
                    have g61 := i_lt h60
                    exfalso; omega
                  · skip
                    have g62 := i_nlt h60
                    have li63 : (4 : Int32).toInt = 4 := rfl
                    refine zd (fun (h64 : (m 94 10) = (4 : Int32)) => ?_) (fun (h64 : ¬ (m 94 10) = (4 : Int32)) => ?_)
                    · skip
                      have g65 := i_eq h64
                      have hg66 : (0 ≤ v2 ∧ v2.toNatClampNeg < 3100) := i_ix (by omega) (by omega)
                      refine ⟨hg66, ?_⟩
                      have hg67 : (0 ≤ v2 ∧ v2.toNatClampNeg < 3100) := i_ix (by omega) (by omega)
                      refine ⟨hg67, ?_⟩
                      have hV68 : zV (ma_u (zov wr_245 (ma_u m 94 0 (0 : Int32)) m1) 94 0 (0 : Int32)) := uf_94_0 hV_m1
                      have hV69 : zV (ma_u (ma_u (zov wr_245 (ma_u m 94 0 (0 : Int32)) m1) 94 0 (0 : Int32)) 107 v2.toNatClampNeg ((m 107 v2.toNatClampNeg) + (1 : Int32))) := ua_107 hV68
                      have hV70 : zV (ma_u (ma_u (ma_u (zov wr_245 (ma_u m 94 0 (0 : Int32)) m1) 94 0 (0 : Int32)) 107 v2.toNatClampNeg ((m 107 v2.toNatClampNeg) + (1 : Int32))) 105 v2.toNatClampNeg ((m 105 v2.toNatClampNeg) + (1 : Int32))) := ua_105 hV69
                      have b71 := i_bd (m 107 v2.toNatClampNeg)
                      first | have e72 : ((m 107 v2.toNatClampNeg) + (1 : Int32)).toInt = (m 107 v2.toNatClampNeg).toInt + (1) := i_addk rfl (by omega) (by omega) | have b73 := i_bd ((m 107 v2.toNatClampNeg) + (1 : Int32))
                      exact K (((m 107 v2.toNatClampNeg) + (1 : Int32))) _ (zF_u (zF_u (zF_u (zF_zov (zF_u zF_rfl rfl) ws_245_253) rfl) rfl) rfl) hV70 (show qNho (qCan (m 94 10) (m 94 14) aa ob) aa ob on (0 : Int32) ((m 107 v2.toNatClampNeg) + (1 : Int32)) from by first | (exact Or.inl ⟨Re_n p2_m1 (by omega), rfl⟩) | (exact Ho_2 r_RB p2_m1 (by omega) (by omega) rfl) | (exact Ho_3 r_RB p2_m1 (by omega) (by omega) (by omega) rfl) | (exact Ho_4 r_RB p2_m1 (by omega) (i_zer (by omega)) (i_zer (by omega)) rfl) | (exact Ho_5 r_RB p2_m1 (by omega) (by omega) (by first | omega | (intro w; omega)) (Or.inl (i_nz2 (by omega))) rfl (by rw [if_neg (i_nz2 (by omega))])) | (exact Ho_5 r_RB p2_m1 (by omega) (by omega) (by first | omega | (intro w; omega)) (Or.inr (i_nz2 (by omega))) rfl (by rw [if_pos (i_zer (by omega))])) | (exfalso; omega; done) | (exfalso; contradiction; done))
                    · skip
                      have g74 := i_ne h64
                      have hV75 : zV (ma_u (zov wr_245 (ma_u m 94 0 (0 : Int32)) m1) 94 0 (0 : Int32)) := uf_94_0 hV_m1
                      have hV76 : zV (ma_u (ma_u (zov wr_245 (ma_u m 94 0 (0 : Int32)) m1) 94 0 (0 : Int32)) 107 v2.toNatClampNeg ((m 107 v2.toNatClampNeg) + (1 : Int32))) := ua_107 hV75
                      have b77 := i_bd (m 107 v2.toNatClampNeg)
                      first | have e78 : ((m 107 v2.toNatClampNeg) + (1 : Int32)).toInt = (m 107 v2.toNatClampNeg).toInt + (1) := i_addk rfl (by omega) (by omega) | have b79 := i_bd ((m 107 v2.toNatClampNeg) + (1 : Int32))
                      exact K (((m 107 v2.toNatClampNeg) + (1 : Int32))) _ (zF_u (zF_u (zF_zov (zF_u zF_rfl rfl) ws_245_253) rfl) rfl) hV76 (show qNho (qCan (m 94 10) (m 94 14) aa ob) aa ob on (0 : Int32) ((m 107 v2.toNatClampNeg) + (1 : Int32)) from by first | (exact Or.inl ⟨Re_n p2_m1 (by omega), rfl⟩) | (exact Ho_2 r_RB p2_m1 (by omega) (by omega) rfl) | (exact Ho_3 r_RB p2_m1 (by omega) (by omega) (by omega) rfl) | (exact Ho_4 r_RB p2_m1 (by omega) (i_zer (by omega)) (i_zer (by omega)) rfl) | (exact Ho_5 r_RB p2_m1 (by omega) (by omega) (by first | omega | (intro w; omega)) (Or.inl (i_nz2 (by omega))) rfl (by rw [if_neg (i_nz2 (by omega))])) | (exact Ho_5 r_RB p2_m1 (by omega) (by omega) (by first | omega | (intro w; omega)) (Or.inr (i_nz2 (by omega))) rfl (by rw [if_pos (i_zer (by omega))])) | (exfalso; omega; done) | (exfalso; contradiction; done))
        · skip
          have g80 := i_ne h20
          have b81 := i_bd on
          refine zd (fun (h82 : on = (0 : Int32)) => ?_) (fun (h82 : ¬ on = (0 : Int32)) => ?_)
          · skip
            have g83 := i_eq h82
            have hg84 : (0 ≤ v2 ∧ v2.toNatClampNeg < 3100) := i_ix (by omega) (by omega)
            refine ⟨hg84, ?_⟩
            have b85 := i_bd (m 107 v2.toNatClampNeg)
            refine zd (fun (h86 : (m 107 v2.toNatClampNeg) = (0 : Int32)) => ?_) (fun (h86 : ¬ (m 107 v2.toNatClampNeg) = (0 : Int32)) => ?_)
            · skip
              have g87 := i_eq h86
              have hV88 : zV (ma_u (zov wr_245 (ma_u m 94 0 (0 : Int32)) m1) 94 0 (3 : Int32)) := uf_94_0 hV_m1
              exact K ((0 : Int32)) _ (zF_u (zF_zov (zF_u zF_rfl rfl) ws_245_253) rfl) hV88 (show qNho (qCan (m 94 10) (m 94 14) aa ob) aa ob on (3 : Int32) (0 : Int32) from by first | (exact Or.inl ⟨Re_n p2_m1 (by omega), rfl⟩) | (exact Ho_2 r_RB p2_m1 (by omega) (by omega) rfl) | (exact Ho_3 r_RB p2_m1 (by omega) (by omega) (by omega) rfl) | (exact Ho_4 r_RB p2_m1 (by omega) (i_zer (by omega)) (i_zer (by omega)) rfl) | (exact Ho_5 r_RB p2_m1 (by omega) (by omega) (by first | omega | (intro w; omega)) (Or.inl (i_nz2 (by omega))) rfl (by rw [if_neg (i_nz2 (by omega))])) | (exact Ho_5 r_RB p2_m1 (by omega) (by omega) (by first | omega | (intro w; omega)) (Or.inr (i_nz2 (by omega))) rfl (by rw [if_pos (i_zer (by omega))])) | (exfalso; omega; done) | (exfalso; contradiction; done))
            · skip
              have g89 := i_ne h86
              have hg90 : (0 ≤ v2 ∧ v2.toNatClampNeg < 3100) := i_ix (by omega) (by omega)
              refine ⟨hg90, ?_⟩
              refine zd (fun (h91 : on = (0 : Int32)) => ?_) (fun (h91 : ¬ on = (0 : Int32)) => ?_)
              · skip
                have g92 := i_eq h91
                have hg93 : (0 ≤ v2 ∧ v2.toNatClampNeg < 3100) := i_ix (by omega) (by omega)
                refine ⟨hg93, ?_⟩
                refine zd (fun (h94 : on = (0 : Int32)) => ?_) (fun (h94 : ¬ on = (0 : Int32)) => ?_)
                · skip
                  have g95 := i_eq h94
                  have hV96 : zV (ma_u (zov wr_245 (ma_u m 94 0 (0 : Int32)) m1) 94 0 (0 : Int32)) := uf_94_0 hV_m1
                  have hV97 : zV (ma_u (ma_u (zov wr_245 (ma_u m 94 0 (0 : Int32)) m1) 94 0 (0 : Int32)) 107 v2.toNatClampNeg ((m 107 v2.toNatClampNeg) + (-1 : Int32))) := ua_107 hV96
                  refine sp_241 (v2) hV97 (by omega) r_W r_GW r_GU r_OW r_DX (fun m7 hV_m7 p0_m7 p1_m7 p2_m7 p3_m7 p4_m7 => zmv_n ?_)
                  have p0_m7 : zGW T (m7 94 55) (m7 109) := p0_m7
                  have p1_m7 : zGU T (m 94 46) (m7 99) := p1_m7
                  have p2_m7 : zOw (m7 99) (m 103) (m7 111) := p2_m7
                  have p3_m7 : zDX (m 94 10) (m7 99) (m 112) (m7 113) (m7 114) (m7 94 55) (m 98) (m 101) (m 102) (m 108) := p3_m7
                  have p4_m7 : (m 94 10).toInt ≠ 4 → ((m7 99) = (m 99) ∧ (m7 111) = (m 111) ∧ (m7 113) = (m 113) ∧ (m7 114) = (m 114) ∧ (m7 94 55) = (m 94 55) ∧ (m7 109) = (m 109)) := p4_m7
                  first | have e98 : ((m 107 v2.toNatClampNeg) + (-1 : Int32)).toInt = (m 107 v2.toNatClampNeg).toInt + (-1) := i_addk rfl (by omega) (by omega) | have b99 := i_bd ((m 107 v2.toNatClampNeg) + (-1 : Int32))
                  exact K (((m 107 v2.toNatClampNeg) + (-1 : Int32))) _ (zF_zov (zF_u (zF_u (zF_zov (zF_u zF_rfl rfl) ws_245_253) rfl) rfl) ws_241_253) hV_m7 (show qNho (qCan (m 94 10) (m 94 14) aa ob) aa ob on (0 : Int32) ((m 107 v2.toNatClampNeg) + (-1 : Int32)) from by first | (exact Or.inl ⟨Re_n p2_m1 (by omega), rfl⟩) | (exact Ho_2 r_RB p2_m1 (by omega) (by omega) rfl) | (exact Ho_3 r_RB p2_m1 (by omega) (by omega) (by omega) rfl) | (exact Ho_4 r_RB p2_m1 (by omega) (i_zer (by omega)) (i_zer (by omega)) rfl) | (exact Ho_5 r_RB p2_m1 (by omega) (by omega) (by first | omega | (intro w; omega)) (Or.inl (i_nz2 (by omega))) rfl (by rw [if_neg (i_nz2 (by omega))])) | (exact Ho_5 r_RB p2_m1 (by omega) (by omega) (by first | omega | (intro w; omega)) (Or.inr (i_nz2 (by omega))) rfl (by rw [if_pos (i_zer (by omega))])) | (exfalso; omega; done) | (exfalso; contradiction; done))
                · skip
                  exact absurd h91 h94
              · skip
                exact absurd h82 h91
          · skip
            have g102 := i_ne h82
            have hg103 : (0 ≤ v2 ∧ v2.toNatClampNeg < 3100) := i_ix (by omega) (by omega)
            refine ⟨hg103, ?_⟩
            refine zd (fun (h104 : on = (0 : Int32)) => ?_) (fun (h104 : ¬ on = (0 : Int32)) => ?_)
            · skip
              exact absurd h104 h82
            · skip
              have g106 := i_ne h104
              have hg107 : (0 ≤ v2 ∧ v2.toNatClampNeg < 3100) := i_ix (by omega) (by omega)
              refine ⟨hg107, ?_⟩
              refine zd (fun (h108 : on = (0 : Int32)) => ?_) (fun (h108 : ¬ on = (0 : Int32)) => ?_)
              · skip
                exact absurd h108 h104
              · skip
                have g110 := i_ne h108
                refine zd (fun (h111 : v2 < (0 : Int32)) => ?_) (fun (h111 : ¬ v2 < (0 : Int32)) => ?_)
                · skip
                  have g112 := i_lt h111
                  exfalso; omega
                · skip
                  have g113 := i_nlt h111
                  have li114 : (4 : Int32).toInt = 4 := rfl
                  refine zd (fun (h115 : (m 94 10) = (4 : Int32)) => ?_) (fun (h115 : ¬ (m 94 10) = (4 : Int32)) => ?_)
                  · skip
                    have g116 := i_eq h115
                    have hg117 : (0 ≤ v2 ∧ v2.toNatClampNeg < 3100) := i_ix (by omega) (by omega)
                    refine ⟨hg117, ?_⟩
                    have hg118 : (0 ≤ v2 ∧ v2.toNatClampNeg < 3100) := i_ix (by omega) (by omega)
                    refine ⟨hg118, ?_⟩
                    have hV119 : zV (ma_u (zov wr_245 (ma_u m 94 0 (0 : Int32)) m1) 94 0 (0 : Int32)) := uf_94_0 hV_m1
                    have hV120 : zV (ma_u (ma_u (zov wr_245 (ma_u m 94 0 (0 : Int32)) m1) 94 0 (0 : Int32)) 107 v2.toNatClampNeg ((m 107 v2.toNatClampNeg) + (1 : Int32))) := ua_107 hV119
                    have hV121 : zV (ma_u (ma_u (ma_u (zov wr_245 (ma_u m 94 0 (0 : Int32)) m1) 94 0 (0 : Int32)) 107 v2.toNatClampNeg ((m 107 v2.toNatClampNeg) + (1 : Int32))) 105 v2.toNatClampNeg ((m 105 v2.toNatClampNeg) + (1 : Int32))) := ua_105 hV120
                    have b122 := i_bd (m 107 v2.toNatClampNeg)
                    first | have e123 : ((m 107 v2.toNatClampNeg) + (1 : Int32)).toInt = (m 107 v2.toNatClampNeg).toInt + (1) := i_addk rfl (by omega) (by omega) | have b124 := i_bd ((m 107 v2.toNatClampNeg) + (1 : Int32))
                    exact K (((m 107 v2.toNatClampNeg) + (1 : Int32))) _ (zF_u (zF_u (zF_u (zF_zov (zF_u zF_rfl rfl) ws_245_253) rfl) rfl) rfl) hV121 (show qNho (qCan (m 94 10) (m 94 14) aa ob) aa ob on (0 : Int32) ((m 107 v2.toNatClampNeg) + (1 : Int32)) from by first | (exact Or.inl ⟨Re_n p2_m1 (by omega), rfl⟩) | (exact Ho_2 r_RB p2_m1 (by omega) (by omega) rfl) | (exact Ho_3 r_RB p2_m1 (by omega) (by omega) (by omega) rfl) | (exact Ho_4 r_RB p2_m1 (by omega) (i_zer (by omega)) (i_zer (by omega)) rfl) | (exact Ho_5 r_RB p2_m1 (by omega) (by omega) (by first | omega | (intro w; omega)) (Or.inl (i_nz2 (by omega))) rfl (by rw [if_neg (i_nz2 (by omega))])) | (exact Ho_5 r_RB p2_m1 (by omega) (by omega) (by first | omega | (intro w; omega)) (Or.inr (i_nz2 (by omega))) rfl (by rw [if_pos (i_zer (by omega))])) | (exfalso; omega; done) | (exfalso; contradiction; done))
                  · skip
                    have g125 := i_ne h115
                    have hV126 : zV (ma_u (zov wr_245 (ma_u m 94 0 (0 : Int32)) m1) 94 0 (0 : Int32)) := uf_94_0 hV_m1
                    have hV127 : zV (ma_u (ma_u (zov wr_245 (ma_u m 94 0 (0 : Int32)) m1) 94 0 (0 : Int32)) 107 v2.toNatClampNeg ((m 107 v2.toNatClampNeg) + (1 : Int32))) := ua_107 hV126
                    have b128 := i_bd (m 107 v2.toNatClampNeg)
                    first | have e129 : ((m 107 v2.toNatClampNeg) + (1 : Int32)).toInt = (m 107 v2.toNatClampNeg).toInt + (1) := i_addk rfl (by omega) (by omega) | have b130 := i_bd ((m 107 v2.toNatClampNeg) + (1 : Int32))
                    exact K (((m 107 v2.toNatClampNeg) + (1 : Int32))) _ (zF_u (zF_u (zF_zov (zF_u zF_rfl rfl) ws_245_253) rfl) rfl) hV127 (show qNho (qCan (m 94 10) (m 94 14) aa ob) aa ob on (0 : Int32) ((m 107 v2.toNatClampNeg) + (1 : Int32)) from by first | (exact Or.inl ⟨Re_n p2_m1 (by omega), rfl⟩) | (exact Ho_2 r_RB p2_m1 (by omega) (by omega) rfl) | (exact Ho_3 r_RB p2_m1 (by omega) (by omega) (by omega) rfl) | (exact Ho_4 r_RB p2_m1 (by omega) (i_zer (by omega)) (i_zer (by omega)) rfl) | (exact Ho_5 r_RB p2_m1 (by omega) (by omega) (by first | omega | (intro w; omega)) (Or.inl (i_nz2 (by omega))) rfl (by rw [if_neg (i_nz2 (by omega))])) | (exact Ho_5 r_RB p2_m1 (by omega) (by omega) (by first | omega | (intro w; omega)) (Or.inr (i_nz2 (by omega))) rfl (by rw [if_pos (i_zer (by omega))])) | (exfalso; omega; done) | (exfalso; contradiction; done))
    · skip
      have g131 := i_nle h12
      have hV132 : zV (ma_u (zov wr_245 (ma_u m 94 0 (0 : Int32)) m1) 94 0 (2 : Int32)) := uf_94_0 hV_m1
      exact K ((0 : Int32)) _ (zF_u (zF_zov (zF_u zF_rfl rfl) ws_245_253) rfl) hV132 (show qNho (qCan (m 94 10) (m 94 14) aa ob) aa ob on (2 : Int32) (0 : Int32) from by first | (exact Or.inl ⟨Re_n p2_m1 (by omega), rfl⟩) | (exact Ho_2 r_RB p2_m1 (by omega) (by omega) rfl) | (exact Ho_3 r_RB p2_m1 (by omega) (by omega) (by omega) rfl) | (exact Ho_4 r_RB p2_m1 (by omega) (i_zer (by omega)) (i_zer (by omega)) rfl) | (exact Ho_5 r_RB p2_m1 (by omega) (by omega) (by first | omega | (intro w; omega)) (Or.inl (i_nz2 (by omega))) rfl (by rw [if_neg (i_nz2 (by omega))])) | (exact Ho_5 r_RB p2_m1 (by omega) (by omega) (by first | omega | (intro w; omega)) (Or.inr (i_nz2 (by omega))) rfl (by rw [if_pos (i_zer (by omega))])) | (exfalso; omega; done) | (exfalso; contradiction; done))

