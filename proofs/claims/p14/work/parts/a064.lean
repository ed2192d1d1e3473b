/-! from 94.489 -/
/-! room is found, and a new one is made -/
def zPL (po ro yo ol hf tp ot si rg : Int32) (us ws at₉ ow : Nat → Int32) (v nw : Int32) : Prop := v.toInt = -1 ∨ (0 ≤ v.toInt ∧ v.toInt + nw.toInt ≤ 4600 ∧
  (po.toInt = 2 → sm (zbU us) ws 3100 + nw.toInt ≤ tp.toInt - zB2 hf ro) ∧
  (po.toInt = 3 → (ol.toInt ≤ v.toInt ∧ sm (zbY ol.toInt us at₉) ws 3100 + nw.toInt ≤ tp.toInt - zB3 hf ol yo) ∨ (v.toInt + nw.toInt ≤ ot.toInt ∧ zPK ol.toInt v.toInt us ws at₉ ow)) ∧
  (po.toInt = 6 → v.toInt < rg.toInt * si.toInt ∧ nw.toInt ≤ si.toInt))
/-- as zHA, but of dirty cards -/
def zHAs (po ro yo ol ca hf tp ot : Int32) (us ws at₉ ow : Nat → Int32) : Prop :=
  (po.toInt = 2 → zB2 hf ro ≤ tp.toInt ∧ tp.toInt ≤ zB2 hf ro + ro.toInt ∧ sm (zbU us) ws 3100 ≤ tp.toInt - zB2 hf ro) ∧
  (po.toInt = 3 → 4 ≤ ca.toInt ∧ (zB3 hf ol yo ≤ tp.toInt ∧ tp.toInt ≤ zB3 hf ol yo + yo.toInt ∧ sm (zbY ol.toInt us at₉) ws 3100 ≤ tp.toInt - zB3 hf ol yo) ∧ ot.toInt ≤ ol.toInt ∧ zPK ol.toInt ot.toInt us ws at₉ ow)
/-- all but s -/
def zmk (us : Nat → Int32) (s : Nat) : Nat → Int32 := fun t => if t = s then 0 else us t
/-- as zW, but of s up to i alone, and there nothing is referred to -/
def zWn (ks : Int32) (kr kd ws wd : Nat → Int32) (s i : Nat) : Prop := (∀ t, t < 3100 → t ≠ s → (∀ i : Nat, (i : Int) < (ws t).toInt → -1 ≤ (zrf kr kd wd t i).toInt ∧ (zrf kr kd wd t i).toInt ≤ 3099) ∧ ((ws t).toInt = 0 ∨ 16 ≤ (kd t).toInt ∨ (kd t).toInt < ks.toInt)) ∧ (∀ i₉, i₉ < i → (zrf kr kd wd s i₉).toInt = -1) ∧ (16 ≤ (kd s).toInt ∨ (kd s).toInt < ks.toInt)
def zGUp (T : Nat) (nu : Int32) (us : Nat → Int32) : Prop := (cnt us 3100 : Int) ≤ nu.toInt + 1 ∧ nu.toInt ≤ (T : Int) ∧ T + 1 ≤ 3000
section FR1
variable {po ro yo ol ca hf tp tp₉ ot ot₉ si rg pr v nw ks wm nu nu₉ : Int32} {us us₉ ws ws₉ at₉ at2 ow ow2 di kr kd kd₉ wd wd₉ rt wk wi : Nat → Int32} {m : Nat → Nat → Int32} {s i T c : Nat} {x si5 : Int32}
theorem mul1_B2 (h1 : 0 ≤ hf.toInt) (h2 : hf.toInt ≤ 1) (h3 : 0 ≤ ro.toInt) (h4 : ro.toInt ≤ 3000) : ((hf + (1 : Int32)) * ro).toInt = zB2 hf ro + ro.toInt := by
  have e : (hf + (1 : Int32)).toInt = hf.toInt + 1 := i_addk rfl (by omega) (by omega)
  unfold zB2
  rcases i_mul01 (x := hf + (1 : Int32)) (y := ro) (by omega) (by omega) h3 h4 with h | h | h
  · omega
  · rw [if_pos (by omega)]; omega
  · rw [if_neg (by omega)]; omega
theorem mul1_B3 (h1 : 0 ≤ hf.toInt) (h2 : hf.toInt ≤ 1) (h3 : 0 ≤ yo.toInt) (h4 : yo.toInt ≤ 3000) : ol.toInt + ((hf + (1 : Int32)) * yo).toInt = zB3 hf ol yo + yo.toInt := by
  have e : (hf + (1 : Int32)).toInt = hf.toInt + 1 := i_addk rfl (by omega) (by omega)
  unfold zB3
  rcases i_mul01 (x := hf + (1 : Int32)) (y := yo) (by omega) (by omega) h3 h4 with h | h | h
  · omega
  · rw [if_pos (by omega)]; omega
  · rw [if_neg (by omega)]; omega
theorem HA_up2 (h : zHA po ro yo ol ca hf tp ot us ws at₉ ow di kr kd wd) (hp : po.toInt = 2) (h1 : 0 ≤ hf.toInt) (h2 : hf.toInt ≤ 1) (h3 : 0 ≤ ro.toInt) (h4 : ro.toInt ≤ 3000) (ht : tp.toInt ≤ tp₉.toInt) (he : tp₉.toInt ≤ ((hf + (1 : Int32)) * ro).toInt) : zHA po ro yo ol ca hf tp₉ ot us ws at₉ ow di kr kd wd := by
  have a := h.1 hp
  rw [mul1_B2 h1 h2 h3 h4] at he
  exact ⟨fun _ => by omega, fun z => by omega⟩
theorem PL_2 (h : zHA po ro yo ol ca hf tp ot us ws at₉ ow di kr kd wd) (hp : po.toInt = 2) (h0 : 0 ≤ v.toInt) (h1 : v.toInt + nw.toInt ≤ 4600) (ht : tp₉.toInt = tp.toInt + nw.toInt) : zPL po ro yo ol hf tp₉ ot si rg us ws at₉ ow v nw := by
  have a := h.1 hp
  exact Or.inr ⟨h0, h1, fun _ => by omega, fun z => by omega, fun z => by omega⟩
theorem HA_up3 (h : zHA po ro yo ol ca hf tp ot us ws at₉ ow di kr kd wd) (hp : po.toInt = 3) (h1 : 0 ≤ hf.toInt) (h2 : hf.toInt ≤ 1) (h3 : 0 ≤ yo.toInt) (h4 : yo.toInt ≤ 3000) (ht : tp.toInt ≤ tp₉.toInt) (he : tp₉.toInt ≤ ol.toInt + ((hf + (1 : Int32)) * yo).toInt) : zHA po ro yo ol ca hf tp₉ ot us ws at₉ ow di kr kd wd := by
  obtain ⟨a1, a2, a3, a4, a5⟩ := h.2 hp
  rw [mul1_B3 h1 h2 h3 h4] at he
  exact ⟨fun z => by omega, fun _ => ⟨a1, ⟨by omega, by omega, by omega⟩, a3, a4, a5⟩⟩
theorem PL_3y (h : zHA po ro yo ol ca hf tp ot us ws at₉ ow di kr kd wd) (hp : po.toInt = 3) (h3 : 0 ≤ yo.toInt) (h0 : 0 ≤ v.toInt) (h1 : v.toInt + nw.toInt ≤ 4600) (hv : v = tp) (ht : tp₉.toInt = tp.toInt + nw.toInt) : zPL po ro yo ol hf tp₉ ot si rg us ws at₉ ow v nw := by
  obtain ⟨a1, a2, a3, a4, a5⟩ := h.2 hp
  have b := zB3_le (hf := hf) (ol := ol) (yo := yo) h3
  rw [hv] at h0 h1 ⊢
  exact Or.inr ⟨h0, h1, fun z => by omega, fun _ => Or.inl ⟨by omega, by omega⟩, fun z => by omega⟩
theorem HA_ot (h : zHA po ro yo ol ca hf tp ot us ws at₉ ow di kr kd wd) (hp : po.toInt = 3) (h1 : ot.toInt ≤ ot₉.toInt) (h2 : ot₉.toInt ≤ ol.toInt) : zHA po ro yo ol ca hf tp ot₉ us ws at₉ ow di kr kd wd := by
  obtain ⟨a1, a2, a3, a4, a5⟩ := h.2 hp
  exact ⟨fun z => by omega, fun _ => ⟨a1, a2, h2, PK_mono a4 h1, a5⟩⟩
theorem PL_3o (h : zHA po ro yo ol ca hf tp ot us ws at₉ ow di kr kd wd) (hp : po.toInt = 3) (h0 : 0 ≤ v.toInt) (h1 : v.toInt + nw.toInt ≤ 4600) (hv : v = ot) (ht : ot₉.toInt = ot.toInt + nw.toInt) : zPL po ro yo ol hf tp ot₉ si rg us ws at₉ ow v nw := by
  obtain ⟨a1, a2, a3, a4, a5⟩ := h.2 hp
  rw [hv] at h0 h1 ⊢
  exact Or.inr ⟨h0, h1, fun z => by omega, fun _ => Or.inr ⟨by omega, a4⟩, fun z => by omega⟩
theorem PL_no (hv : v.toInt = -1) : zPL po ro yo ol hf tp ot si rg us ws at₉ ow v nw := Or.inl hv
theorem PL_o (h0 : -1 ≤ v.toInt) (h1 : v.toInt + nw.toInt ≤ 4600) (h2 : po.toInt ≠ 2) (h3 : po.toInt ≠ 3) (h6 : po.toInt ≠ 6) : zPL po ro yo ol hf tp ot si rg us ws at₉ ow v nw := by
  by_cases z : v.toInt = -1
  · exact Or.inl z
  · exact Or.inr ⟨by omega, h1, fun q => absurd q h2, fun q => absurd q h3, fun q => absurd q h6⟩
theorem PL_6 (h : v.toInt = -1 ∨ (0 ≤ v.toInt ∧ v.toInt + nw.toInt ≤ rg.toInt * si.toInt ∧ nw.toInt ≤ si.toInt)) (h1 : v.toInt + nw.toInt ≤ 4600) (h2 : 0 < nw.toInt) (h6 : po.toInt = 6) : zPL po ro yo ol hf tp ot si rg us ws at₉ ow v nw := by
  rcases h with h | h
  · exact Or.inl h
  · exact Or.inr ⟨h.1, h1, fun q => by omega, fun q => by omega, fun _ => ⟨by omega, h.2.2⟩⟩
/-- a slot that is free is found -/
theorem AU_room {l : Int32} (h : ∀ j : Nat, (j : Int) < l.toInt → us j ≠ 0) (hg : zGU T nu us) (h1 : l.toInt ≤ 3100) : l.toInt ≤ 3000 := by
  have key : ∀ n : Nat, n ≤ 3100 → (∀ j, j < n → us j ≠ 0) → n ≤ cnt us 3100 := by
    intro n hn hj
    have e := cnt_all hj
    have : ∀ k : Nat, cnt us n ≤ cnt us (n + k) := by
      intro k
      induction k with
      | zero => exact Nat.le_refl _
      | succ k ih =>
        rw [← Nat.add_assoc]
        conv => rhs; unfold cnt
        omega
    have t := this (3100 - n)
    rw [show n + (3100 - n) = 3100 by omega] at t
    omega
  by_cases z : 0 ≤ l.toInt
  · have := key l.toInt.toNat (by omega) (fun j hj => h j (by omega))
    have := hg.1
    have := hg.2.1
    have := hg.2.2
    omega
  · omega
theorem AU_step {l l2 : Int32} (h : ∀ j : Nat, (j : Int) < l.toInt → us j ≠ 0) (h0 : 0 ≤ l.toInt) (hu : us l.toNatClampNeg ≠ 0) (e : l2.toInt = l.toInt + 1) : ∀ j : Nat, (j : Int) < l2.toInt → us j ≠ 0 := by
  intro j hj
  by_cases z : j = l.toNatClampNeg
  · rw [z]; exact hu
  · exact h j (by rw [tn_eq] at z; omega)
theorem zmk_ne {t : Nat} (h : zmk us s t ≠ 0) : t ≠ s ∧ us t ≠ 0 := by
  unfold zmk at h
  by_cases z : t = s
  · rw [if_pos z] at h; exact absurd rfl h
  · rw [if_neg z] at h; exact ⟨z, h⟩
theorem zrf_kd {t i : Nat} (h : kd₉ t = kd t) : zrf kr kd₉ wd t i = zrf kr kd wd t i := by
  unfold zrf
  rw [h]
theorem Ow_new {p : Int32} (h : zOw us at₉ ow) (h0 : us s = 0) (hu : ∀ t, t ≠ s → us₉ t = us t) (hs : us₉ s ≠ 0) (ha : ∀ t, t ≠ s → at2 t = at₉ t) (hp : at2 s = p) (hp0 : 0 ≤ p.toInt) (ho : ∀ q, q ≠ p.toNatClampNeg → ow2 q = ow q) (hop : (ow2 p.toNatClampNeg).toNatClampNeg = s) : zOw us₉ at2 ow2 := by
  intro q hq hq0
  by_cases z : q = p.toNatClampNeg
  · rw [z, hop]
    exact ⟨hs, by rw [hp, tn_cast hp0]⟩
  · rw [ho q z] at hq0 ⊢
    have a := h q hq hq0
    have ne : (ow q).toNatClampNeg ≠ s := fun y => a.1 (by rw [y]; exact h0)
    rw [hu _ ne, ha _ ne]
    exact a
theorem Wn_0 (h : zW ks kr kd ws wd) (hk : ∀ t, t ≠ s → kd₉ t = kd t) (hw : ∀ t, t ≠ s → ws₉ t = ws t) (hs : 16 ≤ (kd₉ s).toInt ∨ (kd₉ s).toInt < ks.toInt) {i0 : Nat} (hi : i0 = 0) : zWn ks kr kd₉ ws₉ wd s i0 := by
  refine ⟨fun t ht hn => ?_, fun i₉ z => by omega, hs⟩
  rw [hw t hn, hk t hn]
  refine ⟨fun i hi => ?_, (h t ht).2⟩
  rw [zrf_kd (hk t hn)]
  exact (h t ht).1 i hi
theorem Wn_put {i2 : Nat} (h : zWn ks kr kd ws wd s i) (he : ∀ t i₉ : Nat, t ≠ s → t < 3100 → (i₉ : Int) < (ws t).toInt → zrf kr kd wd₉ t i₉ = zrf kr kd wd t i₉) (hs : ∀ i₉, i₉ < i → zrf kr kd wd₉ s i₉ = zrf kr kd wd s i₉) (hx : (zrf kr kd wd₉ s i).toInt = -1) (e : i2 = i + 1) : zWn ks kr kd ws wd₉ s i2 := by
  refine ⟨fun t ht hn => ⟨fun i₉ hi => ?_, (h.1 t ht hn).2⟩, fun i₉ hi => ?_, h.2.2⟩
  · rw [he t i₉ hn ht hi]; exact (h.1 t ht hn).1 i₉ hi
  · by_cases z : i₉ = i
    · rw [z]; exact hx
    · rw [hs i₉ (by omega)]; exact h.2.1 i₉ (by omega)
theorem Wn_end (h : zWn ks kr kd ws wd s i) (hi : (ws s).toInt ≤ (i : Int)) : zW ks kr kd ws wd := by
  intro t ht
  by_cases z : t = s
  · rw [z]
    refine ⟨fun i₉ hi₉ => ?_, Or.inr h.2.2⟩
    have := h.2.1 i₉ (by omega)
    omega
  · exact h.1 t ht z
theorem DXn_0 (h : zDX po us rt wk wi wm kr kd ws wd) (h0 : us s = 0) (hu : ∀ t, t ≠ s → us₉ t = us t) (hk : ∀ t, t ≠ s → kd₉ t = kd t) (hw : ∀ t, t ≠ s → ws₉ t = ws t) : zDX po (zmk us₉ s) rt wk wi wm kr kd₉ ws₉ wd := by
  have e : zmk us₉ s = us := by
    funext t
    unfold zmk
    by_cases z : t = s
    · rw [if_pos z, z, h0]
    · rw [if_neg z]; exact hu t z
  rw [e]
  intro hp
  obtain ⟨a1, a2, a3, a4⟩ := h hp
  refine ⟨a1, a2, a3, fun t ht hut i hi => ?_⟩
  have z : t ≠ s := fun z => hut (by rw [z]; exact h0)
  rw [hw t z] at hi
  unfold zcl
  rw [zrf_kd (hk t z)]
  exact a4 t ht hut i hi
theorem DXn_put (h : zDX po (zmk us s) rt wk wi wm kr kd ws wd) (he : ∀ t i₉ : Nat, t ≠ s → t < 3100 → (i₉ : Int) < (ws t).toInt → zrf kr kd wd₉ t i₉ = zrf kr kd wd t i₉) : zDX po (zmk us s) rt wk wi wm kr kd ws wd₉ := by
  intro hp
  obtain ⟨a1, a2, a3, a4⟩ := h hp
  refine ⟨a1, a2, a3, fun t ht hut i hi => ?_⟩
  unfold zcl
  rw [he t i (zmk_ne hut).1 ht hi]
  exact a4 t ht hut i hi
theorem DXn_end (h : zDX po (zmk us s) rt wk wi wm kr kd ws wd) (hW : zWn ks kr kd ws wd s i) (hi : (ws s).toInt ≤ (i : Int)) : zDX po us rt wk wi wm kr kd ws wd := by
  intro hp
  obtain ⟨a1, a2, a3, a4⟩ := h hp
  have c1 : ∀ {r : Nat → Int32} {n : Int}, zcov (zmk us s) r n → zcov us r n := fun q k hk => (q k hk).imp id (fun z => (zmk_ne z).2)
  refine ⟨c1 a1, c1 a2, c1 a3, fun t ht hut i₉ hi₉ => ?_⟩
  by_cases z : t = s
  · rw [z] at hi₉ ⊢
    have := hW.2.1 i₉ (by omega)
    exact Or.inl (by omega)
  · refine (a4 t ht ?_ i₉ hi₉).imp id (fun y => (zmk_ne y).2)
    unfold zmk
    rw [if_neg z]; exact hut
theorem sm_new {b b₉ : Nat → Bool} {ws ws₉ : Nat → Int32} {n : Nat} (hs : s < n) (h0 : b s = false) (h1 : b₉ s = true) (hb : ∀ t, t ≠ s → b₉ t = b t) (hw : ∀ t, t ≠ s → ws₉ t = ws t) : sm b₉ ws₉ n = sm b ws n + ((ws₉ s).toInt + 1) := by
  have e1 : sm b ws₉ n = sm b ws n := by
    have key : ∀ k, sm b ws₉ k = sm b ws k := by
      intro k
      induction k with
      | zero => rfl
      | succ k ih =>
        unfold sm
        rw [ih]
        by_cases z : k = s
        · rw [z, h0]; simp
        · rw [hw k z]
    exact key n
  have e2 := sm_out (b := b₉) (b₉ := b) (ws := ws₉) hs h1 h0 (fun t _ hn => (hb t hn).symm)
  omega
theorem sm_old {b b₉ : Nat → Bool} {ws ws₉ : Nat → Int32} {n : Nat} (h0 : b s = false) (h1 : b₉ s = false) (hb : ∀ t, t ≠ s → b₉ t = b t) (hw : ∀ t, t ≠ s → ws₉ t = ws t) : sm b₉ ws₉ n = sm b ws n := by
  induction n with
  | zero => rfl
  | succ k ih =>
    unfold sm
    rw [ih]
    by_cases z : k = s
    · rw [z, h0, h1]; simp
    · rw [hw k z, hb k z]
theorem HAs_new {p : Int32} (h : zHA po ro yo ol ca hf tp ot us ws at₉ ow di kr kd wd) (hl : zPL po ro yo ol hf tp ot si rg us ws at₉ ow p nw) (hp0 : 0 ≤ p.toInt) (h0 : us s = 0) (hs3 : s < 3100) (hu : ∀ t, t ≠ s → us₉ t = us t) (hs : us₉ s ≠ 0) (hw : ∀ t, t ≠ s → ws₉ t = ws t) (hws : (ws₉ s).toInt + 1 = nw.toInt) (hws0 : 0 ≤ (ws₉ s).toInt) (ha : ∀ t, t ≠ s → at2 t = at₉ t) (hp : at2 s = p) (ho : ∀ q, q ≠ p.toNatClampNeg → ow2 q = ow q) (hop : (ow2 p.toNatClampNeg).toNatClampNeg = s) (hop0 : 0 ≤ (ow2 p.toNatClampNeg).toInt) (hb : ∀ t, t < 3100 → 0 ≤ (at₉ t).toInt) (hwn : ∀ t, t < 3100 → 0 ≤ (ws t).toInt) : zHAs po ro yo ol ca hf tp ot us₉ ws₉ at2 ow2 := by
  rcases hl with hl | ⟨l0, l1, l2, l3, _⟩
  · omega
  · refine ⟨fun e => ?_, fun e => ?_⟩
    · have a := h.1 e
      have b := l2 e
      have q := sm_new (b := zbU us) (b₉ := zbU us₉) (ws := ws) (ws₉ := ws₉) hs3 (by unfold zbU; exact decide_eq_false (fun z => z h0)) (by unfold zbU; exact decide_eq_true hs) (fun t ht => by unfold zbU; rw [hu t ht]) hw
      omega
    · obtain ⟨a1, a2, a3, a4, a5⟩ := h.2 e
      have f0 : zbY ol.toInt us at₉ s = false := by unfold zbY; exact decide_eq_false (fun z => z.1 h0)
      have fo : ∀ t, t ≠ s → zbY ol.toInt us₉ at2 t = zbY ol.toInt us at₉ t := fun t ht => by unfold zbY; rw [hu t ht, ha t ht]
      rcases l3 e with ⟨b1, b2⟩ | ⟨b1, b2⟩
      · have q := sm_new (b := zbY ol.toInt us at₉) (b₉ := zbY ol.toInt us₉ at2) (ws := ws) (ws₉ := ws₉) hs3 f0 (by unfold zbY; exact decide_eq_true ⟨hs, by rw [hp]; exact b1⟩) fo hw
        refine ⟨a1, ⟨by omega, by omega, by omega⟩, a3, fun t t1 t2 t3 => ?_⟩
        have z : t ≠ s := fun z => by rw [z, hp] at t3; omega
        rw [hu t z] at t2
        rw [ha t z] at t3 ⊢
        obtain ⟨c1, c2, c3, c4⟩ := a4 t t1 t2 t3
        have hbt := hb t t1
        have ne : (at₉ t).toNatClampNeg ≠ p.toNatClampNeg := by rw [tn_eq, tn_eq]; omega
        rw [ho _ ne, hw t z]
        refine ⟨c1, c2, c3, fun t₉ u1 u2 u3 u4 => ?_⟩
        have z₉ : t₉ ≠ s := fun z => by rw [z, hp] at u4; omega
        rw [hu t₉ z₉] at u2
        rw [ha t₉ z₉] at u3 u4 ⊢
        exact c4 t₉ u1 u2 u3 u4
      · have q := sm_old (b := zbY ol.toInt us at₉) (b₉ := zbY ol.toInt us₉ at2) (ws := ws) (ws₉ := ws₉) (n := 3100) f0 (by unfold zbY; exact decide_eq_false (fun z => by have := z.2; rw [hp] at this; omega)) fo hw
        refine ⟨a1, ⟨by omega, by omega, by omega⟩, a3, fun t t1 t2 t3 => ?_⟩
        by_cases z : t = s
        · rw [z, hp, hop]
          refine ⟨rfl, hop0, by omega, fun t₉ u1 u2 u3 u4 => ?_⟩
          by_cases z₉ : t₉ = s
          · rw [z₉, hp] at u3; omega
          · rw [ha t₉ z₉] at u3 u4
            rw [hu t₉ z₉] at u2
            have := (b2 t₉ u1 u2 u4).2.2.1
            have := hwn t₉ u1
            omega
        · rw [hu t z] at t2
          rw [ha t z] at t3 ⊢
          obtain ⟨c1, c2, c3, c4⟩ := b2 t t1 t2 t3
          have hbt := hb t t1
          have hwt := hwn t t1
          have ne : (at₉ t).toNatClampNeg ≠ p.toNatClampNeg := by rw [tn_eq, tn_eq]; omega
          rw [ho _ ne, hw t z]
          refine ⟨c1, c2, by omega, fun t₉ u1 u2 u3 u4 => ?_⟩
          by_cases z₉ : t₉ = s
          · rw [z₉, hp]; exact c3
          · rw [hu t₉ z₉] at u2
            rw [ha t₉ z₉] at u3 u4 ⊢
            exact c4 t₉ u1 u2 u3 u4
theorem DCn_0 (h : zHA po ro yo ol ca hf tp ot us ws at₉ ow di kr kd wd) (hD : zDX po us rt wk wi wm kr kd ws wd) (h0 : us s = 0) (hu : ∀ t, t ≠ s → us₉ t = us t) (hk : ∀ t, t ≠ s → kd₉ t = kd t) (hw : ∀ t, t ≠ s → ws₉ t = ws t) (ha : ∀ t, t ≠ s → at2 t = at₉ t) : po.toInt = 3 → zDC ol.toInt ca.toInt (zmk us₉ s) at2 ws₉ kr kd₉ wd di := by
  intro hp t ht hut hat i hi
  obtain ⟨z, hu2⟩ := zmk_ne hut
  rw [hu t z] at hu2
  rw [ha t z] at hat
  rw [hw t z] at hi
  rw [zrf_kd (hk t z), ha t z]
  rcases (hD (Or.inr hp)).2.2.2 t ht hu2 i hi with q | q
  · exact Or.inl q
  · have z2 : (zrf kr kd wd t i).toNatClampNeg ≠ s := fun y => q (by rw [y]; exact h0)
    rw [ha _ z2]
    exact (h.2 hp).2.2.2.2 t ht hu2 hat i hi
theorem DCn_put (h : po.toInt = 3 → zDC ol.toInt ca.toInt (zmk us s) at₉ ws kr kd wd di) (he : ∀ t i₉ : Nat, t ≠ s → t < 3100 → (i₉ : Int) < (ws t).toInt → zrf kr kd wd₉ t i₉ = zrf kr kd wd t i₉) : po.toInt = 3 → zDC ol.toInt ca.toInt (zmk us s) at₉ ws kr kd wd₉ di := by
  intro hp t ht hut hat i hi
  rw [he t i (zmk_ne hut).1 ht hi]
  exact h hp t ht hut hat i hi
theorem HA_end (h : zHAs po ro yo ol ca hf tp ot us ws at₉ ow) (hD : po.toInt = 3 → zDC ol.toInt ca.toInt (zmk us s) at₉ ws kr kd wd di) (hW : zWn ks kr kd ws wd s i) (hi : (ws s).toInt ≤ (i : Int)) : zHA po ro yo ol ca hf tp ot us ws at₉ ow di kr kd wd := by
  refine ⟨h.1, fun hp => ?_⟩
  obtain ⟨a1, a2, a3, a4⟩ := h.2 hp
  refine ⟨a1, a2, a3, a4, fun t ht hut hat i₉ hi₉ => ?_⟩
  by_cases z : t = s
  · rw [z] at hi₉ ⊢
    have := hW.2.1 i₉ (by omega)
    exact Or.inl (by omega)
  · exact hD hp t ht (by unfold zmk; rw [if_neg z]; exact hut) hat i₉ hi₉
theorem RG_new {p : Int32} (h : zRG po si rg pr us at₉ ws rt) (hl : zPL po ro yo ol hf tp ot si rg us ws at₉ ow p nw) (hp0 : 0 ≤ p.toInt) (hu : ∀ t, t ≠ s → us₉ t = us t) (hw : ∀ t, t ≠ s → ws₉ t = ws t) (hws : (ws₉ s).toInt + 1 = nw.toInt) (ha : ∀ t, t ≠ s → at2 t = at₉ t) (hp : at2 s = p) : zRG po si rg pr us₉ at2 ws₉ rt := by
  intro e
  obtain ⟨a1, a2, a3, a4, a5, a6⟩ := h e
  rcases hl with hl | ⟨l0, l1, _, _, l6⟩
  · omega
  · refine ⟨a1, a2, a3, a4, a5, fun t ht hut => ?_⟩
    by_cases z : t = s
    · rw [z, hp, hws]; exact l6 e
    · rw [hu t z] at hut
      rw [ha t z, hw t z]
      exact a6 t ht hut
theorem GUp_0 {k : Nat} (h : zGU T nu (m c)) (ht : T + 1 ≤ 3000) : zGUp T nu (ma_u m c k x c) := by
  have := cnt_ub (m := m) (c := c) (k := k) (x := x) (n := 3100)
  exact ⟨by have := h.1; omega, h.2.1, ht⟩
theorem GUp_end (h : zGUp T nu us) (e : nu₉.toInt = nu.toInt + 1) : zGU (T + 1) nu₉ us := ⟨by have := h.1; omega, by have := h.2.1; omega, h.2.2⟩
/-- the words of the new one are written one by one -/
theorem zrf_oth {k : Nat} (hk : k = 60 * s + i) (hi : i < 60) (hb : ∀ t, t < 3100 → (ws t).toInt ≤ 60) : ∀ t i₉ : Nat, t ≠ s → t < 3100 → (i₉ : Int) < (ws t).toInt → zrf kr kd (ma_u m c k x c) t i₉ = zrf kr kd (m c) t i₉ := by
  intro t i₉ h1 h2 h3
  have := hb t h2
  exact zrf_ne (by omega)
theorem zrf_bef {k : Nat} (hk : k = 60 * s + i) : ∀ i₉, i₉ < i → zrf kr kd (ma_u m c k x c) s i₉ = zrf kr kd (m c) s i₉ := fun i₉ h => zrf_ne (by omega)
theorem zrf_m1 {k : Nat} (hk : k = 60 * s + i) (hx : x = -1) : (zrf kr kd (ma_u m c k x c) s i).toInt = -1 := by
  unfold zrf
  rw [hk, mu_self, hx]
  split
  · rfl
  · split <;> rfl
theorem zrf_nr {j : Int32} (hj : j.toNatClampNeg = i) (h0 : 0 ≤ j.toInt) (h1 : ¬ kd s = 16) (h2 : ¬ (kd s < 16 ∧ ((kr (kd s).toNatClampNeg >>> (j &&& 31)) &&& 1) = 1)) : (zrf kr kd wd s i).toInt = -1 := by
  rw [← hj]
  rw [zrf_no h1 (by rw [ofNat_tn h0]; exact h2)]
  rfl
end FR1
theorem GU_up {T : Nat} {nu : Int32} {us : Nat → Int32} (h : zGU T nu us) (ht : T + 1 ≤ 3000) : zGU (T + 1) nu us := ⟨h.1, by have := h.2.1; omega, ht⟩
theorem GU_nu {T : Nat} {nu : Int32} {us : Nat → Int32} (h : zGU T nu us) : nu.toInt ≤ (T : Int) := h.2.1
theorem PL_lo {po ro yo ol hf tp ot si rg : Int32} {us ws at₉ ow : Nat → Int32} {v nw : Int32} (h : zPL po ro yo ol hf tp ot si rg us ws at₉ ow v nw) : v.toInt = -1 ∨ (0 ≤ v.toInt ∧ v.toInt + nw.toInt ≤ 4600) := h.imp id (fun z => ⟨z.1, z.2.1⟩)

