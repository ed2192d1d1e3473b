/-! those that come: halves and ages -/
/-- by halves, while they come -/
def zH2 (po ro hf to : Int32) (us kp ws : Nat → Int32) : Prop := po.toInt = 2 → to.toInt + sm (zbN us kp) ws 3100 ≤ zB2 hf ro + ro.toInt ∧ zB2 hf ro + sm (zbK us kp) ws 3100 ≤ to.toInt
/-- by ages, while they come -/
def zH3 (po yo ol a hf to ot : Int32) (us kp ag ws at' ow : Nat → Int32) : Prop := po.toInt = 3 → to.toInt + sm (zbN0 us kp ag a) ws 3100 ≤ zB3 hf ol yo + yo.toInt ∧ ot.toInt + sm (zbN1 us kp ag a) ws 3100 ≤ ol.toInt ∧ zB3 hf ol yo + sm (zbKY us kp at' ol.toInt) ws 3100 ≤ to.toInt ∧ zPK ol.toInt ot.toInt us ws at' ow ∧ ∀ t, t < 3100 → us t ≠ 0 → kp t = 0 → ol.toInt ≤ (at' t).toInt
theorem i_mul01 {x y : Int32} (h1 : 0 ≤ x.toInt) (h2 : x.toInt ≤ 2) (h3 : 0 ≤ y.toInt) (h4 : y.toInt ≤ 3000) : (x.toInt = 0 ∧ (x * y).toInt = 0) ∨ (x.toInt = 1 ∧ (x * y).toInt = y.toInt) ∨ (x.toInt = 2 ∧ (x * y).toInt = 2 * y.toInt) := by
  have e := (i_muln (x := x) (y := y) h1 (by omega) h3 h4).2.2
  have h : x.toInt = 0 ∨ x.toInt = 1 ∨ x.toInt = 2 := by omega
  rcases h with h | h | h <;> rw [h] at e ⊢
  · exact Or.inl ⟨rfl, by omega⟩
  · exact Or.inr (Or.inl ⟨rfl, by omega⟩)
  · exact Or.inr (Or.inr ⟨rfl, by omega⟩)
theorem mul_B2 {x y : Int32} (h1 : 0 ≤ x.toInt) (h2 : x.toInt ≤ 1) (h3 : 0 ≤ y.toInt) (h4 : y.toInt ≤ 3000) : (x * y).toInt = zB2 x y := by
  unfold zB2
  rcases i_mul01 h1 (by omega) h3 h4 with h | h | h
  · rw [if_pos h.1]; exact h.2
  · rw [if_neg (by omega)]; exact h.2
  · omega
theorem mul_B3 {x y o : Int32} (h1 : 0 ≤ x.toInt) (h2 : x.toInt ≤ 1) (h3 : 0 ≤ y.toInt) (h4 : y.toInt ≤ 3000) : o.toInt + (x * y).toInt = zB3 x o y := by
  unfold zB3
  rcases i_mul01 h1 (by omega) h3 h4 with h | h | h
  · rw [if_pos h.1]; omega
  · rw [if_neg (by omega)]; omega
  · omega
/-- where they are: as it was, or from e on before and after -/
def zax (at' at2 : Nat → Int32) (e : Int) : Prop := ∀ t, t < 3100 → at2 t = at' t ∨ (e ≤ (at' t).toInt ∧ e ≤ (at2 t).toInt)
/-- OLD ones from p on, below e -/
def zXX (us at' : Nat → Int32) (p e : Int) (t : Nat) : Prop := us t ≠ 0 ∧ p ≤ (at' t).toInt ∧ (at' t).toInt < e
/-- an OLD one's word refers to nothing, or to one kept, or lies in a dirty card -/
def zDK (e ca : Int) (kp us at' ws kr kd wd di : Nat → Int32) : Prop := ∀ s, s < 3100 → us s ≠ 0 → (at' s).toInt < e → ∀ i : Nat, (i : Int) < (ws s).toInt → zcl kp kr kd wd s i ∨ di (((at' s).toInt + 1 + i) / ca).toNat ≠ 0
section CD1
variable {m : Nat → Nat → Int32} {c k cur i : Nat} {kp kp' kr kd ws wd us us' rt wk wi at' at2 ow ow2 ca di ag : Nat → Int32} {qa qm x y po wm s to ro hf hf' yo ol tp ot cc a : Int32} {xx xx' : Nat → Prop} {p p2 e e2 : Int}
theorem zax_rfl : zax at' at' e := fun _ _ => Or.inl rfl
theorem zax_mv (h : zmov s to at' ow at2 ow2) (h1 : e ≤ (at' s.toNatClampNeg).toInt) (h2 : e ≤ to.toInt) : zax at' at2 e := by
  intro t _
  rcases h with ⟨q, _, _⟩ | ⟨q, _, _⟩
  · rw [q]; exact Or.inl rfl
  · rw [q]
    split
    · next z => rw [z]; exact Or.inr ⟨h1, h2⟩
    · exact Or.inl rfl
theorem CQ_weak (h : zCQ kp kr kd ws wd ca qa qm xx cur i) (hx : ∀ t, t < 3100 → kp t ≠ 0 → xx t → xx' t ∨ (∀ i' : Nat, (i' : Int) < (ws t).toInt → zcl kp kr kd wd t i')) : zCQ kp kr kd ws wd ca qa qm xx' cur i := by
  refine ⟨h.1, h.2.1, fun s hs hk => ?_⟩
  rcases h.2.2 s hs hk with q | q | q | q
  · exact Or.inl q
  · exact Or.inr (Or.inl q)
  · exact Or.inr (Or.inr (Or.inl q))
  · rcases hx s hs hk q with z | z
    · exact Or.inr (Or.inr (Or.inr z))
    · exact Or.inr (Or.inl z)
theorem CQ_ax (h : zCQ kp kr kd ws wd ca qa qm (zXX us at' p e) cur i) (hx : zax at' at2 e2) (he : e ≤ e2) : zCQ kp kr kd ws wd ca qa qm (zXX us at2 p e) cur i := by
  refine CQ_weak h (fun t ht _ q => Or.inl ?_)
  rcases hx t ht with z | z
  · unfold zXX at q ⊢; rw [z]; exact q
  · exfalso; have := q.2.2; omega
theorem DK_ax (h : zDK e p kp us at' ws kr kd wd di) (hk : zle kp kp') (hx : zax at' at2 e2) (he : e ≤ e2) (hb : ∀ s, s < 3100 → ∀ i : Nat, (i : Int) < (ws s).toInt → (zrf kr kd wd s i).toInt ≤ 3099) : zDK e p kp' us at2 ws kr kd wd di := by
  intro s hs hu ha i hi
  rcases hx s hs with z | z
  · rw [z] at ha ⊢
    rcases h s hs hu ha i hi with q | q
    · refine Or.inl ?_
      rcases q with q | q
      · exact Or.inl q
      · exact Or.inr (hk _ (by have := hb s hs i hi; rw [tn_eq]; omega) q)
    · exact Or.inr q
  · omega
/-- by halves: none has come yet -/
theorem H2_0 {x2 : Int32} (h : zHA po ro yo ol cc hf tp ot us ws at' ow di kr kd wd) (hp : po.toInt = 2) (hk : ∀ s : Nat, s < 3100 → m c s = 0) (hto : to.toInt = zB2 x2 ro) (hw : ∀ s, s < 3100 → 0 ≤ (ws s).toInt) : to.toInt + sm (zbN us (m c)) ws 3100 ≤ zB2 x2 ro + ro.toInt ∧ zB2 x2 ro + sm (zbK us (m c)) ws 3100 ≤ to.toInt := by
  have a := h.1 hp
  rw [smN_none hk]
  have z : sm (zbK us (m c)) ws 3100 = 0 := sm_zero (fun s hs => by unfold zbK; exact decide_eq_false (fun q => q.2 (hk s hs)))
  omega
theorem CQ_none (h : ∀ s, s < 3100 → kp s = 0) (hz : qm.toInt = 0) : zCQ kp kr kd ws wd ca qa qm xx 3100 0 :=
  ⟨fun j hj => by omega, fun e => absurd e (by decide), fun s hs hk => absurd (h s hs) hk⟩
theorem DX_come (hC : zCQ kp kr kd ws wd ca qa qm (fun _ => False) 3100 0) (hz : qm.toInt ≤ qa.toInt) (hr : zcov kp rt 16) (hw : zcov kp wi wm.toInt) (hk : zcov kp wk 16) (hu : zKU po us kp) (hm : zrm us us' kp 3100) (br : ∀ j : Nat, (j : Int) < 16 → (rt j).toInt ≤ 3099) (bw : ∀ j : Nat, (j : Int) < wm.toInt → (wi j).toInt ≤ 3099) (bk : ∀ j : Nat, (j : Int) < 16 → (wk j).toInt ≤ 3099) (bf : ∀ s, s < 3100 → ∀ i : Nat, (i : Int) < (ws s).toInt → (zrf kr kd wd s i).toInt ≤ 3099) : zDX po us' rt wk wi wm kr kd ws wd := by
  intro hp
  have key : ∀ j : Int32, j.toInt ≤ 3099 → (j.toInt < 0 ∨ kp j.toNatClampNeg ≠ 0) → (j.toInt < 0 ∨ us' j.toNatClampNeg ≠ 0) := by
    intro j hj hq
    rcases hq with q | q
    · exact Or.inl q
    · have hl : j.toNatClampNeg < 3100 := by rw [tn_eq]; omega
      exact Or.inr (((hm _ hl).1 hl).mpr ⟨hu hp _ hl q, q⟩)
  refine ⟨fun j hj => key _ (br j hj) (hr j hj), fun j hj => key _ (bk j hj) (hk j hj), fun j hj => key _ (bw j hj) (hw j hj), fun s hs hus i hi => ?_⟩
  have hks := (((hm s hs).1 hs).mp hus).2
  rcases hC.2.2 s hs hks with ⟨j, hj, hj2, _⟩ | q | ⟨q, _⟩ | q
  · omega
  · exact key _ (bf s hs i hi) (q i hi)
  · omega
  · exact q.elim
theorem HA_halves (h : po.toInt = 2) (h2 : tp.toInt + sm (zbN us kp) ws 3100 ≤ zB2 hf ro + ro.toInt ∧ zB2 hf ro + sm (zbK us kp) ws 3100 ≤ tp.toInt) (hm : zrm us us' kp 3100) (hw : ∀ s, s < 3100 → 0 ≤ (ws s).toInt) : zHA po ro yo ol cc hf tp ot us' ws at' ow di kr kd wd := by
  refine ⟨fun _ => ?_, fun e => by omega⟩
  have n0 := sm_nn (b := zbN us kp) (ws := ws) (n := 3100) hw
  have n1 := sm_nn (b := zbK us kp) (ws := ws) (n := 3100) hw
  have e1 : sm (zbU us') ws 3100 = sm (zbK us kp) ws 3100 := sm_congr (fun t ht => by
    unfold zbU zbK
    exact decide_eq_decide.mpr ((hm t ht).1 ht))
  omega
theorem KO_step {b : Int} {j l : Int32} (h : ∀ s : Nat, (s : Int) < l.toInt → (m c s ≠ 0 ↔ us s ≠ 0 ∧ (at' s).toInt < b)) (h0 : 0 ≤ l.toInt) (hj : j.toInt = l.toInt + 1) (hx : x ≠ 0 ↔ us l.toNatClampNeg ≠ 0 ∧ (at' l.toNatClampNeg).toInt < b) : ∀ s : Nat, (s : Int) < j.toInt → (ma_u m c l.toNatClampNeg x c s ≠ 0 ↔ us s ≠ 0 ∧ (at' s).toInt < b) := by
  intro s hs
  rw [mu_at]
  split
  · next z => rw [z]; exact hx
  · next q => exact h s (by rw [tn_eq] at q; omega)
/-- by ages: none has come yet -/
theorem H3_0 {x2 : Int32} (h : zHA po ro yo ol cc hf tp ot us ws at' ow di kr kd wd) (hp : po.toInt = 3) (hk : ∀ s : Nat, s < 3100 → (kp s ≠ 0 ↔ us s ≠ 0 ∧ (at' s).toInt < ol.toInt)) (hf : ot.toInt + sm (zbG us at' ol ag a) ws 3100 ≤ ol.toInt) (hto : to.toInt = zB3 x2 ol yo) (hw : ∀ s, s < 3100 → 0 ≤ (ws s).toInt) : to.toInt + sm (zbN0 us kp ag a) ws 3100 ≤ zB3 x2 ol yo + yo.toInt ∧ ot.toInt + sm (zbN1 us kp ag a) ws 3100 ≤ ol.toInt ∧ zB3 x2 ol yo + sm (zbKY us kp at' ol.toInt) ws 3100 ≤ to.toInt ∧ zPK ol.toInt ot.toInt us ws at' ow ∧ ∀ t, t < 3100 → us t ≠ 0 → kp t = 0 → ol.toInt ≤ (at' t).toInt := by
  obtain ⟨a1, a2, a3, a4, a5⟩ := h.2 hp
  have hn : ∀ t, t < 3100 → us t ≠ 0 → kp t = 0 → ol.toInt ≤ (at' t).toInt := fun t ht hu h0 => by
    refine Classical.byContradiction (fun z => ?_)
    exact ((hk t ht).mpr ⟨hu, by omega⟩) h0
  have s1 : sm (zbN0 us kp ag a) ws 3100 ≤ sm (zbY ol.toInt us at') ws 3100 := sm_mono (fun t ht hb => by
    unfold zbN0 at hb; unfold zbY
    rw [decide_eq_true_eq] at hb ⊢
    exact ⟨hb.1, hn t ht hb.1 hb.2.1⟩) hw
  have s2 : sm (zbN1 us kp ag a) ws 3100 ≤ sm (zbG us at' ol ag a) ws 3100 := sm_mono (fun t ht hb => by
    unfold zbN1 at hb; unfold zbG
    rw [decide_eq_true_eq] at hb ⊢
    exact ⟨hb.1, hn t ht hb.1 hb.2.1, hb.2.2⟩) hw
  have s3 : sm (zbKY us kp at' ol.toInt) ws 3100 = 0 := sm_zero (fun t ht => by
    unfold zbKY
    refine decide_eq_false (fun q => ?_)
    have := ((hk t ht).mp q.2.1).2
    have := q.2.2
    omega)
  exact ⟨by omega, by omega, by omega, a4, hn⟩
theorem KU_ko {b : Int} (hk : ∀ s : Nat, s < 3100 → (kp s ≠ 0 ↔ us s ≠ 0 ∧ (at' s).toInt < b)) : zKU po us kp := fun _ s hs h => ((hk s hs).mp h).1
theorem CQ_ko (h : zHA po ro yo ol cc hf tp ot us ws at' ow di kr kd wd) (hp : po.toInt = 3) (hk : ∀ s : Nat, s < 3100 → (kp s ≠ 0 ↔ us s ≠ 0 ∧ (at' s).toInt < ol.toInt)) (hz : qm.toInt = 0) (hb : ∀ s, s < 3100 → 0 ≤ (at' s).toInt) (hw : ∀ s, s < 3100 → 0 ≤ (ws s).toInt) : zCQ kp kr kd ws wd ca qa qm (zXX us at' 0 ot.toInt) 3100 0 := by
  refine ⟨fun j hj => by omega, fun e => absurd e (by decide), fun s hs hks => Or.inr (Or.inr (Or.inr ?_))⟩
  have q := (hk s hs).mp hks
  have := ((h.2 hp).2.2.2.1 s hs q.1 q.2).2.2.1
  have := hw s hs
  exact ⟨q.1, hb s hs, by omega⟩
theorem DK_ko (h : zHA po ro yo ol cc hf tp ot us ws at' ow di kr kd wd) (hp : po.toInt = 3) (hD : zDX po us rt wk wi wm kr kd ws wd) (hk : ∀ s : Nat, s < 3100 → (kp s ≠ 0 ↔ us s ≠ 0 ∧ (at' s).toInt < ol.toInt)) (hb : ∀ s, s < 3100 → ∀ i : Nat, (i : Int) < (ws s).toInt → (zrf kr kd wd s i).toInt ≤ 3099) : zDK ot.toInt cc.toInt kp us at' ws kr kd wd di := by
  obtain ⟨a1, a2, a3, a4, a5⟩ := h.2 hp
  intro s hs hu ha i hi
  rcases a5 s hs hu (by omega) i hi with q | q | q
  · exact Or.inl (Or.inl q)
  · rcases (hD (Or.inr hp)).2.2.2 s hs hu i hi with z | z
    · exact Or.inl (Or.inl z)
    · exact Or.inl (Or.inr ((hk _ (by have := hb s hs i hi; rw [tn_eq]; omega)).mpr ⟨z, q⟩))
  · exact Or.inr q
/-- no one begins at p -/
theorem CQ_skip (h : zCQ kp kr kd ws wd ca qa qm (zXX us at' p e) 3100 i) (hk : zPK ol.toInt e2 us ws at' ow) (he : e ≤ ol.toInt) (hp : (ow p.toNat).toInt < 0) (h0 : 0 ≤ p) (e3 : p2 = p + 1) : zCQ kp kr kd ws wd ca qa qm (zXX us at' p2 e) 3100 i := by
  subst e3
  refine CQ_weak h (fun t ht _ q => Or.inl ⟨q.1, ?_, q.2.2⟩)
  have a := (hk t ht q.1 (by have := q.2.2; omega)).2.1
  have b := q.2.1
  refine Classical.byContradiction (fun z => ?_)
  have e5 : (at' t).toNatClampNeg = p.toNat := by rw [tn_eq]; omega
  rw [e5] at a
  omega
/-- the one at p is done -/
theorem CQ_over {s : Nat} (h : zCQ kp kr kd ws wd ca qa qm (zXX us at' p e) 3100 i) (hk : zPK ol.toInt e2 us ws at' ow) (he : e ≤ ol.toInt) (hs : s < 3100) (hu : us s ≠ 0) (ha : (at' s).toInt = p) (hpe : p < e) (hd : ∀ i' : Nat, (i' : Int) < (ws s).toInt → zcl kp kr kd wd s i') (h0 : 0 ≤ p) (e3 : p2 = p + (ws s).toInt + 1) : zCQ kp kr kd ws wd ca qa qm (zXX us at' p2 e) 3100 i := by
  refine CQ_weak h (fun t ht _ q => ?_)
  have b := q.2.1
  have d := q.2.2
  by_cases z : (at' t).toInt = p
  · refine Or.inr ?_
    have a1 := (hk t ht q.1 (by omega)).1
    have a2 := (hk s hs hu (by omega)).1
    have e4 : at' t = at' s := Int32.toInt_inj.mp (by omega)
    rw [e4, a2] at a1
    rw [← a1]
    exact hd
  · have a3 := (hk s hs hu (by omega)).2.2.2 t ht q.1 (by omega) (by omega)
    exact Or.inl ⟨q.1, by omega, d⟩
theorem CQ_begin {s : Nat} (h : zCQ kp kr kd ws wd ca qa qm xx 3100 i) (hk : kp s ≠ 0) : zCQ kp kr kd ws wd ca qa qm xx s 0 :=
  ⟨h.1, fun _ => hk, fun t ht h1 => (h.2.2 t ht h1).elim Or.inl (fun q => q.elim (fun q => Or.inr (Or.inl q)) (fun q => q.elim (fun q => by have := q.1; omega) (fun q => Or.inr (Or.inr (Or.inr q)))))⟩
theorem CQ_no (h : zCQ kp kr kd ws wd ca qa qm (zXX us at' p e) 3100 i) (hp : e ≤ p) : zCQ kp kr kd ws wd ca qa qm (fun _ => False) 3100 i := CQ_weak h (fun t _ _ q => by have := q.2.1; have := q.2.2; omega)
/-- up to i the words of s are done -/
def zUP (kp kr kd wd : Nat → Int32) (s i : Nat) : Prop := ∀ i', i' < i → zcl kp kr kd wd s i'
theorem UP_adv {s i2 : Nat} (h : zUP kp kr kd wd s i) (hk : zle kp kp') (hr : zcl kp' kr kd wd s i) (e3 : i2 = i + 1) (hb : ∀ i' : Nat, i' < i → (zrf kr kd wd s i').toInt ≤ 3099) : zUP kp' kr kd wd s i2 := by
  subst e3
  intro i' hi
  by_cases z : i' = i
  · rw [z]; exact hr
  · rcases h i' (by omega) with q | q
    · exact Or.inl q
    · exact Or.inr (hk _ (by have := hb i' (by omega); rw [tn_eq]; omega) q)
theorem H3_kp (h : ∀ t, t < 3100 → us t ≠ 0 → kp t = 0 → e ≤ (at' t).toInt) {s : Nat} (hs : s < 3100) (hu : us s ≠ 0) (ha : (at' s).toInt < e) : kp s ≠ 0 := fun z => by have := h s hs hu z; omega
theorem ax_at {s : Nat} (h : zax at' at2 e2) (hs : s < 3100) (ha : (at' s).toInt = p) (hp : p < e2) : (at2 s).toInt = p := by
  rcases h s hs with z | z
  · rw [z]; exact ha
  · omega
theorem HA_minor (h : po.toInt = 3) (h4 : 4 ≤ cc.toInt) (h3 : tp.toInt + sm (zbN0 us kp ag a) ws 3100 ≤ zB3 hf ol yo + yo.toInt ∧ ot.toInt + sm (zbN1 us kp ag a) ws 3100 ≤ ol.toInt ∧ zB3 hf ol yo + sm (zbKY us kp at' ol.toInt) ws 3100 ≤ tp.toInt ∧ zPK ol.toInt ot.toInt us ws at' ow ∧ ∀ t, t < 3100 → us t ≠ 0 → kp t = 0 → ol.toInt ≤ (at' t).toInt) (hm : zrm us us' kp 3100) (ho : zowr ow ow2 us kp at') (hD : zDC ol.toInt cc.toInt us' at' ws kr kd wd di) (hb : ∀ s, s < 3100 → 0 ≤ (at' s).toInt ∧ (at' s).toInt < 4600) (hw : ∀ s, s < 3100 → 0 ≤ (ws s).toInt) : zHA po ro yo ol cc hf tp ot us' ws at' ow2 di kr kd wd := by
  refine ⟨fun e => by omega, fun _ => ?_⟩
  obtain ⟨a1, a2, a3, a4, a5⟩ := h3
  have n0 := sm_nn (b := zbN0 us kp ag a) (ws := ws) (n := 3100) hw
  have n1 := sm_nn (b := zbN1 us kp ag a) (ws := ws) (n := 3100) hw
  have n2 := sm_nn (b := zbKY us kp at' ol.toInt) (ws := ws) (n := 3100) hw
  have e1 : sm (zbY ol.toInt us' at') ws 3100 = sm (zbKY us kp at' ol.toInt) ws 3100 := sm_congr (fun t ht => by
    unfold zbY zbKY
    refine decide_eq_decide.mpr ?_
    rw [(hm t ht).1 ht]
    exact ⟨fun q => ⟨q.1.1, q.1.2, q.2⟩, fun q => ⟨⟨q.1, q.2.1⟩, q.2.2⟩⟩)
  exact ⟨h4, ⟨by omega, by omega, by omega⟩, by omega, PK_sub a4 (sw_of hm ho) hb, hD⟩
end CD1
