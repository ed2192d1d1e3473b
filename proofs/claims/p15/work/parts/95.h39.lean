/-! the reference by numbers (written by wip/tools/gen18r.py) -/
/-! IN THE MIDST OF A NEW ONE: slot s has it, the others are as they were -/
def qNs (us nr kr kd ws at' ho wd wi ow rt wk wl : Nat → Int32) (wm nu ro fo le ra pi : Int32) (b : Nat → Nat → Int32) (s : Nat) (y kk w pl : Int32) : Prop := qRB (zmk us s) nr kr kd ws at' ho wd wi ow rt wk wl wm nu ro fo le ra pi b ∧ us s ≠ 0 ∧ nr s = y ∧ kd s = kk ∧ ws s = w ∧ at' s = pl ∧ ow pl.toNatClampNeg = Int32.ofNat s
section QN2
variable {b : Nat → Nat → Int32} {us us' nr nr' kr kd kd' ws ws' at' at2 ho ho' wd wd' wi wi' ow ow' rt wk wl co gr : Nat → Int32} {wm nu ro fo le ra pi y kk w pl : Int32} {s t : Nat}
/-- rows that differ at slot s alone -/
theorem RB_ot (h : qRB us nr kr kd ws at' ho wd wi ow rt wk wl wm nu ro fo le ra pi b) (h0 : us s = 0) (e1 : ∀ t, t ≠ s → nr' t = nr t) (e2 : ∀ t, t ≠ s → kd' t = kd t) (e3 : ∀ t, t ≠ s → ws' t = ws t) (e4 : ∀ t, t ≠ s → at2 t = at' t) (e5 : ∀ t, t ≠ s → ho' t = ho t) (e6 : ∀ t, t ≠ s → wi' t = wi t) (e7 : ∀ t, t < 3100 → t ≠ s → ∀ i : Nat, (i : Int) < (ws t).toInt → zrf kr kd' wd' t i = zrf kr kd wd t i) (e8 : ∀ t, t < 3100 → us t ≠ 0 → ow' (at' t).toNatClampNeg = ow (at' t).toNatClampNeg) : qRB us nr' kr kd' ws' at2 ho' wd' wi' ow' rt wk wl wm nu ro fo le ra pi b := by
  have ne : ∀ t, us t ≠ 0 → t ≠ s := fun t ht e => ht (e ▸ h0)
  have no : ∀ x : Int32, qU us x → qNo nr' x = qNo nr x := fun x hx => by
    by_cases z : x.toInt < 0
    · rw [No_n z, No_n z]
    · rw [No_y (by omega), No_y (by omega)]
      exact e1 _ (ne _ (U_y hx (by omega)).2)
  refine ⟨⟨fun t ht hv => ?_, fun t t' ht ht' hv hv' e => ?_, fun x hx ha => ?_⟩, fun t ht hv i hi => ?_, fun k hk => ?_, fun k hk => ?_, ⟨h.2.2.2.2.1.1, fun k hk => ?_⟩, fun t ht hv => ?_, fun t ht hv => ?_, h.2.2.2.2.2.2.2⟩
  · have n := ne t hv
    rw [e1 t n, e3 t n, e4 t n, e5 t n]
    exact h.1.1 t ht hv
  · rw [e1 t (ne t hv), e1 t' (ne t' hv')] at e
    exact h.1.2.1 t t' ht ht' hv hv' e
  · obtain ⟨t, ht, hv, en⟩ := h.1.2.2 x hx ha
    exact ⟨t, ht, hv, by rw [e1 t (ne t hv)]; exact en⟩
  · have n := ne t hv
    rw [e3 t n] at hi
    have q := h.2.1 t ht hv i hi
    rw [e1 t n, e7 t ht n i hi, no _ q.1]
    refine ⟨q.1, q.2.1, q.2.2.trans ?_⟩
    unfold qIr
    rw [e2 t n]
  · have q := h.2.2.1 k hk
    rw [no _ q.1]
    exact q
  · have q := h.2.2.2.1 k hk
    rw [no _ q.1]
    exact q
  · have q := h.2.2.2.2.1.2 k hk
    rw [e1 _ (ne _ q.1.2.2)]
    exact q
  · rw [e1 t (ne t hv), e6 t (ne t hv)]
    exact h.2.2.2.2.2.1 t ht hv
  · rw [e4 t (ne t hv), e8 t ht hv]
    exact h.2.2.2.2.2.2.1 t ht hv
theorem zmk_e (h0 : us s = 0) (e : ∀ t, t ≠ s → us' t = us t) : zmk us' s = us := by
  funext t
  unfold zmk
  by_cases z : t = s
  · rw [if_pos z, z, h0]
  · rw [if_neg z, e t z]
/-- a place that is free is nobody's -/
theorem fs_at (h : qRB us nr kr kd ws at' ho wd wi ow rt wk wl wm nu ro fo le ra pi b) (hI : qI b) {z : Int} (hz : 1 ≤ z) (hF : qFs b z pl.toInt) (ht : t < 3100) (hv : us t ≠ 0) : (at' t).toNatClampNeg ≠ pl.toNatClampNeg := by
  have q := h.1.1 t ht hv
  have al := R1_al h.1 ht hv
  have f := hF.2.2 _ al
  have i := hI.1 _ al
  rw [q.2.2.2.1] at f
  have c1 := tn_cast q.2.2.2.2.2.2
  have c2 := tn_cast (x := pl) hF.1
  have sz := i.2.1.1
  omega
theorem NS_0 (h : qRB us nr kr kd ws at' ho wd wi ow rt wk wl wm nu ro fo le ra pi b) (hI : qI b) {z : Int} (hz : 1 ≤ z) (hF : qFs b z pl.toInt) (h0 : us s = 0) (u1 : us' s ≠ 0) (u2 : ∀ t, t ≠ s → us' t = us t) (n1 : nr' s = y) (n2 : ∀ t, t ≠ s → nr' t = nr t) (k1 : kd' s = kk) (k2 : ∀ t, t ≠ s → kd' t = kd t) (w1 : ws' s = w) (w2 : ∀ t, t ≠ s → ws' t = ws t) (a1 : at2 s = pl) (a2 : ∀ t, t ≠ s → at2 t = at' t) (o1 : ow' pl.toNatClampNeg = Int32.ofNat s) (o2 : ∀ p, p ≠ pl.toNatClampNeg → ow' p = ow p) : qNs us' nr' kr kd' ws' at2 ho wd wi ow' rt wk wl wm nu ro fo le ra pi b s y kk w pl := by
  refine ⟨?_, u1, n1, k1, w1, a1, o1⟩
  rw [zmk_e h0 u2]
  exact RB_ot h h0 n2 k2 w2 a2 (fun _ _ => rfl) (fun _ _ => rfl) (fun t _ e i _ => zrf_kd (k2 t e)) (fun t ht hv => o2 _ (fs_at h hI hz hF ht hv))
/-- its holds, its wish, its words -/
theorem NS_h (h : qNs us nr kr kd ws at' ho wd wi ow rt wk wl wm nu ro fo le ra pi b s y kk w pl) (e5 : ∀ t, t ≠ s → ho' t = ho t) (e6 : ∀ t, t ≠ s → wi' t = wi t) (e7 : ∀ t, t < 3100 → t ≠ s → ∀ i : Nat, (i : Int) < (ws t).toInt → zrf kr kd wd' t i = zrf kr kd wd t i) : qNs us nr kr kd ws at' ho' wd' wi' ow rt wk wl wm nu ro fo le ra pi b s y kk w pl := ⟨RB_ot h.1 (by unfold zmk; rw [if_pos rfl]) (fun _ _ => rfl) (fun _ _ => rfl) (fun _ _ => rfl) (fun _ _ => rfl) e5 e6 e7 (fun _ _ _ => rfl), h.2⟩
theorem MG_0 {mk ga gm : Int32} {co' : Nat → Int32} (h : qMG mk co gr ga gm us nr b) (h0 : us s = 0) (u2 : ∀ t, t ≠ s → us' t = us t) (n2 : ∀ t, t ≠ s → nr' t = nr t) (c2 : ∀ t, t ≠ s → co' t = co t) : qMG mk co' gr ga gm (zmk us' s) nr' b := fun z => by
  rw [zmk_e h0 u2]
  obtain ⟨⟨q1, q2, q3, q4, q5⟩, q6⟩ := h z
  have ne : ∀ t, us t ≠ 0 → t ≠ s := fun t ht e => ht (e ▸ h0)
  refine ⟨⟨q1, q2, fun t ht hv => ?_, fun j j1 j2 => ?_, q5⟩, q6⟩
  · rw [c2 t (ne t hv), n2 t (ne t hv)]
    exact q3 t ht hv
  · have p := q4 j j1 j2
    rw [n2 _ (ne _ p.1.2.2)]
    exact p
theorem MG_1 {mk ga gm : Int32} {co' : Nat → Int32} (h : qMG mk co gr ga gm (zmk us s) nr b) (c2 : ∀ t, t ≠ s → co' t = co t) : qMG mk co' gr ga gm (zmk us s) nr b := by
  have h0 : zmk us s s = 0 := if_pos rfl
  have q := MG_0 (us' := zmk us s) (nr' := nr) h h0 (fun _ _ => rfl) (fun _ _ => rfl) c2
  rw [zmk_e h0 (fun _ _ => rfl)] at q
  exact q
theorem WT_0 {wt : Int32} (h : wt.toInt = sm (zbU us) ws 3100) (h0 : us s = 0) (u2 : ∀ t, t ≠ s → us' t = us t) (w2 : ∀ t, t ≠ s → ws' t = ws t) : wt.toInt = sm (zbU (zmk us' s)) ws' 3100 := by
  rw [zmk_e h0 u2, h]
  exact (sm_old (s := s) (decide_eq_false (fun w => w h0)) (decide_eq_false (fun w => w h0)) (fun _ _ => rfl) w2).symm
def qCo (mk : Int32) (co : Nat → Int32) (s : Nat) : Prop := mk.toInt ≠ 0 → co s = 2
theorem MG_ad {mk ga gm : Int32} {d : Nat → Nat → Int32} {L : Int64} (hN : qNs us nr kr kd ws at' ho wd wi ow rt wk wl wm nu ro fo le ra pi b s y kk w pl) (h : qNe b y w pl) (hA : qAd b d y kk w pl L) (h7 : qA7 b d y) (hK : b 87 8 = mk) (hG : qMG mk co gr ga gm (zmk us s) nr b) (hc : qCo mk co s) : qMG mk co gr ga gm us nr d := fun z => by
  have h8 : b 87 8 ≠ 0 := by
    rw [hK]
    exact fun e => z (by rw [e]; rfl)
  exact ⟨MQ_ad h hA h7 h8 hN.1.1 (hG z).1 hN.2.2.1 (hc z), MI_ad h hA h7 h8 hN.1 (hG z).2⟩
theorem MS_ad {mk : Int32} {d : Nat → Nat → Int32} (h : qNe b y w pl) (h7 : qA7 b d y) (hK : b 87 8 = mk) : qMS mk d y := fun z _ => Or.inr (zM_in ⟨(Ne_b h).2.1, by
  rw [h7.2.2.1 (by rw [hK]; exact fun e => z (by rw [e]; rfl))]
  decide⟩)
theorem RB_ns {d : Nat → Nat → Int32} {L : Int64} {nu' le' : Int32} (hN : qNs us nr kr kd ws at' ho wd wi ow rt wk wl wm nu ro fo le ra pi b s y kk w pl) (h : qNe b y w pl) (hA : qAd b d y kk w pl L) (hs : s < 3100) (hh : ho s = 0) (hi : wi s = 0) (hz : ∀ j : Nat, (j : Int) < (ws s).toInt → (zrf kr kd wd s j).toInt = -1) (hb : ∀ j : Nat, (j : Int) < w.toInt → (zbit L (Int32.ofNat j) ≠ 0 ↔ qIr kr kd s j)) (e1 : nu' = nu + 1) (e2 : le' = pl + (w + 1)) : qRB us nr kr kd ws at' ho wd wi ow rt wk wl wm nu' ro fo le' ra pi d := by
  rw [e1, e2]
  exact RB_ad h hA hN.1 hs hN.2.1 hN.2.2.1 hN.2.2.2.2.1 hN.2.2.2.2.2.1 hh hi hN.2.2.2.2.2.2 hz hb
/-- a place that room was found at -/
theorem Ne_of {aa : Nat → Nat → Int32} (hI : qI (aRs aa (w + 1).toInt)) (hR : qEq pl.toInt (aRp aa (w + 1).toInt)) (h0 : 0 ≤ pl.toInt) (hw : 0 ≤ w.toInt) (hw6 : w.toInt ≤ 60) (hy : aRs aa (w + 1).toInt 69 6 = y) (hy5 : y.toInt < 512) : qNe (aRs aa (w + 1).toInt) y w pl := by
  have e1 := i_p1 (i := w) (by omega)
  have q := qE hR
  unfold aRp at q
  have f := Ft_fs hI (z := (w + 1).toInt) (by omega) (by rw [← q]; omega)
  rw [← q] at f
  rw [e1] at f
  exact ⟨hI, hy.symm, hy5, ⟨hw, hw6⟩, by rw [e1]; exact f⟩
end QN2
