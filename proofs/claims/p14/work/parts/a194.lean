/-! from 95.o02 -/
/-! the reference under COUNTS (written by wip/tools/gen20s.py) -/
/-! what is left behind one that falls -/
def qFl (us nr kr kd ws at₉ ho wd wi ow rt wk wl : Nat → Int32) (wm nu ro fo le ra pi : Int32) (ct gs gw : Nat → Int32) (gm : Int32) (B : Int) (x im : Int32) (p : (Nat → Nat → Int32) × List (List Int32)) : Prop := qRB us nr kr kd ws at₉ ho wd wi ow rt wk wl wm nu ro fo le ra pi p.1 ∧ qI p.1 ∧ cV p.1 p.2 B ∧ qCt ct us nr p.1 p.2 x (-1) ∧ qGo us nr kr kd ws wd gs gw gm p.2 ∧ qXr p.1 x ∧ p.1 87 8 = im
def qT : List (List Int32) → List (List Int32)
  | (_ :: l) :: t => l :: t
  | s => s
/-- those that go, until L is left -/
def qLL (us nr kr kd ws at₉ ho wd wi ow rt wk wl : Nat → Int32) (wm nu ro fo le ra pi : Int32) (ct gs gw : Nat → Int32) (gm : Int32) (B : Int) (x im : Int32) (L : Nat → Nat → Int32) : Prop := ∃ p, qFl us nr kr kd ws at₉ ho wd wi ow rt wk wl wm nu ro fo le ra pi ct gs gw gm B x im p ∧ ∀ d, cE p d → L = d
section D2
variable {a b d L : Nat → Nat → Int32} {us us₉ nr kr kd ws at₉ ho wd wi wi₉ ow ow₉ rt wk wk₉ wl wl₉ ct ct1 ct2 gs gs₉ gw gw₉ : Nat → Int32} {wm wm₉ nu ro fo le ra pi x y z gm gm₉ im r : Int32} {s t k n g : Nat} {st : List (List Int32)} {B : Int} {p q : (Nat → Nat → Int32) × List (List Int32)}
theorem dn_s (e : ct1 = zUp ct s (ct s - 1)) : ct1 s = ct s - 1 := by
  rw [e]
  exact if_pos rfl
theorem Fl_A (hR : qRB us nr kr kd ws at₉ ho wd wi ow rt wk wl wm nu ro fo le ra pi a) (hI : qI a) (hV : cV a st B) (hB : B ≤ 1000000) (hC : qCt ct us nr a st x (nr s)) (hG : qGo us nr kr kd ws wd gs gw gm st) (hX : qXr a x) (h8 : a 87 8 = im) (hs : s < 3100) (hu : us s ≠ 0) (e : ct1 = zUp ct s (ct s - 1)) (hp : 0 < (ct s - 1).toInt) : qFl us nr kr kd ws at₉ ho wd wi ow rt wk wl wm nu ro fo le ra pi ct1 gs gw gm B x im (cFa a st (nr s)) := by
  have c1 := Ct_dn hR.1 hC hs hu e
  rw [Fl_p hR.1 c1 hV hB hX hs hu (by rw [dn_s e]; exact hp)]
  exact ⟨hR, hI, hV, c1, hG, hX, h8⟩
theorem Fl_B (hR : qRB us nr kr kd ws at₉ ho wd wi ow rt wk wl wm nu ro fo le ra pi a) (hV : cV a st B) (hB : B ≤ 1000000) (hC : qCt ct us nr a st x (nr s)) (hG : qGo us nr kr kd ws wd gs gw gm st) (hX : qXr a x) (h8 : a 87 8 = im) (hs : s < 3100) (hu : us s ≠ 0) (e : ct1 = zUp ct s (ct s - 1)) (hp : ¬ 0 < (ct s - 1).toInt) (hw : wi s ≠ 0) (h5 : wm.toInt < 512) (hR2 : qRB us nr kr kd ws at₉ ho wd wi₉ ow rt wk₉ wl₉ wm₉ nu ro fo le ra pi (aGr a (nr s))) (hI2 : qI (aGr a (nr s))) (e2 : ct2 = zUp ct1 s (ct1 s + 1)) : qFl us nr kr kd ws at₉ ho wd wi₉ ow rt wk₉ wl₉ wm₉ nu ro fo le ra pi ct2 gs gw gm B x im (cFa a st (nr s)) := by
  have c1 := Ct_dn hR.1 hC hs hu e
  have h69 : (a 69 5).toInt < 512 := by
    rw [hR.2.2.2.2.1.1]
    exact h5
  rw [Fl_g hR.1 hR.2.2.2.2.2.1 c1 hV hB hs hu (by rw [dn_s e]; exact hp) hw]
  refine ⟨hR2, hI2, V_gr hV (hR.1.1 s hs hu).1.1 (R1_al hR.1 hs hu), Ct_gr hR.1 c1 hV.2.2.2.2.1.1 h69 hs hu e2, hG, Xr_gr hX, ?_⟩
  show aGr a (nr s) 87 8 = im
  rw [show aGr a (nr s) 87 = a 87 from gr_r (by decide) (by decide) (by decide) (by decide)]
  exact h8
theorem Fl_C (hR : qRB us nr kr kd ws at₉ ho wd wi ow rt wk wl wm nu ro fo le ra pi a) (hI : qI a) (hV : cV a st B) (hB : B ≤ 1000000) (hC : qCt ct us nr a st x (nr s)) (hG : qGo us nr kr kd ws wd gs gw gm st) (hX : qXr a x) (h8 : a 87 8 = im) (hs : s < 3100) (hu : us s ≠ 0) (e : ct1 = zUp ct s (ct s - 1)) (hp : ¬ 0 < (ct s - 1).toInt) (hw : wi s = 0) (hun : qUn wk wk₉ (Int32.ofNat s) 16) (hm : ∀ t, us₉ t = zmk us s t) (ho₉ : ∀ p, ow₉ p = if p = (at₉ s).toNatClampNeg then -1 else ow p) (e1 : gs₉ = zUp gs gm.toNatClampNeg y) (ey : y = Int32.ofNat s) (e2 : gw₉ = zUp gw gm.toNatClampNeg 0) (e3 : gm₉.toInt = gm.toInt + 1) : qFl us₉ nr kr kd ws at₉ ho wd wi ow₉ rt wk₉ wl wm nu ro fo le ra pi ct1 gs₉ gw₉ gm₉ B x im (cFa a st (nr s)) := by
  have c1 := Ct_dn hR.1 hC hs hu e
  have hp1 : ¬ 0 < (ct1 s).toInt := by
    rw [dn_s e]
    exact hp
  have y0 := (hR.1.1 s hs hu).1.1
  have al := R1_al hR.1 hs hu
  have no := Ct_no hR.1 c1 hV hB hs hu hp1
  have z := Rf_z (hV.2.2.2.1 _ al).1 no
  have ck := CK_1 hR hs hu z.1 z.2.1 z.2.2.1
  rw [Fl_r hR.1 hR.2.2.2.2.2.1 c1 hV hB hs hu hp1 hw]
  exact ⟨RB_r1 hR hI hs hu ck.1 hun hm ho₉, I_rm hI y0 al, (V_rm hV y0 al no).1, Ct_rm hR.1 c1 hV hs hu hm, Go_psh hR hG hs hu z.2.2.2.1 ck.2 hm e1 ey e2 e3, Xr_rm hX, (rm_co (by decide) (by decide) (by decide) (by decide)).trans h8⟩
/-- the next word of the last one -/
theorem LA (fl : qFl us nr kr kd ws at₉ ho wd wi ow rt wk wl wm nu ro fo le ra pi ct gs gw gm B x im p) (h0 : 0 < gm.toInt) (hk : k = (gm.toInt - 1).toNat) (hi : (gw k).toInt < (ws (gs k).toNatClampNeg).toInt) (e : gw₉ = zUp gw k y) (ey : y.toInt = (gw k).toInt + 1) (hr : r = zrf kr kd wd (gs k).toNatClampNeg (gw k).toInt.toNat) : qGo us nr kr kd ws wd gs gw₉ gm (qT p.2) ∧ qU us r ∧ cV p.1 (qT p.2) B ∧ qCt ct us nr p.1 (qT p.2) x (qNo nr r) ∧ (0 ≤ r.toInt → cSt p = cFa p.1 (qT p.2) (nr r.toNatClampNeg)) ∧ (r.toInt < 0 → cSt p = (p.1, qT p.2)) := by
  obtain ⟨f1, f2, f3, f4, f5, f6, f7⟩ := fl
  obtain ⟨l, t, e1, e2, e3⟩ := Go_adv f5 h0 hk hi e ey
  rw [← hr] at e1 e3
  have et : qT p.2 = l :: t := by
    rw [e1]
    rfl
  have ep : p = (p.1, (qNo nr r :: l) :: t) := by rw [← e1]
  rw [e1] at f3 f4
  rw [et]
  refine ⟨e2, e3, V_tl f3, fun s hs hu => ?_, fun r0 => ?_, fun r0 => ?_⟩
  · rw [f4 s hs hu, Oc_tl, is_m1 (nr_lt f1.1 hs hu)]
    exact congrArg Int32.ofInt (by omega)
  · have n0 : 0 ≤ (qNo nr r).toInt := by
      have u := U_y e3 r0
      rw [No_y r0]
      exact (f1.1.1 _ (tn_lt r0 u.1) u.2).1.1
    have c : cSt (p.1, (qNo nr r :: l) :: t) = cFa p.1 (l :: t) (qNo nr r) := cSt_y n0
    rw [← ep, No_y r0] at c
    exact c
  · have c : cSt (p.1, (qNo nr r :: l) :: t) = (p.1, l :: t) := cSt_n (by rw [No_n r0]; decide)
    rw [← ep] at c
    exact c
theorem LL_s (fl : qFl us nr kr kd ws at₉ ho wd wi ow rt wk wl wm nu ro fo le ra pi ct gs gw gm B x im q) (hq : cSt p = q) (ce : ∀ d, cE p d → L = d) : qLL us nr kr kd ws at₉ ho wd wi ow rt wk wl wm nu ro fo le ra pi ct gs gw gm B x im L := ⟨q, fl, fun d h => ce d (cE_s (by rw [hq]; exact h))⟩
theorem LL_n (fl : qFl us nr kr kd ws at₉ ho wd wi ow rt wk wl wm nu ro fo le ra pi ct gs gw gm B x im p) (la : qGo us nr kr kd ws wd gs gw₉ gm (qT p.2) ∧ qU us r ∧ cV p.1 (qT p.2) B ∧ qCt ct us nr p.1 (qT p.2) x (qNo nr r) ∧ (0 ≤ r.toInt → cSt p = cFa p.1 (qT p.2) (nr r.toNatClampNeg)) ∧ (r.toInt < 0 → cSt p = (p.1, qT p.2))) (hr : r.toInt < 0) (ce : ∀ d, cE p d → L = d) : qLL us nr kr kd ws at₉ ho wd wi ow rt wk wl wm nu ro fo le ra pi ct gs gw₉ gm B x im L := by
  refine LL_s (q := (p.1, qT p.2)) ⟨fl.1, fl.2.1, la.2.2.1, ?_, la.1, fl.2.2.2.2.2.1, fl.2.2.2.2.2.2⟩ (la.2.2.2.2.2 hr) ce
  have c := la.2.2.2.1
  rw [No_n hr] at c
  exact c
theorem LL_p (fl : qFl us nr kr kd ws at₉ ho wd wi ow rt wk wl wm nu ro fo le ra pi ct gs gw gm B x im p) (h0 : 0 < gm.toInt) (hk : k = (gm.toInt - 1).toNat) (hi : (gw k).toInt = (ws (gs k).toNatClampNeg).toInt) (e : gm₉.toInt = gm.toInt - 1) (ce : ∀ d, cE p d → L = d) : qLL us nr kr kd ws at₉ ho wd wi ow rt wk wl wm nu ro fo le ra pi ct gs gw gm₉ B x im L := by
  obtain ⟨f1, f2, f3, f4, f5, f6, f7⟩ := fl
  obtain ⟨t, e1, e2⟩ := Go_pop f5 h0 hk hi e
  have ep : p = (p.1, [] :: t) := by rw [← e1]
  have c : cSt p = (p.1, t) := by
    rw [ep]
    rfl
  have v := V_st p.2 p.1 f3
  have vv : cV p.1 t B := by
    have ep2 : (p.1, p.2) = p := rfl
    rw [ep2, c] at v
    exact v
  refine LL_s (q := (p.1, t)) ⟨f1, f2, vv, fun s hs hu => ?_, e2, f6, f7⟩ c ce
  rw [f4 s hs hu, e1]
  have o : cOc ([] :: t) (nr s).toNatClampNeg = 0 + cOc t (nr s).toNatClampNeg := rfl
  rw [o, Nat.zero_add]
theorem LL_e (h : qLL us nr kr kd ws at₉ ho wd wi ow rt wk wl wm nu ro fo le ra pi ct gs gw gm B x im L) (h0 : ¬ 0 < gm.toInt) : qRB us nr kr kd ws at₉ ho wd wi ow rt wk wl wm nu ro fo le ra pi L ∧ qI L ∧ cV L [] B ∧ qCt ct us nr L [] x (-1) ∧ qXr L x ∧ L 87 8 = im := by
  obtain ⟨p, ⟨f1, f2, f3, f4, f5, f6, f7⟩, ce⟩ := h
  have e := Go_nil f5 h0
  have ep : p = (p.1, []) := by rw [← e]
  have el : L = p.1 := ce p.1 (by rw [ep]; exact cE_o)
  rw [e] at f3 f4
  rw [el]
  exact ⟨f1, f2, f3, f4, f6, f7⟩
theorem LL_0 (fl : qFl us nr kr kd ws at₉ ho wd wi ow rt wk wl wm nu ro fo le ra pi ct gs gw gm B x im (cFa a [] (nr s))) (hs : s < 3100) (hR : qR1 us₉ nr ws at₉ ho a) (hu : us₉ s ≠ 0) (hL : L = cLe a (nr s)) : qLL us nr kr kd ws at₉ ho wd wi ow rt wk wl wm nu ro fo le ra pi ct gs gw gm B x im L := ⟨_, fl, fun d h => hL.trans (cLe_y (hR.1 s hs hu).1.1 (R1_al hR hs hu) h)⟩
theorem Le_m1 : cLe a (-1) = a := cLe_n (fun w => absurd w.1 (by decide))
end D2
theorem sp_197r4 {X : Nat × (Nat → Int32)} {P : Option ma_V → (Nat → Nat → Int32) → Prop} {T : Nat} {aa : Nat→Nat→Int32} {m : Nat → Nat → Int32} (s : Int32) (hV : zV m) (hpre0 : 0 ≤ s.toInt) (hpre1 : s.toInt ≤ 3099) (hpre2 : T ≤ 512) (hpre3 : (m 94 10).toInt = 4 ∧ (m 94 58).toInt = 0) (r_WI : (m 109) s.toNatClampNeg ≠ 0) (r_USs : (m 99) s.toNatClampNeg ≠ 0) (r_GW : zGW T (m 94 55) (m 109)) (r_RB : qRB (m 99) (m 100) (m 98) (m 101) (m 102) (m 103) (m 107) (m 108) (m 109) (m 111) (m 112) (m 113) (m 114) (m 94 55) (m 94 46) (m 94 11) (m 94 12) (m 94 62) (m 94 17) (m 94 9) aa) (r_QI : qI aa) (KZ : ∀ m₉, zV (zov wr_197 m m₉) → (zGW T (m₉ 94 55) (m₉ 109)) → (zuw (m 113) (m₉ 113)) → (zwx (m 114) (m₉ 114) (m 94 55) s) → ((m₉ 94 55).toInt = (m 94 55).toInt + 1) → (qRB (m 99) (m 100) (m 98) (m 101) (m 102) (m 103) (m 107) (m 108) (m₉ 109) (m 111) (m 112) (m₉ 113) (m₉ 114) (m₉ 94 55) (m 94 46) (m 94 11) (m 94 12) (m 94 62) (m 94 17) (m 94 9) (aGr aa ((m 100) s.toNatClampNeg))) → (qI (aGr aa ((m 100) s.toNatClampNeg))) → ((m₉ 105) = zUp (m 105) s.toNatClampNeg ((m 105) s.toNatClampNeg + 1)) → P none (zov wr_197 m m₉)) : zm X 1 22 197 0 [(0, .inr (.inr (some 94))), (1, .inl s)] m P := by
  have K : ∀ m₉, zF wr_197 m m₉ → zV m₉ → (zGW T (m₉ 94 55) (m₉ 109)) → (zuw (m 113) (m₉ 113)) → (zwx (m 114) (m₉ 114) (m 94 55) s) → ((m₉ 94 55).toInt = (m 94 55).toInt + 1) → (qRB (m₉ 99) (m₉ 100) (m₉ 98) (m₉ 101) (m₉ 102) (m₉ 103) (m₉ 107) (m₉ 108) (m₉ 109) (m₉ 111) (m₉ 112) (m₉ 113) (m₉ 114) (m₉ 94 55) (m₉ 94 46) (m₉ 94 11) (m₉ 94 12) (m₉ 94 62) (m₉ 94 17) (m₉ 94 9) (aGr aa ((m₉ 100) s.toNatClampNeg))) → (qI (aGr aa ((m₉ 100) s.toNatClampNeg))) → ((m₉ 105) = zUp (m 105) s.toNatClampNeg ((m 105) s.toNatClampNeg + 1)) → P none m₉ := by
    intro m₉ hf z q0 q1 q2 q3 q4 q5 q6
    have e := zov_eq hf
    rw [e] at z ⊢
    try rw [e] at q0
    try rw [e] at q1
    try rw [e] at q2
    try rw [e] at q3
    try rw [e] at q4
    try rw [e] at q5
    try rw [e] at q6
    exact KZ m₉ z q0 q1 q2 q3 q4 q5 q6
  refine g_197_0 s ?_
  have f1 : 0 ≤ (m 94 10).toInt ∧ (m 94 10).toInt ≤ 6 := rs_94_10 (m := m) hV
  have f2 : 0 ≤ (m 94 58).toInt ∧ (m 94 58).toInt ≤ 1 := rs_94_58 (m := m) hV
  have b3 := i_bd s
  try have gwr := GW_512 r_GW r_WI (by omega) (by omega) (by omega)
  refine sp_198r (s) hV  (fun m1 hV_m1 p0_m1 p1_m1 => zmv_n ?_)
  have p0_m1 : zuw (m 113) (m1 113) := p0_m1
  have p1_m1 : qUn (m 113) (m1 113) s 16 := p1_m1
  try have gw := GW_room r_GW
  try have gwr := GW_512 r_GW r_WI (by omega) (by omega) (by omega)
  have hg4 : (0 ≤ s ∧ s.toNatClampNeg < 3100) := i_ix (by omega) (by omega)
  refine ⟨hg4, ?_⟩
  have f5 : 0 ≤ (m 94 55).toInt ∧ (m 94 55).toInt ≤ 3100 := rs_94_55 (m := m) hV
  try have gw := GW_room r_GW
  try have gwr := GW_512 r_GW r_WI (by omega) (by omega) (by omega)
  have hg6 : (0 ≤ (m 94 55) ∧ (m 94 55).toNatClampNeg < 3100) := i_ix (by omega) (by omega)
  refine ⟨hg6, ?_⟩
  have li7 : (4 : Int32).toInt = 4 := rfl
  refine zd (fun (h8 : (m 94 10) = (4 : Int32)) => ?_) (fun (h8 : ¬ (m 94 10) = (4 : Int32)) => ?_)
  · skip
    have g9 := i_eq h8
    have hg10 : (0 ≤ s ∧ s.toNatClampNeg < 3100) := i_ix (by omega) (by omega)
    refine ⟨hg10, ?_⟩
    have hg11 : (0 ≤ s ∧ s.toNatClampNeg < 3100) := i_ix (by omega) (by omega)
    refine ⟨hg11, ?_⟩
    try have gwr := GW_512 r_GW r_WI (by omega) (by omega) (by omega)
    have li13 : (0 : Int32).toInt = 0 := rfl
    have hV12 : zV (ma_u (zov wr_198 m m1) 109 s.toNatClampNeg (0 : Int32)) := ua_109 hV_m1 (by omega) (by omega)
    have hV14 : zV (ma_u (ma_u (zov wr_198 m m1) 109 s.toNatClampNeg (0 : Int32)) 114 (m 94 55).toNatClampNeg s) := ua_114 hV12 (by omega) (by omega)
    first | have e16 : ((m 94 55) + (1 : Int32)).toInt = (m 94 55).toInt + (1) := i_addk rfl (by omega) (by omega) | have b17 := i_bd ((m 94 55) + (1 : Int32))
    have hV15 : zV (ma_u (ma_u (ma_u (zov wr_198 m m1) 109 s.toNatClampNeg (0 : Int32)) 114 (m 94 55).toNatClampNeg s) 94 55 ((m 94 55) + (1 : Int32))) := us_94_55 hV14 (by omega) (by omega)
    have hV18 : zV (ma_u (ma_u (ma_u (ma_u (zov wr_198 m m1) 109 s.toNatClampNeg (0 : Int32)) 114 (m 94 55).toNatClampNeg s) 94 55 ((m 94 55) + (1 : Int32))) 105 s.toNatClampNeg ((m 105 s.toNatClampNeg) + (1 : Int32))) := ua_105 hV15
    exact K _ (zF_u (zF_u (zF_u (zF_u (zF_zov zF_rfl ws_198_197) rfl) rfl) rfl) rfl) hV18 (show zGW T ((m 94 55) + (1 : Int32)) ((ma_u m 109 s.toNatClampNeg (0 : Int32)) 109) from by first | (exact GW_take r_GW r_WI (by omega) (by omega)) | (exfalso; omega; done) | (exfalso; contradiction; done)) p0_m1 (show zwx (m 114) ((ma_u m 114 (m 94 55).toNatClampNeg s) 114) (m 94 55) s from by first | (exact ⟨fun k hk => mu_ne (by rw [tn_eq]; omega), mu_self⟩) | (exfalso; omega; done) | (exfalso; contradiction; done)) (show ((m 94 55) + (1 : Int32)).toInt = (m 94 55).toInt + 1 from by omega) (show qRB (m 99) (m 100) (m 98) (m 101) (m 102) (m 103) (m 107) (m 108) ((ma_u m 109 s.toNatClampNeg (0 : Int32)) 109) (m 111) (m 112) (m1 113) ((ma_u m 114 (m 94 55).toNatClampNeg s) 114) ((m 94 55) + (1 : Int32)) (m 94 46) (m 94 11) (m 94 12) (m 94 62) (m 94 17) (m 94 9) (aGr aa ((m 100) s.toNatClampNeg)) from by first | (exact RB_gr r_RB (by omega) (by omega) r_USs p1_m1 (by omega) (by omega)) | (exfalso; omega; done) | (exfalso; contradiction; done)) (show qI (aGr aa ((m 100) s.toNatClampNeg)) from by first | (exact I_gr r_QI (by rw [r_RB.2.2.2.2.1.1]; omega)) | (exfalso; omega; done) | (exfalso; contradiction; done)) (show ((ma_u m 105 s.toNatClampNeg ((m 105 s.toNatClampNeg) + (1 : Int32))) 105) = zUp (m 105) s.toNatClampNeg ((m 105) s.toNatClampNeg + 1) from by first | (exact mu_up) | (exfalso; omega; done) | (exfalso; contradiction; done))
  · skip
    have g19 := i_ne h8
    exfalso; omega
set_option maxHeartbeats 8000000 in
theorem sp_242r4 {X : Nat × (Nat → Int32)} {P : Option ma_V → (Nat → Nat → Int32) → Prop} {T : Nat} {aa : Nat→Nat→Int32} {st : zLL} {x : Int32} {B : Int} {m : Nat → Nat → Int32} (s : Int32) (hV : zV m) (hpre0 : 0 ≤ s.toInt) (hpre1 : s.toInt ≤ 3099) (hpre2 : B ≤ 1000000) (hpre3 : T ≤ 512) (hpre4 : (m 94 10).toInt = 4 ∧ (m 94 58).toInt = 0) (r_GW : zGW T (m 94 55) (m 109)) (r_GU : zGU T (m 94 46) (m 99)) (r_OW : zOw (m 99) (m 103) (m 111)) (r_GO : zgo (m 94 80) (m 99)) (r_GWD : zgw (m 121) (m 120) (m 102) (m 94 80)) (r_USs : (m 99) s.toNatClampNeg ≠ 0) (r_RB : qRB (m 99) (m 100) (m 98) (m 101) (m 102) (m 103) (m 107) (m 108) (m 109) (m 111) (m 112) (m 113) (m 114) (m 94 55) (m 94 46) (m 94 11) (m 94 12) (m 94 62) (m 94 17) (m 94 9) aa) (r_QI : qI aa) (r_MK : aa 87 8 = (m 94 58)) (r_WTS : (m 94 45).toInt = sm (zbU (m 99)) (m 102) 3100) (r_VV : cV aa st B) (r_CT : qCt (m 105) (m 99) (m 100) aa st x ((m 100) s.toNatClampNeg)) (r_STK : qGo (m 99) (m 100) (m 98) (m 101) (m 102) (m 108) (m 120) (m 121) (m 94 80) st) (r_XR : qXr aa x) (KZ : ∀ m₉, zV (zov wr_242 m m₉) → (zGW T (m₉ 94 55) (m₉ 109)) → (zGU T (m 94 46) (m₉ 99)) → (zOw (m₉ 99) (m 103) (m₉ 111)) → (zgo (m₉ 94 80) (m₉ 99)) → (zgw (m₉ 121) (m₉ 120) (m 102) (m₉ 94 80)) → (zlm (m₉ 99) (m₉ 121) (m₉ 94 80) ≤ zlm (m 99) (m 121) (m 94 80)) → ((m₉ 94 45).toInt = sm (zbU (m₉ 99)) (m 102) 3100) → (qFl (m₉ 99) (m 100) (m 98) (m 101) (m 102) (m 103) (m 107) (m 108) (m₉ 109) (m₉ 111) (m 112) (m₉ 113) (m₉ 114) (m₉ 94 55) (m 94 46) (m 94 11) (m 94 12) (m 94 62) (m 94 17) (m 94 9) (m₉ 105) (m₉ 120) (m₉ 121) (m₉ 94 80) B x (m 94 58) (cFa aa st ((m 100) s.toNatClampNeg))) → P none (zov wr_242 m m₉)) : zm X 2 43 242 0 [(0, .inr (.inr (some 94))), (1, .inl s)] m P := by
  have K : ∀ m₉, zF wr_242 m m₉ → zV m₉ → (zGW T (m₉ 94 55) (m₉ 109)) → (zGU T (m₉ 94 46) (m₉ 99)) → (zOw (m₉ 99) (m₉ 103) (m₉ 111)) → (zgo (m₉ 94 80) (m₉ 99)) → (zgw (m₉ 121) (m₉ 120) (m₉ 102) (m₉ 94 80)) → (zlm (m₉ 99) (m₉ 121) (m₉ 94 80) ≤ zlm (m 99) (m 121) (m 94 80)) → ((m₉ 94 45).toInt = sm (zbU (m₉ 99)) (m₉ 102) 3100) → (qFl (m₉ 99) (m₉ 100) (m₉ 98) (m₉ 101) (m₉ 102) (m₉ 103) (m₉ 107) (m₉ 108) (m₉ 109) (m₉ 111) (m₉ 112) (m₉ 113) (m₉ 114) (m₉ 94 55) (m₉ 94 46) (m₉ 94 11) (m₉ 94 12) (m₉ 94 62) (m₉ 94 17) (m₉ 94 9) (m₉ 105) (m₉ 120) (m₉ 121) (m₉ 94 80) B x (m₉ 94 58) (cFa aa st ((m₉ 100) s.toNatClampNeg))) → P none m₉ := by
    intro m₉ hf z q0 q1 q2 q3 q4 q5 q6 q7
    have e := zov_eq hf
    rw [e] at z ⊢
    try rw [e] at q0
    try rw [e] at q1
    try rw [e] at q2
    try rw [e] at q3
    try rw [e] at q4
    try rw [e] at q5
    try rw [e] at q6
    try rw [e] at q7
    exact KZ m₉ z q0 q1 q2 q3 q4 q5 q6 q7
  refine g_242_0 s ?_
  have f1 : 0 ≤ (m 94 10).toInt ∧ (m 94 10).toInt ≤ 6 := rs_94_10 (m := m) hV
  have f2 : 0 ≤ (m 94 58).toInt ∧ (m 94 58).toInt ≤ 1 := rs_94_58 (m := m) hV
  have b3 := i_bd s
  have hg4 : (0 ≤ s ∧ s.toNatClampNeg < 3100) := i_ix (by omega) (by omega)
  refine ⟨hg4, ?_⟩
  have hg5 : (0 ≤ s ∧ s.toNatClampNeg < 3100) := i_ix (by omega) (by omega)
  refine ⟨hg5, ?_⟩
  have hg6 : (0 ≤ s ∧ s.toNatClampNeg < 3100) := i_ix (by omega) (by omega)
  refine ⟨hg6, ?_⟩
  have li7 : (0 : Int32).toInt = 0 := rfl
  have b8 := i_bd (m 105 s.toNatClampNeg)
  first | have e9 : ((m 105 s.toNatClampNeg) - (1 : Int32)).toInt = (m 105 s.toNatClampNeg).toInt - (1) := i_subk rfl (by omega) (by omega) | have b10 := i_bd ((m 105 s.toNatClampNeg) - (1 : Int32))
  have q11 : ((ma_u m 105 s.toNatClampNeg ((m 105 s.toNatClampNeg) - (1 : Int32))) 105 s.toNatClampNeg).toInt = ((m 105 s.toNatClampNeg) - (1 : Int32)).toInt := congrArg Int32.toInt mu_self
  have b12 := i_bd ((ma_u m 105 s.toNatClampNeg ((m 105 s.toNatClampNeg) - (1 : Int32))) 105 s.toNatClampNeg)
  refine zd (fun (h13 : (0 : Int32) < ((ma_u m 105 s.toNatClampNeg ((m 105 s.toNatClampNeg) - (1 : Int32))) 105 s.toNatClampNeg)) => ?_) (fun (h13 : ¬ (0 : Int32) < ((ma_u m 105 s.toNatClampNeg ((m 105 s.toNatClampNeg) - (1 : Int32))) 105 s.toNatClampNeg)) => ?_)
  · skip
    have g14 := i_lt h13
    have hV15 : zV (ma_u m 105 s.toNatClampNeg ((m 105 s.toNatClampNeg) - (1 : Int32))) := ua_105 hV
    exact K _ (zF_u zF_rfl rfl) hV15 r_GW r_GU r_OW r_GO r_GWD (show zlm (m 99) (m 121) (m 94 80) ≤ zlm (m 99) (m 121) (m 94 80) from by first | (exact Nat.le_refl _) | (exfalso; omega; done) | (exfalso; contradiction; done)) r_WTS (show qFl (m 99) (m 100) (m 98) (m 101) (m 102) (m 103) (m 107) (m 108) (m 109) (m 111) (m 112) (m 113) (m 114) (m 94 55) (m 94 46) (m 94 11) (m 94 12) (m 94 62) (m 94 17) (m 94 9) ((ma_u m 105 s.toNatClampNeg ((m 105 s.toNatClampNeg) - (1 : Int32))) 105) (m 120) (m 121) (m 94 80) B x (m 94 58) (cFa aa st ((m 100) s.toNatClampNeg)) from by first | (exact absurd (by assumption) r_USs) | (exact Fl_A r_RB r_QI r_VV (by omega) r_CT r_STK r_XR r_MK (tn_lt (by omega) (by omega)) r_USs mu_up (by omega)) | (exfalso; omega; done) | (exfalso; contradiction; done))
  · skip
    have g16 := i_nlt h13
    have hg17 : (0 ≤ s ∧ s.toNatClampNeg < 3100) := i_ix (by omega) (by omega)
    refine ⟨hg17, ?_⟩
    first | have f18 : 0 ≤ (m 99 s.toNatClampNeg).toInt ∧ (m 99 s.toNatClampNeg).toInt ≤ 1 := ra_99 (m := m) hV (k := s.toNatClampNeg) (i_ix (n := 3100) (by omega) (by omega)).2 | have b19 := i_bd (m 99 s.toNatClampNeg)
    refine zd (fun (h20 : (m 99 s.toNatClampNeg) = (0 : Int32)) => ?_) (fun (h20 : ¬ (m 99 s.toNatClampNeg) = (0 : Int32)) => ?_)
    · skip
      have g21 := i_eq h20
      have hV22 : zV (ma_u m 105 s.toNatClampNeg ((m 105 s.toNatClampNeg) - (1 : Int32))) := ua_105 hV
      exact K _ (zF_u zF_rfl rfl) hV22 r_GW r_GU r_OW r_GO r_GWD (show zlm (m 99) (m 121) (m 94 80) ≤ zlm (m 99) (m 121) (m 94 80) from by first | (exact Nat.le_refl _) | (exfalso; omega; done) | (exfalso; contradiction; done)) r_WTS (show qFl (m 99) (m 100) (m 98) (m 101) (m 102) (m 103) (m 107) (m 108) (m 109) (m 111) (m 112) (m 113) (m 114) (m 94 55) (m 94 46) (m 94 11) (m 94 12) (m 94 62) (m 94 17) (m 94 9) ((ma_u m 105 s.toNatClampNeg ((m 105 s.toNatClampNeg) - (1 : Int32))) 105) (m 120) (m 121) (m 94 80) B x (m 94 58) (cFa aa st ((m 100) s.toNatClampNeg)) from by first | (exact absurd (by assumption) r_USs) | (exact Fl_A r_RB r_QI r_VV (by omega) r_CT r_STK r_XR r_MK (tn_lt (by omega) (by omega)) r_USs mu_up (by omega)) | (exfalso; omega; done) | (exfalso; contradiction; done))
    · skip
      have g23 := i_ne h20
      have hg24 : (0 ≤ s ∧ s.toNatClampNeg < 3100) := i_ix (by omega) (by omega)
      refine ⟨hg24, ?_⟩
      first | have f25 : 0 ≤ (m 109 s.toNatClampNeg).toInt ∧ (m 109 s.toNatClampNeg).toInt ≤ 1 := ra_109 (m := m) hV (k := s.toNatClampNeg) (i_ix (n := 3100) (by omega) (by omega)).2 | have b26 := i_bd (m 109 s.toNatClampNeg)
      refine zd (fun (h27 : (m 109 s.toNatClampNeg) = (0 : Int32)) => ?_) (fun (h27 : ¬ (m 109 s.toNatClampNeg) = (0 : Int32)) => ?_)
      · skip
        have g28 := i_eq h27
        have hV29 : zV (ma_u m 105 s.toNatClampNeg ((m 105 s.toNatClampNeg) - (1 : Int32))) := ua_105 hV
        refine sp_198r (s) hV29  (fun m1 hV_m1 p0_m1 p1_m1 => zmv_n ?_)
        have p0_m1 : zuw (m 113) (m1 113) := p0_m1
        have p1_m1 : qUn (m 113) (m1 113) s 16 := p1_m1
        have hg30 : (0 ≤ s ∧ s.toNatClampNeg < 3100) := i_ix (by omega) (by omega)
        refine ⟨hg30, ?_⟩
        have hg31 : (0 ≤ s ∧ s.toNatClampNeg < 3100) := i_ix (by omega) (by omega)
        refine ⟨hg31, ?_⟩
        first | have f32 : 0 ≤ (m 103 s.toNatClampNeg).toInt ∧ (m 103 s.toNatClampNeg).toInt ≤ 4599 := ra_103 (m := m) hV (k := s.toNatClampNeg) (i_ix (n := 3100) (by omega) (by omega)).2 | have b33 := i_bd (m 103 s.toNatClampNeg)
        have hg34 : (0 ≤ (m 103 s.toNatClampNeg) ∧ (m 103 s.toNatClampNeg).toNatClampNeg < 4600) := i_ix (by omega) (by omega)
        refine ⟨hg34, ?_⟩
        have hg35 : (0 ≤ s ∧ s.toNatClampNeg < 3100) := i_ix (by omega) (by omega)
        refine ⟨hg35, ?_⟩
        have hg36 : (0 ≤ s ∧ s.toNatClampNeg < 3100) := i_ix (by omega) (by omega)
        refine ⟨hg36, ?_⟩
        have f37 : 0 ≤ (m 94 80).toInt ∧ (m 94 80).toInt ≤ 3100 := rs_94_80 (m := m) hV
        try have gk := go_room r_GO (by assumption) (by omega)
        have hg38 : (0 ≤ (m 94 80) ∧ (m 94 80).toNatClampNeg < 3100) := i_ix (by omega) (by omega)
        refine ⟨hg38, ?_⟩
        try have gk := go_room r_GO (by assumption) (by omega)
        have hg39 : (0 ≤ (m 94 80) ∧ (m 94 80).toNatClampNeg < 3100) := i_ix (by omega) (by omega)
        refine ⟨hg39, ?_⟩
        have hV40 : zV (ma_u (zov wr_198 (ma_u m 105 s.toNatClampNeg ((m 105 s.toNatClampNeg) - (1 : Int32))) m1) 99 s.toNatClampNeg (0 : Int32)) := ua_99 hV_m1 (by omega) (by omega)
        have li42 : (-1 : Int32).toInt = -1 := rfl
        have hV41 : zV (ma_u (ma_u (zov wr_198 (ma_u m 105 s.toNatClampNeg ((m 105 s.toNatClampNeg) - (1 : Int32))) m1) 99 s.toNatClampNeg (0 : Int32)) 111 (m 103 s.toNatClampNeg).toNatClampNeg (-1 : Int32)) := ua_111 hV40 (by omega) (by omega)
        have hV43 : zV (ma_u (ma_u (ma_u (zov wr_198 (ma_u m 105 s.toNatClampNeg ((m 105 s.toNatClampNeg) - (1 : Int32))) m1) 99 s.toNatClampNeg (0 : Int32)) 111 (m 103 s.toNatClampNeg).toNatClampNeg (-1 : Int32)) 94 44 ((m 94 44) - (1 : Int32))) := uf_94_44 hV41
        have hV44 : zV (ma_u (ma_u (ma_u (ma_u (zov wr_198 (ma_u m 105 s.toNatClampNeg ((m 105 s.toNatClampNeg) - (1 : Int32))) m1) 99 s.toNatClampNeg (0 : Int32)) 111 (m 103 s.toNatClampNeg).toNatClampNeg (-1 : Int32)) 94 44 ((m 94 44) - (1 : Int32))) 94 45 ((m 94 45) - ((m 102 s.toNatClampNeg) + (1 : Int32)))) := uf_94_45 hV43
        have hV45 : zV (ma_u (ma_u (ma_u (ma_u (ma_u (zov wr_198 (ma_u m 105 s.toNatClampNeg ((m 105 s.toNatClampNeg) - (1 : Int32))) m1) 99 s.toNatClampNeg (0 : Int32)) 111 (m 103 s.toNatClampNeg).toNatClampNeg (-1 : Int32)) 94 44 ((m 94 44) - (1 : Int32))) 94 45 ((m 94 45) - ((m 102 s.toNatClampNeg) + (1 : Int32)))) 94 49 ((m 94 49) + ((m 102 s.toNatClampNeg) + (1 : Int32)))) := uf_94_49 hV44
        have hV46 : zV (ma_u (ma_u (ma_u (ma_u (ma_u (ma_u (zov wr_198 (ma_u m 105 s.toNatClampNeg ((m 105 s.toNatClampNeg) - (1 : Int32))) m1) 99 s.toNatClampNeg (0 : Int32)) 111 (m 103 s.toNatClampNeg).toNatClampNeg (-1 : Int32)) 94 44 ((m 94 44) - (1 : Int32))) 94 45 ((m 94 45) - ((m 102 s.toNatClampNeg) + (1 : Int32)))) 94 49 ((m 94 49) + ((m 102 s.toNatClampNeg) + (1 : Int32)))) 120 (m 94 80).toNatClampNeg s) := ua_120 hV45 (by omega) (by omega)
        have hV47 : zV (ma_u (ma_u (ma_u (ma_u (ma_u (ma_u (ma_u (zov wr_198 (ma_u m 105 s.toNatClampNeg ((m 105 s.toNatClampNeg) - (1 : Int32))) m1) 99 s.toNatClampNeg (0 : Int32)) 111 (m 103 s.toNatClampNeg).toNatClampNeg (-1 : Int32)) 94 44 ((m 94 44) - (1 : Int32))) 94 45 ((m 94 45) - ((m 102 s.toNatClampNeg) + (1 : Int32)))) 94 49 ((m 94 49) + ((m 102 s.toNatClampNeg) + (1 : Int32)))) 120 (m 94 80).toNatClampNeg s) 121 (m 94 80).toNatClampNeg (0 : Int32)) := ua_121 hV46 (by omega) (by omega)
        first | have e49 : ((m 94 80) + (1 : Int32)).toInt = (m 94 80).toInt + (1) := i_addk rfl (by omega) (by omega) | have b50 := i_bd ((m 94 80) + (1 : Int32))
        have hV48 : zV (ma_u (ma_u (ma_u (ma_u (ma_u (ma_u (ma_u (ma_u (zov wr_198 (ma_u m 105 s.toNatClampNeg ((m 105 s.toNatClampNeg) - (1 : Int32))) m1) 99 s.toNatClampNeg (0 : Int32)) 111 (m 103 s.toNatClampNeg).toNatClampNeg (-1 : Int32)) 94 44 ((m 94 44) - (1 : Int32))) 94 45 ((m 94 45) - ((m 102 s.toNatClampNeg) + (1 : Int32)))) 94 49 ((m 94 49) + ((m 102 s.toNatClampNeg) + (1 : Int32)))) 120 (m 94 80).toNatClampNeg s) 121 (m 94 80).toNatClampNeg (0 : Int32)) 94 80 ((m 94 80) + (1 : Int32))) := us_94_80 hV47 (by omega) (by omega)
        exact K _ (zF_u (zF_u (zF_u (zF_u (zF_u (zF_u (zF_u (zF_u (zF_zov (zF_u zF_rfl rfl) ws_198_242) rfl) rfl) rfl) rfl) rfl) rfl) rfl) rfl) hV48 r_GW (show zGU T (m 94 46) ((ma_u m 99 s.toNatClampNeg (0 : Int32)) 99) from by first | (exact GU_0 r_GU) | (exfalso; omega; done) | (exfalso; contradiction; done)) (show zOw ((ma_u m 99 s.toNatClampNeg (0 : Int32)) 99) (m 103) ((ma_u m 111 (m 103 s.toNatClampNeg).toNatClampNeg (-1 : Int32)) 111) from by first | (exact Ow_rm r_OW (by decide) (tn_cast (by omega)).symm) | (exfalso; omega; done) | (exfalso; contradiction; done)) (show zgo ((m 94 80) + (1 : Int32)) ((ma_u m 99 s.toNatClampNeg (0 : Int32)) 99) from by first | (exact go_push r_GO (by assumption) (by omega) (by omega)) | (exfalso; omega; done) | (exfalso; contradiction; done)) (show zgw ((ma_u m 121 (m 94 80).toNatClampNeg (0 : Int32)) 121) ((ma_u m 120 (m 94 80).toNatClampNeg s) 120) (m 102) ((m 94 80) + (1 : Int32)) from by first | (exact gw_push r_GWD (by omega) (by omega) (by have := ra_102 (m := m) hV (k := s.toNatClampNeg) (by omega); have z : (0 : Int32).toInt = 0 := rfl; omega)) | (exfalso; omega; done) | (exfalso; contradiction; done)) (show zlm ((ma_u m 99 s.toNatClampNeg (0 : Int32)) 99) ((ma_u m 121 (m 94 80).toNatClampNeg (0 : Int32)) 121) ((m 94 80) + (1 : Int32)) ≤ zlm (m 99) (m 121) (m 94 80) from by first | (have zq := lm_push (m := m) (c := 99) (mg := m) (d := 121) (k := s.toNatClampNeg) (gm := m 94 80) (gm₉ := (m 94 80) + (1 : Int32)) (x := (0 : Int32)) (by assumption) (by omega) (by omega) (by omega) (by omega) (by decide); exact zq; done) | (exfalso; omega; done) | (exfalso; contradiction; done)) (show ((m 94 45) - ((m 102 s.toNatClampNeg) + (1 : Int32))).toInt = sm (zbU ((ma_u m 99 s.toNatClampNeg (0 : Int32)) 99)) (m 102) 3100 from by first | (exact WT_rm r_WTS (tn_lt (by omega) (by omega)) (by assumption) (fun t ht => ra_102 hV ht)) | (exfalso; omega; done) | (exfalso; contradiction; done)) (show qFl ((ma_u m 99 s.toNatClampNeg (0 : Int32)) 99) (m 100) (m 98) (m 101) (m 102) (m 103) (m 107) (m 108) (m 109) ((ma_u m 111 (m 103 s.toNatClampNeg).toNatClampNeg (-1 : Int32)) 111) (m 112) (m1 113) (m 114) (m 94 55) (m 94 46) (m 94 11) (m 94 12) (m 94 62) (m 94 17) (m 94 9) ((ma_u m 105 s.toNatClampNeg ((m 105 s.toNatClampNeg) - (1 : Int32))) 105) ((ma_u m 120 (m 94 80).toNatClampNeg s) 120) ((ma_u m 121 (m 94 80).toNatClampNeg (0 : Int32)) 121) ((m 94 80) + (1 : Int32)) B x (m 94 58) (cFa aa st ((m 100) s.toNatClampNeg)) from by first | (exact Fl_C r_RB r_QI r_VV (by omega) r_CT r_STK r_XR r_MK (tn_lt (by omega) (by omega)) r_USs mu_up (by omega) (by assumption) (by rw [ofN_tn (by omega)]; exact p1_m1) (fun t => mu_at t) (fun t => mu_at t) mu_up (ofN_tn (by omega)).symm mu_up (by omega)) | (exfalso; omega; done) | (exfalso; contradiction; done))
      · skip
        have g51 := i_ne h27
        have hV52 : zV (ma_u m 105 s.toNatClampNeg ((m 105 s.toNatClampNeg) - (1 : Int32))) := ua_105 hV
        refine sp_197r4 (s) hV52 (by omega) (by omega) (by omega) (show (m 94 10).toInt = 4 ∧ (m 94 58).toInt = 0 from by omega) (show (m 109) s.toNatClampNeg ≠ 0 from by first | (assumption; done) | (exfalso; omega; done) | (exfalso; contradiction; done)) r_USs r_GW r_RB r_QI (fun m3 hV_m3 p0_m3 p1_m3 p2_m3 p3_m3 p4_m3 p5_m3 p6_m3 => zmv_n ?_)
        have p0_m3 : zGW T (m3 94 55) (m3 109) := p0_m3
        have p1_m3 : zuw (m 113) (m3 113) := p1_m3
        have p2_m3 : zwx (m 114) (m3 114) (m 94 55) s := p2_m3
        have p3_m3 : (m3 94 55).toInt = (m 94 55).toInt + 1 := p3_m3
        have p4_m3 : qRB (m 99) (m 100) (m 98) (m 101) (m 102) (m 103) (m 107) (m 108) (m3 109) (m 111) (m 112) (m3 113) (m3 114) (m3 94 55) (m 94 46) (m 94 11) (m 94 12) (m 94 62) (m 94 17) (m 94 9) (aGr aa ((m 100) s.toNatClampNeg)) := p4_m3
        have p5_m3 : qI (aGr aa ((m 100) s.toNatClampNeg)) := p5_m3
        have p6_m3 : (m3 105) = zUp ((ma_u m 105 s.toNatClampNeg ((m 105 s.toNatClampNeg) - (1 : Int32))) 105) s.toNatClampNeg (((ma_u m 105 s.toNatClampNeg ((m 105 s.toNatClampNeg) - (1 : Int32))) 105) s.toNatClampNeg + 1) := p6_m3
        have f53 : 0 ≤ (m3 94 55).toInt ∧ (m3 94 55).toInt ≤ 3100 := rs_94_55 (m := (zov wr_197 (ma_u m 105 s.toNatClampNeg ((m 105 s.toNatClampNeg) - (1 : Int32))) m3)) hV_m3
        have f54 : 0 ≤ (m 94 55).toInt ∧ (m 94 55).toInt ≤ 3100 := rs_94_55 (m := m) hV
        exact K _ (zF_zov (zF_u zF_rfl rfl) ws_197_242) hV_m3 p0_m3 r_GU r_OW r_GO r_GWD (show zlm (m 99) (m 121) (m 94 80) ≤ zlm (m 99) (m 121) (m 94 80) from by first | (exact Nat.le_refl _) | (exfalso; omega; done) | (exfalso; contradiction; done)) r_WTS (show qFl (m 99) (m 100) (m 98) (m 101) (m 102) (m 103) (m 107) (m 108) (m3 109) (m 111) (m 112) (m3 113) (m3 114) (m3 94 55) (m 94 46) (m 94 11) (m 94 12) (m 94 62) (m 94 17) (m 94 9) (m3 105) (m 120) (m 121) (m 94 80) B x (m 94 58) (cFa aa st ((m 100) s.toNatClampNeg)) from by first | (exact Fl_B r_RB r_VV (by omega) r_CT r_STK r_XR r_MK (tn_lt (by omega) (by omega)) r_USs mu_up (by omega) (by assumption) (GW_512 r_GW (by assumption) (by omega) (by omega) (by omega)) p4_m3 p5_m3 p6_m3) | (exfalso; omega; done) | (exfalso; contradiction; done))

/-! from 95.o03 -/
/-! the reference under COUNTS (written by wip/tools/gen20s.py) -/
set_option maxHeartbeats 8000000 in
theorem lp_241r4_23 {X : Nat × (Nat → Int32)} {P : Option ma_V → (Nat → Nat → Int32) → Prop} {T : Nat} {aa : Nat→Nat→Int32} {x : Int32} {B : Int} {s : Int32} {m0 : Nat → Nat → Int32} (h0 : zV m0) (K : ∀ m₉, zF wr_241 m0 m₉ → zV m₉ → (zGW T (m₉ 94 55) (m₉ 109)) → (zGU T (m₉ 94 46) (m₉ 99)) → (zOw (m₉ 99) (m₉ 103) (m₉ 111)) → ((m₉ 94 45).toInt = sm (zbU (m₉ 99)) (m₉ 102) 3100) → (qRB (m₉ 99) (m₉ 100) (m₉ 98) (m₉ 101) (m₉ 102) (m₉ 103) (m₉ 107) (m₉ 108) (m₉ 109) (m₉ 111) (m₉ 112) (m₉ 113) (m₉ 114) (m₉ 94 55) (m₉ 94 46) (m₉ 94 11) (m₉ 94 12) (m₉ 94 62) (m₉ 94 17) (m₉ 94 9) (cLe aa (qNo (m0 100) s))) → (qI (cLe aa (qNo (m0 100) s))) → ((cLe aa (qNo (m0 100) s)) 87 8 = (m₉ 94 58)) → (cV (cLe aa (qNo (m0 100) s)) [] B) → (qCt (m₉ 105) (m₉ 99) (m₉ 100) (cLe aa (qNo (m0 100) s)) [] x (-1)) → (qXr (cLe aa (qNo (m0 100) s)) x) → P none m₉) : ∀ (n : Nat) (m : Nat → Nat → Int32) , ((zlm (m 99) (m 121) (m 94 80) : Int)).toNat = n → zF wr_241 m0 m → zV m → (B ≤ 1000000) → (T ≤ 512) → (zW (m 94 7) (m 98) (m 101) (m 102) (m 108)) → (zGW T (m 94 55) (m 109)) → (zGU T (m 94 46) (m 99)) → (zOw (m 99) (m 103) (m 111)) → ((m 94 10).toInt = 4 ∧ (m 94 58).toInt = 0) → (zgo (m 94 80) (m 99)) → (zgw (m 121) (m 120) (m 102) (m 94 80)) → ((m 94 45).toInt = sm (zbU (m 99)) (m 102) 3100) → (qLL (m 99) (m 100) (m 98) (m 101) (m 102) (m 103) (m 107) (m 108) (m 109) (m 111) (m 112) (m 113) (m 114) (m 94 55) (m 94 46) (m 94 11) (m 94 12) (m 94 62) (m 94 17) (m 94 9) (m 105) (m 120) (m 121) (m 94 80) B x (m 94 58) (cLe aa (qNo (m0 100) s))) → zm X 3 64 241 23 [(0, .inr (.inr (some 94)))] m P := by
  intro n
  induction n using Nat.strongRecOn with
  | _ n IH =>
    intro m  hmu hF hV hi0 hi1 r_W r_GW r_GU r_OW hi6 r_GO r_GWD r_WTS r_LL
    refine g_241_23  ?_
    have f1 : 0 ≤ (m 94 10).toInt ∧ (m 94 10).toInt ≤ 6 := rs_94_10 (m := m) hV
    have f2 : 0 ≤ (m 94 58).toInt ∧ (m 94 58).toInt ≤ 1 := rs_94_58 (m := m) hV
    obtain ⟨p, fl, ce⟩ := r_LL
    have f3 : 0 ≤ (m 94 80).toInt ∧ (m 94 80).toInt ≤ 3100 := rs_94_80 (m := m) hV
    have li4 : (0 : Int32).toInt = 0 := rfl
    refine zd (fun (h5 : (m 94 80) ≤ (0 : Int32)) => ?_) (fun (h5 : ¬ (m 94 80) ≤ (0 : Int32)) => ?_)
    · skip
      have g6 := i_le h5
      exact K _ hF hV r_GW r_GU r_OW r_WTS (show qRB (m 99) (m 100) (m 98) (m 101) (m 102) (m 103) (m 107) (m 108) (m 109) (m 111) (m 112) (m 113) (m 114) (m 94 55) (m 94 46) (m 94 11) (m 94 12) (m 94 62) (m 94 17) (m 94 9) (cLe aa (qNo (m0 100) s)) from by first | (exact (LL_e ⟨p, fl, ce⟩ (by omega)).1) | (exfalso; omega; done) | (exfalso; contradiction; done)) (show qI (cLe aa (qNo (m0 100) s)) from by first | (exact (LL_e ⟨p, fl, ce⟩ (by omega)).2.1) | (exfalso; omega; done) | (exfalso; contradiction; done)) (show (cLe aa (qNo (m0 100) s)) 87 8 = (m 94 58) from by first | (exact (LL_e ⟨p, fl, ce⟩ (by omega)).2.2.2.2.2) | (exfalso; omega; done) | (exfalso; contradiction; done)) (show cV (cLe aa (qNo (m0 100) s)) [] B from by first | (exact (LL_e ⟨p, fl, ce⟩ (by omega)).2.2.1) | (exfalso; omega; done) | (exfalso; contradiction; done)) (show qCt (m 105) (m 99) (m 100) (cLe aa (qNo (m0 100) s)) [] x (-1) from by first | (exact (LL_e ⟨p, fl, ce⟩ (by omega)).2.2.2.1) | (exfalso; omega; done) | (exfalso; contradiction; done)) (show qXr (cLe aa (qNo (m0 100) s)) x from by first | (exact (LL_e ⟨p, fl, ce⟩ (by omega)).2.2.2.2.1) | (exfalso; omega; done) | (exfalso; contradiction; done))
    · skip
      have g7 := i_nle h5
      first | have e8 : ((m 94 80) - (1 : Int32)).toInt = (m 94 80).toInt - (1) := i_subk rfl (by omega) (by omega) | have b9 := i_bd ((m 94 80) - (1 : Int32))
      have hg10 : (0 ≤ ((m 94 80) - (1 : Int32)) ∧ ((m 94 80) - (1 : Int32)).toNatClampNeg < 3100) := i_ix (by omega) (by omega)
      refine ⟨hg10, ?_⟩
      have hg11 : (0 ≤ ((m 94 80) - (1 : Int32)) ∧ ((m 94 80) - (1 : Int32)).toNatClampNeg < 3100) := i_ix (by omega) (by omega)
      refine ⟨hg11, ?_⟩
      first | have f12 : 0 ≤ (m 120 ((m 94 80) - (1 : Int32)).toNatClampNeg).toInt ∧ (m 120 ((m 94 80) - (1 : Int32)).toNatClampNeg).toInt ≤ 3099 := ra_120 (m := m) hV (k := ((m 94 80) - (1 : Int32)).toNatClampNeg) (i_ix (n := 3100) (by omega) (by omega)).2 | have b13 := i_bd (m 120 ((m 94 80) - (1 : Int32)).toNatClampNeg)
      try have gwd := r_GWD ((m 94 80) - (1 : Int32)).toNatClampNeg (by rw [tn_cast (by omega)]; omega)
      have hg14 : (0 ≤ (m 120 ((m 94 80) - (1 : Int32)).toNatClampNeg) ∧ (m 120 ((m 94 80) - (1 : Int32)).toNatClampNeg).toNatClampNeg < 3100) := i_ix (by omega) (by omega)
      refine ⟨hg14, ?_⟩
      first | have f15 : 0 ≤ (m 121 ((m 94 80) - (1 : Int32)).toNatClampNeg).toInt ∧ (m 121 ((m 94 80) - (1 : Int32)).toNatClampNeg).toInt ≤ 60 := ra_121 (m := m) hV (k := ((m 94 80) - (1 : Int32)).toNatClampNeg) (i_ix (n := 3100) (by omega) (by omega)).2 | have b16 := i_bd (m 121 ((m 94 80) - (1 : Int32)).toNatClampNeg)
      first | have f17 : 0 ≤ (m 102 (m 120 ((m 94 80) - (1 : Int32)).toNatClampNeg).toNatClampNeg).toInt ∧ (m 102 (m 120 ((m 94 80) - (1 : Int32)).toNatClampNeg).toNatClampNeg).toInt ≤ 60 := ra_102 (m := m) hV (k := (m 120 ((m 94 80) - (1 : Int32)).toNatClampNeg).toNatClampNeg) (i_ix (n := 3100) (by omega) (by omega)).2 | have b18 := i_bd (m 102 (m 120 ((m 94 80) - (1 : Int32)).toNatClampNeg).toNatClampNeg)
      refine zd (fun (h19 : (m 121 ((m 94 80) - (1 : Int32)).toNatClampNeg) = (m 102 (m 120 ((m 94 80) - (1 : Int32)).toNatClampNeg).toNatClampNeg)) => ?_) (fun (h19 : ¬ (m 121 ((m 94 80) - (1 : Int32)).toNatClampNeg) = (m 102 (m 120 ((m 94 80) - (1 : Int32)).toNatClampNeg).toNatClampNeg)) => ?_)
      · skip
        have g20 := i_eq h19
        have hV21 : zV (ma_u m 94 80 ((m 94 80) - (1 : Int32))) := us_94_80 hV (by omega) (by omega)
        exact IH ((zlm (m 99) (m 121) ((m 94 80) - (1 : Int32)) : Int)).toNat (by first | (have zq := lm_pop (us := m 99) (gw := m 121) (gm := m 94 80) (gm₉ := (m 94 80) - (1 : Int32)) (by omega) (by omega) (fun j hj => ra_121 hV (by omega)); omega) | (have zq := lm_adv (us := m 99) (m := m) (c := 121) (k := ((m 94 80) - (1 : Int32)).toNatClampNeg) (x := (m 121 ((m 94 80) - (1 : Int32)).toNatClampNeg) + (1 : Int32)) (gm := m 94 80) (by omega) (by rw [tn_cast (by omega)]; omega) (by omega) (by omega); have zm := {ML}; omega) | (have zq := lm_adv (us := m 99) (m := m) (c := 121) (k := ((m 94 80) - (1 : Int32)).toNatClampNeg) (x := (m 121 ((m 94 80) - (1 : Int32)).toNatClampNeg) + (1 : Int32)) (gm := m 94 80) (by omega) (by rw [tn_cast (by omega)]; omega) (by omega) (by omega); omega)) _  rfl (zF_u hF rfl) hV21 (by omega) (by omega) r_W r_GW r_GU r_OW (show (m 94 10).toInt = 4 ∧ (m 94 58).toInt = 0 from by omega) (show zgo ((m 94 80) - (1 : Int32)) (m 99) from by first | (exact go_0 (by decide)) | (exact go_pop r_GO (by omega)) | (exfalso; omega; done) | (exfalso; contradiction; done)) (show zgw (m 121) (m 120) (m 102) ((m 94 80) - (1 : Int32)) from by first | (exact gw_0 (by decide)) | (exact gw_pop r_GWD (by omega)) | (exfalso; omega; done) | (exfalso; contradiction; done)) r_WTS (show qLL (m 99) (m 100) (m 98) (m 101) (m 102) (m 103) (m 107) (m 108) (m 109) (m 111) (m 112) (m 113) (m 114) (m 94 55) (m 94 46) (m 94 11) (m 94 12) (m 94 62) (m 94 17) (m 94 9) (m 105) (m 120) (m 121) ((m 94 80) - (1 : Int32)) B x (m 94 58) (cLe aa (qNo (m0 100) s)) from by first | (exact LL_p fl (k := ((m 94 80) - (1 : Int32)).toNatClampNeg) (by omega) (by rw [tn_eq]; omega) (by omega) (by omega) ce) | (exfalso; omega; done) | (exfalso; contradiction; done))
      · skip
        have g22 := i_ne h19
        have hg23 : (0 ≤ ((m 94 80) - (1 : Int32)) ∧ ((m 94 80) - (1 : Int32)).toNatClampNeg < 3100) := i_ix (by omega) (by omega)
        refine ⟨hg23, ?_⟩
        have hg24 : (0 ≤ ((m 94 80) - (1 : Int32)) ∧ ((m 94 80) - (1 : Int32)).toNatClampNeg < 3100) := i_ix (by omega) (by omega)
        refine ⟨hg24, ?_⟩
        first | have e26 : ((m 121 ((m 94 80) - (1 : Int32)).toNatClampNeg) + (1 : Int32)).toInt = (m 121 ((m 94 80) - (1 : Int32)).toNatClampNeg).toInt + (1) := i_addk rfl (by omega) (by omega) | have b27 := i_bd ((m 121 ((m 94 80) - (1 : Int32)).toNatClampNeg) + (1 : Int32))
        have hV25 : zV (ma_u m 121 ((m 94 80) - (1 : Int32)).toNatClampNeg ((m 121 ((m 94 80) - (1 : Int32)).toNatClampNeg) + (1 : Int32))) := ua_121 hV (by omega) (by omega)
        refine sp_192 ((m 120 ((m 94 80) - (1 : Int32)).toNatClampNeg)) ((m 121 ((m 94 80) - (1 : Int32)).toNatClampNeg)) hV25 (by omega) (by omega) (by omega) (show (m 121 ((m 94 80) - (1 : Int32)).toNatClampNeg).toInt < (m 102 (m 120 ((m 94 80) - (1 : Int32)).toNatClampNeg).toNatClampNeg).toInt from by omega) (fun v2 m1 hV_m1 p0_m1 => zmi_n ?_)
        have p0_m1 : v2 = zrf (m 98) (m 101) (m 108) (m 120 ((m 94 80) - (1 : Int32)).toNatClampNeg).toNatClampNeg (m 121 ((m 94 80) - (1 : Int32)).toNatClampNeg).toNatClampNeg := p0_m1
        try have := W_ref r_W (by omega) (by omega) (by omega) (by omega) p0_m1
        have b28 := i_bd v2
        refine zd (fun (h29 : v2 < (0 : Int32)) => ?_) (fun (h29 : ¬ v2 < (0 : Int32)) => ?_)
        · skip
          have g30 := i_lt h29
          exact IH ((zlm (m 99) ((ma_u m 121 ((m 94 80) - (1 : Int32)).toNatClampNeg ((m 121 ((m 94 80) - (1 : Int32)).toNatClampNeg) + (1 : Int32))) 121) (m 94 80) : Int)).toNat (by first | (have zq := lm_pop (us := m 99) (gw := m 121) (gm := m 94 80) (gm₉ := (m 94 80) - (1 : Int32)) (by omega) (by omega) (fun j hj => ra_121 hV (by omega)); omega) | (have zq := lm_adv (us := m 99) (m := m) (c := 121) (k := ((m 94 80) - (1 : Int32)).toNatClampNeg) (x := (m 121 ((m 94 80) - (1 : Int32)).toNatClampNeg) + (1 : Int32)) (gm := m 94 80) (by omega) (by rw [tn_cast (by omega)]; omega) (by omega) (by omega); have zm := {ML}; omega) | (have zq := lm_adv (us := m 99) (m := m) (c := 121) (k := ((m 94 80) - (1 : Int32)).toNatClampNeg) (x := (m 121 ((m 94 80) - (1 : Int32)).toNatClampNeg) + (1 : Int32)) (gm := m 94 80) (by omega) (by rw [tn_cast (by omega)]; omega) (by omega) (by omega); omega)) _  rfl (zF_zov (zF_u hF rfl) ws_192_241) hV_m1 (by omega) (by omega) r_W r_GW r_GU r_OW (show (m 94 10).toInt = 4 ∧ (m 94 58).toInt = 0 from by omega) r_GO (show zgw ((ma_u m 121 ((m 94 80) - (1 : Int32)).toNatClampNeg ((m 121 ((m 94 80) - (1 : Int32)).toNatClampNeg) + (1 : Int32))) 121) (m 120) (m 102) (m 94 80) from by first | (exact gw_adv r_GWD (by omega)) | (exfalso; omega; done) | (exfalso; contradiction; done)) r_WTS (show qLL (m 99) (m 100) (m 98) (m 101) (m 102) (m 103) (m 107) (m 108) (m 109) (m 111) (m 112) (m 113) (m 114) (m 94 55) (m 94 46) (m 94 11) (m 94 12) (m 94 62) (m 94 17) (m 94 9) (m 105) (m 120) ((ma_u m 121 ((m 94 80) - (1 : Int32)).toNatClampNeg ((m 121 ((m 94 80) - (1 : Int32)).toNatClampNeg) + (1 : Int32))) 121) (m 94 80) B x (m 94 58) (cLe aa (qNo (m0 100) s)) from by first | (have la := LA fl (k := ((m 94 80) - (1 : Int32)).toNatClampNeg) (r := v2) (by omega) (by rw [tn_eq]; omega) (by omega) mu_up (by omega) p0_m1; exact LL_n fl la (by omega) ce; done) | (exfalso; omega; done) | (exfalso; contradiction; done))
        · skip
          have g31 := i_nlt h29
          refine sp_242r4 (aa := p.1) (st := (qT p.2)) (v2) hV_m1 (by omega) (by omega) (by omega) (by omega) (show (m 94 10).toInt = 4 ∧ (m 94 58).toInt = 0 from by omega) r_GW r_GU r_OW r_GO (show zgw ((ma_u m 121 ((m 94 80) - (1 : Int32)).toNatClampNeg ((m 121 ((m 94 80) - (1 : Int32)).toNatClampNeg) + (1 : Int32))) 121) (m 120) (m 102) (m 94 80) from by first | (exact gw_adv r_GWD (by omega)) | (exfalso; omega; done) | (exfalso; contradiction; done)) (show (m 99) v2.toNatClampNeg ≠ 0 from by first | (have la := LA fl (k := ((m 94 80) - (1 : Int32)).toNatClampNeg) (r := v2) (by omega) (by rw [tn_eq]; omega) (by omega) mu_up (by omega) p0_m1; exact (U_y la.2.1 (by omega)).2; done) | (assumption; done) | (exact ws3) | (exfalso; omega; done) | (exfalso; contradiction; done)) (show qRB (m 99) (m 100) (m 98) (m 101) (m 102) (m 103) (m 107) (m 108) (m 109) (m 111) (m 112) (m 113) (m 114) (m 94 55) (m 94 46) (m 94 11) (m 94 12) (m 94 62) (m 94 17) (m 94 9) p.1 from by first | (have la := LA fl (k := ((m 94 80) - (1 : Int32)).toNatClampNeg) (r := v2) (by omega) (by rw [tn_eq]; omega) (by omega) mu_up (by omega) p0_m1; exact fl.1; done) | (exfalso; omega; done) | (exfalso; contradiction; done)) (show qI p.1 from by first | (have la := LA fl (k := ((m 94 80) - (1 : Int32)).toNatClampNeg) (r := v2) (by omega) (by rw [tn_eq]; omega) (by omega) mu_up (by omega) p0_m1; exact fl.2.1; done) | (exfalso; omega; done) | (exfalso; contradiction; done)) (show p.1 87 8 = (m 94 58) from by first | (have la := LA fl (k := ((m 94 80) - (1 : Int32)).toNatClampNeg) (r := v2) (by omega) (by rw [tn_eq]; omega) (by omega) mu_up (by omega) p0_m1; exact fl.2.2.2.2.2.2; done) | (exfalso; omega; done) | (exfalso; contradiction; done)) r_WTS (show cV p.1 (qT p.2) B from by first | (have la := LA fl (k := ((m 94 80) - (1 : Int32)).toNatClampNeg) (r := v2) (by omega) (by rw [tn_eq]; omega) (by omega) mu_up (by omega) p0_m1; exact la.2.2.1; done) | (exfalso; omega; done) | (exfalso; contradiction; done)) (show qCt (m 105) (m 99) (m 100) p.1 (qT p.2) x ((m 100) v2.toNatClampNeg) from by first | (have la := LA fl (k := ((m 94 80) - (1 : Int32)).toNatClampNeg) (r := v2) (by omega) (by rw [tn_eq]; omega) (by omega) mu_up (by omega) p0_m1; have q := la.2.2.2.1; rw [No_y (by omega)] at q; exact q; done) | (exfalso; omega; done) | (exfalso; contradiction; done)) (show qGo (m 99) (m 100) (m 98) (m 101) (m 102) (m 108) (m 120) ((ma_u m 121 ((m 94 80) - (1 : Int32)).toNatClampNeg ((m 121 ((m 94 80) - (1 : Int32)).toNatClampNeg) + (1 : Int32))) 121) (m 94 80) (qT p.2) from by first | (have la := LA fl (k := ((m 94 80) - (1 : Int32)).toNatClampNeg) (r := v2) (by omega) (by rw [tn_eq]; omega) (by omega) mu_up (by omega) p0_m1; exact la.1; done) | (exfalso; omega; done) | (exfalso; contradiction; done)) (show qXr p.1 x from by first | (have la := LA fl (k := ((m 94 80) - (1 : Int32)).toNatClampNeg) (r := v2) (by omega) (by rw [tn_eq]; omega) (by omega) mu_up (by omega) p0_m1; exact fl.2.2.2.2.2.1; done) | (exfalso; omega; done) | (exfalso; contradiction; done)) (fun m3 hV_m3 p0_m3 p1_m3 p2_m3 p3_m3 p4_m3 p5_m3 p6_m3 p7_m3 => zmv_n ?_)
          have p0_m3 : zGW T (m3 94 55) (m3 109) := p0_m3
          have p1_m3 : zGU T (m 94 46) (m3 99) := p1_m3
          have p2_m3 : zOw (m3 99) (m 103) (m3 111) := p2_m3
          have p3_m3 : zgo (m3 94 80) (m3 99) := p3_m3
          have p4_m3 : zgw (m3 121) (m3 120) (m 102) (m3 94 80) := p4_m3
          have p5_m3 : zlm (m3 99) (m3 121) (m3 94 80) ≤ zlm (m 99) ((ma_u m 121 ((m 94 80) - (1 : Int32)).toNatClampNeg ((m 121 ((m 94 80) - (1 : Int32)).toNatClampNeg) + (1 : Int32))) 121) (m 94 80) := p5_m3
          have p6_m3 : (m3 94 45).toInt = sm (zbU (m3 99)) (m 102) 3100 := p6_m3
          have p7_m3 : qFl (m3 99) (m 100) (m 98) (m 101) (m 102) (m 103) (m 107) (m 108) (m3 109) (m3 111) (m 112) (m3 113) (m3 114) (m3 94 55) (m 94 46) (m 94 11) (m 94 12) (m 94 62) (m 94 17) (m 94 9) (m3 105) (m3 120) (m3 121) (m3 94 80) B x (m 94 58) (cFa p.1 (qT p.2) ((m 100) v2.toNatClampNeg)) := p7_m3
          exact IH ((zlm (m3 99) (m3 121) (m3 94 80) : Int)).toNat (by first | (have zq := lm_pop (us := m 99) (gw := m 121) (gm := m 94 80) (gm₉ := (m 94 80) - (1 : Int32)) (by omega) (by omega) (fun j hj => ra_121 hV (by omega)); omega) | (have zq := lm_adv (us := m 99) (m := m) (c := 121) (k := ((m 94 80) - (1 : Int32)).toNatClampNeg) (x := (m 121 ((m 94 80) - (1 : Int32)).toNatClampNeg) + (1 : Int32)) (gm := m 94 80) (by omega) (by rw [tn_cast (by omega)]; omega) (by omega) (by omega); have zm := p5_m3; omega) | (have zq := lm_adv (us := m 99) (m := m) (c := 121) (k := ((m 94 80) - (1 : Int32)).toNatClampNeg) (x := (m 121 ((m 94 80) - (1 : Int32)).toNatClampNeg) + (1 : Int32)) (gm := m 94 80) (by omega) (by rw [tn_cast (by omega)]; omega) (by omega) (by omega); omega)) _  rfl (zF_zov (zF_zov (zF_u hF rfl) ws_192_241) ws_242_241) hV_m3 (by omega) (by omega) r_W p0_m3 p1_m3 p2_m3 (show (m 94 10).toInt = 4 ∧ (m 94 58).toInt = 0 from by omega) p3_m3 p4_m3 p6_m3 (show qLL (m3 99) (m 100) (m 98) (m 101) (m 102) (m 103) (m 107) (m 108) (m3 109) (m3 111) (m 112) (m3 113) (m3 114) (m3 94 55) (m 94 46) (m 94 11) (m 94 12) (m 94 62) (m 94 17) (m 94 9) (m3 105) (m3 120) (m3 121) (m3 94 80) B x (m 94 58) (cLe aa (qNo (m0 100) s)) from by first | (have la := LA fl (k := ((m 94 80) - (1 : Int32)).toNatClampNeg) (r := v2) (by omega) (by rw [tn_eq]; omega) (by omega) mu_up (by omega) p0_m1; exact LL_s p7_m3 (la.2.2.2.2.1 (by omega)) ce; done) | (exfalso; omega; done) | (exfalso; contradiction; done))
set_option maxHeartbeats 8000000 in
theorem sp_241r4 {X : Nat × (Nat → Int32)} {P : Option ma_V → (Nat → Nat → Int32) → Prop} {T : Nat} {aa : Nat→Nat→Int32} {x : Int32} {B : Int} {m : Nat → Nat → Int32} (s : Int32) (hV : zV m) (hpre0 : -1 ≤ s.toInt) (hpre1 : s.toInt ≤ 3099) (hpre2 : B ≤ 1000000) (hpre3 : T ≤ 512) (hpre4 : (m 94 10).toInt = 4 ∧ (m 94 58).toInt = 0) (r_W : zW (m 94 7) (m 98) (m 101) (m 102) (m 108)) (r_GW : zGW T (m 94 55) (m 109)) (r_GU : zGU T (m 94 46) (m 99)) (r_OW : zOw (m 99) (m 103) (m 111)) (r_RB : qRB (m 99) (m 100) (m 98) (m 101) (m 102) (m 103) (m 107) (m 108) (m 109) (m 111) (m 112) (m 113) (m 114) (m 94 55) (m 94 46) (m 94 11) (m 94 12) (m 94 62) (m 94 17) (m 94 9) aa) (r_QI : qI aa) (r_MK : aa 87 8 = (m 94 58)) (r_WTS : (m 94 45).toInt = sm (zbU (m 99)) (m 102) 3100) (r_VV : cV aa [] B) (r_CT : qCt (m 105) (m 99) (m 100) aa [] x (qNo (m 100) s)) (r_US : qU (m 99) s) (r_XR : qXr aa x) (KZ : ∀ m₉, zV (zov wr_241 m m₉) → (zGW T (m₉ 94 55) (m₉ 109)) → (zGU T (m 94 46) (m₉ 99)) → (zOw (m₉ 99) (m 103) (m₉ 111)) → ((m₉ 94 45).toInt = sm (zbU (m₉ 99)) (m 102) 3100) → (qRB (m₉ 99) (m 100) (m 98) (m 101) (m 102) (m 103) (m 107) (m 108) (m₉ 109) (m₉ 111) (m 112) (m₉ 113) (m₉ 114) (m₉ 94 55) (m 94 46) (m 94 11) (m 94 12) (m 94 62) (m 94 17) (m 94 9) (cLe aa (qNo (m 100) s))) → (qI (cLe aa (qNo (m 100) s))) → ((cLe aa (qNo (m 100) s)) 87 8 = (m 94 58)) → (cV (cLe aa (qNo (m 100) s)) [] B) → (qCt (m₉ 105) (m₉ 99) (m 100) (cLe aa (qNo (m 100) s)) [] x (-1)) → (qXr (cLe aa (qNo (m 100) s)) x) → P none (zov wr_241 m m₉)) : zm X 3 64 241 0 [(0, .inr (.inr (some 94))), (1, .inl s)] m P := by
  have K : ∀ m₉, zF wr_241 m m₉ → zV m₉ → (zGW T (m₉ 94 55) (m₉ 109)) → (zGU T (m₉ 94 46) (m₉ 99)) → (zOw (m₉ 99) (m₉ 103) (m₉ 111)) → ((m₉ 94 45).toInt = sm (zbU (m₉ 99)) (m₉ 102) 3100) → (qRB (m₉ 99) (m₉ 100) (m₉ 98) (m₉ 101) (m₉ 102) (m₉ 103) (m₉ 107) (m₉ 108) (m₉ 109) (m₉ 111) (m₉ 112) (m₉ 113) (m₉ 114) (m₉ 94 55) (m₉ 94 46) (m₉ 94 11) (m₉ 94 12) (m₉ 94 62) (m₉ 94 17) (m₉ 94 9) (cLe aa (qNo (m 100) s))) → (qI (cLe aa (qNo (m 100) s))) → ((cLe aa (qNo (m 100) s)) 87 8 = (m₉ 94 58)) → (cV (cLe aa (qNo (m 100) s)) [] B) → (qCt (m₉ 105) (m₉ 99) (m₉ 100) (cLe aa (qNo (m 100) s)) [] x (-1)) → (qXr (cLe aa (qNo (m 100) s)) x) → P none m₉ := by
    intro m₉ hf z q0 q1 q2 q3 q4 q5 q6 q7 q8 q9
    have e := zov_eq hf
    rw [e] at z ⊢
    try rw [e] at q0
    try rw [e] at q1
    try rw [e] at q2
    try rw [e] at q3
    try rw [e] at q4
    try rw [e] at q5
    try rw [e] at q6
    try rw [e] at q7
    try rw [e] at q8
    try rw [e] at q9
    exact KZ m₉ z q0 q1 q2 q3 q4 q5 q6 q7 q8 q9
  refine g_241_0 s ?_
  have f1 : 0 ≤ (m 94 10).toInt ∧ (m 94 10).toInt ≤ 6 := rs_94_10 (m := m) hV
  have f2 : 0 ≤ (m 94 58).toInt ∧ (m 94 58).toInt ≤ 1 := rs_94_58 (m := m) hV
  have b3 := i_bd s
  have li4 : (0 : Int32).toInt = 0 := rfl
  refine zd (fun (h5 : s < (0 : Int32)) => ?_) (fun (h5 : ¬ s < (0 : Int32)) => ?_)
  · skip
    have g6 := i_lt h5
    exact K _ zF_rfl hV r_GW r_GU r_OW r_WTS (show qRB (m 99) (m 100) (m 98) (m 101) (m 102) (m 103) (m 107) (m 108) (m 109) (m 111) (m 112) (m 113) (m 114) (m 94 55) (m 94 46) (m 94 11) (m 94 12) (m 94 62) (m 94 17) (m 94 9) (cLe aa (qNo (m 100) s)) from by first | (rw [No_n (by omega), Le_m1]; exact r_RB; done) | (exfalso; omega; done) | (exfalso; contradiction; done)) (show qI (cLe aa (qNo (m 100) s)) from by first | (rw [No_n (by omega), Le_m1]; exact r_QI; done) | (exfalso; omega; done) | (exfalso; contradiction; done)) (show (cLe aa (qNo (m 100) s)) 87 8 = (m 94 58) from by first | (rw [No_n (by omega), Le_m1]; exact r_MK; done) | (exfalso; omega; done) | (exfalso; contradiction; done)) (show cV (cLe aa (qNo (m 100) s)) [] B from by first | (rw [No_n (by omega), Le_m1]; exact r_VV; done) | (exfalso; omega; done) | (exfalso; contradiction; done)) (show qCt (m 105) (m 99) (m 100) (cLe aa (qNo (m 100) s)) [] x (-1) from by first | (have q := r_CT; rw [No_n (by omega)] at q; rw [No_n (by omega), Le_m1]; exact q; done) | (exfalso; omega; done) | (exfalso; contradiction; done)) (show qXr (cLe aa (qNo (m 100) s)) x from by first | (rw [No_n (by omega), Le_m1]; exact r_XR; done) | (exfalso; omega; done) | (exfalso; contradiction; done))
  · skip
    have g7 := i_nlt h5
    have li8 : (4 : Int32).toInt = 4 := rfl
    refine zd (fun (h9 : (m 94 10) = (4 : Int32)) => ?_) (fun (h9 : ¬ (m 94 10) = (4 : Int32)) => ?_)
    · skip
      have g10 := i_eq h9
      have hV11 : zV (ma_u m 94 80 (0 : Int32)) := us_94_80 hV (by omega) (by omega)
      refine sp_242r4 (aa := aa) (st := []) (s) hV11 (by omega) (by omega) (by omega) (by omega) (show (m 94 10).toInt = 4 ∧ (m 94 58).toInt = 0 from by omega) r_GW r_GU r_OW (show zgo (0 : Int32) (m 99) from by first | (exact go_0 (by decide)) | (exfalso; omega; done) | (exfalso; contradiction; done)) (show zgw (m 121) (m 120) (m 102) (0 : Int32) from by first | (exact gw_0 (by decide)) | (exfalso; omega; done) | (exfalso; contradiction; done)) (show (m 99) s.toNatClampNeg ≠ 0 from by first | (exact (U_y r_US (by omega)).2) | (assumption; done) | (exact ws3) | (exfalso; omega; done) | (exfalso; contradiction; done)) r_RB r_QI r_MK r_WTS r_VV (show qCt (m 105) (m 99) (m 100) aa [] x ((m 100) s.toNatClampNeg) from by first | (have q := r_CT; rw [No_y (by omega)] at q; exact q; done) | (exfalso; omega; done) | (exfalso; contradiction; done)) (show qGo (m 99) (m 100) (m 98) (m 101) (m 102) (m 108) (m 120) (m 121) (0 : Int32) [] from by first | (exact Gk_0 (by decide)) | (exfalso; omega; done) | (exfalso; contradiction; done)) r_XR (fun m1 hV_m1 p0_m1 p1_m1 p2_m1 p3_m1 p4_m1 p5_m1 p6_m1 p7_m1 => zmv_n ?_)
      have p0_m1 : zGW T (m1 94 55) (m1 109) := p0_m1
      have p1_m1 : zGU T (m 94 46) (m1 99) := p1_m1
      have p2_m1 : zOw (m1 99) (m 103) (m1 111) := p2_m1
      have p3_m1 : zgo (m1 94 80) (m1 99) := p3_m1
      have p4_m1 : zgw (m1 121) (m1 120) (m 102) (m1 94 80) := p4_m1
      have p5_m1 : zlm (m1 99) (m1 121) (m1 94 80) ≤ zlm (m 99) (m 121) (0 : Int32) := p5_m1
      have p6_m1 : (m1 94 45).toInt = sm (zbU (m1 99)) (m 102) 3100 := p6_m1
      have p7_m1 : qFl (m1 99) (m 100) (m 98) (m 101) (m 102) (m 103) (m 107) (m 108) (m1 109) (m1 111) (m 112) (m1 113) (m1 114) (m1 94 55) (m 94 46) (m 94 11) (m 94 12) (m 94 62) (m 94 17) (m 94 9) (m1 105) (m1 120) (m1 121) (m1 94 80) B x (m 94 58) (cFa aa [] ((m 100) s.toNatClampNeg)) := p7_m1
      exact lp_241r4_23 (s := s) hV K _ _  rfl (zF_zov (zF_u zF_rfl rfl) ws_242_241) hV_m1 (by omega) (by omega) r_W p0_m1 p1_m1 p2_m1 (show (m 94 10).toInt = 4 ∧ (m 94 58).toInt = 0 from by omega) p3_m1 p4_m1 p6_m1 (show qLL (m1 99) (m 100) (m 98) (m 101) (m 102) (m 103) (m 107) (m 108) (m1 109) (m1 111) (m 112) (m1 113) (m1 114) (m1 94 55) (m 94 46) (m 94 11) (m 94 12) (m 94 62) (m 94 17) (m 94 9) (m1 105) (m1 120) (m1 121) (m1 94 80) B x (m 94 58) (cLe aa (qNo (m 100) s)) from by first | (exact LL_0 p7_m1 (tn_lt (by omega) (by omega)) r_RB.1 (U_y r_US (by omega)).2 (by rw [No_y (by omega)])) | (exfalso; omega; done) | (exfalso; contradiction; done))
    · skip
      have g12 := i_ne h9
      exfalso; omega
theorem sp_240r4 {X : Nat × (Nat → Int32)} {P : Option ma_V → (Nat → Nat → Int32) → Prop} {m : Nat → Nat → Int32} (wa : Int32) (is : Int32) (hV : zV m) (hpre0 : (m 94 10).toInt = 4 ∧ (m 94 58).toInt = 0) (KZ : ∀ m₉, zV (zov wr_240 m m₉) → P none (zov wr_240 m m₉)) : zm X 1 21 240 0 [(0, .inr (.inr (some 94))), (1, .inl wa), (2, .inl is)] m P := by
  have K : ∀ m₉, zF wr_240 m m₉ → zV m₉ → P none m₉ := by
    intro m₉ hf z 
    have e := zov_eq hf
    rw [e] at z ⊢
    exact KZ m₉ z 
  refine g_240_0 wa is ?_
  have f1 : 0 ≤ (m 94 10).toInt ∧ (m 94 10).toInt ≤ 6 := rs_94_10 (m := m) hV
  have f2 : 0 ≤ (m 94 58).toInt ∧ (m 94 58).toInt ≤ 1 := rs_94_58 (m := m) hV
  have li3 : (5 : Int32).toInt = 5 := rfl
  refine zd (fun (h4 : (m 94 10) = (5 : Int32)) => ?_) (fun (h4 : ¬ (m 94 10) = (5 : Int32)) => ?_)
  · skip
    have g5 := i_eq h4
    exfalso; omega
  · skip
    have g6 := i_ne h4
    exact K _ zF_rfl hV 

