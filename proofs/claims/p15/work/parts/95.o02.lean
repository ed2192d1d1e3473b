/-! the reference under COUNTS (written by wip/tools/gen20s.py) -/
/-! what is left behind one that falls -/
def qFl (us nr kr kd ws at' ho wd wi ow rt wk wl : Nat → Int32) (wm nu ro fo le ra pi : Int32) (ct gs gw : Nat → Int32) (gm : Int32) (B : Int) (x im : Int32) (p : (Nat → Nat → Int32) × List (List Int32)) : Prop := qRB us nr kr kd ws at' ho wd wi ow rt wk wl wm nu ro fo le ra pi p.1 ∧ qI p.1 ∧ cV p.1 p.2 B ∧ qCt ct us nr p.1 p.2 x (-1) ∧ qGo us nr kr kd ws wd gs gw gm p.2 ∧ qXr p.1 x ∧ p.1 87 8 = im
def qT : List (List Int32) → List (List Int32)
  | (_ :: l) :: t => l :: t
  | s => s
/-- those that go, until L is left -/
def qLL (us nr kr kd ws at' ho wd wi ow rt wk wl : Nat → Int32) (wm nu ro fo le ra pi : Int32) (ct gs gw : Nat → Int32) (gm : Int32) (B : Int) (x im : Int32) (L : Nat → Nat → Int32) : Prop := ∃ p, qFl us nr kr kd ws at' ho wd wi ow rt wk wl wm nu ro fo le ra pi ct gs gw gm B x im p ∧ ∀ d, cE p d → L = d
section D2
variable {a b d L : Nat → Nat → Int32} {us us' nr kr kd ws at' ho wd wi wi' ow ow' rt wk wk' wl wl' ct ct1 ct2 gs gs' gw gw' : Nat → Int32} {wm wm' nu ro fo le ra pi x y z gm gm' im r : Int32} {s t k n g : Nat} {st : List (List Int32)} {B : Int} {p q : (Nat → Nat → Int32) × List (List Int32)}
theorem dn_s (e : ct1 = zUp ct s (ct s - 1)) : ct1 s = ct s - 1 := by
  rw [e]
  exact if_pos rfl
theorem Fl_A (hR : qRB us nr kr kd ws at' ho wd wi ow rt wk wl wm nu ro fo le ra pi a) (hI : qI a) (hV : cV a st B) (hB : B ≤ 1000000) (hC : qCt ct us nr a st x (nr s)) (hG : qGo us nr kr kd ws wd gs gw gm st) (hX : qXr a x) (h8 : a 87 8 = im) (hs : s < 3100) (hu : us s ≠ 0) (e : ct1 = zUp ct s (ct s - 1)) (hp : 0 < (ct s - 1).toInt) : qFl us nr kr kd ws at' ho wd wi ow rt wk wl wm nu ro fo le ra pi ct1 gs gw gm B x im (cFa a st (nr s)) := by
  have c1 := Ct_dn hR.1 hC hs hu e
  rw [Fl_p hR.1 c1 hV hB hX hs hu (by rw [dn_s e]; exact hp)]
  exact ⟨hR, hI, hV, c1, hG, hX, h8⟩
theorem Fl_B (hR : qRB us nr kr kd ws at' ho wd wi ow rt wk wl wm nu ro fo le ra pi a) (hV : cV a st B) (hB : B ≤ 1000000) (hC : qCt ct us nr a st x (nr s)) (hG : qGo us nr kr kd ws wd gs gw gm st) (hX : qXr a x) (h8 : a 87 8 = im) (hs : s < 3100) (hu : us s ≠ 0) (e : ct1 = zUp ct s (ct s - 1)) (hp : ¬ 0 < (ct s - 1).toInt) (hw : wi s ≠ 0) (h5 : wm.toInt < 512) (hR2 : qRB us nr kr kd ws at' ho wd wi' ow rt wk' wl' wm' nu ro fo le ra pi (aGr a (nr s))) (hI2 : qI (aGr a (nr s))) (e2 : ct2 = zUp ct1 s (ct1 s + 1)) : qFl us nr kr kd ws at' ho wd wi' ow rt wk' wl' wm' nu ro fo le ra pi ct2 gs gw gm B x im (cFa a st (nr s)) := by
  have c1 := Ct_dn hR.1 hC hs hu e
  have h69 : (a 69 5).toInt < 512 := by
    rw [hR.2.2.2.2.1.1]
    exact h5
  rw [Fl_g hR.1 hR.2.2.2.2.2.1 c1 hV hB hs hu (by rw [dn_s e]; exact hp) hw]
  refine ⟨hR2, hI2, V_gr hV (hR.1.1 s hs hu).1.1 (R1_al hR.1 hs hu), Ct_gr hR.1 c1 hV.2.2.2.2.1.1 h69 hs hu e2, hG, Xr_gr hX, ?_⟩
  show aGr a (nr s) 87 8 = im
  rw [show aGr a (nr s) 87 = a 87 from gr_r (by decide) (by decide) (by decide) (by decide)]
  exact h8
theorem Fl_C (hR : qRB us nr kr kd ws at' ho wd wi ow rt wk wl wm nu ro fo le ra pi a) (hI : qI a) (hV : cV a st B) (hB : B ≤ 1000000) (hC : qCt ct us nr a st x (nr s)) (hG : qGo us nr kr kd ws wd gs gw gm st) (hX : qXr a x) (h8 : a 87 8 = im) (hs : s < 3100) (hu : us s ≠ 0) (e : ct1 = zUp ct s (ct s - 1)) (hp : ¬ 0 < (ct s - 1).toInt) (hw : wi s = 0) (hun : qUn wk wk' (Int32.ofNat s) 16) (hm : ∀ t, us' t = zmk us s t) (ho' : ∀ p, ow' p = if p = (at' s).toNatClampNeg then -1 else ow p) (e1 : gs' = zUp gs gm.toNatClampNeg y) (ey : y = Int32.ofNat s) (e2 : gw' = zUp gw gm.toNatClampNeg 0) (e3 : gm'.toInt = gm.toInt + 1) : qFl us' nr kr kd ws at' ho wd wi ow' rt wk' wl wm nu ro fo le ra pi ct1 gs' gw' gm' B x im (cFa a st (nr s)) := by
  have c1 := Ct_dn hR.1 hC hs hu e
  have hp1 : ¬ 0 < (ct1 s).toInt := by
    rw [dn_s e]
    exact hp
  have y0 := (hR.1.1 s hs hu).1.1
  have al := R1_al hR.1 hs hu
  have no := Ct_no hR.1 c1 hV hB hs hu hp1
  have z := Rf_z (hV.2.2.2.1 _ al).1 no
  have ck := CK_1 hR hs hu z.1 z.2.1 z.2.2.1
  rw [Fl_r hR.1 hR.2.2.2.2.2.1 c1 hV hB hs hu hp1 hw]
  exact ⟨RB_r1 hR hI hs hu ck.1 hun hm ho', I_rm hI y0 al, (V_rm hV y0 al no).1, Ct_rm hR.1 c1 hV hs hu hm, Go_psh hR hG hs hu z.2.2.2.1 ck.2 hm e1 ey e2 e3, Xr_rm hX, (rm_co (by decide) (by decide) (by decide) (by decide)).trans h8⟩
/-- the next word of the last one -/
theorem LA (fl : qFl us nr kr kd ws at' ho wd wi ow rt wk wl wm nu ro fo le ra pi ct gs gw gm B x im p) (h0 : 0 < gm.toInt) (hk : k = (gm.toInt - 1).toNat) (hi : (gw k).toInt < (ws (gs k).toNatClampNeg).toInt) (e : gw' = zUp gw k y) (ey : y.toInt = (gw k).toInt + 1) (hr : r = zrf kr kd wd (gs k).toNatClampNeg (gw k).toInt.toNat) : qGo us nr kr kd ws wd gs gw' gm (qT p.2) ∧ qU us r ∧ cV p.1 (qT p.2) B ∧ qCt ct us nr p.1 (qT p.2) x (qNo nr r) ∧ (0 ≤ r.toInt → cSt p = cFa p.1 (qT p.2) (nr r.toNatClampNeg)) ∧ (r.toInt < 0 → cSt p = (p.1, qT p.2)) := by
  obtain ⟨f1, f2, f3, f4, f5, f6, f7⟩ := fl
  obtain ⟨l, t, e1, e2, e3⟩ := Go_adv f5 h0 hk hi e ey
  rw [← hr] at e1 e3
  have et : qT p.2 = l :: t := by
    rw [e1]
    rfl
  have ep : p = (p.1, (qNo nr r :: l) :: t) := by rw [← e1]
  rw [e1] at f3 f4
  rw [et]
  refine ⟨e2, e3, V_tl f3, fun s hs hu => ?_, fun r0 => ?_, fun r0 => ?_⟩
  · rw [f4 s hs hu, Oc_tl, is_m1 (nr_lt f1.1 hs hu)]
    exact congrArg Int32.ofInt (by omega)
  · have n0 : 0 ≤ (qNo nr r).toInt := by
      have u := U_y e3 r0
      rw [No_y r0]
      exact (f1.1.1 _ (tn_lt r0 u.1) u.2).1.1
    have c : cSt (p.1, (qNo nr r :: l) :: t) = cFa p.1 (l :: t) (qNo nr r) := cSt_y n0
    rw [← ep, No_y r0] at c
    exact c
  · have c : cSt (p.1, (qNo nr r :: l) :: t) = (p.1, l :: t) := cSt_n (by rw [No_n r0]; decide)
    rw [← ep] at c
    exact c
theorem LL_s (fl : qFl us nr kr kd ws at' ho wd wi ow rt wk wl wm nu ro fo le ra pi ct gs gw gm B x im q) (hq : cSt p = q) (ce : ∀ d, cE p d → L = d) : qLL us nr kr kd ws at' ho wd wi ow rt wk wl wm nu ro fo le ra pi ct gs gw gm B x im L := ⟨q, fl, fun d h => ce d (cE_s (by rw [hq]; exact h))⟩
theorem LL_n (fl : qFl us nr kr kd ws at' ho wd wi ow rt wk wl wm nu ro fo le ra pi ct gs gw gm B x im p) (la : qGo us nr kr kd ws wd gs gw' gm (qT p.2) ∧ qU us r ∧ cV p.1 (qT p.2) B ∧ qCt ct us nr p.1 (qT p.2) x (qNo nr r) ∧ (0 ≤ r.toInt → cSt p = cFa p.1 (qT p.2) (nr r.toNatClampNeg)) ∧ (r.toInt < 0 → cSt p = (p.1, qT p.2))) (hr : r.toInt < 0) (ce : ∀ d, cE p d → L = d) : qLL us nr kr kd ws at' ho wd wi ow rt wk wl wm nu ro fo le ra pi ct gs gw' gm B x im L := by
  refine LL_s (q := (p.1, qT p.2)) ⟨fl.1, fl.2.1, la.2.2.1, ?_, la.1, fl.2.2.2.2.2.1, fl.2.2.2.2.2.2⟩ (la.2.2.2.2.2 hr) ce
  have c := la.2.2.2.1
  rw [No_n hr] at c
  exact c
theorem LL_p (fl : qFl us nr kr kd ws at' ho wd wi ow rt wk wl wm nu ro fo le ra pi ct gs gw gm B x im p) (h0 : 0 < gm.toInt) (hk : k = (gm.toInt - 1).toNat) (hi : (gw k).toInt = (ws (gs k).toNatClampNeg).toInt) (e : gm'.toInt = gm.toInt - 1) (ce : ∀ d, cE p d → L = d) : qLL us nr kr kd ws at' ho wd wi ow rt wk wl wm nu ro fo le ra pi ct gs gw gm' B x im L := by
  obtain ⟨f1, f2, f3, f4, f5, f6, f7⟩ := fl
  obtain ⟨t, e1, e2⟩ := Go_pop f5 h0 hk hi e
  have ep : p = (p.1, [] :: t) := by rw [← e1]
  have c : cSt p = (p.1, t) := by
    rw [ep]
    rfl
  have v := V_st p.2 p.1 f3
  have vv : cV p.1 t B := by
    have ep2 : (p.1, p.2) = p := rfl
    rw [ep2, c] at v
    exact v
  refine LL_s (q := (p.1, t)) ⟨f1, f2, vv, fun s hs hu => ?_, e2, f6, f7⟩ c ce
  rw [f4 s hs hu, e1]
  have o : cOc ([] :: t) (nr s).toNatClampNeg = 0 + cOc t (nr s).toNatClampNeg := rfl
  rw [o, Nat.zero_add]
theorem LL_e (h : qLL us nr kr kd ws at' ho wd wi ow rt wk wl wm nu ro fo le ra pi ct gs gw gm B x im L) (h0 : ¬ 0 < gm.toInt) : qRB us nr kr kd ws at' ho wd wi ow rt wk wl wm nu ro fo le ra pi L ∧ qI L ∧ cV L [] B ∧ qCt ct us nr L [] x (-1) ∧ qXr L x ∧ L 87 8 = im := by
  obtain ⟨p, ⟨f1, f2, f3, f4, f5, f6, f7⟩, ce⟩ := h
  have e := Go_nil f5 h0
  have ep : p = (p.1, []) := by rw [← e]
  have el : L = p.1 := ce p.1 (by rw [ep]; exact cE_o)
  rw [e] at f3 f4
  rw [el]
  exact ⟨f1, f2, f3, f4, f6, f7⟩
theorem LL_0 (fl : qFl us nr kr kd ws at' ho wd wi ow rt wk wl wm nu ro fo le ra pi ct gs gw gm B x im (cFa a [] (nr s))) (hs : s < 3100) (hR : qR1 us' nr ws at' ho a) (hu : us' s ≠ 0) (hL : L = cLe a (nr s)) : qLL us nr kr kd ws at' ho wd wi ow rt wk wl wm nu ro fo le ra pi ct gs gw gm B x im L := ⟨_, fl, fun d h => hL.trans (cLe_y (hR.1 s hs hu).1.1 (R1_al hR hs hu) h)⟩
theorem Le_m1 : cLe a (-1) = a := cLe_n (fun w => absurd w.1 (by decide))
end D2
theorem sp_197r4 {X : Nat × (Nat → Int32)} {P : Option ma_V → (Nat → Nat → Int32) → Prop} {T : Nat} {aa : Nat→Nat→Int32} {m : Nat → Nat → Int32} (s : Int32) (hV : zV m) (hpre0 : 0 ≤ s.toInt) (hpre1 : s.toInt ≤ 3099) (hpre2 : T ≤ 512) (hpre3 : (m 94 10).toInt = 4 ∧ (m 94 58).toInt = 0) (r_WI : (m 109) s.toNatClampNeg ≠ 0) (r_USs : (m 99) s.toNatClampNeg ≠ 0) (r_GW : zGW T (m 94 55) (m 109)) (r_RB : qRB (m 99) (m 100) (m 98) (m 101) (m 102) (m 103) (m 107) (m 108) (m 109) (m 111) (m 112) (m 113) (m 114) (m 94 55) (m 94 46) (m 94 11) (m 94 12) (m 94 62) (m 94 17) (m 94 9) aa) (r_QI : qI aa) (KZ : ∀ m', zV (zov wr_197 m m') → (zGW T (m' 94 55) (m' 109)) → (zuw (m 113) (m' 113)) → (zwx (m 114) (m' 114) (m 94 55) s) → ((m' 94 55).toInt = (m 94 55).toInt + 1) → (qRB (m 99) (m 100) (m 98) (m 101) (m 102) (m 103) (m 107) (m 108) (m' 109) (m 111) (m 112) (m' 113) (m' 114) (m' 94 55) (m 94 46) (m 94 11) (m 94 12) (m 94 62) (m 94 17) (m 94 9) (aGr aa ((m 100) s.toNatClampNeg))) → (qI (aGr aa ((m 100) s.toNatClampNeg))) → ((m' 105) = zUp (m 105) s.toNatClampNeg ((m 105) s.toNatClampNeg + 1)) → P none (zov wr_197 m m')) : zm X 1 22 197 0 [(0, .inr (.inr (some 94))), (1, .inl s)] m P := by
  have K : ∀ m', zF wr_197 m m' → zV m' → (zGW T (m' 94 55) (m' 109)) → (zuw (m 113) (m' 113)) → (zwx (m 114) (m' 114) (m 94 55) s) → ((m' 94 55).toInt = (m 94 55).toInt + 1) → (qRB (m' 99) (m' 100) (m' 98) (m' 101) (m' 102) (m' 103) (m' 107) (m' 108) (m' 109) (m' 111) (m' 112) (m' 113) (m' 114) (m' 94 55) (m' 94 46) (m' 94 11) (m' 94 12) (m' 94 62) (m' 94 17) (m' 94 9) (aGr aa ((m' 100) s.toNatClampNeg))) → (qI (aGr aa ((m' 100) s.toNatClampNeg))) → ((m' 105) = zUp (m 105) s.toNatClampNeg ((m 105) s.toNatClampNeg + 1)) → P none m' := by
    intro m' hf z q0 q1 q2 q3 q4 q5 q6
    have e := zov_eq hf
    rw [e] at z ⊢
    try rw [e] at q0
    try rw [e] at q1
    try rw [e] at q2
    try rw [e] at q3
    try rw [e] at q4
    try rw [e] at q5
    try rw [e] at q6
    exact KZ m' z q0 q1 q2 q3 q4 q5 q6
  refine g_197_0 s ?_
  have f1 : 0 ≤ (m 94 10).toInt ∧ (m 94 10).toInt ≤ 6 := rs_94_10 (m := m) hV
  have f2 : 0 ≤ (m 94 58).toInt ∧ (m 94 58).toInt ≤ 1 := rs_94_58 (m := m) hV
  have b3 := i_bd s
  try have gwr := GW_512 r_GW r_WI (by omega) (by omega) (by omega)
  refine sp_198r (s) hV  (fun m1 hV_m1 p0_m1 p1_m1 => zmv_n ?_)
  have p0_m1 : zuw (m 113) (m1 113) := p0_m1
  have p1_m1 : qUn (m 113) (m1 113) s 16 := p1_m1
  try have gw := GW_room r_GW
  try have gwr := GW_512 r_GW r_WI (by omega) (by omega) (by omega)
  have hg4 : (0 ≤ s ∧ s.toNatClampNeg < 3100) := i_ix (by omega) (by omega)
  refine ⟨hg4, ?_⟩
  have f5 : 0 ≤ (m 94 55).toInt ∧ (m 94 55).toInt ≤ 3100 := rs_94_55 (m := m) hV
  try have gw := GW_room r_GW
  try have gwr := GW_512 r_GW r_WI (by omega) (by omega) (by omega)
  have hg6 : (0 ≤ (m 94 55) ∧ (m 94 55).toNatClampNeg < 3100) := i_ix (by omega) (by omega)
  refine ⟨hg6, ?_⟩
  have li7 : (4 : Int32).toInt = 4 := rfl
  refine zd (fun (h8 : (m 94 10) = (4 : Int32)) => ?_) (fun (h8 : ¬ (m 94 10) = (4 : Int32)) => ?_)
  · skip
    have g9 := i_eq h8
    have hg10 : (0 ≤ s ∧ s.toNatClampNeg < 3100) := i_ix (by omega) (by omega)
    refine ⟨hg10, ?_⟩
    have hg11 : (0 ≤ s ∧ s.toNatClampNeg < 3100) := i_ix (by omega) (by omega)
    refine ⟨hg11, ?_⟩
    try have gwr := GW_512 r_GW r_WI (by omega) (by omega) (by omega)
    have li13 : (0 : Int32).toInt = 0 := rfl
    have hV12 : zV (ma_u (zov wr_198 m m1) 109 s.toNatClampNeg (0 : Int32)) := ua_109 hV_m1 (by omega) (by omega)
    have hV14 : zV (ma_u (ma_u (zov wr_198 m m1) 109 s.toNatClampNeg (0 : Int32)) 114 (m 94 55).toNatClampNeg s) := ua_114 hV12 (by omega) (by omega)
    first | have e16 : ((m 94 55) + (1 : Int32)).toInt = (m 94 55).toInt + (1) := i_addk rfl (by omega) (by omega) | have b17 := i_bd ((m 94 55) + (1 : Int32))
    have hV15 : zV (ma_u (ma_u (ma_u (zov wr_198 m m1) 109 s.toNatClampNeg (0 : Int32)) 114 (m 94 55).toNatClampNeg s) 94 55 ((m 94 55) + (1 : Int32))) := us_94_55 hV14 (by omega) (by omega)
    have hV18 : zV (ma_u (ma_u (ma_u (ma_u (zov wr_198 m m1) 109 s.toNatClampNeg (0 : Int32)) 114 (m 94 55).toNatClampNeg s) 94 55 ((m 94 55) + (1 : Int32))) 105 s.toNatClampNeg ((m 105 s.toNatClampNeg) + (1 : Int32))) := ua_105 hV15
    exact K _ (zF_u (zF_u (zF_u (zF_u (zF_zov zF_rfl ws_198_197) rfl) rfl) rfl) rfl) hV18 (show zGW T ((m 94 55) + (1 : Int32)) ((ma_u m 109 s.toNatClampNeg (0 : Int32)) 109) from by first | (exact GW_take r_GW r_WI (by omega) (by omega)) | (exfalso; omega; done) | (exfalso; contradiction; done)) p0_m1 (show zwx (m 114) ((ma_u m 114 (m 94 55).toNatClampNeg s) 114) (m 94 55) s from by first | (exact ⟨fun k hk => mu_ne (by rw [tn_eq]; omega), mu_self⟩) | (exfalso; omega; done) | (exfalso; contradiction; done)) (show ((m 94 55) + (1 : Int32)).toInt = (m 94 55).toInt + 1 from by omega) (show qRB (m 99) (m 100) (m 98) (m 101) (m 102) (m 103) (m 107) (m 108) ((ma_u m 109 s.toNatClampNeg (0 : Int32)) 109) (m 111) (m 112) (m1 113) ((ma_u m 114 (m 94 55).toNatClampNeg s) 114) ((m 94 55) + (1 : Int32)) (m 94 46) (m 94 11) (m 94 12) (m 94 62) (m 94 17) (m 94 9) (aGr aa ((m 100) s.toNatClampNeg)) from by first | (exact RB_gr r_RB (by omega) (by omega) r_USs p1_m1 (by omega) (by omega)) | (exfalso; omega; done) | (exfalso; contradiction; done)) (show qI (aGr aa ((m 100) s.toNatClampNeg)) from by first | (exact I_gr r_QI (by rw [r_RB.2.2.2.2.1.1]; omega)) | (exfalso; omega; done) | (exfalso; contradiction; done)) (show ((ma_u m 105 s.toNatClampNeg ((m 105 s.toNatClampNeg) + (1 : Int32))) 105) = zUp (m 105) s.toNatClampNeg ((m 105) s.toNatClampNeg + 1) from by first | (exact mu_up) | (exfalso; omega; done) | (exfalso; contradiction; done))
  · skip
    have g19 := i_ne h8
    exfalso; omega
set_option maxHeartbeats 8000000 in
theorem sp_242r4 {X : Nat × (Nat → Int32)} {P : Option ma_V → (Nat → Nat → Int32) → Prop} {T : Nat} {aa : Nat→Nat→Int32} {st : zLL} {x : Int32} {B : Int} {m : Nat → Nat → Int32} (s : Int32) (hV : zV m) (hpre0 : 0 ≤ s.toInt) (hpre1 : s.toInt ≤ 3099) (hpre2 : B ≤ 1000000) (hpre3 : T ≤ 512) (hpre4 : (m 94 10).toInt = 4 ∧ (m 94 58).toInt = 0) (r_GW : zGW T (m 94 55) (m 109)) (r_GU : zGU T (m 94 46) (m 99)) (r_OW : zOw (m 99) (m 103) (m 111)) (r_GO : zgo (m 94 80) (m 99)) (r_GWD : zgw (m 121) (m 120) (m 102) (m 94 80)) (r_USs : (m 99) s.toNatClampNeg ≠ 0) (r_RB : qRB (m 99) (m 100) (m 98) (m 101) (m 102) (m 103) (m 107) (m 108) (m 109) (m 111) (m 112) (m 113) (m 114) (m 94 55) (m 94 46) (m 94 11) (m 94 12) (m 94 62) (m 94 17) (m 94 9) aa) (r_QI : qI aa) (r_MK : aa 87 8 = (m 94 58)) (r_WTS : (m 94 45).toInt = sm (zbU (m 99)) (m 102) 3100) (r_VV : cV aa st B) (r_CT : qCt (m 105) (m 99) (m 100) aa st x ((m 100) s.toNatClampNeg)) (r_STK : qGo (m 99) (m 100) (m 98) (m 101) (m 102) (m 108) (m 120) (m 121) (m 94 80) st) (r_XR : qXr aa x) (KZ : ∀ m', zV (zov wr_242 m m') → (zGW T (m' 94 55) (m' 109)) → (zGU T (m 94 46) (m' 99)) → (zOw (m' 99) (m 103) (m' 111)) → (zgo (m' 94 80) (m' 99)) → (zgw (m' 121) (m' 120) (m 102) (m' 94 80)) → (zlm (m' 99) (m' 121) (m' 94 80) ≤ zlm (m 99) (m 121) (m 94 80)) → ((m' 94 45).toInt = sm (zbU (m' 99)) (m 102) 3100) → (qFl (m' 99) (m 100) (m 98) (m 101) (m 102) (m 103) (m 107) (m 108) (m' 109) (m' 111) (m 112) (m' 113) (m' 114) (m' 94 55) (m 94 46) (m 94 11) (m 94 12) (m 94 62) (m 94 17) (m 94 9) (m' 105) (m' 120) (m' 121) (m' 94 80) B x (m 94 58) (cFa aa st ((m 100) s.toNatClampNeg))) → P none (zov wr_242 m m')) : zm X 2 43 242 0 [(0, .inr (.inr (some 94))), (1, .inl s)] m P := by
  have K : ∀ m', zF wr_242 m m' → zV m' → (zGW T (m' 94 55) (m' 109)) → (zGU T (m' 94 46) (m' 99)) → (zOw (m' 99) (m' 103) (m' 111)) → (zgo (m' 94 80) (m' 99)) → (zgw (m' 121) (m' 120) (m' 102) (m' 94 80)) → (zlm (m' 99) (m' 121) (m' 94 80) ≤ zlm (m 99) (m 121) (m 94 80)) → ((m' 94 45).toInt = sm (zbU (m' 99)) (m' 102) 3100) → (qFl (m' 99) (m' 100) (m' 98) (m' 101) (m' 102) (m' 103) (m' 107) (m' 108) (m' 109) (m' 111) (m' 112) (m' 113) (m' 114) (m' 94 55) (m' 94 46) (m' 94 11) (m' 94 12) (m' 94 62) (m' 94 17) (m' 94 9) (m' 105) (m' 120) (m' 121) (m' 94 80) B x (m' 94 58) (cFa aa st ((m' 100) s.toNatClampNeg))) → P none m' := by
    intro m' hf z q0 q1 q2 q3 q4 q5 q6 q7
    have e := zov_eq hf
    rw [e] at z ⊢
    try rw [e] at q0
    try rw [e] at q1
    try rw [e] at q2
    try rw [e] at q3
    try rw [e] at q4
    try rw [e] at q5
    try rw [e] at q6
    try rw [e] at q7
    exact KZ m' z q0 q1 q2 q3 q4 q5 q6 q7
  refine g_242_0 s ?_
  have f1 : 0 ≤ (m 94 10).toInt ∧ (m 94 10).toInt ≤ 6 := rs_94_10 (m := m) hV
  have f2 : 0 ≤ (m 94 58).toInt ∧ (m 94 58).toInt ≤ 1 := rs_94_58 (m := m) hV
  have b3 := i_bd s
  have hg4 : (0 ≤ s ∧ s.toNatClampNeg < 3100) := i_ix (by omega) (by omega)
  refine ⟨hg4, ?_⟩
  have hg5 : (0 ≤ s ∧ s.toNatClampNeg < 3100) := i_ix (by omega) (by omega)
  refine ⟨hg5, ?_⟩
  have hg6 : (0 ≤ s ∧ s.toNatClampNeg < 3100) := i_ix (by omega) (by omega)
  refine ⟨hg6, ?_⟩
  have li7 : (0 : Int32).toInt = 0 := rfl
  have b8 := i_bd (m 105 s.toNatClampNeg)
  first | have e9 : ((m 105 s.toNatClampNeg) - (1 : Int32)).toInt = (m 105 s.toNatClampNeg).toInt - (1) := i_subk rfl (by omega) (by omega) | have b10 := i_bd ((m 105 s.toNatClampNeg) - (1 : Int32))
  have q11 : ((ma_u m 105 s.toNatClampNeg ((m 105 s.toNatClampNeg) - (1 : Int32))) 105 s.toNatClampNeg).toInt = ((m 105 s.toNatClampNeg) - (1 : Int32)).toInt := congrArg Int32.toInt mu_self
  have b12 := i_bd ((ma_u m 105 s.toNatClampNeg ((m 105 s.toNatClampNeg) - (1 : Int32))) 105 s.toNatClampNeg)
  refine zd (fun (h13 : (0 : Int32) < ((ma_u m 105 s.toNatClampNeg ((m 105 s.toNatClampNeg) - (1 : Int32))) 105 s.toNatClampNeg)) => ?_) (fun (h13 : ¬ (0 : Int32) < ((ma_u m 105 s.toNatClampNeg ((m 105 s.toNatClampNeg) - (1 : Int32))) 105 s.toNatClampNeg)) => ?_)
  · skip
    have g14 := i_lt h13
    have hV15 : zV (ma_u m 105 s.toNatClampNeg ((m 105 s.toNatClampNeg) - (1 : Int32))) := ua_105 hV
    exact K _ (zF_u zF_rfl rfl) hV15 r_GW r_GU r_OW r_GO r_GWD (show zlm (m 99) (m 121) (m 94 80) ≤ zlm (m 99) (m 121) (m 94 80) from by first | (exact Nat.le_refl _) | (exfalso; omega; done) | (exfalso; contradiction; done)) r_WTS (show qFl (m 99) (m 100) (m 98) (m 101) (m 102) (m 103) (m 107) (m 108) (m 109) (m 111) (m 112) (m 113) (m 114) (m 94 55) (m 94 46) (m 94 11) (m 94 12) (m 94 62) (m 94 17) (m 94 9) ((ma_u m 105 s.toNatClampNeg ((m 105 s.toNatClampNeg) - (1 : Int32))) 105) (m 120) (m 121) (m 94 80) B x (m 94 58) (cFa aa st ((m 100) s.toNatClampNeg)) from by first | (exact absurd (by assumption) r_USs) | (exact Fl_A r_RB r_QI r_VV (by omega) r_CT r_STK r_XR r_MK (tn_lt (by omega) (by omega)) r_USs mu_up (by omega)) | (exfalso; omega; done) | (exfalso; contradiction; done))
  · skip
    have g16 := i_nlt h13
    have hg17 : (0 ≤ s ∧ s.toNatClampNeg < 3100) := i_ix (by omega) (by omega)
    refine ⟨hg17, ?_⟩
    first | have f18 : 0 ≤ (m 99 s.toNatClampNeg).toInt ∧ (m 99 s.toNatClampNeg).toInt ≤ 1 := ra_99 (m := m) hV (k := s.toNatClampNeg) (i_ix (n := 3100) (by omega) (by omega)).2 | have b19 := i_bd (m 99 s.toNatClampNeg)
    refine zd (fun (h20 : (m 99 s.toNatClampNeg) = (0 : Int32)) => ?_) (fun (h20 : ¬ (m 99 s.toNatClampNeg) = (0 : Int32)) => ?_)
    · skip
      have g21 := i_eq h20
      have hV22 : zV (ma_u m 105 s.toNatClampNeg ((m 105 s.toNatClampNeg) - (1 : Int32))) := ua_105 hV
      exact K _ (zF_u zF_rfl rfl) hV22 r_GW r_GU r_OW r_GO r_GWD (show zlm (m 99) (m 121) (m 94 80) ≤ zlm (m 99) (m 121) (m 94 80) from by first | (exact Nat.le_refl _) | (exfalso; omega; done) | (exfalso; contradiction; done)) r_WTS (show qFl (m 99) (m 100) (m 98) (m 101) (m 102) (m 103) (m 107) (m 108) (m 109) (m 111) (m 112) (m 113) (m 114) (m 94 55) (m 94 46) (m 94 11) (m 94 12) (m 94 62) (m 94 17) (m 94 9) ((ma_u m 105 s.toNatClampNeg ((m 105 s.toNatClampNeg) - (1 : Int32))) 105) (m 120) (m 121) (m 94 80) B x (m 94 58) (cFa aa st ((m 100) s.toNatClampNeg)) from by first | (exact absurd (by assumption) r_USs) | (exact Fl_A r_RB r_QI r_VV (by omega) r_CT r_STK r_XR r_MK (tn_lt (by omega) (by omega)) r_USs mu_up (by omega)) | (exfalso; omega; done) | (exfalso; contradiction; done))
    · skip
      have g23 := i_ne h20
      have hg24 : (0 ≤ s ∧ s.toNatClampNeg < 3100) := i_ix (by omega) (by omega)
      refine ⟨hg24, ?_⟩
      first | have f25 : 0 ≤ (m 109 s.toNatClampNeg).toInt ∧ (m 109 s.toNatClampNeg).toInt ≤ 1 := ra_109 (m := m) hV (k := s.toNatClampNeg) (i_ix (n := 3100) (by omega) (by omega)).2 | have b26 := i_bd (m 109 s.toNatClampNeg)
      refine zd (fun (h27 : (m 109 s.toNatClampNeg) = (0 : Int32)) => ?_) (fun (h27 : ¬ (m 109 s.toNatClampNeg) = (0 : Int32)) => ?_)
      · skip
        have g28 := i_eq h27
        have hV29 : zV (ma_u m 105 s.toNatClampNeg ((m 105 s.toNatClampNeg) - (1 : Int32))) := ua_105 hV
        refine sp_198r (s) hV29  (fun m1 hV_m1 p0_m1 p1_m1 => zmv_n ?_)
        have p0_m1 : zuw (m 113) (m1 113) := p0_m1
        have p1_m1 : qUn (m 113) (m1 113) s 16 := p1_m1
        have hg30 : (0 ≤ s ∧ s.toNatClampNeg < 3100) := i_ix (by omega) (by omega)
        refine ⟨hg30, ?_⟩
        have hg31 : (0 ≤ s ∧ s.toNatClampNeg < 3100) := i_ix (by omega) (by omega)
        refine ⟨hg31, ?_⟩
        first | have f32 : 0 ≤ (m 103 s.toNatClampNeg).toInt ∧ (m 103 s.toNatClampNeg).toInt ≤ 4599 := ra_103 (m := m) hV (k := s.toNatClampNeg) (i_ix (n := 3100) (by omega) (by omega)).2 | have b33 := i_bd (m 103 s.toNatClampNeg)
        have hg34 : (0 ≤ (m 103 s.toNatClampNeg) ∧ (m 103 s.toNatClampNeg).toNatClampNeg < 4600) := i_ix (by omega) (by omega)
        refine ⟨hg34, ?_⟩
        have hg35 : (0 ≤ s ∧ s.toNatClampNeg < 3100) := i_ix (by omega) (by omega)
        refine ⟨hg35, ?_⟩
        have hg36 : (0 ≤ s ∧ s.toNatClampNeg < 3100) := i_ix (by omega) (by omega)
        refine ⟨hg36, ?_⟩
        have f37 : 0 ≤ (m 94 80).toInt ∧ (m 94 80).toInt ≤ 3100 := rs_94_80 (m := m) hV
        try have gk := go_room r_GO (by assumption) (by omega)
        have hg38 : (0 ≤ (m 94 80) ∧ (m 94 80).toNatClampNeg < 3100) := i_ix (by omega) (by omega)
        refine ⟨hg38, ?_⟩
        try have gk := go_room r_GO (by assumption) (by omega)
        have hg39 : (0 ≤ (m 94 80) ∧ (m 94 80).toNatClampNeg < 3100) := i_ix (by omega) (by omega)
        refine ⟨hg39, ?_⟩
        have hV40 : zV (ma_u (zov wr_198 (ma_u m 105 s.toNatClampNeg ((m 105 s.toNatClampNeg) - (1 : Int32))) m1) 99 s.toNatClampNeg (0 : Int32)) := ua_99 hV_m1 (by omega) (by omega)
        have li42 : (-1 : Int32).toInt = -1 := rfl
        have hV41 : zV (ma_u (ma_u (zov wr_198 (ma_u m 105 s.toNatClampNeg ((m 105 s.toNatClampNeg) - (1 : Int32))) m1) 99 s.toNatClampNeg (0 : Int32)) 111 (m 103 s.toNatClampNeg).toNatClampNeg (-1 : Int32)) := ua_111 hV40 (by omega) (by omega)
        have hV43 : zV (ma_u (ma_u (ma_u (zov wr_198 (ma_u m 105 s.toNatClampNeg ((m 105 s.toNatClampNeg) - (1 : Int32))) m1) 99 s.toNatClampNeg (0 : Int32)) 111 (m 103 s.toNatClampNeg).toNatClampNeg (-1 : Int32)) 94 44 ((m 94 44) - (1 : Int32))) := uf_94_44 hV41
        have hV44 : zV (ma_u (ma_u (ma_u (ma_u (zov wr_198 (ma_u m 105 s.toNatClampNeg ((m 105 s.toNatClampNeg) - (1 : Int32))) m1) 99 s.toNatClampNeg (0 : Int32)) 111 (m 103 s.toNatClampNeg).toNatClampNeg (-1 : Int32)) 94 44 ((m 94 44) - (1 : Int32))) 94 45 ((m 94 45) - ((m 102 s.toNatClampNeg) + (1 : Int32)))) := uf_94_45 hV43
        have hV45 : zV (ma_u (ma_u (ma_u (ma_u (ma_u (zov wr_198 (ma_u m 105 s.toNatClampNeg ((m 105 s.toNatClampNeg) - (1 : Int32))) m1) 99 s.toNatClampNeg (0 : Int32)) 111 (m 103 s.toNatClampNeg).toNatClampNeg (-1 : Int32)) 94 44 ((m 94 44) - (1 : Int32))) 94 45 ((m 94 45) - ((m 102 s.toNatClampNeg) + (1 : Int32)))) 94 49 ((m 94 49) + ((m 102 s.toNatClampNeg) + (1 : Int32)))) := uf_94_49 hV44
        have hV46 : zV (ma_u (ma_u (ma_u (ma_u (ma_u (ma_u (zov wr_198 (ma_u m 105 s.toNatClampNeg ((m 105 s.toNatClampNeg) - (1 : Int32))) m1) 99 s.toNatClampNeg (0 : Int32)) 111 (m 103 s.toNatClampNeg).toNatClampNeg (-1 : Int32)) 94 44 ((m 94 44) - (1 : Int32))) 94 45 ((m 94 45) - ((m 102 s.toNatClampNeg) + (1 : Int32)))) 94 49 ((m 94 49) + ((m 102 s.toNatClampNeg) + (1 : Int32)))) 120 (m 94 80).toNatClampNeg s) := ua_120 hV45 (by omega) (by omega)
        have hV47 : zV (ma_u (ma_u (ma_u (ma_u (ma_u (ma_u (ma_u (zov wr_198 (ma_u m 105 s.toNatClampNeg ((m 105 s.toNatClampNeg) - (1 : Int32))) m1) 99 s.toNatClampNeg (0 : Int32)) 111 (m 103 s.toNatClampNeg).toNatClampNeg (-1 : Int32)) 94 44 ((m 94 44) - (1 : Int32))) 94 45 ((m 94 45) - ((m 102 s.toNatClampNeg) + (1 : Int32)))) 94 49 ((m 94 49) + ((m 102 s.toNatClampNeg) + (1 : Int32)))) 120 (m 94 80).toNatClampNeg s) 121 (m 94 80).toNatClampNeg (0 : Int32)) := ua_121 hV46 (by omega) (by omega)
        first | have e49 : ((m 94 80) + (1 : Int32)).toInt = (m 94 80).toInt + (1) := i_addk rfl (by omega) (by omega) | have b50 := i_bd ((m 94 80) + (1 : Int32))
        have hV48 : zV (ma_u (ma_u (ma_u (ma_u (ma_u (ma_u (ma_u (ma_u (zov wr_198 (ma_u m 105 s.toNatClampNeg ((m 105 s.toNatClampNeg) - (1 : Int32))) m1) 99 s.toNatClampNeg (0 : Int32)) 111 (m 103 s.toNatClampNeg).toNatClampNeg (-1 : Int32)) 94 44 ((m 94 44) - (1 : Int32))) 94 45 ((m 94 45) - ((m 102 s.toNatClampNeg) + (1 : Int32)))) 94 49 ((m 94 49) + ((m 102 s.toNatClampNeg) + (1 : Int32)))) 120 (m 94 80).toNatClampNeg s) 121 (m 94 80).toNatClampNeg (0 : Int32)) 94 80 ((m 94 80) + (1 : Int32))) := us_94_80 hV47 (by omega) (by omega)
        exact K _ (zF_u (zF_u (zF_u (zF_u (zF_u (zF_u (zF_u (zF_u (zF_zov (zF_u zF_rfl rfl) ws_198_242) rfl) rfl) rfl) rfl) rfl) rfl) rfl) rfl) hV48 r_GW (show zGU T (m 94 46) ((ma_u m 99 s.toNatClampNeg (0 : Int32)) 99) from by first | (exact GU_0 r_GU) | (exfalso; omega; done) | (exfalso; contradiction; done)) (show zOw ((ma_u m 99 s.toNatClampNeg (0 : Int32)) 99) (m 103) ((ma_u m 111 (m 103 s.toNatClampNeg).toNatClampNeg (-1 : Int32)) 111) from by first | (exact Ow_rm r_OW (by decide) (tn_cast (by omega)).symm) | (exfalso; omega; done) | (exfalso; contradiction; done)) (show zgo ((m 94 80) + (1 : Int32)) ((ma_u m 99 s.toNatClampNeg (0 : Int32)) 99) from by first | (exact go_push r_GO (by assumption) (by omega) (by omega)) | (exfalso; omega; done) | (exfalso; contradiction; done)) (show zgw ((ma_u m 121 (m 94 80).toNatClampNeg (0 : Int32)) 121) ((ma_u m 120 (m 94 80).toNatClampNeg s) 120) (m 102) ((m 94 80) + (1 : Int32)) from by first | (exact gw_push r_GWD (by omega) (by omega) (by have := ra_102 (m := m) hV (k := s.toNatClampNeg) (by omega); have z : (0 : Int32).toInt = 0 := rfl; omega)) | (exfalso; omega; done) | (exfalso; contradiction; done)) (show zlm ((ma_u m 99 s.toNatClampNeg (0 : Int32)) 99) ((ma_u m 121 (m 94 80).toNatClampNeg (0 : Int32)) 121) ((m 94 80) + (1 : Int32)) ≤ zlm (m 99) (m 121) (m 94 80) from by first | (have zq := lm_push (m := m) (c := 99) (mg := m) (d := 121) (k := s.toNatClampNeg) (gm := m 94 80) (gm' := (m 94 80) + (1 : Int32)) (x := (0 : Int32)) (by assumption) (by omega) (by omega) (by omega) (by omega) (by decide); exact zq; done) | (exfalso; omega; done) | (exfalso; contradiction; done)) (show ((m 94 45) - ((m 102 s.toNatClampNeg) + (1 : Int32))).toInt = sm (zbU ((ma_u m 99 s.toNatClampNeg (0 : Int32)) 99)) (m 102) 3100 from by first | (exact WT_rm r_WTS (tn_lt (by omega) (by omega)) (by assumption) (fun t ht => ra_102 hV ht)) | (exfalso; omega; done) | (exfalso; contradiction; done)) (show qFl ((ma_u m 99 s.toNatClampNeg (0 : Int32)) 99) (m 100) (m 98) (m 101) (m 102) (m 103) (m 107) (m 108) (m 109) ((ma_u m 111 (m 103 s.toNatClampNeg).toNatClampNeg (-1 : Int32)) 111) (m 112) (m1 113) (m 114) (m 94 55) (m 94 46) (m 94 11) (m 94 12) (m 94 62) (m 94 17) (m 94 9) ((ma_u m 105 s.toNatClampNeg ((m 105 s.toNatClampNeg) - (1 : Int32))) 105) ((ma_u m 120 (m 94 80).toNatClampNeg s) 120) ((ma_u m 121 (m 94 80).toNatClampNeg (0 : Int32)) 121) ((m 94 80) + (1 : Int32)) B x (m 94 58) (cFa aa st ((m 100) s.toNatClampNeg)) from by first | (exact Fl_C r_RB r_QI r_VV (by omega) r_CT r_STK r_XR r_MK (tn_lt (by omega) (by omega)) r_USs mu_up (by omega) (by assumption) (by rw [ofN_tn (by omega)]; exact p1_m1) (fun t => mu_at t) (fun t => mu_at t) mu_up (ofN_tn (by omega)).symm mu_up (by omega)) | (exfalso; omega; done) | (exfalso; contradiction; done))
      · skip
        have g51 := i_ne h27
        have hV52 : zV (ma_u m 105 s.toNatClampNeg ((m 105 s.toNatClampNeg) - (1 : Int32))) := ua_105 hV
        refine sp_197r4 (s) hV52 (by omega) (by omega) (by omega) (show (m 94 10).toInt = 4 ∧ (m 94 58).toInt = 0 from by omega) (show (m 109) s.toNatClampNeg ≠ 0 from by first | (assumption; done) | (exfalso; omega; done) | (exfalso; contradiction; done)) r_USs r_GW r_RB r_QI (fun m3 hV_m3 p0_m3 p1_m3 p2_m3 p3_m3 p4_m3 p5_m3 p6_m3 => zmv_n ?_)
        have p0_m3 : zGW T (m3 94 55) (m3 109) := p0_m3
        have p1_m3 : zuw (m 113) (m3 113) := p1_m3
        have p2_m3 : zwx (m 114) (m3 114) (m 94 55) s := p2_m3
        have p3_m3 : (m3 94 55).toInt = (m 94 55).toInt + 1 := p3_m3
        have p4_m3 : qRB (m 99) (m 100) (m 98) (m 101) (m 102) (m 103) (m 107) (m 108) (m3 109) (m 111) (m 112) (m3 113) (m3 114) (m3 94 55) (m 94 46) (m 94 11) (m 94 12) (m 94 62) (m 94 17) (m 94 9) (aGr aa ((m 100) s.toNatClampNeg)) := p4_m3
        have p5_m3 : qI (aGr aa ((m 100) s.toNatClampNeg)) := p5_m3
        have p6_m3 : (m3 105) = zUp ((ma_u m 105 s.toNatClampNeg ((m 105 s.toNatClampNeg) - (1 : Int32))) 105) s.toNatClampNeg (((ma_u m 105 s.toNatClampNeg ((m 105 s.toNatClampNeg) - (1 : Int32))) 105) s.toNatClampNeg + 1) := p6_m3
        have f53 : 0 ≤ (m3 94 55).toInt ∧ (m3 94 55).toInt ≤ 3100 := rs_94_55 (m := (zov wr_197 (ma_u m 105 s.toNatClampNeg ((m 105 s.toNatClampNeg) - (1 : Int32))) m3)) hV_m3
        have f54 : 0 ≤ (m 94 55).toInt ∧ (m 94 55).toInt ≤ 3100 := rs_94_55 (m := m) hV
        exact K _ (zF_zov (zF_u zF_rfl rfl) ws_197_242) hV_m3 p0_m3 r_GU r_OW r_GO r_GWD (show zlm (m 99) (m 121) (m 94 80) ≤ zlm (m 99) (m 121) (m 94 80) from by first | (exact Nat.le_refl _) | (exfalso; omega; done) | (exfalso; contradiction; done)) r_WTS (show qFl (m 99) (m 100) (m 98) (m 101) (m 102) (m 103) (m 107) (m 108) (m3 109) (m 111) (m 112) (m3 113) (m3 114) (m3 94 55) (m 94 46) (m 94 11) (m 94 12) (m 94 62) (m 94 17) (m 94 9) (m3 105) (m 120) (m 121) (m 94 80) B x (m 94 58) (cFa aa st ((m 100) s.toNatClampNeg)) from by first | (exact Fl_B r_RB r_VV (by omega) r_CT r_STK r_XR r_MK (tn_lt (by omega) (by omega)) r_USs mu_up (by omega) (by assumption) (GW_512 r_GW (by assumption) (by omega) (by omega) (by omega)) p4_m3 p5_m3 p6_m3) | (exfalso; omega; done) | (exfalso; contradiction; done))
