/-! from 95.t02 -/
/-! REGIONS, the reference (written by wip/tools/gen15t.py) -/
/-! REGIONS: the reference's cleaning, region by region -/
def qZO (us nr kr kd ws at₉ ho wd wi ow rt wk wl : Nat → Int32) (wm nu ro si rg sh pr : Int32) (tp kw hl dn : Nat → Int32) (t g q : Int) (T : (Nat → Nat → Int32) × Int) : Prop := ∃ c, qRB us nr kr kd ws at₉ ho wd wi ow rt wk wl wm nu ro 0 0 0 1 c ∧ qRv c ∧ qLv c t ∧ qRL c si rg sh pr tp ∧ qLR c rg sh si pr kw hl dn ∧ (g = 1 → rOf 93 c t = T ∧ q = rFw c) ∧ (g = 0 → (∀ x, x ≠ 93 → T.1 x = c x) ∧ T.2 = t)
def qZI (us nr kr kd ws at₉ ho wd wi ow rt wk wl : Nat → Int32) (wm nu ro si rg sh pr : Int32) (tp kw hl dn : Nat → Int32) (t g q p e : Int) (T : (Nat → Nat → Int32) × Int) : Prop := ∃ c, qRB us nr kr kd ws at₉ ho wd wi ow rt wk wl wm nu ro 0 0 0 1 c ∧ qRv c ∧ qLv c t ∧ qRL c si rg sh pr tp ∧ qLq c rg sh si pr kw hl dn q ∧ (0 ≤ q ∧ q < rg.toInt ∧ dn q.toNat ≠ 0) ∧ (g = 1 → qJr c q p t ∧ qUT (rMv c e p t) q T ∧ e = q * si.toInt + (tp q.toNat).toInt) ∧ (g = 0 → (c, t) = T)
section F18
variable {a b c aa : Nat → Nat → Int32} {us nr kr kd ws at₉ at2 ho wd wi ow ow2 rt wk wl tp tp0 tp2 kw hl dn dn2 : Nat → Int32} {wm nu ro fo le ra pi si rg sh pr pr2 to s x x2 y v u : Int32} {t g q p e : Int} {n m k f : Nat} {kz : Int} {T : (Nat → Nat → Int32) × Int}
theorem i_ez (h : x = 0) : x.toInt = 0 := by
  rw [h]
  rfl
theorem i_en (h : x ≠ 0) : x.toInt ≠ 0 := fun w => h (i_zer w)
theorem qE2 {i j : Int} (h : qEq i j) : qEq i j := h
theorem RL_sw (h : qRL a si rg sh pr tp) : qRL (aSw a) si rg sh pr tp := by
  unfold qRL at h ⊢
  rw [show aSw a 87 = a 87 from funext (fun _ => sw_87), show aSw a 92 = a 92 from funext (fun _ => sw_9 (by decide))]
  exact h
theorem RG_of (hR : qRB us nr kr kd ws at₉ ho wd wi ow rt wk wl wm nu ro 0 0 0 1 a) (hv : qRv a) (hL : qRL a si rg sh pr tp) : zRG1 si rg pr us at₉ ws tp := by
  have b := RL_b hL hv
  refine ⟨b.1.1, b.2.1.1, b.2.2.2.2, b.2.2.1, fun r hr => ?_, fun s hs hu => ?_⟩
  · rw [← hL.2.2.2.2 r hr, ← hL.1]
    exact (hv.2.2.2.1 r (by omega)).1.2
  · have q := hR.1.1 s hs hu
    have al : xAl a (nr s).toNatClampNeg := ⟨by have := tn_cast (x := nr s) q.1.1; omega, q.2.1⟩
    have z := hv.2.2.2.2 _ al
    have w1 : (a 128 (nr s).toNatClampNeg).toInt = (ws s).toInt + 1 := by
      rw [q.2.2.1]
      exact i_addk rfl (by have := q.2.2.2.2.2.1; omega) (by have := q.2.2.2.2.2.1; omega)
    have p0 : 0 ≤ (at₉ s).toInt := q.2.2.2.2.2.2
    rw [q.2.2.2.1, hL.1, hL.2.1, w1] at z
    have d0 : 0 ≤ (at₉ s).toInt / si.toInt := Int.ediv_nonneg p0 (by omega)
    have t := (hv.2.2.2.1 ((at₉ s).toInt / si.toInt).toNat (by omega)).1
    rw [hL.1] at t
    have db := dv_b (p := (at₉ s).toInt) (s := si.toInt) (by omega)
    have ml := ml_le (s := si.toInt) z.1 (by omega)
    have w0 := q.2.2.2.2.2.1
    exact ⟨by omega, by omega⟩
theorem ZO_0 (hR : qRB us nr kr kd ws at₉ ho wd wi ow rt wk wl wm nu ro 0 0 0 1 (aSw aa)) (hv : qRv aa) (hL : qRL aa si rg sh pr tp0) (hK : qKS us ws ho at₉ kw hl dn si.toInt rg.toInt n) (hn : 3100 ≤ n) (hn2 : n ≤ 3100) (hT : qTZ tp0 tp kw rg.toInt e) (he : ¬ e < rg.toInt) (hq : qEq v.toInt (rFw (rB0 aa))) : qZO us nr kr kd ws at₉ ho wd wi ow rt wk wl wm nu ro si rg sh pr tp kw hl dn (-1 : Int32).toInt (1 : Int32).toInt v.toInt (rC0 aa) :=
  ⟨rB0 aa, RB_c9 hR (fun c h2 h3 => B0_o h2 h3), (Rv_b0 hv).1, (Rv_b0 hv).2, RL_b0 hR.1 hv hL hK hn hn2 hT he, LR_b0 hR.1 hv hL hK hn hn2, fun _ => ⟨rfl, qE hq⟩, fun z => absurd z (by decide)⟩
theorem ZI_0 (hR : qRB us nr kr kd ws at₉ ho wd wi ow rt wk wl wm nu ro 0 0 0 1 c) (hv : qRv c) (hL : qLv c t) (hRL : qRL c si rg sh pr tp) (hLR : qLR c rg sh si pr kw hl dn) (h1 : rOf 93 c t = T ∧ q = rFw c) (h0 : 0 ≤ q) (hd : ∀ r, dn2 r = if r = q.toNat then 1 else dn r) (hp : p = q * si.toInt) (htq : tp q.toNat = x) (he : e = p + x.toInt) (hg : g = 1) : qZI us nr kr kd ws at₉ ho wd wi ow rt wk wl wm nu ro si rg sh pr tp kw hl dn2 t g q p e T := by
  rw [← htq] at he
  obtain ⟨hT, hq⟩ := h1
  have fy := Fw_y (a := c) (by omega)
  rw [← hq] at fy
  have qr := (hL.2.1 q.toNat (by omega) fy.2.2).1
  rw [hRL.2.1] at qr
  have q2 : q < rg.toInt := by omega
  have J := Lv_J hv hL h0 (by omega) fy.2.2
  have tq := hRL.2.2.2.2 q.toNat (by omega)
  refine ⟨c, hR, hv, hL, hRL, fun r hr => ⟨(hLR r hr).1, fun hne => ?_⟩, ⟨h0, q2, by rw [hd, if_pos rfl]; decide⟩, fun _ => ⟨?_, ?_, by omega⟩, fun z => by omega⟩
  · rw [(hLR r hr).2]
    have dd : dn2 r = dn r := by rw [hd, if_neg (by omega)]
    unfold rLw
    rw [dd]
  · rw [hp, ← hRL.1]
    exact J
  · rw [M2_e (q := q) (a := c) (by rw [hRL.1, tq]; omega) (by rw [hRL.1]; exact hp)]
    exact ⟨fun ok => (Of_y (f := 92) hq.symm (by omega) ok).symm.trans hT, fun no => (Of_n (f := 92) hq.symm (by omega) no).symm.trans hT⟩
theorem ZI_fr (hR : qRB us nr kr kd ws at₉ ho wd wi ow rt wk wl wm nu ro 0 0 0 1 c) (hv : qRv c) (hL : qLv c t) (hRL : qRL c si rg sh pr tp) (hLq : qLq c rg sh si pr kw hl dn q) (hq : 0 ≤ q ∧ q < rg.toInt ∧ dn q.toNat ≠ 0) (h1 : qJr c q x.toInt t ∧ qUT (rMv c e x.toInt t) q T ∧ e = q * si.toInt + (tp q.toNat).toInt) (h0 : 0 ≤ x.toInt) (hl₉ : x.toInt < e) (h5 : e ≤ 4500) (hn : (ow x.toNatClampNeg).toInt < 0) (hx : x2.toInt = x.toInt + 1) (hg : g = 1) : qZI us nr kr kd ws at₉ ho wd wi ow rt wk wl wm nu ro si rg sh pr tp kw hl dn t g q x2.toInt e T := by
  obtain ⟨J, U, E⟩ := h1
  have o := OB_n hv.1 hR.1 hR.2.2.2.2.2.2.1 J.2.2.2.1 h0 (by omega) hn
  have tq := hRL.2.2.2.2 q.toNat (by omega)
  rw [hx]
  exact ⟨c, hR, hv, hL, hRL, hLq, hq, fun _ => ⟨Jr_fr J (by rw [hRL.1, tq]; omega) o, by rw [← Mv_fr (S1_I hv.1) hl₉ o]; exact U, E⟩, fun z => by omega⟩
/-- where it goes -/
theorem TO_y (hv : qRv c) (hRL : qRL c si rg sh pr tp) (h0 : 0 ≤ u.toInt) (h1 : u.toInt < rg.toInt) (hf : (tp u.toNatClampNeg).toInt + kz ≤ si.toInt) : rTo c u.toInt kz = u.toInt := by
  have b := RL_b hRL hv
  have tc := tn_cast h0
  have e : c 92 u.toInt.toNat = tp u.toNatClampNeg := by
    rw [show u.toInt.toNat = u.toNatClampNeg from by omega]
    exact RL_t hRL h0 h1
  exact To_t ⟨h0, by omega, by rw [e, hRL.1]; exact hf⟩
theorem TO_l (hv : qRv c) (hRL : qRL c si rg sh pr tp) (h1 : u.toInt < rg.toInt) (hf : u.toInt < 0 ∨ si.toInt < (tp u.toNatClampNeg).toInt + kz) (hw : qEq v.toInt (rLe c)) : rTo c u.toInt kz = v.toInt := by
  rw [qE hw]
  refine To_l (fun z => ?_)
  have tc := tn_cast z.1
  have e : c 92 u.toInt.toNat = tp u.toNatClampNeg := by
    rw [show u.toInt.toNat = u.toNatClampNeg from by omega]
    exact RL_t hRL z.1 h1
  rw [e, hRL.1] at z
  omega
theorem ZI_no (hR : qRB us nr kr kd ws at₉ ho wd wi ow rt wk wl wm nu ro 0 0 0 1 c) (hv : qRv c) (hL : qLv c t) (hRL : qRL c si rg sh pr tp) (hLq : qLq c rg sh si pr kw hl dn q) (hq : 0 ≤ q ∧ q < rg.toInt ∧ dn q.toNat ≠ 0) (h1 : qJr c q x.toInt t ∧ qUT (rMv c e x.toInt t) q T ∧ e = q * si.toInt + (tp q.toNat).toInt) (hO : zOw us at₉ ow) (h0 : 0 ≤ x.toInt) (hl₉ : x.toInt < e) (h5 : e ≤ 4500) (hs : s = ow x.toNatClampNeg) (hs0 : 0 ≤ s.toInt) (hs3 : s.toInt ≤ 3099) (hm1 : rTo c t ((ws s.toNatClampNeg).toInt + 1) = -1) : qZI us nr kr kd ws at₉ ho wd wi ow rt wk wl wm nu ro si rg sh pr tp kw hl dn t (0 : Int32).toInt q p e T := by
  obtain ⟨J, U, E⟩ := h1
  have o := Sl_ob hR hv.1 hO h0 (by omega) hs hs0 hs3
  have z := Mv_no (a := c) (e := e) (t := t) hl₉ o.2.2.1 (by rw [o.1, o.2.1]; exact hm1)
  rw [z] at U
  exact ⟨c, hR, hv, hL, hRL, hLq, hq, fun w => absurd w (by decide), fun _ => U.2 rfl⟩
theorem ZI_mv (hR : qRB us nr kr kd ws at₉ ho wd wi ow rt wk wl wm nu ro 0 0 0 1 c) (hv : qRv c) (hL : qLv c t) (hRL : qRL c si rg sh pr tp) (hLq : qLq c rg sh si pr kw hl dn q) (hq : 0 ≤ q ∧ q < rg.toInt ∧ dn q.toNat ≠ 0) (h1 : qJr c q x.toInt t ∧ qUT (rMv c e x.toInt t) q T ∧ e = q * si.toInt + (tp q.toNat).toInt) (hO : zOw us at₉ ow) (h0 : 0 ≤ x.toInt) (hl₉ : x.toInt < e) (h5 : e ≤ 4500) (hs : s = ow x.toNatClampNeg) (hs0 : 0 ≤ s.toInt) (hs3 : s.toInt ≤ 3099) (hn : rTo c t ((ws s.toNatClampNeg).toInt + 1) = u.toInt) (hu0 : 0 ≤ u.toInt) (hm : zmov s to at₉ ow at2 ow2) (hto : to.toInt = u.toInt * si.toInt + (tp u.toNatClampNeg).toInt) (htp : ∀ r, tp2 r = if r = u.toNatClampNeg then tp u.toNatClampNeg + (ws s.toNatClampNeg + 1) else tp r) (hx : x2.toInt = x.toInt + ((ws s.toNatClampNeg).toInt + 1)) (hg : g = 1) : qZI us nr kr kd ws at2 ho wd wi ow2 rt wk wl wm nu ro si rg sh pr tp2 kw hl dn u.toInt g q x2.toInt e T := by
  obtain ⟨J, U, E⟩ := h1
  have o := Sl_ob hR hv.1 hO h0 (by omega) hs hs0 hs3
  have tq := hRL.2.2.2.2 q.toNat (by omega)
  have hp : x.toInt < q * (c 87 3).toInt + (c 92 q.toNat).toInt := by
    rw [hRL.1, tq]
    omega
  have hn1 : rTo c t (c 128 (zOb c x.toInt).toNatClampNeg).toInt ≠ -1 := by
    rw [o.1, o.2.1, hn]
    omega
  have jt := Jr_to J hp o.2.2.1 hn1
  have jg := Jr_go J hp o.2.2.1 hn1
  have lg := Lv_go J hL hp o.2.2.1 hn1
  have un : u.toInt.toNat = u.toNatClampNeg := by
    have := tn_cast hu0
    omega
  have ut : c 92 u.toNatClampNeg = tp u.toNatClampNeg := by
    refine RL_t hRL hu0 ?_
    have z := jt.2.2.2.2.1.2.1
    rw [o.1, o.2.1, hn, hRL.2.1] at z
    exact z
  have fq := Jr_fq (to := to) J hp o.2.2.1 hn1 (by rw [o.1, o.2.1, hn, hRL.1, un, ut]; exact hto)
  have mg := Mv_go (S1_I hv.1) hl₉ o.2.2.1 hn1
  rw [o.1, o.2.1, hn] at jg lg jt mg
  rw [o.1] at fq
  have te : Int32.ofInt (u.toInt * (c 87 3).toInt + (c 92 u.toInt.toNat).toInt) = to := by
    rw [hRL.1, un, ut, ← hto, Int32.ofInt_toInt]
  have h8 : c 128 (nr s.toNatClampNeg).toNatClampNeg = ws s.toNatClampNeg + 1 := (hR.1.1 _ (tn_lt hs0 (by omega)) o.2.2.2.1).2.2.1
  have RBm := RB_mv2 hR hv.1 (tn_lt hs0 (by omega)) hs0 o.2.2.2.1 fq.2.2.1 fq.2.2.2 fq.1 hm
  have r7 : ∀ k, rM1 c (nr s.toNatClampNeg).toNatClampNeg u.toInt 87 k = c 87 k := fun k => M1_r (by decide) (by decide) (by decide)
  have r9 : ∀ k, rM1 c (nr s.toNatClampNeg).toNatClampNeg u.toInt 92 k = if k = u.toNatClampNeg then tp u.toNatClampNeg + (ws s.toNatClampNeg + 1) else c 92 k := fun k => by
    unfold rM1
    rw [un, ut, h8]
    show (if (92 : Nat) = 92 ∧ k = u.toNatClampNeg then _ else aMo _ _ _ 92 k) = _
    by_cases w : k = u.toNatClampNeg
    · rw [if_pos ⟨rfl, w⟩, if_pos w]
    · rw [if_neg (fun z => w z.2), if_neg w, Mo_r (by decide) (by decide)]
  rw [hx]
  refine ⟨rM1 c (nr s.toNatClampNeg).toNatClampNeg u.toInt, RB_c9 RBm (fun c₉ h2 _ => ?_), jg.1, lg, ⟨?_, ?_, ?_, ?_, fun r hr => ?_⟩, fun r hr => ⟨(hLq r hr).1, fun hne => ?_⟩, hq, fun _ => ⟨jg, by rw [← mg]; exact U, ?_⟩, fun z => by omega⟩
  · unfold rM1
    rw [te]
    exact ma_u_ne _ _ _ h2
  · rw [r7]
    exact hRL.1
  · rw [r7]
    exact hRL.2.1
  · rw [r7]
    exact hRL.2.2.1
  · rw [r7]
    exact hRL.2.2.2.1
  · rw [r9, htp]
    split
    · rfl
    · exact hRL.2.2.2.2 r hr
  · rw [M1_93]
    exact (hLq r hr).2 hne
  · rw [htp, if_neg (fun z => jt.2.2.2.2.1.2.2 (by have := tn_cast hu0; omega))]
    exact E
/-- all of it is gone -/
theorem ZI_o1 (hR : qRB us nr kr kd ws at₉ ho wd wi ow rt wk wl wm nu ro 0 0 0 1 c) (hv : qRv c) (hL : qLv c t) (hRL : qRL c si rg sh pr tp) (hLq : qLq c rg sh si pr kw hl dn q) (hq : 0 ≤ q ∧ q < rg.toInt ∧ dn q.toNat ≠ 0) (h1 : qJr c q p t ∧ qUT (rMv c e p t) q T ∧ e = q * si.toInt + (tp q.toNat).toInt) (hp : ¬ p < e) (htp : ∀ r, tp2 r = if r = q.toNat then 0 else tp r) : qRB us nr kr kd ws at₉ ho wd wi ow rt wk wl wm nu ro 0 0 0 1 (ma_u (ma_u c 93 q.toNat 0) 92 q.toNat 0) ∧ qRv (ma_u (ma_u c 93 q.toNat 0) 92 q.toNat 0) ∧ qLv (ma_u (ma_u c 93 q.toNat 0) 92 q.toNat 0) t ∧ qRL (ma_u (ma_u c 93 q.toNat 0) 92 q.toNat 0) si rg sh pr tp2 ∧ qLR (ma_u (ma_u c 93 q.toNat 0) 92 q.toNat 0) rg sh si pr kw hl dn ∧ rOf 93 (ma_u (ma_u c 93 q.toNat 0) 92 q.toNat 0) t = T := by
  obtain ⟨J, U, E⟩ := h1
  have b := RL_b hRL hv
  have tq := hRL.2.2.2.2 q.toNat (by omega)
  have r93 : ∀ k, ma_u (ma_u c 93 q.toNat 0) 92 q.toNat 0 93 k = if k = q.toNat then 0 else c 93 k := fun k => by
    rw [xu_o (by omega)]
    show (if (93 : Nat) = 93 ∧ k = q.toNat then 0 else c 93 k) = _
    by_cases w : k = q.toNat
    · rw [if_pos ⟨rfl, w⟩, if_pos w]
    · rw [if_neg (fun z => w z.2), if_neg w]
  have r7 : ∀ k, ma_u (ma_u c 93 q.toNat 0) 92 q.toNat 0 87 k = c 87 k := fun k => by rw [xu_o (by omega), xu_o (by omega)]
  refine ⟨RB_c9 hR (fun c₉ h2 h3 => by rw [ma_u_ne _ _ _ h2, ma_u_ne _ _ _ h3]), Jr_en2 J (by rw [hRL.1, tq]; omega), Lv_end hL hq.1, ⟨?_, ?_, ?_, ?_, fun r hr => ?_⟩, fun r hr => ⟨(hLq r hr).1, ?_⟩, ?_⟩
  · rw [r7]
    exact hRL.1
  · rw [r7]
    exact hRL.2.1
  · rw [r7]
    exact hRL.2.2.1
  · rw [r7]
    exact hRL.2.2.2.1
  · rw [htp]
    show (if (92 : Nat) = 92 ∧ r = q.toNat then 0 else ma_u c 93 q.toNat 0 92 r) = _
    by_cases w : r = q.toNat
    · rw [if_pos ⟨rfl, w⟩, if_pos w]
    · rw [if_neg (fun z => w z.2), if_neg w, xu_o (by omega)]
      exact hRL.2.2.2.2 r hr
  · rw [r93]
    by_cases w : r = q.toNat
    · rw [if_pos w, w]
      unfold rLw
      rw [if_neg (fun z => hq.2.2 z.1)]
      rfl
    · rw [if_neg w]
      exact (hLq r hr).2 (by omega)
  · rw [Mv_e hp] at U
    rw [← Of_93 (q := q) hq.1 (by omega) (by rw [r93, if_pos rfl]; rfl)]
    exact U.1 rfl
/-- not all found a place -/
theorem ZI_o0 (hR : qRB us nr kr kd ws at₉ ho wd wi ow rt wk wl wm nu ro 0 0 0 1 c) (hv : qRv c) (hL : qLv c t) (hRL : qRL c si rg sh pr tp) (hLq : qLq c rg sh si pr kw hl dn q) (hq : 0 ≤ q ∧ q < rg.toInt ∧ dn q.toNat ≠ 0) (h0 : (c, t) = T) : qRB us nr kr kd ws at₉ ho wd wi ow rt wk wl wm nu ro 0 0 0 1 (ma_u c 93 q.toNat 0) ∧ qRv (ma_u c 93 q.toNat 0) ∧ qLv (ma_u c 93 q.toNat 0) t ∧ qRL (ma_u c 93 q.toNat 0) si rg sh pr tp ∧ qLR (ma_u c 93 q.toNat 0) rg sh si pr kw hl dn ∧ ((∀ x, x ≠ 93 → T.1 x = ma_u c 93 q.toNat 0 x) ∧ T.2 = t) := by
  have r : ∀ x, x ≠ 93 → ma_u c 93 q.toNat 0 x = c x := fun x hx => ma_u_ne _ _ _ hx
  have r93 : ∀ k, ma_u c 93 q.toNat 0 93 k = if k = q.toNat then 0 else c 93 k := fun k => by
    show (if (93 : Nat) = 93 ∧ k = q.toNat then 0 else c 93 k) = _
    by_cases w : k = q.toNat
    · rw [if_pos ⟨rfl, w⟩, if_pos w]
    · rw [if_neg (fun z => w z.2), if_neg w]
  have z0 : (0 : Int32).toInt = 0 := rfl
  refine ⟨RB_c9 hR (fun x _ h3 => r x h3), ?_, ⟨fun k hk => ?_, fun k hk w => ?_, fun n hn w => ?_, ?_⟩, ?_, fun k hk => ⟨(hLq k hk).1, ?_⟩, ?_⟩
  · obtain ⟨z1, z2, z3, z4, z5⟩ := hv
    unfold qRv xAl at *
    rw [r 87 (by decide), r 92 (by decide), r 126 (by decide), r 130 (by decide), r 128 (by decide)]
    exact ⟨I_cg z1 (r _ (by decide)) (r _ (by decide)) (r _ (by decide)) (r _ (by decide)) (r _ (by decide)) (r _ (by decide)) (fun j => r _ (by omega)), z2, z3, z4, z5⟩
  · rw [r93]
    split
    · omega
    · exact hL.1 k hk
  · rw [r93] at w
    rw [r 87 (by decide), r 92 (by decide)]
    by_cases z : k = q.toNat
    · rw [if_pos z] at w
      omega
    · rw [if_neg z] at w
      exact hL.2.1 k hk w
  · unfold xAl at hn
    rw [r 126 (by decide)] at hn
    rw [r 133 (by decide)] at w
    rw [r93, r 130 (by decide), r 87 (by decide)]
    split
    · exact z0
    · exact hL.2.2.1 n hn w
  · rcases hL.2.2.2 with w | w
    · exact Or.inl w
    · refine Or.inr ⟨w.1, by rw [r 87 (by decide)]; exact w.2.1, ?_⟩
      rw [r93]
      split
      · exact z0
      · exact w.2.2
  · unfold qRL at hRL ⊢
    rw [r 87 (by decide), r 92 (by decide)]
    exact hRL
  · rw [r93]
    by_cases w : k = q.toNat
    · rw [if_pos w, w]
      unfold rLw
      rw [if_neg (fun z => hq.2.2 z.1)]
      rfl
    · rw [if_neg w]
      exact (hLq k hk).2 (by omega)
  · rw [← h0]
    exact ⟨fun x hx => (r x hx).symm, rfl⟩
theorem ZO_1 (h : qRB us nr kr kd ws at₉ ho wd wi ow rt wk wl wm nu ro 0 0 0 1 c ∧ qRv c ∧ qLv c t ∧ qRL c si rg sh pr tp ∧ qLR c rg sh si pr kw hl dn ∧ rOf 93 c t = T) (hq : qEq v.toInt (rFw c)) (hg : g = 1) : qZO us nr kr kd ws at₉ ho wd wi ow rt wk wl wm nu ro si rg sh pr tp kw hl dn t g v.toInt T := ⟨c, h.1, h.2.1, h.2.2.1, h.2.2.2.1, h.2.2.2.2.1, fun _ => ⟨h.2.2.2.2.2, qE hq⟩, fun z => by omega⟩
theorem ZO_2 (h : qRB us nr kr kd ws at₉ ho wd wi ow rt wk wl wm nu ro 0 0 0 1 c ∧ qRv c ∧ qLv c t ∧ qRL c si rg sh pr tp ∧ qLR c rg sh si pr kw hl dn ∧ ((∀ x, x ≠ 93 → T.1 x = c x) ∧ T.2 = t)) (hg : g = 0) : qZO us nr kr kd ws at₉ ho wd wi ow rt wk wl wm nu ro si rg sh pr tp kw hl dn t g q T := ⟨c, h.1, h.2.1, h.2.2.1, h.2.2.2.1, h.2.2.2.2.1, fun z => by omega, fun _ => h.2.2.2.2.2⟩
theorem ZO_E (h1 : g = 1 → rOf 93 c t = T ∧ q = rFw c) (h0 : g = 0 → (∀ x, x ≠ 93 → T.1 x = c x) ∧ T.2 = t) (hg : g = 0 ∨ g = 1) (hq : q < 0 ∨ g = 0) : (∀ x, x ≠ 93 → T.1 x = c x) ∧ T.2 = t := by
  rcases hg with w | w
  · exact h0 w
  · have z := h1 w
    have b := Fg_b (l := fun k => (c 93 k).toInt) 93
    have m1 : rFw c = -1 := by
      have e : rFw c = rFg (fun k => (c 93 k).toInt) 93 := rfl
      omega
    rw [Of_e m1] at z
    rw [← z.1]
    exact ⟨fun _ _ => rfl, rfl⟩
/-! the present one -/
theorem Lf_cg (h4 : a 87 = b 87) (h9 : a 92 = b 92) : ∀ f r, rLf a f r = rLf b f r := by
  intro f
  induction f with
  | zero => intro r; rfl
  | succ f ih =>
    intro r
    show (if (r : Int) < (a 87 4).toInt then (if (a 92 r).toInt = 0 then (r : Int) else rLf a f (r + 1)) else -1) = (if (r : Int) < (b 87 4).toInt then (if (b 92 r).toInt = 0 then (r : Int) else rLf b f (r + 1)) else -1)
    rw [h4, h9, ih]
theorem PR_1 (h0 : 0 ≤ x.toInt) : rPr c x.toInt = x := by
  unfold rPr
  rw [if_pos (by omega), Int32.ofInt_toInt]
theorem PR_2 (hRL : qRL c si rg sh pr tp) (h : t = -1) (h0 : 0 ≤ pr.toInt) (h1 : pr.toInt < rg.toInt) (hn : (tp pr.toNatClampNeg).toInt ≠ 0) : rPr c t = pr := by
  unfold rPr
  rw [if_neg (by omega), if_neg (fun z => hn ?_), hRL.2.2.2.1]
  have z1 := z.1
  rw [hRL.2.2.2.1, RL_t hRL h0 h1] at z1
  exact z1
theorem PR_e (hv : qRv c) (hRL : qRL c si rg sh pr tp) (hn : (tp pr.toNatClampNeg).toInt = 0) : 0 ≤ rLe c ∧ rLe c < rg.toInt := by
  have b := RL_b hRL hv
  have tc := tn_cast b.2.2.1.1
  by_cases w : rLe c = -1
  · rcases Lf_all (a := c) 93 0 with z | z
    · exact absurd (by rw [RL_t hRL b.2.2.1.1 b.2.2.1.2]; exact hn) (z.2 pr.toNatClampNeg (by omega) (by omega) (by rw [hRL.2.1]; omega))
    · have e : rLe c = rLf c 93 0 := rfl
      omega
  · have y := Le_y w
    rw [hRL.2.1] at y
    exact ⟨y.1, y.2.2.1⟩
theorem PR_3 (hv : qRv c) (hRL : qRL c si rg sh pr tp) (h : t = -1) (hn : (tp pr.toNatClampNeg).toInt = 0) (hw : qEq v.toInt (rLe c)) : rPr c t = v := by
  have b := RL_b hRL hv
  have y := PR_e hv hRL hn
  unfold rPr
  rw [if_neg (by omega), if_pos ⟨by rw [hRL.2.2.2.1, RL_t hRL b.2.2.1.1 b.2.2.1.2]; exact hn, by omega⟩, ← qE hw, Int32.ofInt_toInt]
theorem CR_fin (hR : qRB us nr kr kd ws at₉ ho wd wi ow rt wk wl wm nu ro 0 0 0 1 c) (hv : qRv c) (hRL : qRL c si rg sh pr tp) (hE : (∀ x, x ≠ 93 → (rC0 aa).1 x = c x) ∧ (rC0 aa).2 = t) (hx : rPr c t = pr2) (h0 : 0 ≤ pr2.toInt) (h1 : pr2.toInt < rg.toInt) : qRB us nr kr kd ws at₉ ho wd wi ow rt wk wl wm nu ro 0 0 0 1 (rCl aa) ∧ qRv (rCl aa) ∧ qRL (rCl aa) si rg sh pr2 tp := by
  have e : rCl aa = ma_u (rC0 aa).1 87 9 pr2 := by
    have l := Lf_cg (a := (rC0 aa).1) (b := c) (hE.1 87 (by decide)) (hE.1 92 (by decide)) 93 0
    have pe : rPr (rC0 aa).1 (rC0 aa).2 = pr2 := by
      rw [← hx]
      unfold rPr rLe
      rw [hE.2, l, hE.1 87 (by decide), hE.1 92 (by decide)]
    unfold rCl
    rw [pe]
  have v1 : qRv (rC0 aa).1 := by
    obtain ⟨z1, z2, z3, z4, z5⟩ := hv
    unfold qRv xAl at *
    rw [hE.1 87 (by decide), hE.1 92 (by decide), hE.1 126 (by decide), hE.1 130 (by decide), hE.1 128 (by decide)]
    exact ⟨I_cg z1 (hE.1 _ (by decide)) (hE.1 _ (by decide)) (hE.1 _ (by decide)) (hE.1 _ (by decide)) (hE.1 _ (by decide)) (hE.1 _ (by decide)) (fun j => hE.1 _ (by omega)), z2, z3, z4, z5⟩
  rw [e]
  refine ⟨RB_87k (RB_c9 hR (fun x _ h3 => hE.1 x h3)) (by decide) (by decide) (by decide) (by decide) (by decide), Rv_9 v1 h0 (by rw [hE.1 87 (by decide), hRL.2.1]; exact h1), ?_⟩
  unfold qRL at hRL ⊢
  rw [ma_u_ne _ _ _ (show (92 : Nat) ≠ 87 by decide), hE.1 92 (by decide), xu_s, xu_o (by decide), xu_o (by decide), xu_o (by decide), hE.1 87 (by decide)]
  exact ⟨hRL.1, hRL.2.1, hRL.2.2.1, rfl, hRL.2.2.2.2⟩
end F18
theorem lp_234rz_2 {X : Nat × (Nat → Int32)} {P : Option ma_V → (Nat → Nat → Int32) → Prop} {aa : Nat→Nat→Int32} {m0 : Nat → Nat → Int32} (h0 : zV m0) (K : ∀ v m₉, zF wr_234 m0 m₉ → zV m₉ → (zLE (m₉ 116) (m₉ 94 64) v) → (qEq v.toInt (rLe aa)) → P (some (.inl v)) m₉) : ∀ (n : Nat) (m : Nat → Nat → Int32) (l1 : Int32), (128 - l1.toInt).toNat = n → zF wr_234 m0 m → zV m → (0 ≤ l1.toInt) → (∀ r : Nat, (r : Int) < l1.toInt → (m 116) r ≠ 0) → (qRv aa) → (qRL aa (m 94 18) (m 94 64) (m 94 19) (m 94 63) (m 116)) → (qEq (rLf aa (93 - l1.toInt).toNat l1.toNatClampNeg) (rLe aa)) → zm X 0 0 234 2 [(0, .inr (.inr (some 94))), (1, .inl l1)] m P := by
  intro n
  induction n using Nat.strongRecOn with
  | _ n IH =>
    intro m l1 hmu hF hV hi0 r_LZ r_RV r_RL r_LF
    refine g_234_2 l1 ?_
    have f1 : 0 ≤ (m 94 64).toInt ∧ (m 94 64).toInt ≤ 93 := rs_94_64 (m := m) hV
    have b2 := i_bd l1
    refine zd (fun (h3 : (m 94 64) ≤ l1) => ?_) (fun (h3 : ¬ (m 94 64) ≤ l1) => ?_)
    · skip
      have g4 := i_le h3
      have li5 : (-1 : Int32).toInt = -1 := rfl
      exact K ((-1 : Int32)) _ hF hV (show zLE (m 116) (m 94 64) (-1 : Int32) from by first | (exact Or.inr ⟨by omega, by omega, by assumption⟩) | (exact Or.inl ⟨by decide, fun r hr => r_LZ r (by omega)⟩) | (exfalso; omega; done) | (exfalso; contradiction; done)) (show qEq (-1 : Int32).toInt (rLe aa) from by first | (exact LE_yes r_RL r_RV r_LF (by omega) (by omega) (by first | omega | exact i_ez (by assumption))) | (exact LE_none r_RL r_LF (by omega) (by omega)) | (exfalso; omega; done) | (exfalso; contradiction; done))
    · skip
      have g6 := i_nle h3
      have hg7 : (0 ≤ l1 ∧ l1.toNatClampNeg < 128) := i_ix (by omega) (by omega)
      refine ⟨hg7, ?_⟩
      first | have f8 : 0 ≤ (m 116 l1.toNatClampNeg).toInt ∧ (m 116 l1.toNatClampNeg).toInt ≤ 4600 := ra_116 (m := m) hV (k := l1.toNatClampNeg) (i_ix (n := 128) (by omega) (by omega)).2 | have b9 := i_bd (m 116 l1.toNatClampNeg)
      have li10 : (0 : Int32).toInt = 0 := rfl
      refine zd (fun (h11 : (m 116 l1.toNatClampNeg) = (0 : Int32)) => ?_) (fun (h11 : ¬ (m 116 l1.toNatClampNeg) = (0 : Int32)) => ?_)
      · skip
        have g12 := i_eq h11
        exact K (l1) _ hF hV (show zLE (m 116) (m 94 64) l1 from by first | (exact Or.inr ⟨by omega, by omega, by assumption⟩) | (exact Or.inl ⟨by decide, fun r hr => r_LZ r (by omega)⟩) | (exfalso; omega; done) | (exfalso; contradiction; done)) (show qEq l1.toInt (rLe aa) from by first | (exact LE_yes r_RL r_RV r_LF (by omega) (by omega) (by first | omega | exact i_ez (by assumption))) | (exact LE_none r_RL r_LF (by omega) (by omega)) | (exfalso; omega; done) | (exfalso; contradiction; done))
      · skip
        have g13 := i_ne h11
        first | have e14 : (l1 + (1 : Int32)).toInt = l1.toInt + (1) := i_addk rfl (by omega) (by omega) | have b15 := i_bd (l1 + (1 : Int32))
        exact IH (128 - (l1 + (1 : Int32)).toInt).toNat (by omega) _ ((l1 + (1 : Int32))) rfl hF hV (by omega) (show ∀ r : Nat, (r : Int) < (l1 + (1 : Int32)).toInt → (m 116) r ≠ 0 from by first | (intro r hr; omega; done) | (exact ne_step r_LZ (by omega) (by assumption) (by omega)) | (exfalso; omega; done) | (exfalso; contradiction; done)) r_RV r_RL (show qEq (rLf aa (93 - (l1 + (1 : Int32)).toInt).toNat (l1 + (1 : Int32)).toNatClampNeg) (rLe aa) from by first | (exact LE_0) | (exact LE_nx r_RL r_RV r_LF (by omega) (by omega) (by first | omega | exact i_en (by assumption)) (by omega)) | (exfalso; omega; done) | (exfalso; contradiction; done))
theorem sp_234rz {X : Nat × (Nat → Int32)} {P : Option ma_V → (Nat → Nat → Int32) → Prop} {aa : Nat→Nat→Int32} {m : Nat → Nat → Int32}  (hV : zV m) (r_RV : qRv aa) (r_RL : qRL aa (m 94 18) (m 94 64) (m 94 19) (m 94 63) (m 116)) (KZ : ∀ v m₉, zV (zov wr_234 m m₉) → (zLE (m 116) (m 94 64) v) → (qEq v.toInt (rLe aa)) → P (some (.inl v)) (zov wr_234 m m₉)) : zm X 0 0 234 0 [(0, .inr (.inr (some 94)))] m P := by
  have K : ∀ v m₉, zF wr_234 m m₉ → zV m₉ → (zLE (m₉ 116) (m₉ 94 64) v) → (qEq v.toInt (rLe aa)) → P (some (.inl v)) m₉ := by
    intro v m₉ hf z q0 q1
    have e := zov_eq hf
    rw [e] at z ⊢
    try rw [e] at q0
    try rw [e] at q1
    exact KZ v m₉ z q0 q1
  refine g_234_0  ?_
  have li1 : (0 : Int32).toInt = 0 := rfl
  exact lp_234rz_2 hV K _ _ ((0 : Int32)) rfl zF_rfl hV (by omega) (show ∀ r : Nat, (r : Int) < (0 : Int32).toInt → (m 116) r ≠ 0 from by first | (intro r hr; omega; done) | (exfalso; omega; done) | (exfalso; contradiction; done)) r_RV r_RL (show qEq (rLf aa (93 - (0 : Int32).toInt).toNat (0 : Int32).toNatClampNeg) (rLe aa) from by first | (exact LE_0) | (exfalso; omega; done) | (exfalso; contradiction; done))
theorem lp_233rz_4 {X : Nat × (Nat → Int32)} {P : Option ma_V → (Nat → Nat → Int32) → Prop} {aa : Nat→Nat→Int32} {m0 : Nat → Nat → Int32} (h0 : zV m0) (K : ∀ v m₉, zF wr_233 m0 m₉ → zV m₉ → (v.toInt ≤ 0 ∨ ∃ r : Nat, (r : Int) < (m₉ 94 64).toInt ∧ (m₉ 116) r = 0) → (qEq v.toInt (rEf aa 93)) → P (some (.inl v)) m₉) : ∀ (n : Nat) (m : Nat → Nat → Int32) (l1 : Int32) (l2 : Int32), (128 - l2.toInt).toNat = n → zF wr_233 m0 m → zV m → (0 ≤ l2.toInt) → (0 ≤ l1.toInt) → (l1.toInt ≤ l2.toInt) → (l2.toInt ≤ (m 94 64).toInt) → (l1.toInt ≤ 0 ∨ ∃ r : Nat, (r : Int) < (m 94 64).toInt ∧ (m 116) r = 0) → (qRv aa) → (qRL aa (m 94 18) (m 94 64) (m 94 19) (m 94 63) (m 116)) → (qEq l1.toInt (rEf aa l2.toNatClampNeg)) → zm X 0 0 233 4 [(0, .inr (.inr (some 94))), (1, .inl l1), (2, .inl l2)] m P := by
  intro n
  induction n using Nat.strongRecOn with
  | _ n IH =>
    intro m l1 l2 hmu hF hV hi0 hi1 hi2 hi3 r_EMl r_RV r_RL r_EF
    refine g_233_4 l1 l2 ?_
    have f1 : 0 ≤ (m 94 64).toInt ∧ (m 94 64).toInt ≤ 93 := rs_94_64 (m := m) hV
    have b2 := i_bd l2
    refine zd (fun (h3 : (m 94 64) ≤ l2) => ?_) (fun (h3 : ¬ (m 94 64) ≤ l2) => ?_)
    · skip
      have g4 := i_le h3
      try have rlb := (RL_b r_RL r_RV).2.1
      have b5 := i_bd l1
      exact K (l1) _ hF hV (show l1.toInt ≤ 0 ∨ ∃ r : Nat, (r : Int) < (m 94 64).toInt ∧ (m 116) r = 0 from by first | (exact r_EMl) | (exfalso; omega; done) | (exfalso; contradiction; done)) (show qEq l1.toInt (rEf aa 93) from by first | (exact EF_end r_RL r_RV r_EF (by omega) (by omega) (by omega)) | (exfalso; omega; done) | (exfalso; contradiction; done))
    · skip
      have g6 := i_nle h3
      have hg7 : (0 ≤ l2 ∧ l2.toNatClampNeg < 128) := i_ix (by omega) (by omega)
      refine ⟨hg7, ?_⟩
      first | have f8 : 0 ≤ (m 116 l2.toNatClampNeg).toInt ∧ (m 116 l2.toNatClampNeg).toInt ≤ 4600 := ra_116 (m := m) hV (k := l2.toNatClampNeg) (i_ix (n := 128) (by omega) (by omega)).2 | have b9 := i_bd (m 116 l2.toNatClampNeg)
      have li10 : (0 : Int32).toInt = 0 := rfl
      refine zd (fun (h11 : (m 116 l2.toNatClampNeg) = (0 : Int32)) => ?_) (fun (h11 : ¬ (m 116 l2.toNatClampNeg) = (0 : Int32)) => ?_)
      · skip
        have g12 := i_eq h11
        try have rlb := (RL_b r_RL r_RV).2.1
        have b13 := i_bd l1
        first | have e14 : (l1 + (1 : Int32)).toInt = l1.toInt + (1) := i_addk rfl (by omega) (by omega) | have b15 := i_bd (l1 + (1 : Int32))
        first | have e16 : (l2 + (1 : Int32)).toInt = l2.toInt + (1) := i_addk rfl (by omega) (by omega) | have b17 := i_bd (l2 + (1 : Int32))
        exact IH (128 - (l2 + (1 : Int32)).toInt).toNat (by omega) _ ((l1 + (1 : Int32))) ((l2 + (1 : Int32))) rfl hF hV (by omega) (by omega) (by omega) (show (l2 + (1 : Int32)).toInt ≤ (m 94 64).toInt from by omega) (show (l1 + (1 : Int32)).toInt ≤ 0 ∨ ∃ r : Nat, (r : Int) < (m 94 64).toInt ∧ (m 116) r = 0 from by first | (exact Or.inl (by decide)) | (exact Or.inr ⟨l2.toNatClampNeg, by rw [tn_cast (by omega)]; omega, by assumption⟩) | (exfalso; omega; done) | (exfalso; contradiction; done)) r_RV r_RL (show qEq (l1 + (1 : Int32)).toInt (rEf aa (l2 + (1 : Int32)).toNatClampNeg) from by first | (exact rfl) | (exact EF_nx r_RL r_EF (by omega) (by omega) (by omega) (Or.inl ⟨(by first | omega | exact i_ez (by assumption)), by omega⟩)) | (exact EF_nx r_RL r_EF (by omega) (by omega) (by omega) (Or.inr ⟨(by first | omega | exact i_en (by assumption)), rfl⟩)) | (exfalso; omega; done) | (exfalso; contradiction; done))
      · skip
        have g18 := i_ne h11
        try have rlb := (RL_b r_RL r_RV).2.1
        have b19 := i_bd l1
        first | have e20 : (l2 + (1 : Int32)).toInt = l2.toInt + (1) := i_addk rfl (by omega) (by omega) | have b21 := i_bd (l2 + (1 : Int32))
        exact IH (128 - (l2 + (1 : Int32)).toInt).toNat (by omega) _ (l1) ((l2 + (1 : Int32))) rfl hF hV (by omega) (by omega) (by omega) (show (l2 + (1 : Int32)).toInt ≤ (m 94 64).toInt from by omega) r_EMl r_RV r_RL (show qEq l1.toInt (rEf aa (l2 + (1 : Int32)).toNatClampNeg) from by first | (exact rfl) | (exact EF_nx r_RL r_EF (by omega) (by omega) (by omega) (Or.inl ⟨(by first | omega | exact i_ez (by assumption)), by omega⟩)) | (exact EF_nx r_RL r_EF (by omega) (by omega) (by omega) (Or.inr ⟨(by first | omega | exact i_en (by assumption)), rfl⟩)) | (exfalso; omega; done) | (exfalso; contradiction; done))
theorem sp_233rz {X : Nat × (Nat → Int32)} {P : Option ma_V → (Nat → Nat → Int32) → Prop} {aa : Nat→Nat→Int32} {m : Nat → Nat → Int32}  (hV : zV m) (r_RV : qRv aa) (r_RL : qRL aa (m 94 18) (m 94 64) (m 94 19) (m 94 63) (m 116)) (KZ : ∀ v m₉, zV (zov wr_233 m m₉) → (v.toInt ≤ 0 ∨ ∃ r : Nat, (r : Int) < (m 94 64).toInt ∧ (m 116) r = 0) → (qEq v.toInt (rEf aa 93)) → P (some (.inl v)) (zov wr_233 m m₉)) : zm X 0 0 233 0 [(0, .inr (.inr (some 94)))] m P := by
  have K : ∀ v m₉, zF wr_233 m m₉ → zV m₉ → (v.toInt ≤ 0 ∨ ∃ r : Nat, (r : Int) < (m₉ 94 64).toInt ∧ (m₉ 116) r = 0) → (qEq v.toInt (rEf aa 93)) → P (some (.inl v)) m₉ := by
    intro v m₉ hf z q0 q1
    have e := zov_eq hf
    rw [e] at z ⊢
    try rw [e] at q0
    try rw [e] at q1
    exact KZ v m₉ z q0 q1
  refine g_233_0  ?_
  try have rlb := (RL_b r_RL r_RV).2.1
  have li1 : (0 : Int32).toInt = 0 := rfl
  have f2 : 0 ≤ (m 94 64).toInt ∧ (m 94 64).toInt ≤ 93 := rs_94_64 (m := m) hV
  exact lp_233rz_4 hV K _ _ ((0 : Int32)) ((0 : Int32)) rfl zF_rfl hV (by omega) (by omega) (by omega) (show (0 : Int32).toInt ≤ (m 94 64).toInt from by omega) (show (0 : Int32).toInt ≤ 0 ∨ ∃ r : Nat, (r : Int) < (m 94 64).toInt ∧ (m 116) r = 0 from by first | (exact Or.inl (by decide)) | (exact Or.inr ⟨l2.toNatClampNeg, by rw [tn_cast (by omega)]; omega, by assumption⟩) | (exfalso; omega; done) | (exfalso; contradiction; done)) r_RV r_RL (show qEq (0 : Int32).toInt (rEf aa (0 : Int32).toNatClampNeg) from by first | (exact rfl) | (exfalso; omega; done) | (exfalso; contradiction; done))

