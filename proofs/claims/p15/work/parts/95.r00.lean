/-! the reference where it moves (written by wip/tools/gen15r.py) -/
/-! SLIDE: the reference -/
def qSl (us nr kr kd ws at' ho wd wi ow rt wk wl : Nat → Int32) (wm nu ro fo le ra pi : Int32) (aa : Nat → Nat → Int32) (lim p e : Int) : Prop := ∃ b, qRB us nr kr kd ws at' ho wd wi ow rt wk wl wm nu ro fo le ra pi b ∧ qJs b p e ∧ zSd b lim p e = zSd aa lim 0 0
def lFt (a : Nat → Nat → Int32) (z v : Int32) : Nat → Nat → Int32 := if v.toInt < 0 then lRs a z.toInt else ma_u (lRs a z.toInt) 87 2 (v + z)
section F5
variable {a b d aa : Nat → Nat → Int32} {us nr kr kd ws at' at2 ho wd wi ow ow2 rt wk wl : Nat → Int32} {wm nu ro fo le ra pi to s x x2 y y2 v z w pl kk i : Int32} {lim p e : Int} {n k : Nat} {L : Int64}
theorem RB_mv2 (hR : qRB us nr kr kd ws at' ho wd wi ow rt wk wl wm nu ro fo le ra pi a) (hI : qI a) (hs : s.toNatClampNeg < 3100) (hs0 : 0 ≤ s.toInt) (hu : us s.toNatClampNeg ≠ 0) (h0 : 0 ≤ to.toInt) (h1 : to.toInt + (a 128 (nr s.toNatClampNeg).toNatClampNeg).toInt ≤ (a 87 0).toInt) (F : qFr a (nr s.toNatClampNeg).toNatClampNeg to) (hm : zmov s to at' ow at2 ow2) : qRB us nr kr kd ws at2 ho wd wi ow2 rt wk wl wm nu ro fo le ra pi (aMo a (nr s.toNatClampNeg).toNatClampNeg to) := by
  rcases hm with ⟨e1, e2, e3⟩ | ⟨e1, e2, e3⟩
  · have q := (hR.1.1 _ hs hu).2.2.2.1
    have e4 : to = a 130 (nr s.toNatClampNeg).toNatClampNeg := by
      rw [q]
      exact Int32.toInt_inj.mp e3.symm
    rw [e4, Mo_id, e1, e2]
    exact hR
  · refine RB_mo hR hI hs hu h0 h1 F e1 (e2.trans (ofN_tn hs0).symm) (fun p h1 h2 => ?_)
    rcases e3 p h1 with w | w
    · exact w
    · refine absurd ?_ h2
      have := tn_cast (x := at' s.toNatClampNeg) (by omega)
      omega
theorem Sl_0 (hR : qRB us nr kr kd ws at' ho wd wi ow rt wk wl wm nu ro fo le ra pi aa) (hI : qI aa) : qSl us nr kr kd ws at' ho wd wi ow rt wk wl wm nu ro fo le ra pi aa lim 0 0 := ⟨aa, hR, Js_0 hI, rfl⟩
theorem Sl_p (h : qSl us nr kr kd ws at' ho wd wi ow rt wk wl wm nu ro fo le ra pi aa lim p e) : 0 ≤ e ∧ e ≤ p := by
  obtain ⟨b, _, hJ, _⟩ := h
  exact ⟨hJ.2.1.1, hJ.2.1.2.1⟩
theorem Sl_fr (h : qSl us nr kr kd ws at' ho wd wi ow rt wk wl wm nu ro fo le ra pi aa lim x.toInt e) (h0 : 0 ≤ x.toInt) (hl : x.toInt < lim) (h5 : lim ≤ 4500) (hn : (ow x.toNatClampNeg).toInt < 0) (hx : x2.toInt = x.toInt + 1) : qSl us nr kr kd ws at' ho wd wi ow rt wk wl wm nu ro fo le ra pi aa lim x2.toInt e := by
  obtain ⟨b, hR, hJ, hT⟩ := h
  have o := OB_n hJ.1 hR.1 hR.2.2.2.2.2.2.1 hJ.2.2.1 h0 (by omega) hn
  rw [hx]
  exact ⟨b, hR, Js_fr hJ o (by omega), (Sd_fr (S1_I hJ.1) hl o).symm.trans hT⟩
theorem Sl_ob (hR : qRB us nr kr kd ws at' ho wd wi ow rt wk wl wm nu ro fo le ra pi b) (hI : qI b) (hO : zOw us at' ow) (h0 : 0 ≤ x.toInt) (h5 : x.toInt < 4500) (hs : s = ow x.toNatClampNeg) (hs0 : 0 ≤ s.toInt) (hs3 : s.toInt ≤ 3099) : zOb b x.toInt = nr s.toNatClampNeg ∧ (b 128 (nr s.toNatClampNeg).toNatClampNeg).toInt = (ws s.toNatClampNeg).toInt + 1 ∧ 0 ≤ (zOb b x.toInt).toInt ∧ us s.toNatClampNeg ≠ 0 ∧ (at' s.toNatClampNeg).toInt = x.toInt ∧ b 133 (nr s.toNatClampNeg).toNatClampNeg = ho s.toNatClampNeg := by
  have hs' : ow x.toInt.toNat = s := hs.symm
  have o := OB_y hI hR.1 hO h0 h5 (by rw [hs']; exact hs0) (by rw [hs']; omega)
  rw [hs'] at o
  have c := tn_cast h0
  have q := hO x.toNatClampNeg (by omega) (by rw [← hs]; exact hs0)
  rw [← hs] at q
  have r := hR.1.1 _ (tn_lt hs0 (by omega)) q.1
  refine ⟨o.1, ?_, o.2.2, q.1, by omega, r.2.2.2.2.1⟩
  rw [← o.1, o.2.1]
  exact i_addk rfl (by have := r.2.2.2.2.2.1; omega) (by have := r.2.2.2.2.2.1; omega)
theorem Sl_mv (h : qSl us nr kr kd ws at' ho wd wi ow rt wk wl wm nu ro fo 0 ra pi aa lim x.toInt y.toInt) (hO : zOw us at' ow) (h0 : 0 ≤ x.toInt) (hl : x.toInt < lim) (h5 : lim ≤ 4500) (hs : s = ow x.toNatClampNeg) (hs0 : 0 ≤ s.toInt) (hs3 : s.toInt ≤ 3099) (hh : ho s.toNatClampNeg = 0) (hm : zmov s y at' ow at2 ow2) (hx : x2.toInt = x.toInt + ((ws s.toNatClampNeg).toInt + 1)) (hy : y2.toInt = y.toInt + ((ws s.toNatClampNeg).toInt + 1)) : qSl us nr kr kd ws at2 ho wd wi ow2 rt wk wl wm nu ro fo 0 ra pi aa lim x2.toInt y2.toInt := by
  obtain ⟨b, hR, hJ, hT⟩ := h
  have o := Sl_ob hR hJ.1 hO h0 (by omega) hs hs0 hs3
  have f := Js_fq hJ o.2.2.1 (to := y) rfl
  have z := Sd_mv (e := y.toInt) (lim := lim) (S1_I hJ.1) hl o.2.2.1 (by rw [o.1, o.2.2.2.2.2]; exact hh)
  have j := Js_mv hJ o.2.2.1 (to := y) rfl (by rw [hR.2.2.2.2.2.2.2.2.2.2.1]; rfl)
  rw [o.1] at f j z
  rw [o.2.1] at j z
  rw [Int32.ofInt_toInt] at z
  rw [hx, hy]
  exact ⟨_, RB_mv2 hR hJ.1 (tn_lt hs0 (by omega)) hs0 o.2.2.2.1 hJ.2.1.1 f.2.2 f.1 hm, j, z.symm.trans hT⟩
theorem Sl_ho (h : qSl us nr kr kd ws at' ho wd wi ow rt wk wl wm nu ro fo le ra pi aa lim x.toInt e) (hO : zOw us at' ow) (h0 : 0 ≤ x.toInt) (hl : x.toInt < lim) (h5 : lim ≤ 4500) (hs : s = ow x.toNatClampNeg) (hs0 : 0 ≤ s.toInt) (hs3 : s.toInt ≤ 3099) (hh : ho s.toNatClampNeg ≠ 0) (hx : x2.toInt = x.toInt + ((ws s.toNatClampNeg).toInt + 1)) (hy : y2.toInt = (at' s.toNatClampNeg).toInt + ((ws s.toNatClampNeg).toInt + 1)) : qSl us nr kr kd ws at' ho wd wi ow rt wk wl wm nu ro fo le ra pi aa lim x2.toInt y2.toInt := by
  obtain ⟨b, hR, hJ, hT⟩ := h
  have o := Sl_ob hR hJ.1 hO h0 (by omega) hs hs0 hs3
  have z := Sd_ho (e := e) (lim := lim) (S1_I hJ.1) hl o.2.2.1 (by rw [o.1, o.2.2.2.2.2]; exact hh)
  have j := Js_ho hJ o.2.2.1
  rw [o.1, o.2.1] at j z
  rw [hx, hy, o.2.2.2.2.1]
  exact ⟨b, hR, j, z.symm.trans hT⟩
theorem Sl_end (h : qSl us nr kr kd ws at' ho wd wi ow rt wk wl wm nu ro fo le ra pi aa lim p e) (hl : ¬ p < lim) : qRB us nr kr kd ws at' ho wd wi ow rt wk wl wm nu ro fo le ra pi (zSd aa lim 0 0).1 ∧ qEq e (zSd aa lim 0 0).2 ∧ ∃ p, lim ≤ p ∧ qJs (zSd aa lim 0 0).1 p e := by
  obtain ⟨b, hR, hJ, hT⟩ := h
  rw [← hT, Sd_n hl]
  exact ⟨hR, rfl, p, by omega, hJ⟩
theorem RB_872 (h : qRB us nr kr kd ws at' ho wd wi ow rt wk wl wm nu ro fo le ra pi a) : qRB us nr kr kd ws at' ho wd wi ow rt wk wl wm nu ro fo x ra pi (ma_u a 87 2 x) := by
  have e : ∀ c, c ≠ 87 → ma_u a 87 2 x c = a c := fun c hc => ma_u_ne _ _ _ hc
  have e2 : ∀ k, k ≠ 2 → ma_u a 87 2 x 87 k = a 87 k := fun k hk => xu_o (fun z => hk z.2)
  have rf : ∀ n i, aRef (ma_u a 87 2 x) n i = aRef a n i := fun n i => rf_cg (e _ (by omega)) (e _ (by decide)) (e _ (by decide))
  obtain ⟨h1, h2, h3, h4, h5, h6, h7, h8⟩ := h
  refine ⟨?_, fun s hs hu i hi => ?_, ?_, ?_, ?_, ?_, h7, ?_⟩
  · unfold qR1 at h1 ⊢
    rw [e 126 (by decide), e 128 (by decide), e 130 (by decide), e 133 (by decide)]
    exact h1
  · rw [rf, e (1000 + (nr s).toNatClampNeg) (by omega)]
    exact h2 s hs hu i hi
  · unfold qR3 at h3 ⊢
    rw [e 72 (by decide)]
    exact h3
  · unfold qR3 at h4 ⊢
    rw [e 73 (by decide)]
    exact h4
  · unfold qR5 at h5 ⊢
    rw [e 69 (by decide), e 74 (by decide)]
    exact h5
  · unfold qR6 at h6 ⊢
    rw [e 134 (by decide)]
    exact h6
  · unfold qR8 at h8 ⊢
    rw [e 69 (by decide), e2 0 (by decide), e2 1 (by decide), e2 6 (by decide), e2 7 (by decide), xu_s]
    exact ⟨h8.1, h8.2.1, h8.2.2.1, rfl, h8.2.2.2.2⟩
theorem u872 (h : a 87 2 = x) : ma_u a 87 2 x = a := by
  funext c k
  show (if c = 87 ∧ k = 2 then x else a c k) = a c k
  split
  · next w => rw [w.1, w.2, h]
  · rfl
/-- behind a sliding -/
theorem Cl_J (h : ∃ p, (b 87 0).toInt ≤ p ∧ qJs b p x.toInt) : qI (ma_u b 87 2 x) ∧ qTp (ma_u b 87 2 x) := by
  obtain ⟨p, hp, hJ⟩ := h
  have en : ∀ n, xAl b n → (b 130 n).toInt + (b 128 n).toInt ≤ x.toInt := fun n hn => by
    have q := hJ.1.1 n hn
    exact hJ.2.2.2 n hn (by omega)
  refine ⟨I_872 hJ.1 hJ.2.1.1 hJ.2.1.2.2 (fun n hn z => by have := en n hn; omega), fun n hn => ?_⟩
  have e : ∀ c, c ≠ 87 → ma_u b 87 2 x c = b c := fun c hc => ma_u_ne _ _ _ hc
  unfold xAl at hn
  rw [e 126 (by decide)] at hn
  rw [e 130 (by decide), e 128 (by decide), xu_s]
  exact en n hn
theorem lCl_e (h0 : aSw a 87 0 = ro) (hv : qEq v.toInt (zSd (ma_u (aSw a) 87 2 0) ro.toInt 0 0).2) : lCl a = ma_u (zSd (ma_u (aSw a) 87 2 0) ro.toInt 0 0).1 87 2 v := by
  unfold lCl lSd
  rw [h0, ← qE hv, Int32.ofInt_toInt]
theorem lFt_n (h : v.toInt < 0) : lFt a z v = lRs a z.toInt := if_pos h
theorem lFt_y (h : 0 ≤ v.toInt) : lFt a z v = ma_u (lRs a z.toInt) 87 2 (v + z) := if_neg (by omega)
theorem Ft_I (hI : qI (lRs a z.toInt)) (hT : qTp (lRs a z.toInt)) (h : qEq v.toInt (lRp a z.toInt)) (h0 : 0 ≤ v.toInt) (hz : 1 ≤ z.toInt) (hz6 : z.toInt ≤ 61) : qI (ma_u (lRs a z.toInt) 87 2 (v + z)) ∧ (lRs a z.toInt 87 2).toInt = v.toInt ∧ v.toInt + z.toInt ≤ (lRs a z.toInt 87 0).toInt := by
  have q := qE h
  unfold lRp at q
  generalize lRs a z.toInt = B at *
  have i4 := hI.2.2.2.1.2.2.1
  have i5 := hI.2.2.2.1.2.2.2.1
  by_cases w : (B 87 0).toInt < (B 87 2).toInt + z.toInt
  · rw [if_pos w] at q
    omega
  · rw [if_neg w] at q
    have e : (v + z).toInt = v.toInt + z.toInt := i_add (by omega) (by omega)
    refine ⟨I_872 hI (by omega) (by omega) (fun n hn w2 => ?_), q.symm, by omega⟩
    have := hT n hn
    omega
theorem Ft_87 (h : k ≠ 2) : lFt a z v 87 k = a 87 k := by
  unfold lFt
  split
  · exact Rs_87 h
  · rw [xu_o (fun w => h w.2)]
    exact Rs_87 h
theorem Ne_l (hI : qI (lFt aa (w + 1) pl)) (hT : qTp (lRs aa (w + 1).toInt)) (hI2 : qI (lRs aa (w + 1).toInt)) (hR : qEq pl.toInt (lRp aa (w + 1).toInt)) (h0 : 0 ≤ pl.toInt) (hw : 0 ≤ w.toInt) (hw6 : w.toInt ≤ 60) (hy : lFt aa (w + 1) pl 69 6 = y) (hy5 : y.toInt < 512) : qNe (lFt aa (w + 1) pl) y w pl := by
  have e1 := i_p1 (i := w) (by omega)
  have f := Ft_I hI2 hT hR h0 (by omega) (by omega)
  refine ⟨hI, hy.symm, hy5, ⟨hw, hw6⟩, ?_⟩
  rw [lFt_y h0]
  have e : ∀ c, c ≠ 87 → ma_u (lRs aa (w + 1).toInt) 87 2 (pl + (w + 1)) c = lRs aa (w + 1).toInt c := fun c hc => ma_u_ne _ _ _ hc
  refine ⟨h0, ?_, fun x hx => ?_⟩
  · rw [xu_o (by decide)]
    omega
  · unfold xAl at hx
    rw [e 126 (by decide)] at hx
    rw [e 130 (by decide), e 128 (by decide)]
    have t := hT x hx
    exact Or.inl (by omega)
theorem Ad_872 {c : Nat → Nat → Int32} {F : Nat → Int32} (h : c 87 8 = 0) : aMd (aAd (ma_u c 87 2 x) y F L) y = aMd (aAd c y F L) y := by
  have e : aAd (ma_u c 87 2 x) y F L = ma_u (aAd c y F L) 87 2 x := by
    have h69 : ∀ k, ma_u c 87 2 x 69 k = c 69 k := fun k => xu_o (by omega)
    funext c' k'
    by_cases w : c' = 87
    · rw [w, ad_87]
      show (if (87 : Nat) = 87 ∧ k' = 2 then x else c 87 k') = (if (87 : Nat) = 87 ∧ k' = 2 then x else aAd c y F L 87 k')
      rw [ad_87]
    · rw [xu_o (fun z => w z.1)]
      exact o7_ad (a := ma_u c 87 2 x) (b := c) (fun c2 k2 h2 => xu_o (fun z => h2 z.1)) c' k' w
  have g : aAd c y F L 87 8 = 0 := ad_87.trans h
  rw [e, aMd_n (by rw [xu_o (by decide)]; exact g), aMd_n g]
  funext c' k'
  show (if c' = 87 ∧ k' = 2 then ma_u (aAd c y F L) 87 2 x 130 _ + ma_u (aAd c y F L) 87 2 x 128 _ else (if c' = 87 ∧ k' = 2 then x else aAd c y F L c' k')) = (if c' = 87 ∧ k' = 2 then _ else aAd c y F L c' k')
  rw [xu_o (by omega), xu_o (by omega)]
  split
  · rfl
  · rfl
theorem lMk_2b {kd wd rt : Int32} (h : (a 69 6).toInt < 512) (h1 : pl.toInt = lRp a (wd + 1).toInt) (h2 : 0 ≤ pl.toInt) (hy : y = lFt a (wd + 1) pl 69 6) (h8 : lFt a (wd + 1) pl 87 8 = 0) : lMk a kd wd L rt = aRt (aMd (aAd (lFt a (wd + 1) pl) y (zFn y kd (wd + 1) pl) L) y) rt y ∧ lMn a wd = y := by
  rw [lFt_y h2] at hy h8 ⊢
  rw [xu_o (by decide)] at h8 hy
  rw [Ad_872 h8]
  exact lMk_2 h rfl h1 (by omega) hy
/-! the top, behind what a call makes -/
theorem Tp_cg (h : qTp a) (e1 : b 126 = a 126) (e2 : b 128 = a 128) (e3 : b 130 = a 130) (e4 : b 87 2 = a 87 2) : qTp b := fun n hn => by
  unfold xAl at hn
  rw [e1] at hn
  rw [e2, e3, e4]
  exact h n hn
theorem Tp_ad (h : qNe b y w pl) (hA : qAd b d y kk w pl L) (hT : ∀ n, xAl b n → (b 130 n).toInt + (b 128 n).toInt ≤ pl.toInt) (h2 : (d 87 2).toInt = pl.toInt + w.toInt + 1) : qTp d := fun n hn => by
  have q := Ne_b h
  rcases (Al_ad h hA).mp hn with z | z
  · have o := ne_al h z
    rw [hA.2.1 130 n (by decide) (by decide) o, hA.2.1 128 n (by decide) (by decide) o]
    have := hT n z
    have := q.2.2.2.1
    have := h.2.2.2.1
    omega
  · rw [z, hA.1.2.2.1, hA.1.2.1, q.2.2.2.2.2.1]
    omega
theorem rt_r {c : Nat} (h1 : c ≠ 72) (h2 : c ≠ 75) (h3 : c ≠ 76) (h4 : c ≠ 77) : aRt d i y c = d c := funext (fun k => by
  unfold aRt
  rw [← NC_of c k h2 h3 h4, xu_o (fun z => h1 z.1)])
theorem Tp_rt (h : qTp d) : qTp (aRt d i y) := Tp_cg h (rt_r (by decide) (by decide) (by decide) (by decide)) (rt_r (by decide) (by decide) (by decide) (by decide)) (rt_r (by decide) (by decide) (by decide) (by decide)) (congrFun (rt_r (by decide) (by decide) (by decide) (by decide)) 2)
theorem Tp_new (h : qNe (lFt aa (w + 1) pl) y w pl) (hA : qAd (lFt aa (w + 1) pl) d y kk w pl L) (hT : qTp (lRs aa (w + 1).toInt)) (hI2 : qI (lRs aa (w + 1).toInt)) (hR : qEq pl.toInt (lRp aa (w + 1).toInt)) (h0 : 0 ≤ pl.toInt) : qTp (aRt d i x) := by
  have q := Ne_b h
  have f := Ft_I hI2 hT hR h0 (by have := h.2.2.2.1; omega) (by have := h.2.2.2.1; omega)
  refine Tp_rt (Tp_ad h hA (fun n hn => ?_) (by rw [hA.2.2.2.2.2.2.2]; exact q.2.2.2.2.2.2))
  rw [lFt_y h0] at hn ⊢
  have e : ∀ c, c ≠ 87 → ma_u (lRs aa (w + 1).toInt) 87 2 (pl + (w + 1)) c = lRs aa (w + 1).toInt c := fun c hc => ma_u_ne _ _ _ hc
  unfold xAl at hn
  rw [e 126 (by decide)] at hn
  rw [e 130 (by decide), e 128 (by decide)]
  have := hT n hn
  omega
end F5
theorem lp_191rm_29 {X : Nat × (Nat → Int32)} {P : Option ma_V → (Nat → Nat → Int32) → Prop} {aa : Nat→Nat→Int32} {ro : Int32} {fo : Int32} {le : Int32} {ra : Int32} {pi : Int32} {QQ : Nat→Prop} {DD : Nat→Prop} {m0 : Nat → Nat → Int32} (h0 : zV m0) (K : ∀ m', zF wr_191 m0 m' → zV m' → ((m' 94 73).toInt = 0) → (zle (m0 110) (m' 110)) → (qKA (m' 110) (m' 99) (m' 100) (m' 98) (m' 101) (m' 102) (m' 108) (m' 118) (m' 94 73) QQ DD 3100 0) → P none m') {n0 : Nat} (OUT0 : ∀ (m' : Nat → Nat → Int32) , ((zMu (m' 110) (m' 94 73) : Int)).toNat < n0 → zF wr_191 m0 m' → zV m' → (zKS (m' 110) (m' 94 73)) → (zW (m' 94 7) (m' 98) (m' 101) (m' 102) (m' 108)) → (qRB (m' 99) (m' 100) (m' 98) (m' 101) (m' 102) (m' 103) (m' 107) (m' 108) (m' 109) (m' 111) (m' 112) (m' 113) (m' 114) (m' 94 55) (m' 94 46) ro fo le ra pi aa) → (qQC (m' 99) (m' 100) (m' 98) (m' 101) (m' 102) (m' 108) QQ DD) → (zle (m0 110) (m' 110)) → (qKA (m' 110) (m' 99) (m' 100) (m' 98) (m' 101) (m' 102) (m' 108) (m' 118) (m' 94 73) QQ DD 3100 0) → zm X 2 44 191 0 [(0, .inr (.inr (some 94)))] m' P) : ∀ (n : Nat) (m : Nat → Nat → Int32) (l1 : Int32) (l2 : Int32), (61 - l2.toInt).toNat = n → zF wr_191 m0 m → zV m → (0 ≤ l1.toInt) → (l1.toInt ≤ 3099) → (0 ≤ l2.toInt) → (zKS (m 110) (m 94 73)) → (zW (m 94 7) (m 98) (m 101) (m 102) (m 108)) → (qRB (m 99) (m 100) (m 98) (m 101) (m 102) (m 103) (m 107) (m 108) (m 109) (m 111) (m 112) (m 113) (m 114) (m 94 55) (m 94 46) ro fo le ra pi aa) → (qQC (m 99) (m 100) (m 98) (m 101) (m 102) (m 108) QQ DD) → (zle (m0 110) (m 110)) → (qKA (m 110) (m 99) (m 100) (m 98) (m 101) (m 102) (m 108) (m 118) (m 94 73) QQ DD l1.toNatClampNeg l2.toNatClampNeg) → (zMu (m 110) (m 94 73) < n0) → zm X 2 44 191 29 [(0, .inr (.inr (some 94))), (1, .inl l1), (2, .inl l2)] m P := by
  intro n
  induction n using Nat.strongRecOn with
  | _ n IH =>
    intro m l1 l2 hmu hF hV hi0 hi1 hi2 r_KS r_W r_RB r_QC r_KM r_KA r_MU
    refine g_191_29 l1 l2 ?_
    have b1 := i_bd l1
    have hg2 : (0 ≤ l1 ∧ l1.toNatClampNeg < 3100) := i_ix (by omega) (by omega)
    refine ⟨hg2, ?_⟩
    first | have f3 : 0 ≤ (m 102 l1.toNatClampNeg).toInt ∧ (m 102 l1.toNatClampNeg).toInt ≤ 60 := ra_102 (m := m) hV (k := l1.toNatClampNeg) (i_ix (n := 3100) (by omega) (by omega)).2 | have b4 := i_bd (m 102 l1.toNatClampNeg)
    have b5 := i_bd l2
    refine zd (fun (h6 : (m 102 l1.toNatClampNeg) ≤ l2) => ?_) (fun (h6 : ¬ (m 102 l1.toNatClampNeg) ≤ l2) => ?_)
    · skip
      have g7 := i_le h6
      exact OUT0 _  (show ((zMu (m 110) (m 94 73) : Int)).toNat < n0 from by omega) hF hV r_KS r_W r_RB r_QC r_KM (show qKA (m 110) (m 99) (m 100) (m 98) (m 101) (m 102) (m 108) (m 118) (m 94 73) QQ DD 3100 0 from by first | (exact KA_done r_KA (by rw [tn_cast (x := l2) (by omega)]; omega)) | (exfalso; omega; done) | (exfalso; contradiction; done))
    · skip
      have g8 := i_nle h6
      refine sp_192 (l1) (l2) hV (by omega) (by omega) (by omega) (show l2.toInt < (m 102 l1.toNatClampNeg).toInt from by omega) (fun v2 m1 hV_m1 p0_m1 => zmi_n ?_)
      have p0_m1 : v2 = zrf (m 98) (m 101) (m 108) l1.toNatClampNeg l2.toNatClampNeg := p0_m1
      try have := W_ref r_W (by omega) (by omega) (by omega) (by omega) p0_m1
      have b9 := i_bd v2
      have li10 : (0 : Int32).toInt = 0 := rfl
      refine zd (fun (h11 : v2 < (0 : Int32)) => ?_) (fun (h11 : ¬ v2 < (0 : Int32)) => ?_)
      · skip
        have g12 := i_lt h11
        first | have e13 : (l2 + (1 : Int32)).toInt = l2.toInt + (1) := i_addk rfl (by omega) (by omega) | have b14 := i_bd (l2 + (1 : Int32))
        exact IH (61 - (l2 + (1 : Int32)).toInt).toNat (by omega) _ (l1) ((l2 + (1 : Int32))) rfl (zF_zov hF ws_192_191) hV_m1 (by omega) (by omega) (by omega) r_KS r_W r_RB r_QC r_KM (show qKA (m 110) (m 99) (m 100) (m 98) (m 101) (m 102) (m 108) (m 118) (m 94 73) QQ DD l1.toNatClampNeg (l2 + (1 : Int32)).toNatClampNeg from by first | (exact KA_adv r_KA (Or.inl (by rw [← p0_m1]; omega)) (tn_succ (by omega) (by omega))) | (exact KA_adv r_KA (Or.inr (by rw [← p0_m1]; assumption)) (tn_succ (by omega) (by omega))) | (exfalso; omega; done) | (exfalso; contradiction; done)) r_MU
      · skip
        have g15 := i_nlt h11
        have hg16 : (0 ≤ v2 ∧ v2.toNatClampNeg < 3100) := i_ix (by omega) (by omega)
        refine ⟨hg16, ?_⟩
        first | have f17 : 0 ≤ (m 110 v2.toNatClampNeg).toInt ∧ (m 110 v2.toNatClampNeg).toInt ≤ 1 := ra_110 (m := m) hV (k := v2.toNatClampNeg) (i_ix (n := 3100) (by omega) (by omega)).2 | have b18 := i_bd (m 110 v2.toNatClampNeg)
        refine zd (fun (h19 : (m 110 v2.toNatClampNeg) = (0 : Int32)) => ?_) (fun (h19 : ¬ (m 110 v2.toNatClampNeg) = (0 : Int32)) => ?_)
        · skip
          have g20 := i_eq h19
          have hg21 : (0 ≤ v2 ∧ v2.toNatClampNeg < 3100) := i_ix (by omega) (by omega)
          refine ⟨hg21, ?_⟩
          have f22 : 0 ≤ (m 94 73).toInt ∧ (m 94 73).toInt ≤ 3100 := rs_94_73 (m := m) hV
          try have gk := KS_room r_KS (by assumption) (by omega)
          have hg23 : (0 ≤ (m 94 73) ∧ (m 94 73).toNatClampNeg < 3100) := i_ix (by omega) (by omega)
          refine ⟨hg23, ?_⟩
          have li25 : (1 : Int32).toInt = 1 := rfl
          have hV24 : zV (ma_u (zov wr_192 m m1) 110 v2.toNatClampNeg (1 : Int32)) := ua_110 hV_m1 (by omega) (by omega)
          have hV26 : zV (ma_u (ma_u (zov wr_192 m m1) 110 v2.toNatClampNeg (1 : Int32)) 118 (m 94 73).toNatClampNeg v2) := ua_118 hV24 (by omega) (by omega)
          first | have e28 : ((m 94 73) + (1 : Int32)).toInt = (m 94 73).toInt + (1) := i_addk rfl (by omega) (by omega) | have b29 := i_bd ((m 94 73) + (1 : Int32))
          have hV27 : zV (ma_u (ma_u (ma_u (zov wr_192 m m1) 110 v2.toNatClampNeg (1 : Int32)) 118 (m 94 73).toNatClampNeg v2) 94 73 ((m 94 73) + (1 : Int32))) := us_94_73 hV26 (by omega) (by omega)
          first | have e30 : (l2 + (1 : Int32)).toInt = l2.toInt + (1) := i_addk rfl (by omega) (by omega) | have b31 := i_bd (l2 + (1 : Int32))
          exact IH (61 - (l2 + (1 : Int32)).toInt).toNat (by omega) _ (l1) ((l2 + (1 : Int32))) rfl (zF_u (zF_u (zF_u (zF_zov hF ws_192_191) rfl) rfl) rfl) hV27 (by omega) (by omega) (by omega) (show zKS ((ma_u m 110 v2.toNatClampNeg (1 : Int32)) 110) ((m 94 73) + (1 : Int32)) from by first | (exact KS_push r_KS (by assumption) (by omega) (by decide) (by assumption)) | (exact KS_push (KS_0 (r := m 110) (y := m 94 73) (by omega)) (by assumption) (by omega) (by decide) (by assumption)) | (exfalso; omega; done) | (exfalso; contradiction; done)) r_W r_RB r_QC (show zle (m0 110) ((ma_u m 110 v2.toNatClampNeg (1 : Int32)) 110) from by first | (exact zle_push r_KM (by decide)) | (exact zle_rfl) | (exfalso; omega; done) | (exfalso; contradiction; done)) (show qKA ((ma_u m 110 v2.toNatClampNeg (1 : Int32)) 110) (m 99) (m 100) (m 98) (m 101) (m 102) (m 108) ((ma_u m 118 (m 94 73).toNatClampNeg v2) 118) ((m 94 73) + (1 : Int32)) QQ DD l1.toNatClampNeg (l2 + (1 : Int32)).toNatClampNeg from by first | (exact KA_adv (KA_push r_KA (by omega) (by omega) (KA_ref r_KA r_QC r_RB.2.1 (by omega) (by rw [tn_cast (x := l2) (by omega)]; omega) p0_m1 (by omega)).1 (KA_ref r_KA r_QC r_RB.2.1 (by omega) (by rw [tn_cast (x := l2) (by omega)]; omega) p0_m1 (by omega)).2 (by assumption) (by omega) (by omega) (by decide)) (Or.inr (by rw [← p0_m1, mu_self]; decide)) (tn_succ (by omega) (by omega))) | (exfalso; omega; done) | (exfalso; contradiction; done)) (show zMu ((ma_u m 110 v2.toNatClampNeg (1 : Int32)) 110) ((m 94 73) + (1 : Int32)) < n0 from by first | (have zq := Mu_push (m := m) (c := 110) (z := m 94 73) (y := (m 94 73) + (1 : Int32)) (x := 1) (by omega) (by assumption) (by omega) (by decide) (by assumption); omega; done) | (exfalso; omega; done) | (exfalso; contradiction; done))
        · skip
          have g32 := i_ne h19
          first | have e33 : (l2 + (1 : Int32)).toInt = l2.toInt + (1) := i_addk rfl (by omega) (by omega) | have b34 := i_bd (l2 + (1 : Int32))
          exact IH (61 - (l2 + (1 : Int32)).toInt).toNat (by omega) _ (l1) ((l2 + (1 : Int32))) rfl (zF_zov hF ws_192_191) hV_m1 (by omega) (by omega) (by omega) r_KS r_W r_RB r_QC r_KM (show qKA (m 110) (m 99) (m 100) (m 98) (m 101) (m 102) (m 108) (m 118) (m 94 73) QQ DD l1.toNatClampNeg (l2 + (1 : Int32)).toNatClampNeg from by first | (exact KA_adv r_KA (Or.inl (by rw [← p0_m1]; omega)) (tn_succ (by omega) (by omega))) | (exact KA_adv r_KA (Or.inr (by rw [← p0_m1]; assumption)) (tn_succ (by omega) (by omega))) | (exfalso; omega; done) | (exfalso; contradiction; done)) r_MU
theorem lp_191rm_0 {X : Nat × (Nat → Int32)} {P : Option ma_V → (Nat → Nat → Int32) → Prop} {aa : Nat→Nat→Int32} {ro : Int32} {fo : Int32} {le : Int32} {ra : Int32} {pi : Int32} {QQ : Nat→Prop} {DD : Nat→Prop} {m0 : Nat → Nat → Int32} (h0 : zV m0) (K : ∀ m', zF wr_191 m0 m' → zV m' → ((m' 94 73).toInt = 0) → (zle (m0 110) (m' 110)) → (qKA (m' 110) (m' 99) (m' 100) (m' 98) (m' 101) (m' 102) (m' 108) (m' 118) (m' 94 73) QQ DD 3100 0) → P none m') : ∀ (n : Nat) (m : Nat → Nat → Int32) , ((zMu (m 110) (m 94 73) : Int)).toNat = n → zF wr_191 m0 m → zV m → (zKS (m 110) (m 94 73)) → (zW (m 94 7) (m 98) (m 101) (m 102) (m 108)) → (qRB (m 99) (m 100) (m 98) (m 101) (m 102) (m 103) (m 107) (m 108) (m 109) (m 111) (m 112) (m 113) (m 114) (m 94 55) (m 94 46) ro fo le ra pi aa) → (qQC (m 99) (m 100) (m 98) (m 101) (m 102) (m 108) QQ DD) → (zle (m0 110) (m 110)) → (qKA (m 110) (m 99) (m 100) (m 98) (m 101) (m 102) (m 108) (m 118) (m 94 73) QQ DD 3100 0) → zm X 2 44 191 0 [(0, .inr (.inr (some 94)))] m P := by
  intro n
  induction n using Nat.strongRecOn with
  | _ n IH =>
    intro m  hmu hF hV r_KS r_W r_RB r_QC r_KM r_KA
    refine g_191_0  ?_
    have f1 : 0 ≤ (m 94 73).toInt ∧ (m 94 73).toInt ≤ 3100 := rs_94_73 (m := m) hV
    have li2 : (0 : Int32).toInt = 0 := rfl
    refine zd (fun (h3 : (m 94 73) ≤ (0 : Int32)) => ?_) (fun (h3 : ¬ (m 94 73) ≤ (0 : Int32)) => ?_)
    · skip
      have g4 := i_le h3
      exact K _ hF hV (show (m 94 73).toInt = 0 from by omega) r_KM r_KA
    · skip
      have g5 := i_nle h3
      first | have e6 : ((m 94 73) - (1 : Int32)).toInt = (m 94 73).toInt - (1) := i_subk rfl (by omega) (by omega) | have b7 := i_bd ((m 94 73) - (1 : Int32))
      try have gk := KS_room r_KS (by assumption) (by omega)
      have hg8 : (0 ≤ ((m 94 73) - (1 : Int32)) ∧ ((m 94 73) - (1 : Int32)).toNatClampNeg < 3100) := i_ix (by omega) (by omega)
      refine ⟨hg8, ?_⟩
      have hV9 : zV (ma_u m 94 73 ((m 94 73) - (1 : Int32))) := us_94_73 hV (by omega) (by omega)
      first | have f10 : 0 ≤ (m 118 ((m 94 73) - (1 : Int32)).toNatClampNeg).toInt ∧ (m 118 ((m 94 73) - (1 : Int32)).toNatClampNeg).toInt ≤ 3099 := ra_118 (m := m) hV (k := ((m 94 73) - (1 : Int32)).toNatClampNeg) (i_ix (n := 3100) (by omega) (by omega)).2 | have b11 := i_bd (m 118 ((m 94 73) - (1 : Int32)).toNatClampNeg)
      exact lp_191rm_29 h0 K (fun _  z1 z2 z3 y0 y1 y2 y3 y4 y5 => IH _ z1 _  rfl z2 z3 y0 y1 y2 y3 y4 y5) _ _ ((m 118 ((m 94 73) - (1 : Int32)).toNatClampNeg)) ((0 : Int32)) rfl (zF_u hF rfl) hV9 (by omega) (by omega) (by omega) (show zKS (m 110) ((m 94 73) - (1 : Int32)) from by first | (exact KS_0 (by omega)) | (exact KS_dec r_KS (by omega)) | (exfalso; omega; done) | (exfalso; contradiction; done)) r_W r_RB r_QC r_KM (show qKA (m 110) (m 99) (m 100) (m 98) (m 101) (m 102) (m 108) (m 118) ((m 94 73) - (1 : Int32)) QQ DD (m 118 ((m 94 73) - (1 : Int32)).toNatClampNeg).toNatClampNeg (0 : Int32).toNatClampNeg from by first | (exact KA_pop r_KA (by omega) (by omega) rfl) | (exfalso; omega; done) | (exfalso; contradiction; done)) (show zMu (m 110) ((m 94 73) - (1 : Int32)) < n from by first | (have zq := Mu_pop (r := m 110) (z := m 94 73) (y := (m 94 73) - (1 : Int32)) (by omega) (by omega); omega; done) | (exfalso; omega; done) | (exfalso; contradiction; done))
theorem sp_191rm {X : Nat × (Nat → Int32)} {P : Option ma_V → (Nat → Nat → Int32) → Prop} {aa : Nat→Nat→Int32} {ro : Int32} {fo : Int32} {le : Int32} {ra : Int32} {pi : Int32} {QQ : Nat→Prop} {DD : Nat→Prop} {m : Nat → Nat → Int32}  (hV : zV m) (r_KS : zKS (m 110) (m 94 73)) (r_W : zW (m 94 7) (m 98) (m 101) (m 102) (m 108)) (r_RB : qRB (m 99) (m 100) (m 98) (m 101) (m 102) (m 103) (m 107) (m 108) (m 109) (m 111) (m 112) (m 113) (m 114) (m 94 55) (m 94 46) ro fo le ra pi aa) (r_QC : qQC (m 99) (m 100) (m 98) (m 101) (m 102) (m 108) QQ DD) (r_KA : qKA (m 110) (m 99) (m 100) (m 98) (m 101) (m 102) (m 108) (m 118) (m 94 73) QQ DD 3100 0) (KZ : ∀ m', zV (zov wr_191 m m') → ((m' 94 73).toInt = 0) → (zle (m 110) (m' 110)) → (qKA (m' 110) (m 99) (m 100) (m 98) (m 101) (m 102) (m 108) (m' 118) (m' 94 73) QQ DD 3100 0) → P none (zov wr_191 m m')) : zm X 2 44 191 0 [(0, .inr (.inr (some 94)))] m P := by
  have K : ∀ m', zF wr_191 m m' → zV m' → ((m' 94 73).toInt = 0) → (zle (m 110) (m' 110)) → (qKA (m' 110) (m' 99) (m' 100) (m' 98) (m' 101) (m' 102) (m' 108) (m' 118) (m' 94 73) QQ DD 3100 0) → P none m' := by
    intro m' hf z q0 q1 q2
    have e := zov_eq hf
    rw [e] at z ⊢
    try rw [e] at q0
    try rw [e] at q1
    try rw [e] at q2
    exact KZ m' z q0 q1 q2
  exact lp_191rm_0 hV K _ _  rfl zF_rfl hV r_KS r_W r_RB r_QC (show zle (m 110) (m 110) from by first | (exact zle_rfl) | (exfalso; omega; done) | (exfalso; contradiction; done)) r_KA
