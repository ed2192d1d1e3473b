/-! from 95.t05 -/
/-! REGIONS, the reference (written by wip/tools/gen15t.py) -/
/-! REGIONS: room and a new one in the reference -/
def rFt (a : Nat → Nat → Int32) (z v : Int32) : Nat → Nat → Int32 := if v.toInt < 0 then a else ma_u a 92 (a 87 9).toNatClampNeg (a 92 (a 87 9).toNatClampNeg + z)
def rGt (a : Nat → Nat → Int32) (z v : Int32) : Nat → Nat → Int32 := rFt (rRs a z.toInt) z v
def qFI (a : Nat → Nat → Int32) (z v : Int) : Prop := (v = -1 ∧ ¬ rFi a z) ∨ (rFi a z ∧ 0 ≤ v ∧ v = (a 87 9).toInt * (a 87 3).toInt + (a 92 (a 87 9).toNatClampNeg).toInt)
section F19
variable {a b b0 d aa : Nat → Nat → Int32} {us nr kr kd ws at₉ ho wd wi ow rt wk wl tp tp2 : Nat → Int32} {wm nu ro si rg sh pr x y v z w pl kk i : Int32} {n k : Nat} {t e p : Int} {L : Int64} {F : Nat → Int32}
theorem rFt_n (h : v.toInt < 0) : rFt a z v = a := if_pos h
theorem rFt_y (h : 0 ≤ v.toInt) : rFt a z v = ma_u a 92 (a 87 9).toNatClampNeg (a 92 (a 87 9).toNatClampNeg + z) := if_neg (by omega)
theorem rFt_r {c : Nat} (h : c ≠ 92) : rFt a z v c = a c := by
  unfold rFt
  split
  · rfl
  · exact ma_u_ne _ _ _ h
theorem RL_top (h : qRL a si rg sh pr tp) (hv : qRv a) : 0 ≤ (tp pr.toNatClampNeg).toInt ∧ (tp pr.toNatClampNeg).toInt ≤ si.toInt := by
  have b := RL_b h hv
  have tc := tn_cast b.2.2.1.1
  have q := (hv.2.2.2.1 pr.toNatClampNeg (by omega)).1
  rw [RL_t h b.2.2.1.1 b.2.2.1.2, h.1] at q
  exact q
theorem RL_take (h : qRL a si rg sh pr tp) (hv : qRv a) : 0 ≤ (pr * si).toInt ∧ (pr * si).toInt + si.toInt ≤ 1500 := by
  have b := RL_b h hv
  have m := i_muln (x := pr) (y := si) (by omega) (by omega) (by omega) (by omega)
  have l := ml_le (s := si.toInt) b.2.2.1.2 (by omega)
  rw [m.2.2]
  exact ⟨by rw [← m.2.2]; exact m.1, by omega⟩
theorem RL_pt (h : qRL a si rg sh pr tp) (hv : qRv a) : a 92 (a 87 9).toNatClampNeg = tp pr.toNatClampNeg := by
  have b := RL_b h hv
  rw [h.2.2.2.1]
  exact RL_t h b.2.2.1.1 b.2.2.1.2
theorem FI_n (h : qRL a si rg sh pr tp) (hv : qRv a) (hf : si.toInt < (tp pr.toNatClampNeg).toInt + z.toInt) : qFI a z.toInt (-1 : Int32).toInt := Or.inl ⟨rfl, fun w => by
  unfold rFi at w
  rw [RL_pt h hv, h.1] at w
  omega⟩
theorem FI_y (h : qRL a si rg sh pr tp) (hv : qRv a) (hf : ¬ si.toInt < (tp pr.toNatClampNeg).toInt + z.toInt) (hp : v.toInt = pr.toInt * si.toInt + (tp pr.toNatClampNeg).toInt) : qFI a z.toInt v.toInt := by
  have b := RL_b h hv
  have t := RL_top h hv
  have m0 : 0 ≤ pr.toInt * si.toInt := Int.mul_nonneg b.2.2.1.1 (by omega)
  refine Or.inr ⟨?_, by omega, ?_⟩
  · unfold rFi
    rw [RL_pt h hv, h.1]
    omega
  · rw [RL_pt h hv, h.1, h.2.2.2.1]
    exact hp
theorem RL_fy (h : qRL a si rg sh pr tp) (hv : qRv a) (h0 : 0 ≤ v.toInt) (e : ∀ r, tp2 r = if r = pr.toNatClampNeg then tp pr.toNatClampNeg + z else tp r) : qRL (rFt a z v) si rg sh pr tp2 := by
  rw [rFt_y h0, RL_pt h hv, h.2.2.2.1]
  refine ⟨?_, ?_, ?_, ?_, fun r hr => ?_⟩
  · rw [xu_o (by omega)]
    exact h.1
  · rw [xu_o (by omega)]
    exact h.2.1
  · rw [xu_o (by omega)]
    exact h.2.2.1
  · rw [xu_o (by omega)]
    exact h.2.2.2.1
  · rw [e]
    show (if (92 : Nat) = 92 ∧ r = pr.toNatClampNeg then _ else a 92 r) = _
    by_cases w : r = pr.toNatClampNeg
    · rw [if_pos ⟨rfl, w⟩, if_pos w]
    · rw [if_neg (fun z => w z.2), if_neg w]
      exact h.2.2.2.2 r hr
theorem RL_9 (h : qRL a si rg sh pr tp) : qRL (ma_u a 87 9 x) si rg sh x tp := by
  unfold qRL at h ⊢
  rw [ma_u_ne _ _ _ (show (92 : Nat) ≠ 87 by decide), xu_s, xu_o (by decide), xu_o (by decide), xu_o (by decide)]
  exact ⟨h.1, h.2.1, h.2.2.1, rfl, h.2.2.2.2⟩
theorem Rv_ft (hv : qRv a) (hf : v.toInt < 0 ∨ rFi a z.toInt) (hz : 1 ≤ z.toInt) : qRv (rFt a z v) := by
  by_cases h0 : v.toInt < 0
  · rw [rFt_n h0]
    exact hv
  · have fi : rFi a z.toInt := hf.elim (fun q => absurd q h0) id
    unfold rFi at fi
    rw [rFt_y (by omega)]
    obtain ⟨hI, h2, h3, h4, h5⟩ := hv
    have tc := tn_cast h3.2.2.1.1
    have tp0 := (h4 (a 87 9).toNatClampNeg (by have := h3.2.1; have := h3.2.2.1; omega)).1
    have s : (a 92 (a 87 9).toNatClampNeg + z).toInt = (a 92 (a 87 9).toNatClampNeg).toInt + z.toInt := i_add (by omega) (by have := h3.1; omega)
    have r : ∀ c, c ≠ 92 → ma_u a 92 (a 87 9).toNatClampNeg (a 92 (a 87 9).toNatClampNeg + z) c = a c := fun c hc => ma_u_ne _ _ _ hc
    unfold qRv xAl
    rw [r 87 (by decide), r 126 (by decide), r 128 (by decide), r 130 (by decide)]
    refine ⟨I_cg hI (r _ (by decide)) (r _ (by decide)) (r _ (by decide)) (r _ (by decide)) (r _ (by decide)) (r _ (by decide)) (fun j => r _ (by omega)), h2, h3, fun k hk => ?_, fun n hn => ?_⟩
    · by_cases w : k = (a 87 9).toNatClampNeg
      · rw [w, xu_s]
        exact ⟨⟨by omega, by omega⟩, fun q => by have := h3.2.2.1.2; omega⟩
      · rw [xu_o (fun z => w z.2)]
        exact h4 k hk
    · have g := h5 n hn
      by_cases w : ((a 130 n).toInt / (a 87 3).toInt).toNat = (a 87 9).toNatClampNeg
      · rw [w] at g ⊢
        rw [xu_s]
        exact ⟨g.1, by omega⟩
      · rw [xu_o (fun z => w z.2)]
        exact g
theorem FS (h : ¬ (a 87 3).toInt < p) (h1 : rR1 a p = b0) (h2 : rR2 b0 p = b) (hf : qFI b p v.toInt) : rRs a p = b ∧ qEq v.toInt (rRp a p) ∧ (v.toInt < 0 ∨ rFi b p) := by
  have g := Rs_g h h1 h2
  refine ⟨g.1, ?_, ?_⟩
  · rcases hf with w | w
    · show v.toInt = rRp a p
      rw [g.2.2 w.2]
      exact w.1
    · show v.toInt = rRp a p
      rw [g.2.1 w.1]
      exact w.2.2
  · rcases hf with w | w
    · exact Or.inl (by omega)
    · exact Or.inr w.1
theorem FI_no (hf : qFI a p v.toInt) (h : v.toInt < 0) : ¬ rFi a p := hf.elim (fun w => w.2) (fun w => absurd w.2.1 (by omega))
theorem FI_ye (hf : qFI a p v.toInt) (h : 0 ≤ v.toInt) : rFi a p := hf.elim (fun w => absurd w.1 (by omega)) (fun w => w.1)
theorem RB_ft (h : qRB us nr kr kd ws at₉ ho wd wi ow rt wk wl wm nu ro 0 0 0 1 a) : qRB us nr kr kd ws at₉ ho wd wi ow rt wk wl wm nu ro 0 0 0 1 (rFt a z v) := RB_c9 h (fun c h2 _ => rFt_r h2)
/-! rows 87 behind a cleaning -/
theorem Mf_87 {c : Nat} (h1 : c ≠ 71) (h2 : c ≠ 130) (h3 : c ≠ 92) : ∀ (f : Nat) (a : Nat → Nat → Int32) (p t : Int), (rMf e f a p t).1 c k = a c k := by
  intro f
  induction f with
  | zero => intro a p t; rfl
  | succ f ih =>
    intro a p t
    by_cases c : p < e
    · by_cases d : (zOb a p).toInt < 0
      · rw [rMf_fr c d]
        exact ih _ _ _
      · by_cases w : rTo a t (a 128 (zOb a p).toNatClampNeg).toInt = -1
        · rw [rMf_no c (by omega) w]
        · rw [rMf_go c (by omega) w, ih, M1_r h1 h2 h3]
    · rw [rMf_e c]
theorem Of_r9 {c : Nat} (h1 : c ≠ 71) (h2 : c ≠ 130) (h3 : c ≠ 92) (h4 : c ≠ 93) : ∀ (f : Nat) (a : Nat → Nat → Int32) (t : Int), (rOf f a t).1 c k = a c k := by
  intro f
  induction f with
  | zero => intro a t; rfl
  | succ f ih =>
    intro a t
    by_cases z : rFw a = -1
    · rw [Of_e z]
    · cases ok : (rM2 a (rFw a) t).2.2 with
      | false =>
        rw [Of_n rfl z ok]
        exact Mf_87 h1 h2 h3 _ _ _ _
      | true =>
        rw [Of_y rfl z ok, ih, xu_o (fun w => h3 w.1), xu_o (fun w => h4 w.1)]
        exact Mf_87 h1 h2 h3 _ _ _ _
theorem rCl_r {c : Nat} (h1 : c ≠ 71) (h2 : c ≠ 130) (h3 : c ≠ 92) (h4 : c ≠ 93) (h5 : ¬ (c = 87 ∧ k = 9)) : rCl a c k = aSw a c k := by
  unfold rCl rC0
  rw [xu_o h5, Of_r9 h1 h2 h3 h4, B0_o h3 h4]
theorem rCl_87 (h : k ≠ 9) : rCl a 87 k = a 87 k := (rCl_r (by decide) (by decide) (by decide) (by decide) (fun w => h w.2)).trans sw_87
theorem rR1_87 (h : k ≠ 9) : rR1 a p 87 k = a 87 k := by
  unfold rR1
  split
  · rfl
  · split
    · exact rCl_87 h
    · rfl
theorem rR2_87 (h : k ≠ 9) : rR2 a p 87 k = a 87 k := by
  unfold rR2
  split
  · rfl
  · split
    · exact xu_o (fun w => h w.2)
    · rfl
theorem rRs_87 (h : k ≠ 9) : rRs a p 87 k = a 87 k := by
  unfold rRs
  split
  · rfl
  · rw [rR2_87 h, rR1_87 h]
theorem Gt_7 (h : k ≠ 9) : rGt a z v 87 k = a 87 k := by
  unfold rGt
  rw [rFt_r (by decide)]
  exact rRs_87 h
theorem rGt_n (h : v.toInt < 0) : rGt a z v = rRs a z.toInt := rFt_n h
theorem Rp_v (h : qEq v.toInt (rRp a z.toInt)) (h0 : 0 ≤ v.toInt) : rFi (rRs a z.toInt) z.toInt ∧ v.toInt = (rRs a z.toInt 87 9).toInt * (rRs a z.toInt 87 3).toInt + (rRs a z.toInt 92 (rRs a z.toInt 87 9).toNatClampNeg).toInt := by
  have q := qE h
  unfold rRp at q
  by_cases w : (a 87 3).toInt < z.toInt
  · rw [if_pos w] at q
    omega
  · rw [if_neg w] at q
    by_cases w2 : (rRs a z.toInt 92 (rRs a z.toInt 87 9).toNatClampNeg).toInt + z.toInt ≤ (rRs a z.toInt 87 3).toInt
    · rw [if_pos w2] at q
      exact ⟨w2, q⟩
    · rw [if_neg w2] at q
      omega
theorem Rv_gt (hv : qRv (rRs a z.toInt)) (h : qEq v.toInt (rRp a z.toInt)) (hz : 1 ≤ z.toInt) : qRv (rGt a z v) := Rv_ft hv (by
  by_cases w : v.toInt < 0
  · exact Or.inl w
  · exact Or.inr (Rp_v h (by omega)).1) hz
theorem Ne_r (hv : qRv (rRs aa (w + 1).toInt)) (hR : qEq pl.toInt (rRp aa (w + 1).toInt)) (h0 : 0 ≤ pl.toInt) (hw : 0 ≤ w.toInt) (hw6 : w.toInt ≤ 60) (hy : rGt aa (w + 1) pl 69 6 = y) (hy5 : y.toInt < 512) : qNe (rGt aa (w + 1) pl) y w pl := by
  have e1 := i_p1 (i := w) (by omega)
  have f := Rp_v hR h0
  have g := (Rv_gt (v := pl) hv hR (by omega)).1
  refine ⟨g, hy.symm, hy5, ⟨hw, hw6⟩, h0, ?_, fun x hx => ?_⟩
  · unfold rGt
    rw [rFt_r (by decide)]
    have bd := Rp_bd hv (by omega) f.1
    obtain ⟨_, _, h3, h4, _⟩ := hv
    have m := ml_le (q := (rRs aa (w + 1).toInt 87 9).toInt) (t := (rRs aa (w + 1).toInt 87 4).toInt) (s := (rRs aa (w + 1).toInt 87 3).toInt) h3.2.2.1.2 (by have := h3.1; omega)
    have fi := f.1
    unfold rFi at fi
    have := h3.2.2.2.2.1
    omega
  · unfold rGt at hx ⊢
    unfold xAl at hx
    rw [rFt_r (by decide)] at hx
    rw [rFt_r (c := 130) (by decide), rFt_r (c := 128) (by decide)]
    have fi := f.1
    have pv := f.2
    obtain ⟨hI, _, h3, h4, h5⟩ := hv
    generalize rRs aa (w + 1).toInt = B at *
    have c5 := h5 x hx
    have i := (hI.1 x hx).1.2
    have db := dv_b (p := (B 130 x).toInt) (s := (B 87 3).toInt) (by have := h3.1; omega)
    have d0 : 0 ≤ (B 130 x).toInt / (B 87 3).toInt := Int.ediv_nonneg i (by have := h3.1; omega)
    have tx := (h4 ((B 130 x).toInt / (B 87 3).toInt).toNat (by have := h3.2.1; omega)).1
    unfold rFi at fi
    have tc := tn_cast h3.2.2.1.1
    have tq := (h4 (B 87 9).toNatClampNeg (by have := h3.2.1; have := h3.2.2.1; omega)).1
    by_cases z1 : (B 130 x).toInt / (B 87 3).toInt = (B 87 9).toInt
    · rw [z1, show (B 87 9).toInt.toNat = (B 87 9).toNatClampNeg from by omega] at c5
      exact Or.inl (by omega)
    · by_cases z2 : (B 130 x).toInt / (B 87 3).toInt < (B 87 9).toInt
      · have m := ml_le (s := (B 87 3).toInt) z2 (by have := h3.1; omega)
        exact Or.inl (by omega)
      · have m := ml_le (q := (B 87 9).toInt) (t := (B 130 x).toInt / (B 87 3).toInt) (s := (B 87 3).toInt) (by omega) (by have := h3.1; omega)
        exact Or.inr (by omega)
theorem Ad_92 : aAd (ma_u b 92 k x) y F L = ma_u (aAd b y F L) 92 k x := by
  funext c₉ k₉
  by_cases w : c₉ = 92
  · rw [w, ad_9 (by decide)]
    show (if (92 : Nat) = 92 ∧ k₉ = k then x else b 92 k₉) = (if (92 : Nat) = 92 ∧ k₉ = k then x else aAd b y F L 92 k₉)
    rw [ad_9 (by decide)]
  · rw [xu_o (fun z => w z.1)]
    by_cases h : c₉ < 82 ∨ 93 < c₉
    · exact o9_ad (a := ma_u b 92 k x) (b := b) (fun c2 k2 h2 => xu_o (fun z => by omega)) c₉ k₉ h
    · rw [ad_9 (by omega), ad_9 (by omega), xu_o (fun z => w z.1)]
theorem rMk_2b {kd wd rt : Int32} (hv : qRv (rRs a (wd + 1).toInt)) (h : (a 69 6).toInt < 512) (h1 : pl.toInt = rRp a (wd + 1).toInt) (h2 : 0 ≤ pl.toInt) (hw : 0 ≤ wd.toInt) (hw6 : wd.toInt ≤ 60) (hp5 : pl.toInt ≤ 4500) (hy0 : 0 ≤ y.toInt) (hy : y = rGt a (wd + 1) pl 69 6) (h8 : rGt a (wd + 1) pl 87 8 = 0) : rMk a kd wd L rt = aRt (aAd (rGt a (wd + 1) pl) y (zFn y kd (wd + 1) pl) L) rt y ∧ rMn a wd = y := by
  have A := Ad_of (b := rRs a (wd + 1).toInt) (y := y) (kk := kd) (w := wd) (pl := pl) (L := L) hy0 hw hw6 h2 hp5
  rw [← r0_rt (ad_87.trans h8)]
  unfold rGt at hy h8 ⊢
  rw [rFt_r (by decide)] at hy h8
  rw [rFt_y h2]
  have e := rMk_2 (a := a) (kd := kd) (wd := wd) (rt := rt) (L := L) (pl := pl) h rfl h1 (by omega) hy
  rw [e.1, Ad_92]
  refine ⟨?_, e.2⟩
  have m1 := A.1.2.1
  rw [aMd_n (ad_87.trans h8), xu_o (by omega)] at m1
  have h3 := hv.2.2.1
  unfold rMd
  rw [ad_87, ad_9 (by decide), m1, if_pos ⟨h3.2.2.1.1, by have := h3.2.1; have := h3.2.2.1; omega⟩]
theorem Rv_cg (h : qRv a) (e1 : b 126 = a 126) (e2 : b 128 = a 128) (e3 : b 130 = a 130) (e9 : b 92 = a 92) (e7 : b 87 = a 87) (hI : qI b) : qRv b := by
  obtain ⟨_, h2, h3, h4, h5⟩ := h
  unfold qRv xAl at *
  rw [e1, e2, e3, e7, e9]
  exact ⟨hI, h2, h3, h4, h5⟩
/-- a new one is there -/
theorem Rv_new {rt : Int32} (hv : qRv (rRs aa (w + 1).toInt)) (h : qNe (rGt aa (w + 1) pl) y w pl) (hR : qEq pl.toInt (rRp aa (w + 1).toInt)) (h0 : 0 ≤ pl.toInt) (h8 : rGt aa (w + 1) pl 87 8 = 0) : qRv (aRt (aAd (rGt aa (w + 1) pl) y (zFn y kk (w + 1) pl) L) rt y) := by
  have q := Ne_b h
  have f := Rp_v hR h0
  have hw := h.2.2.2.1
  have g := Rv_gt (v := pl) hv hR (by omega)
  have A := Ad_of (b := rGt aa (w + 1) pl) (y := y) (kk := kk) (w := w) (pl := pl) (L := L) q.1 hw.1 hw.2 h0 (by omega)
  have I := I_ad h A
  have e := hd_0 (b := rGt aa (w + 1) pl) (y := y) (F := zFn y kk (w + 1) pl) (L := L) g.2.1 h8
  have I2 : qI (aAd (rGt aa (w + 1) pl) y (zFn y kk (w + 1) pl) L) := by
    rw [← e]
    exact I_872 I (by decide) I.2.2.2.1.2.2.1.1 (Gd_0 I)
  have ro : ∀ c, c ≠ 87 → aAd (rGt aa (w + 1) pl) y (zFn y kk (w + 1) pl) L c = aMd (aAd (rGt aa (w + 1) pl) y (zFn y kk (w + 1) pl) L) y c := fun c hc => by
    rw [aMd_n (ad_87.trans h8), ma_u_ne _ _ _ hc]
  have al : ∀ x, xAl (aAd (rGt aa (w + 1) pl) y (zFn y kk (w + 1) pl) L) x ↔ xAl (rGt aa (w + 1) pl) x ∨ x = y.toNatClampNeg := fun x => by
    unfold xAl
    rw [ro 126 (by decide)]
    exact Al_ad h A
  have e7 : aAd (rGt aa (w + 1) pl) y (zFn y kk (w + 1) pl) L 87 = rGt aa (w + 1) pl 87 := funext (fun _ => ad_87)
  have e9 : aAd (rGt aa (w + 1) pl) y (zFn y kk (w + 1) pl) L 92 = rGt aa (w + 1) pl 92 := funext (fun _ => ad_9 (by decide))
  have pl2 : pl.toInt / (rGt aa (w + 1) pl 87 3).toInt = (rGt aa (w + 1) pl 87 9).toInt ∧ pl.toInt + (w.toInt + 1) ≤ (rGt aa (w + 1) pl 87 9).toInt * (rGt aa (w + 1) pl 87 3).toInt + (rGt aa (w + 1) pl 92 (rGt aa (w + 1) pl 87 9).toNatClampNeg).toInt := by
    unfold rGt
    rw [rFt_r (c := 87) (by decide), rFt_y h0, xu_s]
    have fi := f.1
    have pv := f.2
    unfold rFi at fi
    obtain ⟨_, _, h3, h4, _⟩ := hv
    generalize rRs aa (w + 1).toInt = B at *
    have tc := tn_cast h3.2.2.1.1
    have tq := (h4 (B 87 9).toNatClampNeg (by have := h3.2.1; have := h3.2.2.1; omega)).1
    have e1 := q.2.2.2.2.2.1
    have s : (B 92 (B 87 9).toNatClampNeg + (w + 1)).toInt = (B 92 (B 87 9).toNatClampNeg).toInt + (w + 1).toInt := i_add (by omega) (by have := h3.1; omega)
    rw [s]
    refine ⟨?_, by omega⟩
    rw [pv]
    exact dv_e (by have := h3.1; omega) (by omega) (by omega)
  obtain ⟨g1, g2, g3, g4, g5⟩ := g
  have H : qRv (aAd (rGt aa (w + 1) pl) y (zFn y kk (w + 1) pl) L) := by
    refine ⟨I2, by rw [e7]; exact g2, by rw [e7]; exact g3, by rw [e7, e9]; exact g4, fun n hn => ?_⟩
    rw [e7, e9, ro 130 (by decide), ro 128 (by decide)]
    rcases (al n).mp hn with z | z
    · have o := ne_al h z
      rw [A.2.1 130 n (by decide) (by decide) o, A.2.1 128 n (by decide) (by decide) o]
      exact g5 n z
    · rw [z, A.1.2.2.1, A.1.2.1, q.2.2.2.2.2.1, pl2.1]
      have tc := tn_cast g3.2.2.1.1
      rw [show (rGt aa (w + 1) pl 87 9).toInt.toNat = (rGt aa (w + 1) pl 87 9).toNatClampNeg from by omega]
      exact ⟨g3.2.2.1.2, pl2.2⟩
  have rr : ∀ c, c ≠ 72 → c ≠ 75 → c ≠ 76 → c ≠ 77 → aRt (aAd (rGt aa (w + 1) pl) y (zFn y kk (w + 1) pl) L) rt y c = aAd (rGt aa (w + 1) pl) y (zFn y kk (w + 1) pl) L c := fun c h1 h2 h3 h4 => rt_r h1 h2 h3 h4
  exact Rv_cg H (rr 126 (by decide) (by decide) (by decide) (by decide)) (rr 128 (by decide) (by decide) (by decide) (by decide)) (rr 130 (by decide) (by decide) (by decide) (by decide)) (rr 92 (by decide) (by decide) (by decide) (by decide)) (rr 87 (by decide) (by decide) (by decide) (by decide)) (I_cg I2 (rr 126 (by decide) (by decide) (by decide) (by decide)) (rr 128 (by decide) (by decide) (by decide) (by decide)) (rr 130 (by decide) (by decide) (by decide) (by decide)) (rr 71 (by decide) (by decide) (by decide) (by decide)) (rr 69 (by decide) (by decide) (by decide) (by decide)) (rr 87 (by decide) (by decide) (by decide) (by decide)) (fun n => rr (1000 + n) (by omega) (by omega) (by omega) (by omega)))
theorem RL_cg (h : qRL a si rg sh pr tp) (e7 : b 87 = a 87) (e9 : b 92 = a 92) : qRL b si rg sh pr tp := by
  unfold qRL
  rw [e7, e9]
  exact h
theorem RL_new {rt : Int32} (h : qRL a si rg sh pr tp) : qRL (aRt (aAd a y F L) rt y) si rg sh pr tp := RL_cg h ((rt_r (by decide) (by decide) (by decide) (by decide)).trans (funext (fun _ => ad_87))) ((rt_r (by decide) (by decide) (by decide) (by decide)).trans (funext (fun _ => ad_9 (by decide))))
end F19
theorem sp_232rz {X : Nat × (Nat → Int32)} {P : Option ma_V → (Nat → Nat → Int32) → Prop} {aa : Nat→Nat→Int32} {m : Nat → Nat → Int32} (nw : Int32) (hV : zV m) (hpre0 : 1 ≤ nw.toInt) (hpre1 : nw.toInt ≤ 61) (r_RV : qRv aa) (r_RL : qRL aa (m 94 18) (m 94 64) (m 94 19) (m 94 63) (m 116)) (KZ : ∀ v m₉, zV (zov wr_232 m m₉) → (qRL (rFt aa nw v) (m 94 18) (m 94 64) (m 94 19) (m 94 63) (m₉ 116)) → (qFI aa nw.toInt v.toInt) → (-1 ≤ v.toInt ∧ v.toInt ≤ 1500) → P (some (.inl v)) (zov wr_232 m m₉)) : zm X 0 0 232 0 [(0, .inr (.inr (some 94))), (1, .inl nw)] m P := by
  have K : ∀ v m₉, zF wr_232 m m₉ → zV m₉ → (qRL (rFt aa nw v) (m₉ 94 18) (m₉ 94 64) (m₉ 94 19) (m₉ 94 63) (m₉ 116)) → (qFI aa nw.toInt v.toInt) → (-1 ≤ v.toInt ∧ v.toInt ≤ 1500) → P (some (.inl v)) m₉ := by
    intro v m₉ hf z q0 q1 q2
    have e := zov_eq hf
    rw [e] at z ⊢
    try rw [e] at q0
    try rw [e] at q1
    try rw [e] at q2
    exact KZ v m₉ z q0 q1 q2
  refine g_232_0 nw ?_
  have f1 : 0 ≤ (m 94 63).toInt ∧ (m 94 63).toInt ≤ 127 := rs_94_63 (m := m) hV
  try have rlb := RL_b r_RL r_RV
  try have rlt := RL_top r_RL r_RV
  try have rlk := RL_take r_RL r_RV
  have hg2 : (0 ≤ (m 94 63) ∧ (m 94 63).toNatClampNeg < 128) := i_ix (by omega) (by omega)
  refine ⟨hg2, ?_⟩
  first | have f3 : 0 ≤ (m 116 (m 94 63).toNatClampNeg).toInt ∧ (m 116 (m 94 63).toNatClampNeg).toInt ≤ 4600 := ra_116 (m := m) hV (k := (m 94 63).toNatClampNeg) (i_ix (n := 128) (by omega) (by omega)).2 | have b4 := i_bd (m 116 (m 94 63).toNatClampNeg)
  have b5 := i_bd nw
  first | have e6 : ((m 116 (m 94 63).toNatClampNeg) + nw).toInt = (m 116 (m 94 63).toNatClampNeg).toInt + nw.toInt := i_add (by omega) (by omega) | have b7 := i_bd ((m 116 (m 94 63).toNatClampNeg) + nw)
  have f8 : 0 ≤ (m 94 18).toInt ∧ (m 94 18).toInt ≤ 256 := rs_94_18 (m := m) hV
  refine zd (fun (h9 : ((m 116 (m 94 63).toNatClampNeg) + nw) ≤ (m 94 18)) => ?_) (fun (h9 : ¬ ((m 116 (m 94 63).toNatClampNeg) + nw) ≤ (m 94 18)) => ?_)
  · skip
    have g10 := i_le h9
    try have rlb := RL_b r_RL r_RV
    try have rlt := RL_top r_RL r_RV
    try have rlk := RL_take r_RL r_RV
    have hg11 : (0 ≤ (m 94 63) ∧ (m 94 63).toNatClampNeg < 128) := i_ix (by omega) (by omega)
    refine ⟨hg11, ?_⟩
    try have rlb := RL_b r_RL r_RV
    try have rlt := RL_top r_RL r_RV
    try have rlk := RL_take r_RL r_RV
    have hg12 : (0 ≤ (m 94 63) ∧ (m 94 63).toNatClampNeg < 128) := i_ix (by omega) (by omega)
    refine ⟨hg12, ?_⟩
    try have rlb := RL_b r_RL r_RV
    try have rlt := RL_top r_RL r_RV
    try have rlk := RL_take r_RL r_RV
    have hg13 : (0 ≤ (m 94 63) ∧ (m 94 63).toNatClampNeg < 128) := i_ix (by omega) (by omega)
    refine ⟨hg13, ?_⟩
    try have rlb := RL_b r_RL r_RV
    try have rlt := RL_top r_RL r_RV
    try have rlk := RL_take r_RL r_RV
    have hV14 : zV (ma_u m 116 (m 94 63).toNatClampNeg ((m 116 (m 94 63).toNatClampNeg) + nw)) := ua_116 hV (by omega) (by omega)
    first | have f15 := i_muln (x := (m 94 63)) (y := (m 94 18)) (by omega) (by omega) (by omega) (by omega) | have b16 := i_bd ((m 94 63) * (m 94 18))
    first | have e17 : (((m 94 63) * (m 94 18)) + (m 116 (m 94 63).toNatClampNeg)).toInt = ((m 94 63) * (m 94 18)).toInt + (m 116 (m 94 63).toNatClampNeg).toInt := i_add (by omega) (by omega) | have b18 := i_bd (((m 94 63) * (m 94 18)) + (m 116 (m 94 63).toNatClampNeg))
    exact K ((((m 94 63) * (m 94 18)) + (m 116 (m 94 63).toNatClampNeg))) _ (zF_u zF_rfl rfl) hV14 (show qRL (rFt aa nw (((m 94 63) * (m 94 18)) + (m 116 (m 94 63).toNatClampNeg))) (m 94 18) (m 94 64) (m 94 19) (m 94 63) ((ma_u m 116 (m 94 63).toNatClampNeg ((m 116 (m 94 63).toNatClampNeg) + nw)) 116) from by first | (rw [rFt_n (by decide)]; exact r_RL; done) | (have mm := (i_muln (x := m 94 63) (y := m 94 18) (by omega) (by omega) (by omega) (by omega)).2.2; exact RL_fy r_RL r_RV (by rw [i_add (by omega) (by omega)]; omega) (fun r => mu_at r); done) | (exact r_RL) | (exfalso; omega; done) | (exfalso; contradiction; done)) (show qFI aa nw.toInt (((m 94 63) * (m 94 18)) + (m 116 (m 94 63).toNatClampNeg)).toInt from by first | (exact FI_n r_RL r_RV (by omega)) | (have mm := (i_muln (x := m 94 63) (y := m 94 18) (by omega) (by omega) (by omega) (by omega)).2.2; exact FI_y r_RL r_RV (by omega) (by rw [i_add (by omega) (by omega), mm]); done) | (exfalso; omega; done) | (exfalso; contradiction; done)) (show -1 ≤ (((m 94 63) * (m 94 18)) + (m 116 (m 94 63).toNatClampNeg)).toInt ∧ (((m 94 63) * (m 94 18)) + (m 116 (m 94 63).toNatClampNeg)).toInt ≤ 1500 from by omega)
  · skip
    have g19 := i_nle h9
    try have rlb := RL_b r_RL r_RV
    try have rlt := RL_top r_RL r_RV
    try have rlk := RL_take r_RL r_RV
    have li20 : (-1 : Int32).toInt = -1 := rfl
    exact K ((-1 : Int32)) _ zF_rfl hV (show qRL (rFt aa nw (-1 : Int32)) (m 94 18) (m 94 64) (m 94 19) (m 94 63) (m 116) from by first | (rw [rFt_n (by decide)]; exact r_RL; done) | (have mm := (i_muln (x := m 94 63) (y := m 94 18) (by omega) (by omega) (by omega) (by omega)).2.2; exact RL_fy r_RL r_RV (by rw [i_add (by omega) (by omega)]; omega) (fun r => mu_at r); done) | (exact r_RL) | (exfalso; omega; done) | (exfalso; contradiction; done)) (show qFI aa nw.toInt (-1 : Int32).toInt from by first | (exact FI_n r_RL r_RV (by omega)) | (have mm := (i_muln (x := m 94 63) (y := m 94 18) (by omega) (by omega) (by omega) (by omega)).2.2; exact FI_y r_RL r_RV (by omega) (by rw [i_add (by omega) (by omega), mm]); done) | (exfalso; omega; done) | (exfalso; contradiction; done)) (show -1 ≤ (-1 : Int32).toInt ∧ (-1 : Int32).toInt ≤ 1500 from by omega)

