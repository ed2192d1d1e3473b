/-! from 95.v09 -/
/-! AGES, the reference (written by wip/tools/gen15v.py) -/
/-! AGES: a new one in the reference -/
def yFt (a : Nat → Nat → Int32) (z v : Int32) : Nat → Nat → Int32 := if v.toInt < 0 then gRs a z.toInt else if (gRs a z.toInt 87 9).toInt ≤ v.toInt then ma_u (gRs a z.toInt) 87 4 (v + z) else ma_u (gRs a z.toInt) 87 10 (v + z)
section F37
variable {a b c d aa : Nat → Nat → Int32} {us nr kr kd ws at₉ ho wd wi ow rt wk wl gs dt : Nat → Int32} {wm nu ro fo le ra pi : Int32} {x y v z w pl kk i yo ol ag cd tp ot hf : Int32} {n k N : Nat} {L : Int64} {F G : Nat → Int}
theorem yFt_n (h : v.toInt < 0) : yFt a z v = gRs a z.toInt := if_pos h
theorem yFt_y (h : 0 ≤ v.toInt) (hy : (gRs a z.toInt 87 9).toInt ≤ v.toInt) : yFt a z v = ma_u (gRs a z.toInt) 87 4 (v + z) := (if_neg (by omega)).trans (if_pos hy)
theorem yFt_o (h : 0 ≤ v.toInt) (hy : v.toInt < (gRs a z.toInt 87 9).toInt) : yFt a z v = ma_u (gRs a z.toInt) 87 10 (v + z) := (if_neg (by omega)).trans (if_neg (by omega))
theorem gM0_7 (h10 : k ≠ 10) : gM0 a 87 k = a 87 k := by
  unfold gM0
  split
  · exact Ma_87 h10
  · rfl
theorem gMi_7 (h3 : k ≠ 3) (h4 : k ≠ 4) (h10 : k ≠ 10) : gMi a 87 k = a 87 k := by
  unfold gMi
  split
  · exact gM0_7 h10
  · have e : gMv (gM0 a) 87 k = gMf (gMk1 (gM0 a) 75 4).toInt.toNat 0 (gMk1 (gM0 a)) 87 k := by
      show gFd _ 87 k = _
      rw [Fd_r (by decide)]
    rw [e, G_87 h3 h4 h10]
    exact gM0_7 h10
theorem gRs_7 {t : Int} (h3 : k ≠ 3) (h4 : k ≠ 4) (h10 : k ≠ 10) : gRs a t 87 k = a 87 k := by
  unfold gRs
  split
  · unfold gRo
    split
    · exact Ma_87 h10
    · rfl
  · have e1 : gR1 a t 87 k = a 87 k := by
      unfold gR1
      split
      · rfl
      · exact gMi_7 h3 h4 h10
    unfold gR2
    split
    · exact e1
    · rw [gMi_7 h3 h4 h10, Ma_87 h10]
      exact e1
theorem Yf_7 (h3 : k ≠ 3) (h4 : k ≠ 4) (h10 : k ≠ 10) : yFt a z v 87 k = a 87 k := by
  unfold yFt
  split
  · exact gRs_7 h3 h4 h10
  · split
    · rw [xu_o (fun w => h4 w.2)]
      exact gRs_7 h3 h4 h10
    · rw [xu_o (fun w => h10 w.2)]
      exact gRs_7 h3 h4 h10
theorem Yf_r (h : n ≠ 87) : yFt a z v n = gRs a z.toInt n := by
  unfold yFt
  split
  · rfl
  · split
    · exact ma_u_ne _ _ _ h
    · exact ma_u_ne _ _ _ h
/-- where there is room -/
theorem Yp_v (h : qEq v.toInt (gRp a z.toInt)) (h0 : 0 ≤ v.toInt) (hz : 1 ≤ z.toInt) (hv : qAv (gRs a z.toInt)) : ((gRs a z.toInt 87 9).toInt ≤ v.toInt ∧ v.toInt = (gRs a z.toInt 87 4).toInt ∧ v.toInt + z.toInt ≤ (gRs a z.toInt 87 3).toInt + (gRs a z.toInt 87 5).toInt) ∨ (v.toInt < (gRs a z.toInt 87 9).toInt ∧ v.toInt = (gRs a z.toInt 87 10).toInt ∧ v.toInt + z.toInt ≤ (gRs a z.toInt 87 9).toInt) := by
  have q := qE h
  have a3 := hv.2.2.1
  have a4 := hv.2.2.2.1
  have a5 := hv.2.2.2.2.1
  unfold gRp at q
  generalize gRs a z.toInt = B at *
  by_cases c1 : (a 87 5).toInt / 2 < z.toInt
  · rw [if_pos c1] at q
    by_cases c2 : (B 87 9).toInt < (B 87 10).toInt + z.toInt
    · rw [if_pos c2] at q
      omega
    · rw [if_neg c2] at q
      exact Or.inr ⟨by omega, by omega, by omega⟩
  · rw [if_neg c1] at q
    by_cases c2 : (B 87 4).toInt + z.toInt ≤ (B 87 3).toInt + (B 87 5).toInt
    · rw [if_pos c2] at q
      exact Or.inl ⟨by omega, by omega, by omega⟩
    · rw [if_neg c2] at q
      omega
theorem Yf_I (hv : qAv (gRs a z.toInt)) : qI (yFt a z v) := by
  unfold yFt
  split
  · exact hv.1
  · split
    · exact I_87k hv.1 (by decide) (by decide) (by decide)
    · exact I_87k hv.1 (by decide) (by decide) (by decide)
/-- the room behind the place is still free -/
def qYn (b : Nat → Nat → Int32) (w pl : Int32) : Prop := ((b 87 9).toInt ≤ pl.toInt ∧ (b 87 3).toInt ≤ pl.toInt ∧ pl.toInt + w.toInt + 1 = (b 87 4).toInt ∧ gSy b 512 + (w.toInt + 1) ≤ (b 87 4).toInt - (b 87 3).toInt) ∨ (pl.toInt < (b 87 9).toInt ∧ pl.toInt + w.toInt + 1 = (b 87 10).toInt)
theorem Av_87 (hv : qAv a) (hr : ∀ c, c ≠ 87 → b c = a c) (h7 : ∀ k, k ≠ 4 → k ≠ 10 → b 87 k = a 87 k) (h4 : (a 87 4).toInt ≤ (b 87 4).toInt ∧ (b 87 4).toInt ≤ (a 87 3).toInt + (a 87 5).toInt) (h10 : (a 87 10).toInt ≤ (b 87 10).toInt ∧ (b 87 10).toInt ≤ (a 87 9).toInt) (hI : qI b) : qAv b := by
  obtain ⟨_, g2, nm, hs, ht, hO, ha⟩ := Av_0 hv
  have di := hv.2.2.2.2.2.2.2
  have al : ∀ n, xAl b n ↔ xAl a n := fun n => by
    unfold xAl
    rw [hr 126 (by decide)]
  have sy : gSy b 512 = gSy a 512 := by
    rw [Sy_sg, Sy_sg]
    refine sg_cg _ (fun n hn => ?_)
    rw [hr 126 (by decide), hr 128 (by decide), hr 130 (by decide), h7 9 (by decide) (by decide)]
  have rf : ∀ n i, aRef b n i = aRef a n i := fun n i => rf_cg (hr _ (by omega)) (hr _ (by decide)) (hr _ (by decide))
  refine Av_mk ⟨hI, (h7 2 (by decide) (by decide)).trans g2, ?_, ?_, ⟨?_, ?_, ?_⟩, ⟨?_, ?_⟩, fun n hn => ?_⟩ (fun n hn ho i hi hw => ?_)
  · rw [h7 5 (by decide) (by decide), h7 9 (by decide) (by decide), h7 0 (by decide) (by decide), h7 11 (by decide) (by decide), h7 12 (by decide) (by decide)]
    exact nm
  · rw [h7 3 (by decide) (by decide), h7 9 (by decide) (by decide), h7 5 (by decide) (by decide)]
    exact hs
  · rw [h7 3 (by decide) (by decide)]
    omega
  · rw [h7 3 (by decide) (by decide), h7 5 (by decide) (by decide)]
    exact h4.2
  · rw [sy, h7 3 (by decide) (by decide)]
    omega
  · omega
  · rw [h7 9 (by decide) (by decide)]
    exact h10.2
  · have q := ha n ((al n).mp hn)
    unfold qA1 at q ⊢
    rw [hr 131 (by decide), hr 130 (by decide), hr 128 (by decide), hr 133 (by decide), h7 11 (by decide) (by decide), h7 9 (by decide) (by decide), h7 3 (by decide) (by decide)]
    refine ⟨q.1, fun w => ?_, fun w => ?_⟩
    · have := q.2.1 w
      omega
    · have := q.2.2 w
      exact ⟨⟨this.1.1, by omega⟩, this.2⟩
  · unfold gRw at hw
    rw [rf, hr 126 (by decide), hr 130 (by decide), h7 9 (by decide) (by decide)] at hw
    rw [hr 130 (by decide), h7 9 (by decide) (by decide)] at ho
    rw [hr 128 (by decide)] at hi
    have q := di n ((al n).mp hn) ho i hi hw
    unfold gCx at q ⊢
    rw [hr 83 (by decide), hr 130 (by decide), h7 12 (by decide) (by decide)]
    exact q
theorem Yf_av (hv : qAv (gRs aa (w + 1).toInt)) (hR : qEq pl.toInt (gRp aa (w + 1).toInt)) (h0 : 0 ≤ pl.toInt) (hw : 0 ≤ w.toInt) (hw6 : w.toInt ≤ 60) (hp : pl.toInt ≤ 4500) : qAv (yFt aa (w + 1) pl) ∧ qYn (yFt aa (w + 1) pl) w pl := by
  have e1 := i_p1 (i := w) (by omega)
  have e2 : (pl + (w + 1)).toInt = pl.toInt + (w + 1).toInt := i_add (by omega) (by omega)
  have a3 := hv.2.2.1
  have a4 := hv.2.2.2.1
  have a5 := hv.2.2.2.2.1
  have a6 := hv.2.2.2.2.2.1
  have f := Yp_v hR h0 (by omega) hv
  have I := Yf_I (v := pl) hv
  rcases f with f | f
  · rw [yFt_y h0 f.1] at I ⊢
    have h4 : ma_u (gRs aa (w + 1).toInt) 87 4 (pl + (w + 1)) 87 4 = pl + (w + 1) := xu_s
    have h7 : ∀ k, k ≠ 4 → ma_u (gRs aa (w + 1).toInt) 87 4 (pl + (w + 1)) 87 k = gRs aa (w + 1).toInt 87 k := fun k hk => xu_o (fun z => hk z.2)
    have hr : ∀ c, c ≠ 87 → ma_u (gRs aa (w + 1).toInt) 87 4 (pl + (w + 1)) c = gRs aa (w + 1).toInt c := fun c hc => ma_u_ne _ _ _ hc
    have sy : gSy (ma_u (gRs aa (w + 1).toInt) 87 4 (pl + (w + 1))) 512 = gSy (gRs aa (w + 1).toInt) 512 := by
      rw [Sy_sg, Sy_sg]
      refine sg_cg _ (fun n hn => ?_)
      rw [hr 126 (by decide), hr 128 (by decide), hr 130 (by decide), h7 9 (by decide)]
    refine ⟨Av_87 hv hr (fun k h _ => h7 k h) (by rw [h4]; omega) (by rw [h7 10 (by decide)]; omega) I, Or.inl ?_⟩
    rw [sy, h4, h7 9 (by decide), h7 3 (by decide)]
    omega
  · rw [yFt_o h0 f.1] at I ⊢
    have h10 : ma_u (gRs aa (w + 1).toInt) 87 10 (pl + (w + 1)) 87 10 = pl + (w + 1) := xu_s
    have h7 : ∀ k, k ≠ 10 → ma_u (gRs aa (w + 1).toInt) 87 10 (pl + (w + 1)) 87 k = gRs aa (w + 1).toInt 87 k := fun k hk => xu_o (fun z => hk z.2)
    have hr : ∀ c, c ≠ 87 → ma_u (gRs aa (w + 1).toInt) 87 10 (pl + (w + 1)) c = gRs aa (w + 1).toInt c := fun c hc => ma_u_ne _ _ _ hc
    refine ⟨Av_87 hv hr (fun k _ h => h7 k h) (by rw [h7 4 (by decide)]; omega) (by rw [h10]; omega) I, Or.inr ?_⟩
    rw [h10, h7 9 (by decide)]
    omega
theorem Ne_y (hv : qAv (gRs aa (w + 1).toInt)) (hR : qEq pl.toInt (gRp aa (w + 1).toInt)) (h0 : 0 ≤ pl.toInt) (hw : 0 ≤ w.toInt) (hw6 : w.toInt ≤ 60) (hy : yFt aa (w + 1) pl 69 6 = y) (hy5 : y.toInt < 512) : qNe (yFt aa (w + 1) pl) y w pl := by
  have e1 := i_p1 (i := w) (by omega)
  have f := Yp_v hR h0 (by omega) hv
  obtain ⟨_, g2, nm, hs, ht, hO, ha⟩ := Av_0 hv
  have r0 : yFt aa (w + 1) pl 87 0 = gRs aa (w + 1).toInt 87 0 := (Yf_7 (by decide) (by decide) (by decide)).trans (gRs_7 (by decide) (by decide) (by decide)).symm
  refine ⟨Yf_I hv, hy.symm, hy5, ⟨hw, hw6⟩, h0, ?_, fun x hx => ?_⟩
  · rw [r0]
    omega
  · unfold xAl at hx
    rw [Yf_r (by decide)] at hx
    have q := ha x hx
    unfold qA1 at q
    rw [Yf_r (by decide), Yf_r (by decide)]
    have q1 := q.2.1
    have q2 := q.2.2
    rcases f with f | f
    · refine Or.inl ?_
      by_cases o : (gRs aa (w + 1).toInt 130 x).toInt < (gRs aa (w + 1).toInt 87 9).toInt
      · have := q1 o
        omega
      · have := q2 (by omega)
        omega
    · by_cases o : (gRs aa (w + 1).toInt 130 x).toInt < (gRs aa (w + 1).toInt 87 9).toInt
      · have := q1 o
        exact Or.inl (by omega)
      · exact Or.inr (by omega)
theorem Ad_k {F : Nat → Int32} : aAd (ma_u b 87 k x) y F L = ma_u (aAd b y F L) 87 k x := by
  funext c₉ k₉
  by_cases w : c₉ = 87
  · rw [w, ad_87]
    show (if (87 : Nat) = 87 ∧ k₉ = k then x else b 87 k₉) = (if (87 : Nat) = 87 ∧ k₉ = k then x else aAd b y F L 87 k₉)
    rw [ad_87]
  · rw [xu_o (fun z => w z.1)]
    exact o7_ad (a := ma_u b 87 k x) (b := b) (fun c2 k2 h2 => xu_o (fun z => h2 z.1)) c₉ k₉ w
theorem yMk_2b {kd wd rt : Int32} (h : (a 69 6).toInt < 512) (h1 : pl.toInt = gRp a (wd + 1).toInt) (h2 : 0 ≤ pl.toInt) (hw : 0 ≤ wd.toInt) (hw6 : wd.toInt ≤ 60) (hp5 : pl.toInt ≤ 4500) (hy0 : 0 ≤ y.toInt) (hy : y = yFt a (wd + 1) pl 69 6) (h8 : yFt a (wd + 1) pl 87 8 = 0) : yMk a kd wd L rt = aRt (aAd (yFt a (wd + 1) pl) y (zFn y kd (wd + 1) pl) L) rt y ∧ yMn a wd = y := by
  have A := Ad_of (b := gRs a (wd + 1).toInt) (y := y) (kk := kd) (w := wd) (pl := pl) (L := L) hy0 hw hw6 h2 hp5
  have k8 : gRs a (wd + 1).toInt 87 8 = 0 := (gRs_7 (by decide) (by decide) (by decide)).trans ((Yf_7 (by decide) (by decide) (by decide)).symm.trans h8)
  rw [← r0_rt (ad_87.trans h8)]
  rw [Yf_r (by decide)] at hy
  have e := yMk_2 (a := a) (kd := kd) (wd := wd) (rt := rt) (L := L) (pl := pl) h rfl h1 (by omega) hy
  rw [e.1]
  refine ⟨?_, e.2⟩
  have m1 := A.1.2.1
  have m2 := A.1.2.2.1
  rw [aMd_n (ad_87.trans k8), xu_o (by omega)] at m1 m2
  have g9 : aAd (gRs a (wd + 1).toInt) y (zFn y kd (wd + 1) pl) L 87 9 = gRs a (wd + 1).toInt 87 9 := ad_87
  unfold gMd
  rw [m1, m2, g9]
  by_cases c : (gRs a (wd + 1).toInt 87 9).toInt ≤ pl.toInt
  · rw [if_pos c, yFt_y h2 c, Ad_k]
  · rw [if_neg c, yFt_o h2 (by omega), Ad_k]
theorem sg_one : ∀ N, (∀ k, k < N → k ≠ n → F k = G k) → n < N → zsg G N = zsg F N + (G n - F n) := by
  intro N
  induction N with
  | zero => intro _ h; omega
  | succ N ih =>
    intro h hn
    have e1 : zsg F (N + 1) = zsg F N + F N := rfl
    have e2 : zsg G (N + 1) = zsg G N + G N := rfl
    by_cases z : n = N
    · have e := sg_cg (F := F) (G := G) N (fun k hk => h k (by omega) (by omega))
      rw [z]
      omega
    · have e := ih (fun k hk hne => h k (by omega) hne) (by omega)
      have := h N (by omega) (by omega)
      omega
theorem Ad_131 (h : 0 ≤ y.toInt) : aAd b y (zFn y kk (w + 1) pl) L 131 y.toNatClampNeg = 0 := by
  unfold aAd
  rw [xu_o (by omega), xu_o (by omega)]
  unfold zIw
  rw [if_neg (by omega), xu_o (by omega)]
  unfold zNw
  rw [if_neg (by omega), if_pos ⟨by decide, by decide, rfl⟩]
  rfl
/-- a new one is there -/
theorem Av_add {rt : Int32} (hv : qAv b) (h : qNe b y w pl) (hn : qYn b w pl) (h8 : b 87 8 = 0) (hd : ∀ n, xAl b n → ∀ i : Nat, (i : Int) < (b 128 n).toInt - 1 → (aRef b n (Int32.ofNat i)).toInt < 0 ∨ xAl b (aRef b n (Int32.ofNat i)).toNatClampNeg) : qAv (aRt (aAd b y (zFn y kk (w + 1) pl) L) rt y) := by
  have q := Ne_b h
  have hw := h.2.2.2.1
  have A := Ad_of (b := b) (y := y) (kk := kk) (w := w) (pl := pl) (L := L) q.1 hw.1 hw.2 q.2.2.2.1 (by omega)
  have I := I_ad h A
  obtain ⟨_, g2, nm, hs, ht, hO, ha⟩ := Av_0 hv
  have di := hv.2.2.2.2.2.2.2
  have e := hd_0 (b := b) (y := y) (F := zFn y kk (w + 1) pl) (L := L) g2 h8
  have I2 : qI (aAd b y (zFn y kk (w + 1) pl) L) := by
    rw [← e]
    exact I_872 I (by decide) I.2.2.2.1.2.2.1.1 (Gd_0 I)
  have e7 : ∀ k, aAd b y (zFn y kk (w + 1) pl) L 87 k = b 87 k := fun k => ad_87
  have r83 : aAd b y (zFn y kk (w + 1) pl) L 83 = b 83 := funext (fun k => ad_9 ⟨by decide, by decide⟩)
  have r131 := Ad_131 (b := b) (y := y) (kk := kk) (w := w) (pl := pl) (L := L) q.1
  have ro : ∀ c, c ≠ 87 → aAd b y (zFn y kk (w + 1) pl) L c = aMd (aAd b y (zFn y kk (w + 1) pl) L) y c := fun c hc => by
    rw [aMd_n (ad_87.trans h8), ma_u_ne _ _ _ hc]
  have rf : ∀ n i, aRef (aAd b y (zFn y kk (w + 1) pl) L) n i = aRef (aMd (aAd b y (zFn y kk (w + 1) pl) L) y) n i := fun n i => rf_cg (ro _ (by omega)) (ro _ (by decide)) (ro _ (by decide))
  generalize aMd (aAd b y (zFn y kk (w + 1) pl) L) y = E at *
  generalize hD : aAd b y (zFn y kk (w + 1) pl) L = D at *
  have al : ∀ x, xAl D x ↔ xAl b x ∨ x = y.toNatClampNeg := fun x => by
    unfold xAl
    rw [ro 126 (by decide)]
    exact Al_ad h A
  have fo : ∀ x, x ≠ y.toNatClampNeg → D 126 x = b 126 x ∧ D 128 x = b 128 x ∧ D 130 x = b 130 x ∧ D 131 x = b 131 x ∧ D 133 x = b 133 x := fun x hx => by
    rw [ro 126 (by decide), ro 128 (by decide), ro 130 (by decide), ro 131 (by decide), ro 133 (by decide)]
    exact ⟨A.2.1 126 x (by decide) (by decide) hx, A.2.1 128 x (by decide) (by decide) hx, A.2.1 130 x (by decide) (by decide) hx, A.2.1 131 x (by decide) (by decide) hx, A.2.1 133 x (by decide) (by decide) hx⟩
  have fy : D 126 y.toNatClampNeg = 1 ∧ D 128 y.toNatClampNeg = w + 1 ∧ D 130 y.toNatClampNeg = pl ∧ D 133 y.toNatClampNeg = 0 := by
    rw [ro 126 (by decide), ro 128 (by decide), ro 130 (by decide), ro 133 (by decide)]
    exact ⟨A.1.1, A.1.2.1, A.1.2.2.1, A.1.2.2.2.1⟩
  have b126 : b 126 y.toNatClampNeg = 0 := by
    by_cases z : b 126 y.toNatClampNeg = 0
    · exact z
    · exact absurd ⟨q.2.1, z⟩ (Ne_al h)
  have sy : gSy D 512 = gSy b 512 + (if (b 87 9).toInt ≤ pl.toInt then w.toInt + 1 else 0) := by
    rw [Sy_sg, Sy_sg]
    have s := sg_one (n := y.toNatClampNeg) (F := fun n => if b 126 n ≠ 0 ∧ (b 87 9).toInt ≤ (b 130 n).toInt then (b 128 n).toInt else 0) (G := fun n => if D 126 n ≠ 0 ∧ (D 87 9).toInt ≤ (D 130 n).toInt then (D 128 n).toInt else 0) 512 (fun k hk hne => by
      have f := fo k hne
      show (if b 126 k ≠ 0 ∧ (b 87 9).toInt ≤ (b 130 k).toInt then (b 128 k).toInt else 0) = (if D 126 k ≠ 0 ∧ (D 87 9).toInt ≤ (D 130 k).toInt then (D 128 k).toInt else 0)
      rw [f.1, f.2.1, f.2.2.1, e7]) q.2.1
    rw [s]
    show _ + ((if D 126 y.toNatClampNeg ≠ 0 ∧ (D 87 9).toInt ≤ (D 130 y.toNatClampNeg).toInt then (D 128 y.toNatClampNeg).toInt else 0) - (if b 126 y.toNatClampNeg ≠ 0 ∧ (b 87 9).toInt ≤ (b 130 y.toNatClampNeg).toInt then (b 128 y.toNatClampNeg).toInt else 0)) = _
    rw [fy.1, fy.2.1, fy.2.2.1, e7, b126, if_neg (show ¬ ((0 : Int32) ≠ 0 ∧ _) from fun z => z.1 rfl), q.2.2.2.2.2.1]
    by_cases o : (b 87 9).toInt ≤ pl.toInt
    · rw [if_pos ⟨by decide, o⟩, if_pos o]
      omega
    · rw [if_neg (fun z => o z.2), if_neg o]
      omega
  have w1 := q.2.2.2.2.2.1
  have H : qAv D := by
    refine Av_mk ⟨I2, (e7 2).trans g2, ?_, ?_, ⟨?_, ?_, ?_⟩, ?_, fun n hn₉ => ?_⟩ (fun n hn₉ ho i hi hr => ?_)
    · rw [e7, e7, e7, e7, e7]
      exact nm
    · rw [e7, e7, e7]
      exact hs
    · rw [e7, e7]
      exact ht.1
    · rw [e7, e7, e7]
      exact ht.2.1
    · rw [sy, e7, e7]
      rcases hn with z | z
      · rw [if_pos z.1]
        exact z.2.2.2
      · rw [if_neg (by omega)]
        have := ht.2.2
        omega
    · rw [e7, e7]
      exact hO
    · unfold qA1
      rw [e7, e7, e7, e7, e7]
      rcases (al n).mp hn₉ with z | z
      · have o := ne_al h z
        have f := fo n o
        rw [f.2.1, f.2.2.1, f.2.2.2.1, f.2.2.2.2]
        exact ha n z
      · rw [z, fy.2.1, fy.2.2.1, fy.2.2.2, r131]
        have z0 : (0 : Int32).toInt = 0 := rfl
        rw [z0]
        rcases hn with u | u
        · exact ⟨⟨by omega, by omega⟩, fun _ => by omega, fun _ => ⟨⟨by omega, by omega⟩, by omega, rfl⟩⟩
        · exact ⟨⟨by omega, by omega⟩, fun _ => by omega, fun _ => by omega⟩
    · rcases (al n).mp hn₉ with z | z
      · have o := ne_al h z
        have f := fo n o
        rw [f.2.2.1, e7] at ho
        rw [f.2.1] at hi
        have sz := (hv.1.1 n z).2.1
        have i0 : (Int32.ofNat i).toInt = (i : Int) := ofN_s (by omega)
        have er : aRef D n (Int32.ofNat i) = aRef b n (Int32.ofNat i) := (rf n _).trans (rf_ad h A ⟨z, by omega, by omega⟩)
        unfold gRw at hr
        rw [er, e7] at hr
        have hu := (hd n z i hi).elim (fun z => absurd hr.1 (by omega)) id
        have fu := fo _ (ne_al h hu)
        rw [fu.1, fu.2.2.1] at hr
        have k := di n z ho i hi hr
        unfold gCx at k ⊢
        rw [r83, f.2.2.1, e7]
        exact k
      · rw [z] at hr hi
        rw [fy.2.1] at hi
        have i0 : (Int32.ofNat i).toInt = (i : Int) := ofN_s (by omega)
        have er : aRef D y.toNatClampNeg (Int32.ofNat i) = -1 := (rf _ _).trans (rf_nw h A (by omega) (by omega))
        unfold gRw at hr
        rw [er] at hr
        exact absurd hr.1 (by decide)
  have rr : ∀ c, c ≠ 72 → c ≠ 75 → c ≠ 76 → c ≠ 77 → aRt D rt y c = D c := fun c h1 h2 h3 h4 => rt_r h1 h2 h3 h4
  refine Av_mk (A0_cg (Av_0 H) (I_cg I2 (rr 126 (by decide) (by decide) (by decide) (by decide)) (rr 128 (by decide) (by decide) (by decide) (by decide)) (rr 130 (by decide) (by decide) (by decide) (by decide)) (rr 71 (by decide) (by decide) (by decide) (by decide)) (rr 69 (by decide) (by decide) (by decide) (by decide)) (rr 87 (by decide) (by decide) (by decide) (by decide)) (fun n => rr _ (by omega) (by omega) (by omega) (by omega))) (rr 126 (by decide) (by decide) (by decide) (by decide)) (rr 87 (by decide) (by decide) (by decide) (by decide)) (rr 130 (by decide) (by decide) (by decide) (by decide)) (rr 128 (by decide) (by decide) (by decide) (by decide)) (rr 131 (by decide) (by decide) (by decide) (by decide)) (rr 133 (by decide) (by decide) (by decide) (by decide))) ?_
  have rf2 : ∀ n i, aRef (aRt D rt y) n i = aRef D n i := fun n i => rf_cg (rr _ (by omega) (by omega) (by omega) (by omega)) (rr _ (by decide) (by decide) (by decide) (by decide)) (rr _ (by decide) (by decide) (by decide) (by decide))
  have dH := H.2.2.2.2.2.2.2
  intro n hn₉ ho i hi hr
  unfold gRw gCx xAl at *
  rw [rr 126 (by decide) (by decide) (by decide) (by decide)] at hn₉
  rw [rf2, rr 126 (by decide) (by decide) (by decide) (by decide), rr 87 (by decide) (by decide) (by decide) (by decide), rr 130 (by decide) (by decide) (by decide) (by decide)] at hr
  rw [rr 130 (by decide) (by decide) (by decide) (by decide), rr 87 (by decide) (by decide) (by decide) (by decide)] at ho
  rw [rr 128 (by decide) (by decide) (by decide) (by decide)] at hi
  rw [rr 83 (by decide) (by decide) (by decide) (by decide), rr 130 (by decide) (by decide) (by decide) (by decide), rr 87 (by decide) (by decide) (by decide) (by decide)]
  exact dH n hn₉ ho i hi hr
theorem RB_hd (hR : qRB us nr kr kd ws at₉ ho wd wi ow rt wk wl wm nu ro fo le ra pi b) : ∀ n, xAl b n → ∀ i : Nat, (i : Int) < (b 128 n).toInt - 1 → (aRef b n (Int32.ofNat i)).toInt < 0 ∨ xAl b (aRef b n (Int32.ofNat i)).toNatClampNeg := fun n hn i hi => by
  obtain ⟨s, hs, hu, e⟩ := R1_ex hR.1 hn
  have q := hR.1.1 s hs hu
  rw [e] at q
  have sz : (b 128 n).toInt = (ws s).toInt + 1 := by
    rw [q.2.2.1]
    exact i_addk rfl (by have := q.2.2.2.2.2.1; omega) (by have := q.2.2.2.2.2.1; omega)
  have r := hR.2.1 s hs hu i (by omega)
  rw [e] at r
  rw [r.2.1]
  by_cases z : (zrf kr kd wd s i).toInt < 0
  · rw [No_n z]
    exact Or.inl (by decide)
  · rw [No_y (by omega)]
    have u := U_y r.1 (by omega)
    exact Or.inr (R1_al hR.1 (tn_lt (by omega) u.1) u.2)
theorem AL_cg (h : qAL a yo ol ag cd tp ot hf) (e : b 87 = a 87) : qAL b yo ol ag cd tp ot hf := by
  unfold qAL
  rw [e]
  exact h
theorem AL_ft (h : qAL (gRs a z.toInt) yo ol ag cd tp ot hf) (h0 : 0 ≤ v.toInt) (hy : (gRs a z.toInt 87 9).toInt ≤ v.toInt) : qAL (yFt a z v) yo ol ag cd (v + z) ot hf := by
  rw [yFt_y h0 hy]
  unfold qAL at h ⊢
  rw [xu_o (by decide), xu_o (by decide), xu_o (by decide), xu_o (by decide), xu_s, xu_o (by decide), xu_o (by decide)]
  exact ⟨h.1, rfl, h.2.2⟩
theorem AL_fo (h : qAL (gRs a z.toInt) yo ol ag cd tp ot hf) (h0 : 0 ≤ v.toInt) (hy : v.toInt < (gRs a z.toInt 87 9).toInt) : qAL (yFt a z v) yo ol ag cd tp (v + z) hf := by
  rw [yFt_o h0 hy]
  unfold qAL at h ⊢
  rw [xu_o (by decide), xu_o (by decide), xu_o (by decide), xu_o (by decide), xu_o (by decide), xu_s, xu_o (by decide)]
  exact ⟨h.1, h.2.1, rfl, h.2.2.2⟩
end F37

/-! from 95.v10 -/
/-! AGES, the reference (written by wip/tools/gen15v.py) -/
/-! AGES: ages and cards of a new one in the reference; a link -/
section F38
variable {a b c d aa : Nat → Nat → Int32} {us us₉ nr nr₉ kr kd ws at₉ ho wd wi ow rt wk wl gs gs₉ dt dt₉ : Nat → Int32} {wm nu ro fo le ra pi : Int32} {x y v z w pl kk i r1 yo ol ag cd tp ot hf o t : Int32} {n k s : Nat} {L : Int64}
theorem Ag_cg (h : qAg us nr gs a) (e : b 131 = a 131) : qAg us nr gs b := by
  unfold qAg
  rw [e]
  exact h
theorem Dt_cg (h : qDt dt a) (e : b 83 = a 83) : qDt dt b := by
  unfold qDt
  rw [e]
  exact h
theorem Ag_z (h : qAg us nr gs b) (h1 : ∀ t, t ≠ s → us₉ t = us t) (h2 : ∀ t, t ≠ s → nr₉ t = nr t) (h3 : ∀ t, t ≠ s → gs₉ t = gs t) : qAg (zmk us₉ s) nr₉ gs₉ b := fun t ht hu => by
  unfold zmk at hu
  by_cases z : t = s
  · rw [if_pos z] at hu
    exact absurd rfl hu
  · rw [if_neg z, h1 t z] at hu
    rw [h2 t z, h3 t z]
    exact h t ht hu
theorem Ag_h (h : qAg (zmk us s) nr gs b) (h3 : ∀ t, t ≠ s → gs₉ t = gs t) : qAg (zmk us s) nr gs₉ b := fun t ht hu => by
  by_cases z : t = s
  · unfold zmk at hu
    rw [if_pos z] at hu
    exact absurd rfl hu
  · rw [h3 t z]
    exact h t ht hu
theorem Ag_us (e : us₉ = us) (h : qAg us nr gs a) : qAg us₉ nr gs a := e ▸ h
theorem Ag_new (h : qAg (zmk us s) nr gs b) (hN : qNs us nr kr kd ws at₉ ho wd wi ow rt wk wl wm nu ro fo le ra pi b s y kk w pl) (hE : qNe b y w pl) (h0 : gs s = 0) : qAg us nr gs (aRt (aAd b y (zFn y kk (w + 1) pl) L) r1 y) := fun t ht hu => by
  have q := Ne_b hE
  rw [rt_r (c := 131) (by decide) (by decide) (by decide) (by decide)]
  by_cases z : t = s
  · rw [z, hN.2.2.1, Ad_131 q.1, h0]
  · have hu2 : zmk us s t ≠ 0 := by
      unfold zmk
      rw [if_neg z]
      exact hu
    have al := R1_al hN.1.1 ht hu2
    have ne := ne_al hE al
    have hw := hE.2.2.2.1
    have A := Ad_of (b := b) (y := y) (kk := kk) (w := w) (pl := pl) (L := L) q.1 hw.1 hw.2 q.2.2.2.1 (by omega)
    have r : aMd (aAd b y (zFn y kk (w + 1) pl) L) y 131 = aAd b y (zFn y kk (w + 1) pl) L 131 := by
      funext k
      unfold aMd
      split <;> rw [xu_o (by omega)]
      all_goals first | rfl | rw [xu_o (by omega)]
    have e := A.2.1 131 _ (by decide) (by decide) ne
    rw [r] at e
    rw [e]
    exact h t ht hu2
theorem Dt_new (h : qDt dt b) : qDt dt (aRt (aAd b y (zFn y kk (w + 1) pl) L) r1 y) := Dt_cg h (by
  rw [rt_r (c := 83) (by decide) (by decide) (by decide) (by decide)]
  funext k
  exact ad_9 ⟨by decide, by decide⟩)
theorem AL_new (h : qAL b yo ol ag cd tp ot hf) : qAL (aRt (aAd b y (zFn y kk (w + 1) pl) L) r1 y) yo ol ag cd tp ot hf := AL_cg h (by
  rw [rt_r (c := 87) (by decide) (by decide) (by decide) (by decide)]
  funext k
  exact ad_87)
/-! room: what the code's tests say -/
theorem AL_hs (h : qAL a yo ol ag cd tp ot hf) (hv : qAv a) (hz : 1 ≤ z.toInt) (hz6 : z.toInt ≤ 61) : gHs a z.toInt ↔ (tp + z).toInt ≤ (ol + (hf + 1) * yo).toInt := by
  have b := AL_b h hv
  obtain ⟨⟨h1, h2, h3, h4⟩, h5, h6, h7, h8, h9⟩ := h
  have e1 : (tp + z).toInt = tp.toInt + z.toInt := i_add (by omega) (by omega)
  have e2 : (hf + (1 : Int32)).toInt = hf.toInt + 1 := i_p1 (by omega)
  have e3 := i_mul01 (x := hf + (1 : Int32)) (y := yo) (by omega) (by omega) (by omega) (by omega)
  have e4 : (ol + (hf + 1) * yo).toInt = ol.toInt + ((hf + 1) * yo).toInt := i_add (by omega) (by omega)
  unfold gHs
  rw [h5, h1, e1, e4]
  rcases h7 with w | w
  · rw [h8 w]
    omega
  · rw [h9 w]
    omega
theorem AL_ob (h : qAL a yo ol ag cd tp ot hf) (hv : qAv a) (hz : 1 ≤ z.toInt) (hz6 : z.toInt ≤ 61) : (a 87 9).toInt < (a 87 10).toInt + z.toInt ↔ ol.toInt < (ot + z).toInt := by
  have b := AL_b h hv
  have e1 : (ot + z).toInt = ot.toInt + z.toInt := i_add (by omega) (by omega)
  rw [h.1.2.1, h.2.2.1, e1]
theorem AL_2 (h : qAL a yo ol ag cd tp ot hf) (hv : qAv a) : (a 87 5).toInt / 2 = (yo / (2 : Int32)).toInt := by
  have b := AL_b h hv
  have d := (i_div (x := yo) (y := (2 : Int32)) (by omega) (by decide)).2.2.1
  have t2 : (2 : Int32).toInt = 2 := rfl
  rw [t2] at d
  rw [h.1.1, d]
theorem AL_yo (h : qAL a yo ol ag cd tp ot hf) (hv : qAv a) : (a 87 9).toInt ≤ tp.toInt := by
  have b4 := hv.2.2.2.1
  have b5 := hv.2.2.2.2.1
  have b3 := hv.2.2.1
  rw [← h.2.1]
  omega
theorem E_b0 (h : qAL a yo ol ag cd tp ot hf) (hv : qAv a) (hz : 1 ≤ z.toInt) (hz6 : z.toInt ≤ 61) (h2 : (yo / (2 : Int32)).toInt < z.toInt) (hn : ¬ ol.toInt < (ot + z).toInt) : gRs a z.toInt = a ∧ qEq ot.toInt (gRp a z.toInt) ∧ ot.toInt < (gRs a z.toInt 87 9).toInt := by
  have E := Rs_go (a := a) (z := z.toInt) (by rw [AL_2 h hv]; exact h2) (Ro_n (fun w => hn ((AL_ob h hv hz hz6).mp w)))
  have b := AL_b h hv
  have e1 : (ot + z).toInt = ot.toInt + z.toInt := i_add (by omega) (by omega)
  refine ⟨E.1, ?_, ?_⟩
  · unfold qEq
    rw [E.2.2 (fun w => hn ((AL_ob h hv hz hz6).mp w)), h.2.2.1]
  · rw [E.1, h.1.2.1]
    omega
theorem E_b1 (h : qAL a yo ol ag cd tp ot hf) (hv : qAv a) (hz : 1 ≤ z.toInt) (hz6 : z.toInt ≤ 61) (h2 : (yo / (2 : Int32)).toInt < z.toInt) (hn : ol.toInt < (ot + z).toInt) {tp2 ot2 hf2 : Int32} (hh : qAL (gMa a) yo ol ag cd tp2 ot2 hf2) (hv2 : qAv (gMa a)) : gRs a z.toInt = gMa a ∧ (ol.toInt < (ot2 + z).toInt → qEq (-1 : Int32).toInt (gRp a z.toInt)) ∧ (¬ ol.toInt < (ot2 + z).toInt → qEq ot2.toInt (gRp a z.toInt) ∧ ot2.toInt < (gRs a z.toInt 87 9).toInt) := by
  have E := Rs_go (a := a) (z := z.toInt) (by rw [AL_2 h hv]; exact h2) (gRo_y ((AL_ob h hv hz hz6).mpr hn))
  have b := AL_b hh hv2
  have e1 : (ot2 + z).toInt = ot2.toInt + z.toInt := i_add (by omega) (by omega)
  refine ⟨E.1, fun w => ?_, fun w => ⟨?_, ?_⟩⟩
  · unfold qEq
    rw [E.2.1 ((AL_ob hh hv2 hz hz6).mpr w)]
    rfl
  · unfold qEq
    rw [E.2.2 (fun y => w ((AL_ob hh hv2 hz hz6).mp y)), hh.2.2.1]
  · rw [E.1, hh.1.2.1]
    omega
theorem E_s0 (h : qAL a yo ol ag cd tp ot hf) (hv : qAv a) (hz : 1 ≤ z.toInt) (hz6 : z.toInt ≤ 61) (h2 : ¬ (yo / (2 : Int32)).toInt < z.toInt) (hs : (tp + z).toInt ≤ (ol + (hf + 1) * yo).toInt) : gRs a z.toInt = a ∧ qEq tp.toInt (gRp a z.toInt) ∧ (gRs a z.toInt 87 9).toInt ≤ tp.toInt := by
  have g := (AL_hs h hv hz hz6).mpr hs
  have E := Rs_gy (a := a) (z := z.toInt) (by rw [AL_2 h hv]; exact h2) (R1_gy g) (R2_gy g)
  refine ⟨E.1, ?_, ?_⟩
  · unfold qEq
    rw [E.2.1 g, h.2.1]
  · rw [E.1]
    exact AL_yo h hv
theorem E_s1 (h : qAL a yo ol ag cd tp ot hf) (hv : qAv a) (hz : 1 ≤ z.toInt) (hz6 : z.toInt ≤ 61) (h2 : ¬ (yo / (2 : Int32)).toInt < z.toInt) (hs : ¬ (tp + z).toInt ≤ (ol + (hf + 1) * yo).toInt) {tp2 ot2 hf2 : Int32} (hh : qAL (gMi a) yo ol ag cd tp2 ot2 hf2) (hv2 : qAv (gMi a)) (hs2 : (tp2 + z).toInt ≤ (ol + (hf2 + 1) * yo).toInt) : gRs a z.toInt = gMi a ∧ qEq tp2.toInt (gRp a z.toInt) ∧ (gRs a z.toInt 87 9).toInt ≤ tp2.toInt := by
  have g := (AL_hs hh hv2 hz hz6).mpr hs2
  have E := Rs_gy (a := a) (z := z.toInt) (by rw [AL_2 h hv]; exact h2) (R1_gn (fun w => hs ((AL_hs h hv hz hz6).mp w))) (R2_gy g)
  refine ⟨E.1, ?_, ?_⟩
  · unfold qEq
    rw [E.2.1 g, hh.2.1]
  · rw [E.1]
    exact AL_yo hh hv2
theorem E_s3 (h : qAL a yo ol ag cd tp ot hf) (hv : qAv a) (hz : 1 ≤ z.toInt) (hz6 : z.toInt ≤ 61) (h2 : ¬ (yo / (2 : Int32)).toInt < z.toInt) (hs : ¬ (tp + z).toInt ≤ (ol + (hf + 1) * yo).toInt) {tp2 ot2 hf2 tp3 ot3 hf3 : Int32} (hh : qAL (gMi a) yo ol ag cd tp2 ot2 hf2) (hv2 : qAv (gMi a)) (hs2 : ¬ (tp2 + z).toInt ≤ (ol + (hf2 + 1) * yo).toInt) (h3 : qAL (gMi (gMa (gMi a))) yo ol ag cd tp3 ot3 hf3) (hv3 : qAv (gMi (gMa (gMi a)))) : gRs a z.toInt = gMi (gMa (gMi a)) ∧ (¬ (tp3 + z).toInt ≤ (ol + (hf3 + 1) * yo).toInt → qEq (-1 : Int32).toInt (gRp a z.toInt)) ∧ ((tp3 + z).toInt ≤ (ol + (hf3 + 1) * yo).toInt → qEq tp3.toInt (gRp a z.toInt) ∧ (gRs a z.toInt 87 9).toInt ≤ tp3.toInt) := by
  have E := Rs_gy (a := a) (z := z.toInt) (by rw [AL_2 h hv]; exact h2) (R1_gn (fun w => hs ((AL_hs h hv hz hz6).mp w))) (R2_gn (fun w => hs2 ((AL_hs hh hv2 hz hz6).mp w)))
  refine ⟨E.1, fun w => ?_, fun w => ⟨?_, ?_⟩⟩
  · unfold qEq
    rw [E.2.2 (fun y => w ((AL_hs h3 hv3 hz hz6).mp y))]
    rfl
  · unfold qEq
    rw [E.2.1 ((AL_hs h3 hv3 hz hz6).mpr w), h3.2.1]
  · rw [E.1]
    exact AL_yo h3 hv3
end F38

