/-! AGES, the class (written by wip/tools/gen15y.py) -/
/-! AGES: a walk with a floor is one without, where those below are BLACK already -/
def aPc (a : Nat → Nat → Int32) : Nat → Nat → Int32 := fun c k => if c = 75 ∧ k = 5 then 0 else if c = 77 ∧ k < 512 ∧ a 126 k ≠ 0 ∧ (a 130 k).toInt < (a 75 5).toInt then 2 else a c k
section F22
variable {a b : Nat → Nat → Int32} {x y i : Int32} {c k n m f c0 k0 : Nat} {p e : Int}
theorem Pc_o (h : c ≠ 75) (h2 : c ≠ 77) : aPc a c k = a c k := (if_neg (fun w => h w.1)).trans (if_neg (fun w => h2 w.1))
theorem Pc_r (h : c ≠ 75) (h2 : c ≠ 77) : aPc a c = a c := funext (fun _ => Pc_o h h2)
theorem Pc_5 : aPc a 75 5 = 0 := if_pos ⟨rfl, rfl⟩
theorem Pc_75 (h : k ≠ 5) : aPc a 75 k = a 75 k := (if_neg (fun w => h w.2)).trans (if_neg (fun w => absurd w.1 (by decide)))
theorem Pc_7o (h : k < 512) (h6 : a 126 k ≠ 0) (hp : (a 130 k).toInt < (a 75 5).toInt) : aPc a 77 k = 2 := (if_neg (fun w => absurd w.1 (by decide))).trans (if_pos ⟨rfl, h, h6, hp⟩)
theorem Pc_7y (h : ¬ (k < 512 ∧ a 126 k ≠ 0 ∧ (a 130 k).toInt < (a 75 5).toInt)) : aPc a 77 k = a 77 k := (if_neg (fun w => absurd w.1 (by decide))).trans (if_neg (fun w => h w.2))
theorem Pc_u1 (h1 : c0 ≠ 126) (h2 : c0 ≠ 130) (h3 : ¬ (c0 = 75 ∧ k0 = 5)) (h4 : ¬ (c0 = 77 ∧ k0 < 512 ∧ a 126 k0 ≠ 0 ∧ (a 130 k0).toInt < (a 75 5).toInt) ∨ (c0 = 77 ∧ x = 2)) : aPc (ma_u a c0 k0 x) = ma_u (aPc a) c0 k0 x := by
  have r1 : ma_u a c0 k0 x 126 = a 126 := ma_u_ne _ _ _ (fun z => h1 z.symm)
  have r2 : ma_u a c0 k0 x 130 = a 130 := ma_u_ne _ _ _ (fun z => h2 z.symm)
  have r3 : ma_u a c0 k0 x 75 5 = a 75 5 := xu_o (fun z => h3 ⟨z.1.symm, z.2.symm⟩)
  funext c k
  unfold aPc
  rw [r1, r2, r3]
  show (if c = 75 ∧ k = 5 then 0 else if c = 77 ∧ k < 512 ∧ a 126 k ≠ 0 ∧ (a 130 k).toInt < (a 75 5).toInt then 2 else (if c = c0 ∧ k = k0 then x else a c k)) = (if c = c0 ∧ k = k0 then x else (if c = 75 ∧ k = 5 then 0 else if c = 77 ∧ k < 512 ∧ a 126 k ≠ 0 ∧ (a 130 k).toInt < (a 75 5).toInt then 2 else a c k))
  by_cases w0 : c = c0 ∧ k = k0
  · rw [if_pos w0, if_pos w0, if_neg (fun z => h3 ⟨w0.1 ▸ z.1, w0.2 ▸ z.2⟩)]
    by_cases w1 : c = 77 ∧ k < 512 ∧ a 126 k ≠ 0 ∧ (a 130 k).toInt < (a 75 5).toInt
    · rw [if_pos w1]
      rcases h4 with z | z
      · rw [w0.1, w0.2] at w1
        exact absurd w1 z
      · exact z.2.symm
    · rw [if_neg w1]
  · rw [if_neg w0, if_neg w0]
theorem Pc_al : xAl (aPc a) n ↔ xAl a n := by
  unfold xAl
  rw [Pc_o (by decide) (by decide)]
theorem Pc_rf : aRef (aPc a) n i = aRef a n i := rf_cg (Pc_r (by omega) (by omega)) (Pc_r (by decide) (by decide)) (Pc_r (by decide) (by decide))
/-- WHITE ones -/
theorem Pc_w (h0 : 0 ≤ (a 75 5).toInt) (hn : n < 512) (h6 : a 126 n ≠ 0) : ((a 75 5).toInt ≤ (a 130 n).toInt ∧ a 77 n = 0) ↔ ((aPc a 75 5).toInt ≤ (aPc a 130 n).toInt ∧ aPc a 77 n = 0) := by
  rw [Pc_5, Pc_o (c := 130) (by decide) (by decide)]
  have z0 : (0 : Int32).toInt = 0 := rfl
  by_cases w : (a 130 n).toInt < (a 75 5).toInt
  · rw [Pc_7o hn h6 w]
    exact ⟨fun z => by omega, fun z => absurd z.2 (by decide)⟩
  · rw [Pc_7y (fun z => w z.2.2)]
    exact ⟨fun z => ⟨by omega, z.2⟩, fun z => ⟨by omega, z.2⟩⟩
theorem Pc_cm (h0 : 0 ≤ (a 75 5).toInt) : aPc (aCm a y) = aCm (aPc a) y := by
  unfold aCm
  rw [Pc_o (c := 126) (by decide) (by decide), Pc_75 (k := 4) (by decide)]
  by_cases w : 0 ≤ y.toInt ∧ y.toInt < 512 ∧ a 126 y.toNatClampNeg ≠ 0 ∧ (a 75 5).toInt ≤ (a 130 y.toNatClampNeg).toInt ∧ (a 75 4).toInt < 512 ∧ a 77 y.toNatClampNeg = 0
  · have hn : y.toNatClampNeg < 512 := by
      have := tn_cast w.1
      omega
    have q := (Pc_w h0 hn w.2.2.1).mp ⟨w.2.2.2.1, w.2.2.2.2.2⟩
    rw [if_pos w, if_pos ⟨w.1, w.2.1, w.2.2.1, q.1, w.2.2.2.2.1, q.2⟩]
    rw [Pc_u1 (by decide) (by decide) (by decide) (Or.inl (by omega)), Pc_u1 (by decide) (by decide) (by omega) (Or.inl (by omega)), Pc_u1 (by decide) (by decide) (by omega) (Or.inl (fun z => by omega))]
  · rw [if_neg w, if_neg (fun z => w ?_)]
    have hn : y.toNatClampNeg < 512 := by
      have := tn_cast z.1
      omega
    have q := (Pc_w h0 hn z.2.2.1).mpr ⟨z.2.2.2.1, z.2.2.2.2.2⟩
    exact ⟨z.1, z.2.1, z.2.2.1, q.1, z.2.2.2.2.1, q.2⟩
theorem cm_5 : aCm a y 75 5 = a 75 5 := aCm_5
theorem Pc_cwf : ∀ (f : Nat) (i : Int32) (a : Nat → Nat → Int32), 0 ≤ (a 75 5).toInt → aPc (aCwf m f i a) = aCwf m f i (aPc a) := by
  intro f
  induction f with
  | zero => intro i a _; rfl
  | succ f ih =>
    intro i a h
    show aPc (aCwf m f (i + 1) (aCm a (aRef a m i))) = aCwf m f (i + 1) (aCm (aPc a) (aRef (aPc a) m i))
    rw [ih _ _ (by rw [aCm_5]; exact h), Pc_cm h, Pc_rf]
theorem cwf_5 : ∀ (f : Nat) (i : Int32) (a : Nat → Nat → Int32), aCwf m f i a 75 5 = a 75 5 := by
  intro f
  induction f with
  | zero => intro i a; rfl
  | succ f ih =>
    intro i a
    show aCwf m f (i + 1) (aCm a (aRef a m i)) 75 5 = a 75 5
    rw [ih, aCm_5]
theorem pop_5 : aPop a 75 5 = a 75 5 := by
  unfold aPop
  split
  · unfold aCw
    rw [cwf_5, xu_o (by omega), xu_o (by omega)]
  · rw [xu_o (by omega)]
theorem Pc_pop (h : 0 ≤ (a 75 5).toInt) : aPc (aPop a) = aPop (aPc a) := by
  unfold aPop
  rw [Pc_75 (k := 3) (by decide), Pc_o (c := 76) (by decide) (by decide), Pc_o (c := 126) (by decide) (by decide)]
  split
  · unfold aCw
    rw [Pc_cwf _ _ _ (by rw [xu_o (by omega), xu_o (by omega)]; exact h), Pc_u1 (by decide) (by decide) (by omega) (Or.inr ⟨rfl, rfl⟩), Pc_u1 (by decide) (by decide) (by decide) (Or.inl (by omega)), xu_o (c := 128) (by omega), xu_o (c := 128) (by omega), xu_o (c := 128) (by omega), xu_o (c := 128) (by omega), Pc_o (c := 128) (by decide) (by decide)]
  · rw [Pc_u1 (by decide) (by decide) (by decide) (Or.inl (by omega))]
theorem sp_5 : ∀ (f : Nat) (a : Nat → Nat → Int32), aSp f a 75 5 = a 75 5 := by
  intro f
  induction f with
  | zero => intro a; rfl
  | succ f ih =>
    intro a
    show (if (a 75 3).toInt < (a 75 4).toInt then aSp f (aPop a) else a) 75 5 = a 75 5
    split
    · rw [ih, pop_5]
    · rfl
theorem Pc_sp : ∀ (f : Nat) (a : Nat → Nat → Int32), 0 ≤ (a 75 5).toInt → aPc (aSp f a) = aSp f (aPc a) := by
  intro f
  induction f with
  | zero => intro a _; rfl
  | succ f ih =>
    intro a h
    show aPc (if (a 75 3).toInt < (a 75 4).toInt then aSp f (aPop a) else a) = (if (aPc a 75 3).toInt < (aPc a 75 4).toInt then aSp f (aPop (aPc a)) else aPc a)
    rw [Pc_75 (k := 3) (by decide), Pc_75 (k := 4) (by decide)]
    split
    · rw [ih _ (by rw [pop_5]; exact h), Pc_pop h]
    · rfl
theorem Pc_hf : ∀ (f : Nat) (n : Int32) (a : Nat → Nat → Int32), 0 ≤ (a 75 5).toInt → aPc (aHf f n a) = aHf f n (aPc a) := by
  intro f
  induction f with
  | zero => intro n a _; rfl
  | succ f ih =>
    intro n a h
    show aPc (aHf f (n + 1) (if 0 ≤ n.toInt ∧ n.toInt < 512 ∧ a 126 n.toNatClampNeg ≠ 0 ∧ 0 < (a 133 n.toNatClampNeg).toInt then aCm a n else a)) = aHf f (n + 1) (if 0 ≤ n.toInt ∧ n.toInt < 512 ∧ aPc a 126 n.toNatClampNeg ≠ 0 ∧ 0 < (aPc a 133 n.toNatClampNeg).toInt then aCm (aPc a) n else aPc a)
    rw [Pc_o (c := 126) (by decide) (by decide), Pc_o (c := 133) (by decide) (by decide)]
    split
    · rw [ih _ _ (by rw [aCm_5]; exact h), Pc_cm h]
    · exact ih _ _ h
theorem Pc_wf : ∀ (f : Nat) (n : Int32) (a : Nat → Nat → Int32), 0 ≤ (a 75 5).toInt → aPc (aWf f n a) = aWf f n (aPc a) := by
  intro f
  induction f with
  | zero =>
    intro n a h
    show aPc (aHo a 0) = aHo (aPc a) 0
    unfold aHo
    rw [Pc_o (c := 69) (by decide) (by decide)]
    exact Pc_hf _ _ _ h
  | succ f ih =>
    intro n a h
    show aPc (aWf f (n + 1) (aCm a (a 74 n.toNatClampNeg))) = aWf f (n + 1) (aCm (aPc a) (aPc a 74 n.toNatClampNeg))
    rw [ih _ _ (by rw [aCm_5]; exact h), Pc_cm h, Pc_o (c := 74) (by decide) (by decide)]
theorem Pc_rof : ∀ (f : Nat) (n : Int32) (a : Nat → Nat → Int32), 0 ≤ (a 75 5).toInt → aPc (aRf f n a) = aRf f n (aPc a) := by
  intro f
  induction f with
  | zero =>
    intro n a h
    show aPc (aWi a 0) = aWi (aPc a) 0
    unfold aWi
    rw [Pc_o (c := 69) (by decide) (by decide)]
    exact Pc_wf _ _ _ h
  | succ f ih =>
    intro n a h
    show aPc (aRf f (n + 1) (aCm a (a 72 n.toNatClampNeg))) = aRf f (n + 1) (aCm (aPc a) (aPc a 72 n.toNatClampNeg))
    rw [ih _ _ (by rw [aCm_5]; exact h), Pc_cm h, Pc_o (c := 72) (by decide) (by decide)]
theorem Pc_gr : aPc (aGr a y) = aGr (aPc a) y := by
  have r : ∀ c, c ≠ 73 → c ≠ 74 → c ≠ 69 → c ≠ 134 → aGr a y c = a c := fun c h1 h2 h3 h4 => gr_r h1 h4 h2 h3
  have uw : zUw (aPc a) y 16 = fun (c k : Nat) => if c = 73 ∧ (k : Int) < 16 ∧ a 73 k = y then -1 else aPc a c k := by
    funext c k
    unfold zUw
    rw [Pc_o (c := 73) (by decide) (by decide)]
  funext c k
  by_cases w5 : c = 75 ∧ k = 5
  · rw [w5.1, w5.2, Pc_5, gr_r (by decide) (by decide) (by decide) (by decide), Pc_5]
  · by_cases w : c = 75 ∨ c = 77
    · rw [show aGr (aPc a) y c = aPc a c from gr_r (by omega) (by omega) (by omega) (by omega)]
      unfold aPc
      rw [r 126 (by decide) (by decide) (by decide) (by decide), r 130 (by decide) (by decide) (by decide) (by decide), r 75 (by decide) (by decide) (by decide) (by decide), r c (by omega) (by omega) (by omega) (by omega)]
    · rw [Pc_o (by omega) (by omega)]
      have o : ∀ c' k', c' ≠ 75 → c' ≠ 77 → aPc a c' k' = a c' k' := fun c' k' h1 h2 => Pc_o h1 h2
      unfold aGr
      rw [o 69 5 (by decide) (by decide)]
      split
      · show (if c = 69 ∧ k = 5 then _ else if c = 74 ∧ k = _ then _ else if c = 134 ∧ k = _ then _ else zUw a y 16 c k) = (if c = 69 ∧ k = 5 then _ else if c = 74 ∧ k = _ then _ else if c = 134 ∧ k = _ then _ else zUw (aPc a) y 16 c k)
        unfold zUw
        rw [o 73 k (by decide) (by decide), o c k (by omega) (by omega)]
      · show (if c = 134 ∧ k = _ then _ else zUw a y 16 c k) = (if c = 134 ∧ k = _ then _ else zUw (aPc a) y 16 c k)
        unfold zUw
        rw [o 73 k (by decide) (by decide), o c k (by omega) (by omega)]
theorem gr_5c : aGr a y 75 5 = a 75 5 := congrFun (gr_r (by decide) (by decide) (by decide) (by decide)) 5
theorem Pc_gc (h : 0 ≤ (a 75 5).toInt) : aGc (aPc a) x ↔ aGc a x := by
  unfold aGc
  rw [Pc_o (c := 126) (by decide) (by decide), Pc_o (c := 134) (by decide) (by decide)]
  constructor
  · intro z
    have hn : x.toNatClampNeg < 512 := by
      have := tn_cast z.1
      have := z.2.1
      omega
    have q := (Pc_w h hn z.2.2.1).mpr ⟨z.2.2.2.2.1, z.2.2.2.2.2⟩
    exact ⟨z.1, z.2.1, z.2.2.1, z.2.2.2.1, q.1, q.2⟩
  · intro z
    have hn : x.toNatClampNeg < 512 := by
      have := tn_cast z.1
      have := z.2.1
      omega
    have q := (Pc_w h hn z.2.2.1).mp ⟨z.2.2.2.2.1, z.2.2.2.2.2⟩
    exact ⟨z.1, z.2.1, z.2.2.1, z.2.2.2.1, q.1, q.2⟩
theorem gf_5 : ∀ (f : Nat) (n : Int32) (a : Nat → Nat → Int32), aGf f n a 75 5 = a 75 5 := by
  intro f
  induction f with
  | zero => intro n a; rfl
  | succ f ih =>
    intro n a
    by_cases w : aGc a n
    · rw [aGf_y w, ih, sp_5, aCm_5, gr_5c]
    · rw [aGf_n w, ih]
theorem Pc_gf : ∀ (f : Nat) (n : Int32) (a : Nat → Nat → Int32), 0 ≤ (a 75 5).toInt → aPc (aGf f n a) = aGf f n (aPc a) := by
  intro f
  induction f with
  | zero => intro n a _; rfl
  | succ f ih =>
    intro n a h
    by_cases w : aGc a n
    · rw [aGf_y w, aGf_y ((Pc_gc h).mpr w), ih _ _ (by rw [sp_5, aCm_5, gr_5c]; exact h), Pc_sp _ _ (by rw [aCm_5, gr_5c]; exact h), Pc_cm (by rw [gr_5c]; exact h), Pc_gr]
    · rw [aGf_n w, aGf_n (fun z => w ((Pc_gc h).mp z))]
      exact ih _ _ h
theorem Pc_gw (h : 0 ≤ (a 75 5).toInt) : aPc (aGw a 0) = aGw (aPc a) 0 := by
  unfold aGw
  rw [Pc_o (c := 69) (by decide) (by decide)]
  exact Pc_gf _ _ _ h
theorem Pc_cx {j : Int} : gCx (aPc a) n j = gCx a n j := by
  unfold gCx
  rw [Pc_o (c := 130) (by decide) (by decide), Pc_o (c := 87) (by decide) (by decide)]
theorem Pc_dc : ∀ (f : Nat) (i : Int32) (a : Nat → Nat → Int32), 0 ≤ (a 75 5).toInt → aPc (gDc m f i a) = gDc m f i (aPc a) := by
  intro f
  induction f with
  | zero => intro i a _; rfl
  | succ f ih =>
    intro i a h
    show aPc (gDc m f (i + 1) (if 0 < (a 87 12).toInt ∧ gCx a m i.toInt < 375 ∧ a 83 (gCx a m i.toInt).toNat ≠ 0 then aCm a (aRef a m i) else a)) = gDc m f (i + 1) (if 0 < (aPc a 87 12).toInt ∧ gCx (aPc a) m i.toInt < 375 ∧ aPc a 83 (gCx (aPc a) m i.toInt).toNat ≠ 0 then aCm (aPc a) (aRef (aPc a) m i) else aPc a)
    rw [Pc_cx, Pc_o (c := 87) (by decide) (by decide), Pc_o (c := 83) (by decide) (by decide), Pc_rf]
    split
    · rw [ih _ _ (by rw [aCm_5]; exact h), Pc_cm h]
    · exact ih _ _ h
theorem dc_5 : ∀ (f : Nat) (i : Int32) (a : Nat → Nat → Int32), gDc m f i a 75 5 = a 75 5 := by
  intro f
  induction f with
  | zero => intro i a; rfl
  | succ f ih =>
    intro i a
    show gDc m f (i + 1) (if _ then aCm a (aRef a m i) else a) 75 5 = a 75 5
    rw [ih]
    split
    · exact aCm_5
    · rfl
theorem Pc_dw (h : 0 ≤ (a 75 5).toInt) : aPc (gDw a n i) = gDw (aPc a) n i := by
  unfold gDw
  rw [Pc_o (c := 128) (by decide) (by decide)]
  exact Pc_dc _ _ _ h
theorem Pc_df : ∀ (f : Nat) (a : Nat → Nat → Int32) (p : Int), 0 ≤ (a 75 5).toInt → aPc (gDf e f a p) = gDf e f (aPc a) p := by
  intro f
  induction f with
  | zero => intro a p _; rfl
  | succ f ih =>
    intro a p h
    have ob : zOb (aPc a) p = zOb a p := gOb_cg (Pc_r (by decide) (by decide)) (Pc_r (by decide) (by decide))
    by_cases c : p < e
    · by_cases d : (zOb a p).toInt < 0
      · rw [gDf_fr c d, gDf_fr c (by rw [ob]; exact d)]
        exact ih _ _ h
      · rw [gDf_go c (by omega), gDf_go c (by rw [ob]; omega), ob, ih _ _ (by unfold gDw; rw [dc_5]; exact h), Pc_dw h, Pc_o (c := 128) (by decide) (by decide)]
    · rw [gDf_e c, gDf_e c]
theorem Pc_dp (h : 0 ≤ (a 75 5).toInt) : aPc (gDp a e p) = gDp (aPc a) e p := Pc_df _ _ _ h
theorem df_5 : ∀ (f : Nat) (a : Nat → Nat → Int32) (p : Int), gDf e f a p 75 5 = a 75 5 := by
  intro f
  induction f with
  | zero => intro a p; rfl
  | succ f ih =>
    intro a p
    by_cases c : p < e
    · by_cases d : (zOb a p).toInt < 0
      · rw [gDf_fr c d, ih]
      · rw [gDf_go c (by omega), ih]
        exact dc_5 _ _ _
    · rw [gDf_e c]
theorem Pc_rm (hy : y.toNatClampNeg < 512) (hp : (a 75 5).toInt ≤ (a 130 y.toNatClampNeg).toInt) : aPc (aRm a y) = aRm (aPc a) y := by
  have o : ∀ c' k', c' ≠ 75 → c' ≠ 77 → aPc a c' k' = a c' k' := fun c' k' h1 h2 => Pc_o h1 h2
  have r5 : aRm a y 75 5 = a 75 5 := aRm_o (by decide) ⟨by decide, by decide, by decide, by decide⟩
  have t : ∀ f n, 126 ≤ f → f < 1000 → n ≠ y.toNatClampNeg → aRm a y f n = a f n := fun f n h1 h2 h3 => by
    unfold aRm
    rw [xu_o (by omega), xu_o (by omega)]
    unfold zNo
    rw [if_neg (by omega)]
    unfold zFr
    rw [if_neg (by omega)]
    unfold zUw
    rw [if_neg (by omega)]
  have t0 : aRm a y 126 y.toNatClampNeg = 0 := by
    unfold aRm
    rw [xu_o (by omega), xu_o (by omega)]
    unfold zNo
    rw [if_pos (Or.inl ⟨by decide, by decide, rfl⟩)]
  funext c k
  by_cases w : c = 75 ∨ c = 77
  · have e1 : aRm (aPc a) y c k = aPc a c k := aRm_o (by omega) ⟨by omega, by omega, by omega, by omega⟩
    have e2 : aRm a y c k = a c k := aRm_o (by omega) ⟨by omega, by omega, by omega, by omega⟩
    rw [e1]
    unfold aPc
    rw [r5, e2]
    by_cases z : k = y.toNatClampNeg
    · rw [z, t0, if_neg (c := c = 77 ∧ _) (fun q => q.2.2.1 rfl), if_neg (c := c = 77 ∧ _) (fun q => by omega)]
    · rw [t 126 k (by decide) (by decide) z, t 130 k (by decide) (by decide) z]
  · rw [Pc_o (by omega) (by omega)]
    have uw : ∀ c' k', c' ≠ 75 → c' ≠ 77 → zUw (aPc a) y 16 c' k' = zUw a y 16 c' k' := fun c' k' h1 h2 => by
      unfold zUw
      rw [o 73 k' (by decide) (by decide), o c' k' h1 h2]
    unfold aRm
    rw [o 130 _ (by decide) (by decide), o 128 _ (by decide) (by decide), o 69 _ (by decide) (by decide), o 69 _ (by decide) (by decide)]
    show (if c = 69 ∧ k = 11 then _ else if c = 69 ∧ k = 8 then _ else zNo (zFr (zUw a y 16) _ _) _ c k) = (if c = 69 ∧ k = 11 then _ else if c = 69 ∧ k = 8 then _ else zNo (zFr (zUw (aPc a) y 16) _ _) _ c k)
    have e3 : zNo (zFr (zUw (aPc a) y 16) (a 130 y.toNatClampNeg).toInt (zMin (a 130 y.toNatClampNeg + a 128 y.toNatClampNeg).toInt)) y.toNatClampNeg c k = zNo (zFr (zUw a y 16) (a 130 y.toNatClampNeg).toInt (zMin (a 130 y.toNatClampNeg + a 128 y.toNatClampNeg).toInt)) y.toNatClampNeg c k := by
      unfold zNo zFr
      rw [uw c k (by omega) (by omega)]
    rw [e3]
theorem Pc_mc (h : 0 ≤ (a 75 5).toInt) : aMc (aPc a) x ↔ aMc a x := by
  unfold aMc
  rw [Pc_o (c := 126) (by decide) (by decide)]
  constructor
  · intro z
    have hn : x.toNatClampNeg < 512 := by
      have := tn_cast z.1
      have := z.2.1
      omega
    have q := (Pc_w h hn z.2.2.1).mpr ⟨z.2.2.2.1, z.2.2.2.2⟩
    exact ⟨z.1, z.2.1, z.2.2.1, q.1, q.2⟩
  · intro z
    have hn : x.toNatClampNeg < 512 := by
      have := tn_cast z.1
      have := z.2.1
      omega
    have q := (Pc_w h hn z.2.2.1).mp ⟨z.2.2.2.1, z.2.2.2.2⟩
    exact ⟨z.1, z.2.1, z.2.2.1, q.1, q.2⟩
theorem rm_5 : aRm a y 75 5 = a 75 5 := aRm_o (by decide) ⟨by decide, by decide, by decide, by decide⟩
theorem Pc_mf : ∀ (f : Nat) (n : Int32) (a : Nat → Nat → Int32), 0 ≤ (a 75 5).toInt → aPc (aMf f n a) = aMf f n (aPc a) := by
  intro f
  induction f with
  | zero => intro n a _; rfl
  | succ f ih =>
    intro n a h
    by_cases w : aMc a n
    · have hn : n.toNatClampNeg < 512 := by
        have := tn_cast w.1
        have := w.2.1
        omega
      rw [aMf_y w, aMf_y ((Pc_mc h).mpr w), ih _ _ (by rw [rm_5]; exact h), Pc_rm hn w.2.2.2.1]
    · rw [aMf_n w, aMf_n (fun z => w ((Pc_mc h).mp z))]
      exact ih _ _ h
theorem Pc_mv (h : 0 ≤ (a 75 5).toInt) : aPc (aMv a 0) = aMv (aPc a) 0 := by
  unfold aMv
  rw [Pc_o (c := 69) (by decide) (by decide)]
  exact Pc_mf _ _ _ h
theorem Pc_ro (h : 0 ≤ (a 75 5).toInt) : aPc (aRo a 0) = aRo (aPc a) 0 := Pc_rof _ _ _ h
theorem Pc_I (h : qI a) : qI (aPc a) := I_cg h (Pc_r (by decide) (by decide)) (Pc_r (by decide) (by decide)) (Pc_r (by decide) (by decide)) (Pc_r (by decide) (by decide)) (Pc_r (by decide) (by decide)) (Pc_r (by decide) (by decide)) (fun j => Pc_r (by omega) (by omega))
end F22
