/-! THE END OF A MARKING, STEPS, CLEANING, ROOM: alike in both -/
section SM1
variable {a b c a' b' : Nat → Nat → Int32} {x y z i : Int32} {n k u v : Nat} {p q : Int}
theorem Uw_of (h : zOf a b) : zOf (zUw a y p) (zUw b y p) := fun c' k' q1 q2 q3 => by
  unfold zUw
  rw [h 73 k' (by decide) (by decide) (by decide), h c' k' q1 q2 q3]
theorem gr_of (h : zOf a b) : zOf (aGr a y) (aGr b y) := by
  unfold aGr
  rw [h 69 5 (by decide) (by decide) (by decide)]
  split
  · exact of_u (of_u (of_u (Uw_of h)))
  · exact of_u (Uw_of h)
theorem rm_of (h : zOf a b) : zOf (aRm a y) (aRm b y) := by
  have f : ∀ p e : Int, zOf (zFr (zUw a y 16) p e) (zFr (zUw b y 16) p e) := fun p e c' k' q1 q2 q3 => by
    unfold zFr
    rw [Uw_of h c' k' q1 q2 q3]
  have g : ∀ (p e : Int) (m : Nat), zOf (zNo (zFr (zUw a y 16) p e) m) (zNo (zFr (zUw b y 16) p e) m) := fun p e m c' k' q1 q2 q3 => by
    unfold zNo
    rw [f p e c' k' q1 q2 q3]
  unfold aRm
  rw [h 130 _ (by decide) (by decide) (by decide), h 128 _ (by decide) (by decide) (by decide), h 69 8 (by decide) (by decide) (by decide), h 69 11 (by decide) (by decide) (by decide)]
  exact of_u (of_u (g _ _ _))
theorem rm_f (hf : 126 ≤ n) (h1 : n < 1000) : aRm a y n k = if k = y.toNatClampNeg then 0 else a n k := by
  show (if n = 69 ∧ k = 11 then _ else if n = 69 ∧ k = 8 then _ else zNo _ _ n k) = _
  rw [if_neg (by omega), if_neg (by omega)]
  unfold zNo
  by_cases w : k = y.toNatClampNeg
  · rw [if_pos (Or.inl ⟨hf, h1, w⟩), if_pos w]
  · rw [if_neg (by omega), if_neg w, zFr_o (by omega), zUw_o (by omega)]
theorem rm_fp (h : xFp a) : xFp (aRm a y) := by
  refine ⟨?_, fun x hx => ?_⟩
  · rw [aRm_o (by decide) ⟨by decide, by decide, by decide, by decide⟩]
    exact h.1
  · unfold xAl at hx
    rw [rm_f (by decide) (by decide)] at hx ⊢
    by_cases w : x = y.toNatClampNeg
    · rw [if_pos w]
      decide
    · rw [if_neg w] at hx ⊢
      exact h.2 x hx
def zPM (a b : Nat → Nat → Int32) : Prop := zOf a b ∧ (∀ x, zNn a x ↔ zNn b x) ∧ xFp a ∧ xFp b
theorem PM_0 (h : ∀ x, zNn a x ↔ zNn b x) (hx : u < 512) (w : a 77 u = 0) : b 77 u = 0 := Decidable.byContradiction (fun q => ((h u).mpr ⟨hx, q⟩).2 w)
theorem MC_1 (h : zPM a b) (w : aMc a x) : aMc b x := by
  obtain ⟨w1, w2, w3, w4, w5⟩ := w
  have cx := tn_cast w1
  have e := h.1 126 x.toNatClampNeg (by decide) (by decide) (by decide)
  rw [e] at w3
  have f := h.2.2.2
  have p := f.2 x.toNatClampNeg ⟨by omega, w3⟩
  have p0 := f.1
  exact ⟨w1, w2, w3, by omega, PM_0 h.2.1 (by omega) w5⟩
theorem PM_sy (h : zPM a b) : zPM b a := ⟨Of_sy h.1, fun x => (h.2.1 x).symm, h.2.2.2, h.2.2.1⟩
theorem aMf_y (z : aMc a x) : aMf (n + 1) x a = aMf n (x + 1) (aRm a x) := by
  show aMf n (x + 1) (if _ then aRm a x else a) = _
  unfold aMc at z
  rw [if_pos z]
theorem aMf_n (z : ¬ aMc a x) : aMf (n + 1) x a = aMf n (x + 1) a := by
  show aMf n (x + 1) (if _ then aRm a x else a) = _
  unfold aMc at z
  rw [if_neg z]
theorem Mf_of : ∀ (f : Nat) (x : Int32) (a b : Nat → Nat → Int32), zPM a b → zOf (aMf f x a) (aMf f x b) := by
  intro f
  induction f with
  | zero => intro x a b h; exact h.1
  | succ f ih =>
    intro x a b h
    by_cases w : aMc a x
    · rw [aMf_y w, aMf_y (MC_1 h w)]
      refine ih _ _ _ ⟨rm_of h.1, fun u => ?_, rm_fp h.2.2.1, rm_fp h.2.2.2⟩
      have e : ∀ d : Nat → Nat → Int32, zNn (aRm d x) u ↔ zNn d u := fun d => by
        unfold zNn
        rw [aRm_o (by decide) ⟨by decide, by decide, by omega, by omega⟩]
      rw [e, e]
      exact h.2.1 u
    · rw [aMf_n w, aMf_n (fun w2 => w (MC_1 (PM_sy h) w2))]
      exact ih _ _ _ h
/-- the grants -/
def zPQ (a b : Nat → Nat → Int32) : Prop := zOf a b ∧ qE0 a ∧ qE0 b ∧ ∀ x, zNn a x ↔ zNn b x
theorem PQ_sy (h : zPQ a b) : zPQ b a := ⟨Of_sy h.1, h.2.2.1, h.2.1, fun x => (h.2.2.2 x).symm⟩
theorem GC_1 (h : zPQ a b) (w : aGc a x) : aGc b x := by
  obtain ⟨w1, w2, w3, w4, w5, w6⟩ := w
  have m := MC_1 (x := x) ⟨h.1, h.2.2.2, h.2.1.1.2.2.2.2.2, h.2.2.1.1.2.2.2.2.2⟩ ⟨w1, w2, w3, w5, w6⟩
  rw [h.1 134 _ (by decide) (by decide) (by decide)] at w4
  exact ⟨w1, w2, m.2.2.1, w4, m.2.2.2.1, m.2.2.2.2⟩
theorem aGf_y (z : aGc a x) : aGf (n + 1) x a = aGf n (x + 1) (aSp 512 (aCm (aGr a x) x)) := by
  show aGf n (x + 1) (if _ then aSp 512 (aCm (aGr a x) x) else a) = _
  unfold aGc at z
  rw [if_pos z]
theorem aGf_n (z : ¬ aGc a x) : aGf (n + 1) x a = aGf n (x + 1) a := by
  show aGf n (x + 1) (if _ then aSp 512 (aCm (aGr a x) x) else a) = _
  unfold aGc at z
  rw [if_neg z]
theorem PQ_gr (h : zPQ a b) : zPQ (aSp 512 (aCm (aGr a y) y)) (aSp 512 (aCm (aGr b y) y)) := by
  have ea := E0_gr (y := y) h.2.1
  have eb := E0_gr (y := y) h.2.2.1
  have o := gr_of (y := y) h.1
  have nn : ∀ u, zNn (aGr a y) u ↔ zNn (aGr b y) u := fun u => by
    rw [Nn_gr, Nn_gr]
    exact h.2.2.2 u
  have mk : ∀ u, zMk (aGr a y) u ↔ zMk (aGr b y) u := fun u => by
    rw [Nn_end ea.1 ea.2, Nn_end eb.1 eb.2]
    exact nn u
  generalize aGr a y = A at *
  generalize aGr b y = B at *
  have sa := E0_sp (WQ_cm (y := y) ea.1)
  have sb := E0_sp (WQ_cm (y := y) eb.1)
  refine ⟨Of_tr (Of_sy sa.2) (Of_tr (of_cm o) sb.2), sa.1, sb.1, fun x => ?_⟩
  rw [sp_Nn (WQ_cm ea.1), sp_Nn (WQ_cm eb.1), Mk_cm ea.1, Mk_cm eb.1]
  refine zM_cg (fun u => ?_) mk (fun u v => (Of_ed o).symm)
  rw [mk u, Of_al o]
theorem Gf_of : ∀ (f : Nat) (x : Int32) (a b : Nat → Nat → Int32), zPQ a b → zPQ (aGf f x a) (aGf f x b) := by
  intro f
  induction f with
  | zero => intro x a b h; exact h
  | succ f ih =>
    intro x a b h
    by_cases w : aGc a x
    · rw [aGf_y w, aGf_y (GC_1 h w)]
      exact ih _ _ _ (PQ_gr h)
    · rw [aGf_n w, aGf_n (fun w2 => w (GC_1 (PQ_sy h) w2))]
      exact ih _ _ _ h
theorem Fi_of (h : zPP a b) (he : ¬ (a 75 3).toInt < (a 75 4).toInt) : zOf (aFi a) (aFi b) := by
  have hb : ¬ (b 75 3).toInt < (b 75 4).toInt := fun w => he ((PP_em h).mpr w)
  have nn : ∀ u, zNn (ma_u a 87 8 0) u ↔ zNn (ma_u b 87 8 0) u := fun u => by
    have e : ∀ d : Nat → Nat → Int32, zNn (ma_u d 87 8 0) u ↔ zNn d u := fun d => by
      unfold zNn
      rw [un (n := 77) (by decide)]
    rw [e, e, ← Nn_end h.2.1 he, ← Nn_end h.2.2.1 hb]
    exact h.2.2.2.2.1 u
  have q : zPQ (ma_u a 87 8 0) (ma_u b 87 8 0) := ⟨of_u h.1, E0_87 ⟨h.2.1, he⟩, E0_87 ⟨h.2.2.1, hb⟩, nn⟩
  have g : zPQ (aGw (ma_u a 87 8 0) 0) (aGw (ma_u b 87 8 0) 0) := by
    unfold aGw
    rw [q.1 69 6 (by decide) (by decide) (by decide)]
    exact Gf_of _ _ _ _ q
  unfold aFi
  generalize aGw (ma_u a 87 8 0) 0 = A at *
  generalize aGw (ma_u b 87 8 0) 0 = B at *
  unfold aMv
  rw [g.1 69 6 (by decide) (by decide) (by decide)]
  exact Mf_of _ _ _ _ ⟨g.1, g.2.2.2, g.2.1.1.2.2.2.2.2, g.2.2.1.1.2.2.2.2.2⟩
theorem I_gr2 (h : qI a) : qI (aGr a y) := by
  by_cases w : (a 69 5).toInt < 512
  · exact I_gr h w
  · have e : aGr a y 69 = a 69 := by
      funext j
      unfold aGr
      rw [if_neg w, xu_o (by omega), zUw_o (by decide)]
    exact I_cg h (gr_r (by decide) (by decide) (by decide) (by decide)) (gr_r (by decide) (by decide) (by decide) (by decide)) (gr_r (by decide) (by decide) (by decide) (by decide)) (gr_r (by decide) (by decide) (by decide) (by decide)) e (gr_r (by decide) (by decide) (by decide) (by decide)) (fun j => gr_r (by omega) (by omega) (by omega) (by omega))
theorem I_gf : ∀ (f : Nat) (x : Int32) (a : Nat → Nat → Int32), qI a → qE0 a → qI (aGf f x a) ∧ qE0 (aGf f x a) := by
  intro f
  induction f with
  | zero => intro x a h h2; exact ⟨h, h2⟩
  | succ f ih =>
    intro x a h h2
    by_cases w : aGc a x
    · rw [aGf_y w]
      have s := E0_sp (WQ_cm (y := x) (E0_gr (y := x) h2).1)
      exact ih _ _ (qI_of (qI_of (I_gr2 h) cm_of) s.2) s.1
    · rw [aGf_n w]
      exact ih _ _ h h2
theorem I_fi (hI : qI a) (hE : qE0 a) : qI (aFi a) := by
  have q := I_gf ((ma_u a 87 8 0 69 6).toInt - (0 : Int32).toInt).toNat 0 _ (I_87 (x := 0) hI) (E0_87 (x := 0) hE)
  exact I_mv q.1 q.2.1.2.2.2.2.2.1
/-- steps -/
theorem Tl_of (h : zWQ a) : xTl a := by
  have q := h.1.2.2
  have c : cnt (a 77) 512 ≤ 512 := cnt_le
  unfold xTl
  omega
theorem Sm_sp (h : qSm a b) (m : b 87 8 ≠ 0) : qSm (aSp n a) (aSp n b) ∧ aSn n a = aSn n b := by
  have w := h.2 m
  have s := PP_sp n a b w.1
  have sb := sp_all n b w.1.2.2.1
  refine ⟨⟨s.1.1, fun _ => ⟨s.1, fun x hx => (Of_al sb.2.1).mpr (Mk_al w.2.1 ((sb.2.2.1 x).mp (zM_in hx))), fun w7 => ?_⟩⟩, s.2⟩
  rw [Sp_87] at w7
  exact JJ_sp n a b (w.2.2 w7) (Tl_of w.1.2.1)
theorem Sm_nw (h : qSm a b) (m : b 87 8 ≠ 0) (hI : qI b) : qSm (aNw a) (aNw b) := by
  unfold aNw
  rw [h.1 87 7 (by decide) (by decide) (by decide)]
  split
  · rename_i w7
    have w := h.2 m
    have r := JJ_rf (16 - (0 : Int32).toInt).toNat 0 a b (w.2.2 w7) (Tl_of w.1.2.1)
    have g := gr_ro w.1.2.2.1 hI.2.2.2.1.1.2 hI.2.2.2.1.2.1.2
    exact Sm_J r.1 g.1 (NA_gr w.2.1 g)
  · exact h
theorem Sm_fi (h : qSm a b) (m : b 87 8 ≠ 0) (he : ¬ (b 75 3).toInt < (b 75 4).toInt) : qSm (aFi a) (aFi b) := Sm_0 (Fi_of (h.2 m).1 (fun w => he ((PP_em (h.2 m).1).mp w))) Fi_87
theorem Sm_lk (h : qSm a b) (m : b 87 8 ≠ 0) (hI : qI b) : qSm (aLk a) (aLk b) := by
  have p := (h.2 m).1
  unfold aLk
  by_cases e : (b 75 3).toInt < (b 75 4).toInt
  · rw [if_pos e, if_pos ((PP_em p).mpr e)]
    exact h
  · rw [if_neg e, if_neg (fun w => e ((PP_em p).mp w))]
    have h2 := Sm_nw h m hI
    have m2 : aNw b 87 8 ≠ 0 := by
      rw [Nw_87]
      exact m
    have p2 := (h2.2 m2).1
    by_cases e2 : (aNw b 75 3).toInt < (aNw b 75 4).toInt
    · rw [if_pos e2, if_pos ((PP_em p2).mpr e2)]
      exact h2
    · rw [if_neg e2, if_neg (fun w => e2 ((PP_em p2).mp w))]
      exact Sm_fi h2 m2 e2
/-- what the reference's heap keeps -/
def qK (b : Nat → Nat → Int32) : Prop := qI b ∧ (b 87 8 ≠ 0 → zWQ b)
theorem K_lk (hI : qI b) (hw : zWQ b) : qK (aLk b) := by
  unfold aLk
  by_cases e : (b 75 3).toInt < (b 75 4).toInt
  · rw [if_pos e]
    exact ⟨hI, fun _ => hw⟩
  · rw [if_neg e]
    have w := nw_wq hw hI.2.2.2.1.1.2 hI.2.2.2.1.2.1.2
    have I2 := qI_of hI w.2.1
    by_cases e2 : (aNw b 75 3).toInt < (aNw b 75 4).toInt
    · rw [if_pos e2]
      exact ⟨I2, fun _ => w.1⟩
    · rw [if_neg e2]
      exact ⟨I_fi I2 ⟨w.1, e2⟩, fun m => absurd Fi_87 m⟩
theorem Sm_go (h : qSm a b) (hK : qK b) : qSm (aGo a n) (aGo b n) ∧ aGv a n = aGv b n ∧ qK (aGo b n) := by
  unfold aGo aGv
  rw [h.1 87 8 (by decide) (by decide) (by decide)]
  by_cases m : b 87 8 = 0
  · rw [if_pos m, if_pos m, if_pos m, if_pos m]
    exact ⟨h, rfl, hK⟩
  · rw [if_neg m, if_neg m, if_neg m, if_neg m]
    have s := Sm_sp (n := n) h m
    have sb := sp_all n b (hK.2 m)
    have I2 := qI_of hK.1 sb.2.1
    refine ⟨Sm_lk s.1 (by rw [Sp_87]; exact m) I2, by rw [s.2], K_lk I2 sb.1⟩
/-- it begins -/
theorem K_b0 (hI : qI b) : qI (aB0 b) ∧ zWQ (aB0 b) ∧ zNA (aB0 b) := by
  have hI2 := I_87 (x := 1) hI
  have w := WQ_wh (a := ma_u b 87 8 1) (fun x hx => (hI2.1 x hx).1.2)
  have o := w.2.1
  have g := gr_ro w.1 (by rw [← o 69 6 (by decide) (by decide) (by decide)]; exact hI2.2.2.2.1.1.2) (by rw [← o 69 5 (by decide) (by decide) (by decide)]; exact hI2.2.2.2.1.2.1.2)
  exact ⟨qI_of (qI_of hI2 o) g.2.1, g.1, NA_gr (fun x hx => absurd hx (w.2.2 x)) g⟩
theorem Sm_b0 (h : zOf a b) (hI : qI b) : qSm (aB0 a) (aB0 b) := by
  have k := K_b0 hI
  have w := JJ_wh (of_u (n := 87) (k := 8) (x := 1) h)
  have r := JJ_rf (16 - (0 : Int32).toInt).toNat 0 _ _ w.1 w.2
  exact Sm_J r.1 k.2.1 k.2.2
theorem Sm_bg (h : qSm a b) (hK : qK b) : qSm (aBg a) (aBg b) ∧ qI (aBg b) ∧ zWQ (aBg b) ∧ aBg b 87 8 ≠ 0 := by
  unfold aBg
  rw [h.1 87 8 (by decide) (by decide) (by decide)]
  by_cases m : b 87 8 = 0
  · rw [if_pos m, if_pos m]
    have k := K_b0 hK.1
    exact ⟨Sm_b0 h.1 hK.1, k.1, k.2.1, by rw [B0_87]; decide⟩
  · rw [if_neg m, if_neg m]
    exact ⟨h, hK.1, hK.2 m, m⟩
/-- to the end -/
theorem K_c2 : ∀ (k : Nat) (a : Nat → Nat → Int32), qE0 a → qI a → (512 - (a 75 3).toInt).toNat ≤ k → qI (aC2 k a) ∧ qE0 (aC2 k a) := by
  intro k
  induction k with
  | zero => intro a h h2 _; exact ⟨h2, h⟩
  | succ k ih =>
    intro a hE hI hk
    have w := nw_wq hE.1 hI.2.2.2.1.1.2 hI.2.2.2.1.2.1.2
    by_cases hn : (aNw a 75 3).toInt < (aNw a 75 4).toInt
    · rw [aC2_y hn]
      have e := E0_sp w.1
      have hd := (sp_hd 512 _ w.1).2 hn (by decide)
      rw [w.2.2] at hd
      exact ih _ e.1 (qI_of (qI_of hI w.2.1) e.2) (by omega)
    · rw [aC2_n hn]
      exact ⟨qI_of hI w.2.1, w.1, hn⟩
theorem Sm_c2 : ∀ (k : Nat) (a b : Nat → Nat → Int32), qSm a b → b 87 8 ≠ 0 → qI b → qSm (aC2 k a) (aC2 k b) ∧ aC2 k b 87 8 ≠ 0 := by
  intro k
  induction k with
  | zero => intro a b h m _; exact ⟨h, m⟩
  | succ k ih =>
    intro a b h m hI
    have h2 := Sm_nw h m hI
    have m2 : aNw b 87 8 ≠ 0 := by
      rw [Nw_87]
      exact m
    have p2 := (h2.2 m2).1
    have w := nw_wq (h.2 m).1.2.2.1 hI.2.2.2.1.1.2 hI.2.2.2.1.2.1.2
    by_cases e2 : (aNw b 75 3).toInt < (aNw b 75 4).toInt
    · rw [aC2_y e2, aC2_y ((PP_em p2).mpr e2)]
      exact ih _ _ (Sm_sp h2 m2).1 (by rw [Sp_87]; exact m2) (qI_of (qI_of hI w.2.1) (sp_all 512 _ w.1).2.1)
    · rw [aC2_n e2, aC2_n (fun q => e2 ((PP_em p2).mp q))]
      exact ⟨h2, m2⟩
theorem Sm_cl (h : qSm a b) (hK : qK b) : qSm (aCl a) (aCl b) ∧ qK (aCl b) := by
  have g := Sm_bg h hK
  have s := (Sm_sp (n := 512) g.1 g.2.2.2).1
  have e := E0_sp g.2.2.1
  have I2 := qI_of g.2.1 e.2
  have m2 : aSp 512 (aBg b) 87 8 ≠ 0 := by
    rw [Sp_87]
    exact g.2.2.2
  have k2 := K_c2 512 _ e.1 I2 (by have := e.1.1.1.1; omega)
  have c2 := Sm_c2 512 _ _ s m2 I2
  exact ⟨Sm_fi c2.1 c2.2 k2.2.2, I_fi k2.1 k2.2, fun m => absurd Cl_8 m⟩
/-- free blocks -/
theorem Ob_of (h : zOf a b) : zOb a = zOb b := by
  funext p
  unfold zOb
  rw [h 71 _ (by decide) (by decide) (by decide), h 126 _ (by decide) (by decide) (by decide)]
theorem N_of (h : zOf a b) : aN a = aN b := by
  have e0 := h 87 0 (by decide) (by decide) (by decide)
  have f : ∀ (f : Nat) (p : Int), aNf a f p = aNf b f p := by
    intro f
    induction f with
    | zero =>
      intro p
      unfold aNf
      rw [e0]
    | succ f ih =>
      intro p
      unfold aNf
      rw [e0, Ob_of h, h 128 _ (by decide) (by decide) (by decide), ih]
  funext p
  unfold aN
  rw [e0, f]
theorem E_of (h : zOf a b) : aE a = aE b := by
  have e0 := h 87 0 (by decide) (by decide) (by decide)
  have f : ∀ (f : Nat) (p : Int), aEf a f p = aEf b f p := by
    intro f
    induction f with
    | zero =>
      intro p
      rfl
    | succ f ih =>
      intro p
      unfold aEf
      rw [e0, Ob_of h, ih]
  funext p
  unfold aE
  rw [e0, f]
theorem Ff_of (h : zOf a b) : ∀ (f : Nat) (q p z : Int), aFf a z q f p = aFf b z q f p := by
  intro f
  induction f with
  | zero =>
    intro q p z
    rfl
  | succ f ih =>
    intro q p z
    unfold aFf
    rw [E_of h, N_of h, ih]
theorem Fl_of (h : zOf a b) : ∀ (f : Nat) (p q l z : Int) (s : Int32), aFl a z s f p q l = aFl b z s f p q l := by
  intro f
  induction f with
  | zero =>
    intro p q l z s
    rfl
  | succ f ih =>
    intro p q l z s
    unfold aFl
    rw [h 87 0 (by decide) (by decide) (by decide), E_of h, N_of h, ih, ih]
theorem Ft_of (h : zOf a b) : aFt a p = aFt b p := by
  unfold aFt aFx
  rw [h 87 0 (by decide) (by decide) (by decide), h 87 1 (by decide) (by decide) (by decide), h 87 2 (by decide) (by decide) (by decide), N_of h, Ff_of h, Ff_of h, Ff_of h, Fl_of h, Fl_of h]
/-- room -/
theorem Sm_f1 (h : qSm a b) (hK : qK b) : qSm (aF1 a) (aF1 b) ∧ qK (aF1 b) := by
  have e : qSm (aF0 a) (aF0 b) ∧ qK (aF0 b) := by
    unfold aF0
    rw [h.1 87 8 (by decide) (by decide) (by decide), h.1 87 0 (by decide) (by decide) (by decide), h.1 69 8 (by decide) (by decide) (by decide)]
    split
    · have k := K_b0 hK.1
      exact ⟨Sm_b0 h.1 hK.1, k.1, fun _ => k.2.1⟩
    · exact ⟨h, hK⟩
  unfold aF1
  rw [h.1 87 6 (by decide) (by decide) (by decide)]
  have g := Sm_go (n := (b 87 6).toInt.toNat) e.1 e.2
  exact ⟨g.1, g.2.2⟩
theorem Sm_rs (h : qSm a b) (hK : qK b) : qSm (aRs a p) (aRs b p) ∧ qK (aRs b p) ∧ aRp a p = aRp b p := by
  have f := Sm_f1 h hK
  have g := Sm_cl f.1 f.2
  have g2 := Sm_cl g.1 g.2
  have w : qSm (aRs a p) (aRs b p) ∧ qK (aRs b p) := by
    unfold aRs
    rw [Ft_of f.1.1, Ft_of g.1.1, f.1.1 87 8 (by decide) (by decide) (by decide)]
    split
    · split
      · exact g2
      · exact g
    · exact f
  refine ⟨w.1, w.2, ?_⟩
  unfold aRp
  exact Ft_of w.1.1
end SM1
