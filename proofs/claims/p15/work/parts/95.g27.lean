/-! the heap by numbers, the class (written by wip/tools/gen18.py) -/
section B9
variable {a b : Nat → Nat → Int32} {y n i : Int32} {m k c : Nat} {x : Int32}
def xTl (a : Nat → Nat → Int32) : Prop := (a 75 4).toInt ≤ 512
theorem tl_cm (h : xTl a) : xTl (aCm a y) := by
  by_cases hc : aCc a y
  · rw [aCm_y hc]
    unfold xTl
    rw [xu_s, i_p1 (by have := hc.2.2.2.2.1; omega)]
    have := hc.2.2.2.2.1
    omega
  · rw [aCm_n hc]
    exact h
theorem tl_cwf : ∀ (f : Nat) (i : Int32) (a : Nat → Nat → Int32), xTl a → xTl (aCwf m f i a) := by
  intro f
  induction f with
  | zero => intro i a h; exact h
  | succ f ih =>
    intro i a h
    exact ih _ _ (tl_cm h)
theorem tl_pop (h : xTl a) : xTl (aPop a) := by
  have s : xTl (ma_u a 75 3 (a 75 3 + 1)) := by
    unfold xTl
    rw [xu_o (by omega)]
    exact h
  unfold aPop
  split
  · refine tl_cwf _ _ _ ?_
    unfold xTl
    rw [xu_o (by omega)]
    exact s
  · exact s
theorem JJ_sp : ∀ (f : Nat) (a b : Nat → Nat → Int32), zJJ a b → xTl a → zJJ (aSp f a) (aSp f b) := by
  intro f
  induction f with
  | zero => intro a b h _; exact h
  | succ f ih =>
    intro a b h ht
    show zJJ (if (a 75 3).toInt < (a 75 4).toInt then aSp f (aPop a) else a) (if (b 75 3).toInt < (b 75 4).toInt then aSp f (aPop b) else b)
    rw [← h.2.1.1, ← h.2.1.2.1]
    by_cases hl : (a 75 3).toInt < (a 75 4).toInt
    · rw [if_pos hl, if_pos hl]
      exact ih _ _ (JJ_pop h hl ht) (tl_pop ht)
    · rw [if_neg hl, if_neg hl]
      exact h
theorem JJ_hf : ∀ (f : Nat) (n : Int32) (a b : Nat → Nat → Int32), zJJ a b → xTl a → zJJ (aHf f n a) (aHf f n b) ∧ xTl (aHf f n a) := by
  intro f
  induction f with
  | zero => intro n a b h t; exact ⟨h, t⟩
  | succ f ih =>
    intro n a b h t
    show zJJ (aHf f (n + 1) (if 0 ≤ n.toInt ∧ n.toInt < 512 ∧ a 126 n.toNatClampNeg ≠ 0 ∧ 0 < (a 133 n.toNatClampNeg).toInt then aCm a n else a)) (aHf f (n + 1) (if 0 ≤ n.toInt ∧ n.toInt < 512 ∧ b 126 n.toNatClampNeg ≠ 0 ∧ 0 < (b 133 n.toNatClampNeg).toInt then aCm b n else b)) ∧ xTl (aHf f (n + 1) (if 0 ≤ n.toInt ∧ n.toInt < 512 ∧ a 126 n.toNatClampNeg ≠ 0 ∧ 0 < (a 133 n.toNatClampNeg).toInt then aCm a n else a))
    rw [← h.1 126 _ (by decide) (by decide) (by decide), ← h.1 133 _ (by decide) (by decide) (by decide)]
    split
    · exact ih _ _ _ (JJ_cm h) (tl_cm t)
    · exact ih _ _ _ h t
theorem JJ_wf : ∀ (f : Nat) (n : Int32) (a b : Nat → Nat → Int32), zJJ a b → xTl a → zJJ (aWf f n a) (aWf f n b) ∧ xTl (aWf f n a) := by
  intro f
  induction f with
  | zero =>
    intro n a b h t
    show zJJ (aHo a 0) (aHo b 0) ∧ xTl (aHo a 0)
    unfold aHo
    rw [← h.1 69 6 (by decide) (by decide) (by decide)]
    exact JJ_hf _ _ _ _ h t
  | succ f ih =>
    intro n a b h t
    show zJJ (aWf f (n + 1) (aCm a (a 74 n.toNatClampNeg))) (aWf f (n + 1) (aCm b (b 74 n.toNatClampNeg))) ∧ xTl (aWf f (n + 1) (aCm a (a 74 n.toNatClampNeg)))
    rw [← h.1 74 _ (by decide) (by decide) (by decide)]
    exact ih _ _ _ (JJ_cm h) (tl_cm t)
theorem JJ_rf : ∀ (f : Nat) (n : Int32) (a b : Nat → Nat → Int32), zJJ a b → xTl a → zJJ (aRf f n a) (aRf f n b) ∧ xTl (aRf f n a) := by
  intro f
  induction f with
  | zero =>
    intro n a b h t
    show zJJ (aWi a 0) (aWi b 0) ∧ xTl (aWi a 0)
    unfold aWi
    rw [← h.1 69 5 (by decide) (by decide) (by decide)]
    exact JJ_wf _ _ _ _ h t
  | succ f ih =>
    intro n a b h t
    show zJJ (aRf f (n + 1) (aCm a (a 72 n.toNatClampNeg))) (aRf f (n + 1) (aCm b (b 72 n.toNatClampNeg))) ∧ xTl (aRf f (n + 1) (aCm a (a 72 n.toNatClampNeg)))
    rw [← h.1 72 _ (by decide) (by decide) (by decide)]
    exact ih _ _ _ (JJ_cm h) (tl_cm t)
theorem JJ_wh (h : zOf a b) : zJJ (aWh a 0) (aWh b 0) ∧ xTl (aWh a 0) := by
  have r3 : ∀ q : Nat → Nat → Int32, aWh q 0 75 3 = 0 := fun q => by
    unfold aWh
    rw [xu_o (by omega), xu_o (by omega), xu_s]
  have r4 : ∀ q : Nat → Nat → Int32, aWh q 0 75 4 = 0 := fun q => by
    unfold aWh
    rw [xu_o (by omega), xu_s]
  have r5 : ∀ q : Nat → Nat → Int32, aWh q 0 75 5 = 0 := fun q => by
    unfold aWh
    rw [xu_s]
  have ro : ∀ (q : Nat → Nat → Int32) c k, c ≠ 75 → aWh q 0 c k = zFl q 77 0 512 c k := fun q c k w => by
    unfold aWh
    rw [xu_o (fun z => w z.1), xu_o (fun z => w z.1), xu_o (fun z => w z.1)]
  refine ⟨⟨fun c k q1 q2 q3 => ?_, ⟨?_, ?_, ?_⟩, fun k hk => ?_, fun k hk => ?_, ?_⟩, ?_⟩
  · rw [ro _ _ _ q1, ro _ _ _ q1]
    unfold zFl
    rw [if_neg (fun z => q3 z.1), if_neg (fun z => q3 z.1)]
    exact h c k q1 q2 q3
  · rw [r3, r3]
  · rw [r4, r4]
  · rw [r5, r5]
  · rw [ro _ _ _ (by decide), ro _ _ _ (by decide)]
    unfold zFl
    rw [if_pos ⟨rfl, by omega⟩, if_pos ⟨rfl, by omega⟩]
  · rw [r4] at hk
    have : (0 : Int32).toInt = 0 := rfl
    omega
  · rw [r3]
    decide
  · unfold xTl
    rw [r4]
    decide
theorem Of_RA (h : zOf a b) : zJJ (aRA a) (aRA b) := by
  have w := JJ_wh h
  have r := JJ_rf (16 - (0 : Int32).toInt).toNat 0 _ _ w.1 w.2
  exact JJ_sp 512 _ _ r.1 r.2
theorem Of_Rq (h : zOf a b) : zRq a n ↔ zRq b n := by
  unfold zRq
  rw [h 126 _ (by decide) (by decide) (by decide)]
  constructor
  · intro w
    have := tn_cast w.1
    rw [← (Of_RA h).2.2.1 _ (by omega)]
    exact w
  · intro w
    have := tn_cast w.1
    rw [(Of_RA h).2.2.1 _ (by omega)]
    exact w
theorem Of_S {S : ma_S} : zOf (aS 75 S) (aS 88 S) := fun _ _ h1 h2 h3 => aS_W ⟨h1, h2, h3⟩
theorem Rq_S {S : ma_S} : zRq (aS 75 S) n ↔ zRq (aS 88 S) n := Of_Rq Of_S
end B9
/-! THE CALLS -/
def zHw (a : Nat → Nat → Int32) (n i : Int32) : Prop := 0 ≤ i.toInt ∧ i.toInt < (a 128 n.toNatClampNeg).toInt - 1
def zIr (a : Nat → Nat → Int32) (n i : Int32) : Prop := a (1000 + n.toNatClampNeg) i.toNatClampNeg ≠ 0
section B10
variable {a : Nat → Nat → Int32} {n i y : Int32} {S S1 : ma_S} {R : zRT} {c : Nat}
theorem rq_up (h : zRq (aS 75 S) n) (e : aS 88 S = a) : zRq a n := by
  rw [← e]
  exact Rq_S.mp h
theorem rq_no (h : ¬ zRq (aS 75 S) n) (e : aS 88 S = a) : ¬ zRq a n := by
  rw [← e]
  exact fun w => h (Rq_S.mpr w)
theorem ir_y (hC : xB S R) (rg : zTa R n = some c) (e : aS 88 S = a) (hi : 0 ≤ i.toInt) (hb : ¬ lg_cmp (((mL S c 3).toUInt64 >>> (i.toInt64.toUInt64 &&& Int64.toUInt64 63)).toInt64 &&& (1 : Int64)) (0 : Int64) = 0) : zIr a n i := by
  unfold zIr
  rw [← e, rf_bit hC rg hi]
  unfold zbit
  rw [if_neg hb]
  decide
theorem ir_n (hC : xB S R) (rg : zTa R n = some c) (e : aS 88 S = a) (hi : 0 ≤ i.toInt) (hb : lg_cmp (((mL S c 3).toUInt64 >>> (i.toInt64.toUInt64 &&& Int64.toUInt64 63)).toInt64 &&& (1 : Int64)) (0 : Int64) = 0) : ¬ zIr a n i := by
  unfold zIr
  rw [← e, rf_bit hC rg hi]
  unfold zbit
  rw [if_pos hb]
  exact fun w => w rfl
end B10
theorem g_151_64_s_0 {X : Nat × (Nat → Int32)} {d w : Nat} {S : ma_S} {Q : Option ma_V ⊕ Nat → ma_S → Prop} (n : Int32) (hd : 7 ≤ d) (hw : 111 ≤ w) (hS : zT S) (h : if n = (-1 : Int32) then (Q (.inl (some (.inr (.inr none)))) S) else (ma_wp X (d - 1) (w - 22) 149 0 [(0, .inr (.inr (some 64))), (1, .inl n)] [] S (zo (fun v2 S1 => zT S1 ∧ ((∃ c3, v2 = some c3 ∧ (Q (.inl (some (.inr (.inr (some c3))))) S1)))) (fun x S9 => Q (.inr x) S9)))) : ma_wp X d w 151 0 [(0, .inr (.inr (some 64))), (1, .inl n)] [] S Q := by
  refine zw_push hm_151 dX11_needReachedOrNothing_0 (v := .inl n) rfl ?_
  refine zw_push hm_151 dX11_needReachedOrNothing_1 (v := .inl (-1 : Int32)) rfl ?_
  refine zw_if2 hm_151 dX11_needReachedOrNothing_2 (t := 9) rfl zc2_ne ?_ ?_
  · intro hc
    rw [if_neg hc] at h
    refine zw_push hm_151 dX11_needReachedOrNothing_9 (v := .inr (.inr (some 64))) rfl ?_
    refine zw_push hm_151 dX11_needReachedOrNothing_10 (v := .inl n) rfl ?_
    refine zw_cv hm_151 dX11_needReachedOrNothing_11 v_11_123_11 hm_149 [.inl n] [] rfl (zT_rt hS s_64 rfl) ⟨by omega, by omega⟩ rfl (zw_mono h (zo_go ?_ ?_))
    · intro v2 S1 hv
      obtain ⟨hS1, h⟩ := hv
      obtain ⟨c3, hc, h⟩ := h
      subst hc
      show ma_wp X d w 151 14 [(0, .inr (.inr (some 64))), (1, .inl n)] [.inr (.inr (some c3))] S1 _
      exact zw_aret hm_151 dX11_needReachedOrNothing_14 h
    · intro x S9 hx
      exact ⟨by decide, hx⟩
  · intro hc
    rw [if_pos (Classical.not_not.mp hc)] at h
    refine zw_push hm_151 dX11_needReachedOrNothing_5 (v := .inr (.inr none)) rfl ?_
    refine zw_goto hm_151 dX11_needReachedOrNothing_6 (t := 14) rfl ?_
    exact zw_aret hm_151 dX11_needReachedOrNothing_14 h
theorem sp_151_64_s {X : Nat × (Nat → Int32)} {d w : Nat} {f : Nat → Nat → Int32} {r : Nat → Nat → Option Nat} {C Z N : Nat} {Q : Option ma_V ⊕ Nat → ma_S → Prop} {R : zRT} {a7 : Nat→Nat→Int32} {a8 : Nat→Nat→Int32} {S : ma_S} (n : Int32) (hd : 7 ≤ d) (hw : 111 ≤ w) (hI : zI f r C Z N S) (hpre0 : xB S R) (hpre1 : aS 75 S = a7) (hpre2 : aS 88 S = a8) (K : ∀ v S', zI f r C Z N S' → (∀ c, v = some c → 126 ≤ c ∧ c < N) → (xB S' R) → (aS 88 S' = a8) → (v = zTa R n) → (n = -1 ∨ zRq a7 n) → Q (.inl (some (.inr (.inr v)))) S') (KX : ∀ x S', (x = 4) → zI f r C Z N S' → (xB S' R) → (aS 88 S' = a8) → (x = 4 ∧ n ≠ -1 ∧ ¬ zRq a7 n) → Q (.inr x) (ma_bump S')) : ma_wp X d w 151 0 [(0, .inr (.inr (some 64))), (1, .inl n)] [] S Q := by
  refine g_151_64_s_0 n (by omega) (by omega) (zG_T hI) ?_
  have b1 := i_bd n
  have li2 : (-1 : Int32).toInt = -1 := rfl
  refine zd (fun h3 => ?_) (fun h3 => ?_)
  · skip
    have g4 := i_eq h3
    exact K (none) _ hI (fun _ z => by cases z) (show xB S R from by first | (exact (xC_o (W := 75) hpre0).2)) (show aS 88 S = a8 from by first | (exact (xC_o (W := 88) hpre0).1.trans hpre2)) (show none = zTa R n from by first | (rw [show n = -1 from by assumption]; exact ta_m1)) (show n = -1 ∨ zRq a7 n from by first | (exact Or.inl (by assumption)))
  · skip
    have g5 := i_ne h3
    refine sp_149_64_s (R := R) (a7 := (aS 75 S)) (a8 := a8) (n) (by omega) (by omega) hI (show xB S R from by first | (exact (xC_o (W := 75) hpre0).2)) (show aS 75 S = (aS 75 S) from by first | (exact rfl)) (show aS 88 S = a8 from by first | (exact (xC_o (W := 88) hpre0).1.trans hpre2)) (fun v2 S1 hI_S1 hq_v2 rp0_S1 rp1_S1 rp2_S1 rp3_S1 => zo_n ⟨zG_T hI_S1, ?_⟩) (fun x S9 hx h9 rx0 rx1 rx2 => by have h9u := h9; exact zo_x (KX x S9 (by omega) h9u (show xB S9 R from by first | (exact (xC_o (W := 75) rx0).2)) (show aS 88 S9 = a8 from by first | (exact (xC_o (W := 88) rx0).1.trans rx1)) (show x = 4 ∧ n ≠ -1 ∧ ¬ zRq a7 n from by first | (exact ⟨rx2.1, by assumption, hpre1 ▸ rx2.2⟩))))
    have rp0_S1 : xB S1 R := rp0_S1
    have rp1_S1 : aS 88 S1 = a8 := rp1_S1
    have rp2_S1 : v2 = zTa R n := rp2_S1
    have rp3_S1 : zRq (aS 75 S) n := rp3_S1
    obtain ⟨c3, hc, th_c3⟩ := hq_v2
    have rg_c3 : zTa R n = some c3 := rp2_S1.symm.trans hc
    refine ⟨c3, hc, ?_⟩
    exact K ((some c3)) _ hI_S1 (fun _ z => by cases z; exact th_c3) (show xB S1 R from by first | (exact (xC_o (W := 75) rp0_S1).2)) (show aS 88 S1 = a8 from by first | (exact (xC_o (W := 88) rp0_S1).1.trans rp1_S1)) (show (some c3) = zTa R n from by first | (exact rg_c3.symm)) (show n = -1 ∨ zRq a7 n from by first | (rw [hpre1] at *; exact Or.inr rp3_S1) | (exact Or.inr (hpre1 ▸ rp3_S1)))
