/-! from 95.g16 -/
/-! the heap by numbers, the class (written by wip/tools/gen18.py) -/
/-! FREE BLOCKS -/
/-- who begins at that place, -1: nobody -/
def zOb (a : Nat → Nat → Int32) (p : Int) : Int32 := if 0 ≤ p ∧ p < 4500 ∧ 0 ≤ (a 71 p.toNat).toInt ∧ (a 71 p.toNat).toInt < 512 ∧ a 126 (a 71 p.toNat).toNatClampNeg ≠ 0 then a 71 p.toNat else -1
def zSz (a : Nat → Nat → Int32) : Prop := ∀ p, 0 ≤ (zOb a p).toInt → 1 ≤ (a 128 (zOb a p).toNatClampNeg).toInt
/-- the first free place from p on -/
def aNf (a : Nat → Nat → Int32) : Nat → Int → Int
  | 0, _ => (a 87 0).toInt
  | f + 1, p => if p < (a 87 0).toInt then (if (zOb a p).toInt < 0 then p else aNf a f (p + (a 128 (zOb a p).toNatClampNeg).toInt)) else (a 87 0).toInt
def aN (a : Nat → Nat → Int32) (p : Int) : Int := aNf a ((a 87 0).toInt - p).toNat p
/-- where the free block ends -/
def aEf (a : Nat → Nat → Int32) : Nat → Int → Int
  | 0, p => p
  | f + 1, p => if p < (a 87 0).toInt ∧ (zOb a p).toInt < 0 then aEf a f (p + 1) else p
def aE (a : Nat → Nat → Int32) (p : Int) : Int := aEf a ((a 87 0).toInt - p).toNat p
/-- the first block that is long enough, from a free place p, before b -/
def aFf (a : Nat → Nat → Int32) (z b : Int) : Nat → Int → Int
  | 0, _ => -1
  | f + 1, p => if p < b then (if z ≤ aE a p - p then p else aFf a z b f (aN a (aE a p))) else -1
/-- the shortest (s not 0) or the longest that is long enough; q the best so far, l its length -/
def aFl (a : Nat → Nat → Int32) (z : Int) (s : Int32) : Nat → Int → Int → Int → Int
  | 0, _, q, _ => q
  | f + 1, p, q, l => if p < (a 87 0).toInt then (if z ≤ aE a p - p ∧ (q = -1 ∨ (if s = 0 then l < aE a p - p else aE a p - p < l)) then aFl a z s f (aN a (aE a p)) p (aE a p - p) else aFl a z s f (aN a (aE a p)) q l) else q
def aFx (a : Nat → Nat → Int32) (z : Int) : Int := if aFf a z (a 87 0).toInt 4500 (aN a (a 87 2).toInt) = -1 then aFf a z (a 87 2).toInt 4500 (aN a 0) else aFf a z (a 87 0).toInt 4500 (aN a (a 87 2).toInt)
def aFt (a : Nat → Nat → Int32) (z : Int) : Int := if a 87 1 = 0 then aFf a z (a 87 0).toInt 4500 (aN a 0) else if a 87 1 = 1 then aFx a z else if a 87 1 = 2 then aFl a z 1 4500 (aN a 0) (-1) 0 else aFl a z 0 4500 (aN a 0) (-1) 0
section FB
variable {a : Nat → Nat → Int32} {p z b q l : Int} {x s : Int32} {W c k : Nat} {S : ma_S} {R : zRT}
theorem aNf_fu (h : zSz a) : ∀ (f g : Nat) (p : Int), ((a 87 0).toInt - p).toNat ≤ f → ((a 87 0).toInt - p).toNat ≤ g → aNf a f p = aNf a g p := by
  intro f
  induction f with
  | zero =>
    intro g p hf hg
    cases g with
    | zero => rfl
    | succ g =>
      show (a 87 0).toInt = if p < (a 87 0).toInt then _ else (a 87 0).toInt
      rw [if_neg (by omega)]
  | succ f ih =>
    intro g p hf hg
    by_cases c : p < (a 87 0).toInt
    · cases g with
      | zero => omega
      | succ g =>
        show (if p < (a 87 0).toInt then (if (zOb a p).toInt < 0 then p else aNf a f (p + (a 128 (zOb a p).toNatClampNeg).toInt)) else (a 87 0).toInt) = (if p < (a 87 0).toInt then (if (zOb a p).toInt < 0 then p else aNf a g (p + (a 128 (zOb a p).toNatClampNeg).toInt)) else (a 87 0).toInt)
        rw [if_pos c, if_pos c]
        by_cases d : (zOb a p).toInt < 0
        · rw [if_pos d, if_pos d]
        · rw [if_neg d, if_neg d]
          have s0 := h p (by omega)
          exact ih g _ (by omega) (by omega)
    · show (if p < (a 87 0).toInt then _ else (a 87 0).toInt) = _
      rw [if_neg c]
      cases g with
      | zero => rfl
      | succ g =>
        show _ = if p < (a 87 0).toInt then _ else (a 87 0).toInt
        rw [if_neg c]
theorem aN_fr (h1 : p < (a 87 0).toInt) (h2 : (zOb a p).toInt < 0) : aN a p = p := by
  unfold aN
  have e : ((a 87 0).toInt - p).toNat = ((a 87 0).toInt - (p + 1)).toNat + 1 := by omega
  rw [e]
  show (if p < (a 87 0).toInt then (if (zOb a p).toInt < 0 then p else _) else _) = p
  rw [if_pos h1, if_pos h2]
theorem aN_ob (h : zSz a) (h1 : p < (a 87 0).toInt) (h2 : 0 ≤ (zOb a p).toInt) : aN a p = aN a (p + (a 128 (zOb a p).toNatClampNeg).toInt) := by
  have s0 := h p h2
  unfold aN
  have e : ((a 87 0).toInt - p).toNat = ((a 87 0).toInt - (p + 1)).toNat + 1 := by omega
  rw [e]
  show (if p < (a 87 0).toInt then (if (zOb a p).toInt < 0 then p else aNf a _ (p + (a 128 (zOb a p).toNatClampNeg).toInt)) else _) = _
  rw [if_pos h1, if_neg (by omega)]
  exact aNf_fu h _ _ _ (by omega) (by omega)
theorem aN_ro (h1 : (a 87 0).toInt ≤ p) : aN a p = (a 87 0).toInt := by
  unfold aN
  have e : ((a 87 0).toInt - p).toNat = 0 := by omega
  rw [e]
  rfl
theorem aE_go (h1 : p < (a 87 0).toInt) (h2 : (zOb a p).toInt < 0) : aE a p = aE a (p + 1) := by
  unfold aE
  have e : ((a 87 0).toInt - p).toNat = ((a 87 0).toInt - (p + 1)).toNat + 1 := by omega
  rw [e]
  show (if p < (a 87 0).toInt ∧ (zOb a p).toInt < 0 then aEf a _ (p + 1) else p) = _
  rw [if_pos ⟨h1, h2⟩]
theorem aE_st (h : ¬ (p < (a 87 0).toInt ∧ (zOb a p).toInt < 0)) : aE a p = p := by
  unfold aE
  cases e : ((a 87 0).toInt - p).toNat with
  | zero => rfl
  | succ k =>
    show (if p < (a 87 0).toInt ∧ (zOb a p).toInt < 0 then aEf a k (p + 1) else p) = p
    rw [if_neg h]
theorem ob_y (hC : xB S R) (rg : zTa R (mI S 71 x.toNatClampNeg) = some c) (h0 : 0 ≤ x.toInt) (h1 : x.toInt < 4500) : zOb (aS W S) x.toInt = mI S 71 x.toNatClampNeg ∧ aS W S 128 (mI S 71 x.toNatClampNeg).toNatClampNeg = mI S c 2 := by
  have t := xB_th (W := W) hC rg
  refine ⟨?_, t.2.2.2.2.1.symm⟩
  have e : aS W S 71 x.toInt.toNat = mI S 71 x.toNatClampNeg := aS_I rfl (zcw_s (by decide))
  unfold zOb
  rw [e, if_pos ⟨h0, h1, t.1, t.2.1, by rw [t.2.2.2.2.2.2.2.2]; decide⟩]
theorem ob_n1 (h : p < 0 ∨ 4500 ≤ p) : zOb a p = -1 := if_neg (by omega)
theorem ob_n2 (h : (mI S 71 x.toNatClampNeg).toInt < 0 ∨ 512 ≤ (mI S 71 x.toNatClampNeg).toInt) : zOb (aS W S) x.toInt = -1 := by
  have e : aS W S 71 x.toInt.toNat = mI S 71 x.toNatClampNeg := aS_I rfl (zcw_s (by decide))
  unfold zOb
  rw [e, if_neg (by omega)]
theorem ob_n3 (hC : xB S R) (rn : zTa R (mI S 71 x.toNatClampNeg) = none) : zOb (aS W S) x.toInt = -1 := by
  have e : aS W S 71 x.toInt.toNat = mI S 71 x.toNatClampNeg := aS_I rfl (zcw_s (by decide))
  unfold zOb
  rw [e, if_neg (fun z => xB_nt (W := W) hC rn ⟨z.2.2.1, z.2.2.2.1, z.2.2.2.2⟩)]
theorem ob_neg (h : zOb a p = -1) : (zOb a p).toInt < 0 := by
  rw [h]
  decide
theorem sz_of {fz : Nat → Nat → Bool} {sc sa : List (Nat × Nat × Int × Int)} {rf : List Nat} {ex : (Nat → Nat → Int32) → Prop} {f : Nat → Nat → Int32} {r : Nat → Nat → Option Nat} {C Z N : Nat} (hI : zG fz sc sa rf ex f r C Z N S) (h7 : 70 ∈ rf) : zSz (aS W S) := by
  intro p hp
  unfold zOb at hp ⊢
  by_cases h : 0 ≤ p ∧ p < 4500 ∧ 0 ≤ (aS W S 71 p.toNat).toInt ∧ (aS W S 71 p.toNat).toInt < 512 ∧ aS W S 126 (aS W S 71 p.toNat).toNatClampNeg ≠ 0
  · rw [if_pos h]
    have hn : (aS W S 71 p.toNat).toNatClampNeg < 512 := by
      have := tn_cast h.2.2.1
      omega
    cases e : mR S 70 (aS W S 71 p.toNat).toNatClampNeg with
    | none =>
      refine absurd ?_ h.2.2.2.2
      show aTn (mR S 70) _ = 0
      unfold aTn
      rw [e, if_pos hn]
    | some c =>
      have q := zG_th hI (zG_70 hI h7 e)
      have e2 : aS W S 128 (aS W S 71 p.toNat).toNatClampNeg = mI S c 2 := aTf_c hn e
      rw [e2]
      exact q.2.1.1
  · rw [if_neg h] at hp
    exact absurd hp (by decide)
theorem aFf_y (h : p < b) (h1 : z ≤ aE a p - p) : aFf a z b (k + 1) p = p := by
  show (if p < b then (if z ≤ aE a p - p then p else _) else -1) = p
  rw [if_pos h, if_pos h1]
theorem aFf_n (h : p < b) (h1 : ¬ z ≤ aE a p - p) : aFf a z b (k + 1) p = aFf a z b k (aN a (aE a p)) := by
  show (if p < b then (if z ≤ aE a p - p then p else _) else -1) = _
  rw [if_pos h, if_neg h1]
theorem aFf_st (h : k = 0 ∨ ¬ p < b) : aFf a z b k p = -1 := by
  cases k with
  | zero => rfl
  | succ k => exact if_neg (by omega)
theorem aFl_y (h : p < (a 87 0).toInt) (h1 : z ≤ aE a p - p) (h2 : q = -1 ∨ (s = 0 ∧ l < aE a p - p) ∨ (s ≠ 0 ∧ aE a p - p < l)) : aFl a z s (k + 1) p q l = aFl a z s k (aN a (aE a p)) p (aE a p - p) := by
  show (if p < (a 87 0).toInt then _ else q) = _
  rw [if_pos h, if_pos ⟨h1, by
    rcases h2 with h2 | h2 | h2
    · exact Or.inl h2
    · exact Or.inr (by rw [if_pos h2.1]; exact h2.2)
    · exact Or.inr (by rw [if_neg h2.1]; exact h2.2)⟩]
theorem aFl_n (h : p < (a 87 0).toInt) (h1 : ¬ z ≤ aE a p - p ∨ (q ≠ -1 ∧ ((s = 0 ∧ ¬ l < aE a p - p) ∨ (s ≠ 0 ∧ ¬ aE a p - p < l)))) : aFl a z s (k + 1) p q l = aFl a z s k (aN a (aE a p)) q l := by
  show (if p < (a 87 0).toInt then _ else q) = _
  rw [if_pos h, if_neg (fun w => by
    rcases h1 with h1 | h1
    · exact h1 w.1
    · rcases w.2 with w2 | w2
      · exact h1.1 w2
      · rcases h1.2 with h3 | h3
        · rw [if_pos h3.1] at w2
          exact h3.2 w2
        · rw [if_neg h3.1] at w2
          exact h3.2 w2)]
theorem aFl_st (h : k = 0 ∨ ¬ p < (a 87 0).toInt) : aFl a z s k p q l = q := by
  cases k with
  | zero => rfl
  | succ k => exact if_neg (by omega)
end FB
theorem g_105_87_s_0 {X : Nat × (Nat → Int32)} {d w : Nat} {S : ma_S} {Q : Option ma_V ⊕ Nat → ma_S → Prop} (p : Int32) (hd : 1 ≤ d) (hw : 22 ≤ w) (hS : zT S) (h : ma_wp X d w 105 2 [(0, .inr (.inr (some 87))), (2, .inl p)] [] S Q) : ma_wp X d w 105 0 [(0, .inr (.inr (some 87))), (1, .inl p)] [] S Q := by
  refine zw_push hm_105 dX8_freeFrom_0 (v := .inl p) rfl ?_
  refine zw_sto hm_105 dX8_freeFrom_1 [(2, .inl p), (0, .inr (.inr (some 87))), (1, .inl p)] rfl rfl rfl ?_
  exact zw_sub (ma_nd_of (ks := [0, 2]) rfl (by decide)) (ma_nd_of (ks := [2, 0, 1]) rfl (by decide)) (ma_le_cons rfl (ma_le_cons rfl (ma_le_nil _))) h
theorem g_105_87_s_2 {X : Nat × (Nat → Int32)} {d w : Nat} {S : ma_S} {Q : Option ma_V ⊕ Nat → ma_S → Prop} (l2 : Int32) (hd : 1 ≤ d) (hw : 22 ≤ w) (hS : zT S) (h : if (mI S 87 0) ≤ l2 then (Q (.inl (some (.inl (mI S 87 0)))) S) else (if l2 < 0 then (Q (.inl (some (.inl l2))) S) else (if (4500 : Int32) ≤ l2 then (Q (.inl (some (.inl l2))) S) else ((0 ≤ l2 ∧ l2.toNatClampNeg < 4500) ∧ (if (mI S 71 l2.toNatClampNeg) < 0 then (Q (.inl (some (.inl l2))) S) else (if (512 : Int32) ≤ (mI S 71 l2.toNatClampNeg) then (Q (.inl (some (.inl l2))) S) else ((0 ≤ (mI S 71 l2.toNatClampNeg) ∧ (mI S 71 l2.toNatClampNeg).toNatClampNeg < 512) ∧ (((mR S 70 (mI S 71 l2.toNatClampNeg).toNatClampNeg) = none → Q (.inl (some (.inl l2))) S) ∧ (∀ c1, (mR S 70 (mI S 71 l2.toNatClampNeg).toNatClampNeg) = some c1 → (126 ≤ c1 ∧ c1 < mN S) ∧ (ma_wp X d w 105 2 [(0, .inr (.inr (some 87))), (2, .inl (l2 + (mI S c1 2)))] [] S Q)))))))))) : ma_wp X d w 105 2 [(0, .inr (.inr (some 87))), (2, .inl l2)] [] S Q := by
  refine zw_push hm_105 dX8_freeFrom_2 (v := .inl l2) rfl ?_
  refine zw_push hm_105 dX8_freeFrom_3 (v := .inr (.inr (some 87))) rfl ?_
  refine zw_gf hm_105 dX8_freeFrom_4 (v := .inl (mI S 87 0)) (zT_is hS s_87) (zT_t hS s_87) rfl f_8_9_6 rfl ?_
  refine zw_if2 hm_105 dX8_freeFrom_7 (t := 35) rfl zc2_ge ?_ ?_
  · intro hc
    rw [if_pos hc] at h
    refine zw_push hm_105 dX8_freeFrom_35 (v := .inr (.inr (some 87))) rfl ?_
    refine zw_gf hm_105 dX8_freeFrom_36 (v := .inl (mI S 87 0)) (zT_is hS s_87) (zT_t hS s_87) rfl f_8_9_6 rfl ?_
    exact zw_iret hm_105 dX8_freeFrom_39 h
  · intro hc
    rw [if_neg hc] at h
    refine zw_push hm_105 dX8_freeFrom_10 (v := .inr (.inr (some 87))) rfl ?_
    refine zw_gf hm_105 dX8_freeFrom_11 (v := .inr (.inr (some 69))) (zT_is hS s_87) (zT_t hS s_87) rfl f_8_46_6 (zT_f hS r_87_3) ?_
    refine zw_push hm_105 dX8_freeFrom_14 (v := .inl l2) rfl ?_
    refine zw_cv hm_105 dX8_freeFrom_15 v_8_50_7 hm_89 [.inl l2] [] rfl (zT_rt hS s_69 rfl) ⟨by omega, by omega⟩ rfl ?_
    show ma_wp X (d - 1) (w - 22) 89 0 [(0, .inr (.inr (some 69))), (1, .inl l2)] [] S _
    refine zw_push hm_89 dX7_thingFrom_0 (v := .inl l2) rfl ?_
    refine zw_if0 hm_89 dX7_thingFrom_1 (t := 20) rfl zc0_lt ?_ ?_
    · intro hc
      rw [if_pos hc] at h
      refine zw_push hm_89 dX7_thingFrom_20 (v := .inl (-1 : Int32)) rfl ?_
      refine zw_sto hm_89 dX7_thingFrom_21 [(2, .inl (-1 : Int32)), (0, .inr (.inr (some 69))), (1, .inl l2)] rfl rfl rfl ?_
      refine zw_push hm_89 dX7_thingFrom_22 (v := .inl (-1 : Int32)) rfl ?_
      refine zw_if0 hm_89 dX7_thingFrom_23 (t := 42) rfl zc0_lt (fun _ => ?_) (fun hc => absurd (by decide) hc)
      refine zw_push hm_89 dX7_thingFrom_42 (v := .inr (.inr none)) rfl ?_
      refine zw_aret hm_89 dX7_thingFrom_43 ?_
      show ma_wp X d w 105 18 [(0, .inr (.inr (some 87))), (2, .inl l2)] [.inr (.inr none)] S _
      refine zw_sto hm_105 dX8_freeFrom_18 [(3, .inr (.inr none)), (0, .inr (.inr (some 87))), (2, .inl l2)] rfl rfl rfl ?_
      refine zw_push hm_105 dX8_freeFrom_19 (v := .inr (.inr none)) rfl ?_
      refine zw_ifnonnull hm_105 dX8_freeFrom_20 (t := 25) rfl (fun _ => ?_) (fun _ z => by cases z)
      refine zw_push hm_105 dX8_freeFrom_23 (v := .inl l2) rfl ?_
      exact zw_iret hm_105 dX8_freeFrom_24 h
    · intro hc
      rw [if_neg hc] at h
      refine zw_push hm_89 dX7_thingFrom_4 (v := .inl l2) rfl ?_
      refine zw_push hm_89 dX7_thingFrom_5 (v := .inl (4500 : Int32)) rfl ?_
      refine zw_if2 hm_89 dX7_thingFrom_8 (t := 20) rfl zc2_ge ?_ ?_
      · intro hc
        rw [if_pos hc] at h
        refine zw_push hm_89 dX7_thingFrom_20 (v := .inl (-1 : Int32)) rfl ?_
        refine zw_sto hm_89 dX7_thingFrom_21 [(2, .inl (-1 : Int32)), (0, .inr (.inr (some 69))), (1, .inl l2)] rfl rfl rfl ?_
        refine zw_push hm_89 dX7_thingFrom_22 (v := .inl (-1 : Int32)) rfl ?_
        refine zw_if0 hm_89 dX7_thingFrom_23 (t := 42) rfl zc0_lt (fun _ => ?_) (fun hc => absurd (by decide) hc)
        refine zw_push hm_89 dX7_thingFrom_42 (v := .inr (.inr none)) rfl ?_
        refine zw_aret hm_89 dX7_thingFrom_43 ?_
        show ma_wp X d w 105 18 [(0, .inr (.inr (some 87))), (2, .inl l2)] [.inr (.inr none)] S _
        refine zw_sto hm_105 dX8_freeFrom_18 [(3, .inr (.inr none)), (0, .inr (.inr (some 87))), (2, .inl l2)] rfl rfl rfl ?_
        refine zw_push hm_105 dX8_freeFrom_19 (v := .inr (.inr none)) rfl ?_
        refine zw_ifnonnull hm_105 dX8_freeFrom_20 (t := 25) rfl (fun _ => ?_) (fun _ z => by cases z)
        refine zw_push hm_105 dX8_freeFrom_23 (v := .inl l2) rfl ?_
        exact zw_iret hm_105 dX8_freeFrom_24 h
      · intro hc
        rw [if_neg hc] at h
        refine zw_push hm_89 dX7_thingFrom_11 (v := .inr (.inr (some 69))) rfl ?_
        refine zw_gf hm_89 dX7_thingFrom_12 (v := .inr (.inr (some 71))) (zT_is hS s_69) (zT_t hS s_69) rfl f_7_17_7 (zT_f hS r_69_1) ?_
        refine zw_push hm_89 dX7_thingFrom_15 (v := .inl l2) rfl ?_
        obtain ⟨hg, h⟩ := h
        refine zw_ia hm_89 dX7_thingFrom_16 (zT_is hS s_71) (zT_h hS s_71) rfl hg ?_
        show ma_wp X (d - 1) (w - 22) 89 17 [(0, .inr (.inr (some 69))), (1, .inl l2)] [.inl (mI S 71 l2.toNatClampNeg)] S _
        refine zw_goto hm_89 dX7_thingFrom_17 (t := 21) rfl ?_
        refine zw_sto hm_89 dX7_thingFrom_21 [(2, .inl (mI S 71 l2.toNatClampNeg)), (0, .inr (.inr (some 69))), (1, .inl l2)] rfl rfl rfl ?_
        refine zw_push hm_89 dX7_thingFrom_22 (v := .inl (mI S 71 l2.toNatClampNeg)) rfl ?_
        refine zw_if0 hm_89 dX7_thingFrom_23 (t := 42) rfl zc0_lt ?_ ?_
        · intro hc
          rw [if_pos hc] at h
          refine zw_push hm_89 dX7_thingFrom_42 (v := .inr (.inr none)) rfl ?_
          refine zw_aret hm_89 dX7_thingFrom_43 ?_
          show ma_wp X d w 105 18 [(0, .inr (.inr (some 87))), (2, .inl l2)] [.inr (.inr none)] S _
          refine zw_sto hm_105 dX8_freeFrom_18 [(3, .inr (.inr none)), (0, .inr (.inr (some 87))), (2, .inl l2)] rfl rfl rfl ?_
          refine zw_push hm_105 dX8_freeFrom_19 (v := .inr (.inr none)) rfl ?_
          refine zw_ifnonnull hm_105 dX8_freeFrom_20 (t := 25) rfl (fun _ => ?_) (fun _ z => by cases z)
          refine zw_push hm_105 dX8_freeFrom_23 (v := .inl l2) rfl ?_
          exact zw_iret hm_105 dX8_freeFrom_24 h
        · intro hc
          rw [if_neg hc] at h
          refine zw_push hm_89 dX7_thingFrom_26 (v := .inl (mI S 71 l2.toNatClampNeg)) rfl ?_
          refine zw_push hm_89 dX7_thingFrom_27 (v := .inl (512 : Int32)) rfl ?_
          refine zw_if2 hm_89 dX7_thingFrom_30 (t := 42) rfl zc2_ge ?_ ?_
          · intro hc
            rw [if_pos hc] at h
            refine zw_push hm_89 dX7_thingFrom_42 (v := .inr (.inr none)) rfl ?_
            refine zw_aret hm_89 dX7_thingFrom_43 ?_
            show ma_wp X d w 105 18 [(0, .inr (.inr (some 87))), (2, .inl l2)] [.inr (.inr none)] S _
            refine zw_sto hm_105 dX8_freeFrom_18 [(3, .inr (.inr none)), (0, .inr (.inr (some 87))), (2, .inl l2)] rfl rfl rfl ?_
            refine zw_push hm_105 dX8_freeFrom_19 (v := .inr (.inr none)) rfl ?_
            refine zw_ifnonnull hm_105 dX8_freeFrom_20 (t := 25) rfl (fun _ => ?_) (fun _ z => by cases z)
            refine zw_push hm_105 dX8_freeFrom_23 (v := .inl l2) rfl ?_
            exact zw_iret hm_105 dX8_freeFrom_24 h
          · intro hc
            rw [if_neg hc] at h
            refine zw_push hm_89 dX7_thingFrom_33 (v := .inr (.inr (some 69))) rfl ?_
            refine zw_gf hm_89 dX7_thingFrom_34 (v := .inr (.inr (some 70))) (zT_is hS s_69) (zT_t hS s_69) rfl f_7_11_7 (zT_f hS r_69_0) ?_
            refine zw_push hm_89 dX7_thingFrom_37 (v := .inl (mI S 71 l2.toNatClampNeg)) rfl ?_
            obtain ⟨hg, h⟩ := h
            refine zw_aa hm_89 dX7_thingFrom_38 (zT_is hS s_70) (zT_h hS s_70) rfl rfl hg rfl ?_
            show ma_wp X (d - 1) (w - 22) 89 39 [(2, .inl (mI S 71 l2.toNatClampNeg)), (0, .inr (.inr (some 69))), (1, .inl l2)] [.inr (.inr (mR S 70 (mI S 71 l2.toNatClampNeg).toNatClampNeg))] S _
            refine zw_goto hm_89 dX7_thingFrom_39 (t := 43) rfl ?_
            refine zw_aret hm_89 dX7_thingFrom_43 ?_
            show ma_wp X d w 105 18 [(0, .inr (.inr (some 87))), (2, .inl l2)] [.inr (.inr (mR S 70 (mI S 71 l2.toNatClampNeg).toNatClampNeg))] S _
            refine zw_sto hm_105 dX8_freeFrom_18 [(3, .inr (.inr (mR S 70 (mI S 71 l2.toNatClampNeg).toNatClampNeg))), (0, .inr (.inr (some 87))), (2, .inl l2)] rfl rfl rfl ?_
            refine zw_push hm_105 dX8_freeFrom_19 (v := .inr (.inr (mR S 70 (mI S 71 l2.toNatClampNeg).toNatClampNeg))) rfl ?_
            refine zw_ifnonnull hm_105 dX8_freeFrom_20 (t := 25) rfl ?_ ?_
            · intro hc
              have h := h.1 hc
              (try rw [hc])
              show ma_wp X d w 105 23 [(3, .inr (.inr none)), (0, .inr (.inr (some 87))), (2, .inl l2)] [] S _
              refine zw_push hm_105 dX8_freeFrom_23 (v := .inl l2) rfl ?_
              exact zw_iret hm_105 dX8_freeFrom_24 h
            · intro c1 hc
              have h := h.2 c1 hc
              (try rw [hc])
              show ma_wp X d w 105 25 [(3, .inr (.inr (some c1))), (0, .inr (.inr (some 87))), (2, .inl l2)] [] S _
              refine zw_push hm_105 dX8_freeFrom_25 (v := .inl l2) rfl ?_
              refine zw_push hm_105 dX8_freeFrom_26 (v := .inr (.inr (some c1))) rfl ?_
              obtain ⟨hg, h⟩ := h
              refine zw_gf hm_105 dX8_freeFrom_27 (v := .inl (mI S c1 2)) (zT_tis hS hg) (zT_tt hS hg) rfl f_8_34_9 rfl ?_
              refine zw_stk hm_105 dX8_freeFrom_30 (st₉ := [.inl (l2 + (mI S c1 2))]) rfl rfl ?_
              refine zw_sto hm_105 dX8_freeFrom_31 [(2, .inl (l2 + (mI S c1 2))), (3, .inr (.inr (some c1))), (0, .inr (.inr (some 87)))] rfl rfl rfl ?_
              refine zw_goto hm_105 dX8_freeFrom_32 (t := 2) rfl ?_
              exact zw_sub (ma_nd_of (ks := [0, 2]) rfl (by decide)) (ma_nd_of (ks := [2, 3, 0]) rfl (by decide)) (ma_le_cons rfl (ma_le_cons rfl (ma_le_nil _))) h
theorem lp_105_87_s_2 {X : Nat × (Nat → Int32)} {d w : Nat} {f : Nat → Nat → Int32} {r : Nat → Nat → Option Nat} {C Z N : Nat} {Q : Option ma_V ⊕ Nat → ma_S → Prop} {ab : Nat→Nat→Int32} {p : Int32} {S : ma_S} (hd : 1 ≤ d) (hw : 22 ≤ w) (K : ∀ v S₉, S₉ = S → (0 ≤ v.toInt ∧ v.toInt ≤ 1500) → (v.toInt = aN ab p.toInt) → Q (.inl (some (.inl v))) S₉) : ∀ (n : Nat) (l2 : Int32), (1500 - l2.toInt).toNat = n → zJ87 f r C Z N S → (0 ≤ l2.toInt) → (xB S (mR S 70)) → (aS 88 S = ab) → (aN ab l2.toInt = aN ab p.toInt) → ma_wp X d w 105 2 [(0, .inr (.inr (some 87))), (2, .inl l2)] [] S Q := by
  intro n
  induction n using Nat.strongRecOn with
  | _ n IH =>
    intro l2 hmu hI  hi0 hi1 hi2 hi3
    refine g_105_87_s_2 l2 (by omega) (by omega) (zG_T hI) ?_
    have f1 := zG_s hI (0) (1500) (c := 87) (k := 0) (by decide)
    have b2 := i_bd l2
    refine zd (fun h3 => ?_) (fun h3 => ?_)
    · skip
      have g4 := i_le h3
      exact K ((mI S 87 0)) _ rfl (by omega) (show (mI S 87 0).toInt = aN ab p.toInt from by first | (have nf := hi3; have r0 := (congrArg Int32.toInt (aS_I (W := 88) (S := S) (c := 87) (c₉ := 87) (k := 0) rfl rfl)); have z := aN_ro (a := aS 88 S) (p := l2.toInt) (by omega); rw [hi2] at z r0; omega) | (have nf := hi3; have r0 := (congrArg Int32.toInt (aS_I (W := 88) (S := S) (c := 87) (c₉ := 87) (k := 0) rfl rfl)); have o := ob_n1 (a := aS 88 S) (p := l2.toInt) (by omega); have z := aN_fr (a := aS 88 S) (p := l2.toInt) (by omega) (ob_neg o); rw [hi2] at z; omega) | (have nf := hi3; have r0 := (congrArg Int32.toInt (aS_I (W := 88) (S := S) (c := 87) (c₉ := 87) (k := 0) rfl rfl)); have o := ob_n2 (W := 88) (S := S) (x := l2) (by omega); have z := aN_fr (a := aS 88 S) (p := l2.toInt) (by omega) (ob_neg o); rw [hi2] at z; omega))
    · skip
      have g5 := i_nle h3
      have li6 : (0 : Int32).toInt = 0 := rfl
      refine zd (fun h7 => ?_) (fun h7 => ?_)
      · skip
        have g8 := i_lt h7
        exact K (l2) _ rfl (by omega) (show l2.toInt = aN ab p.toInt from by first | (have nf := hi3; have r0 := (congrArg Int32.toInt (aS_I (W := 88) (S := S) (c := 87) (c₉ := 87) (k := 0) rfl rfl)); have z := aN_ro (a := aS 88 S) (p := l2.toInt) (by omega); rw [hi2] at z r0; omega) | (have nf := hi3; have r0 := (congrArg Int32.toInt (aS_I (W := 88) (S := S) (c := 87) (c₉ := 87) (k := 0) rfl rfl)); have o := ob_n1 (a := aS 88 S) (p := l2.toInt) (by omega); have z := aN_fr (a := aS 88 S) (p := l2.toInt) (by omega) (ob_neg o); rw [hi2] at z; omega) | (have nf := hi3; have r0 := (congrArg Int32.toInt (aS_I (W := 88) (S := S) (c := 87) (c₉ := 87) (k := 0) rfl rfl)); have o := ob_n2 (W := 88) (S := S) (x := l2) (by omega); have z := aN_fr (a := aS 88 S) (p := l2.toInt) (by omega) (ob_neg o); rw [hi2] at z; omega))
      · skip
        have g9 := i_nlt h7
        have li10 : (4500 : Int32).toInt = 4500 := rfl
        refine zd (fun h11 => ?_) (fun h11 => ?_)
        · skip
          have g12 := i_le h11
          exact K (l2) _ rfl (by omega) (show l2.toInt = aN ab p.toInt from by first | (have nf := hi3; have r0 := (congrArg Int32.toInt (aS_I (W := 88) (S := S) (c := 87) (c₉ := 87) (k := 0) rfl rfl)); have z := aN_ro (a := aS 88 S) (p := l2.toInt) (by omega); rw [hi2] at z r0; omega) | (have nf := hi3; have r0 := (congrArg Int32.toInt (aS_I (W := 88) (S := S) (c := 87) (c₉ := 87) (k := 0) rfl rfl)); have o := ob_n1 (a := aS 88 S) (p := l2.toInt) (by omega); have z := aN_fr (a := aS 88 S) (p := l2.toInt) (by omega) (ob_neg o); rw [hi2] at z; omega) | (have nf := hi3; have r0 := (congrArg Int32.toInt (aS_I (W := 88) (S := S) (c := 87) (c₉ := 87) (k := 0) rfl rfl)); have o := ob_n2 (W := 88) (S := S) (x := l2) (by omega); have z := aN_fr (a := aS 88 S) (p := l2.toInt) (by omega) (ob_neg o); rw [hi2] at z; omega))
        · skip
          have g13 := i_nle h11
          refine ⟨i_ix (by omega) (by omega), ?_⟩
          have b14 := i_bd (mI S 71 l2.toNatClampNeg)
          refine zd (fun h15 => ?_) (fun h15 => ?_)
          · skip
            have g16 := i_lt h15
            exact K (l2) _ rfl (by omega) (show l2.toInt = aN ab p.toInt from by first | (have nf := hi3; have r0 := (congrArg Int32.toInt (aS_I (W := 88) (S := S) (c := 87) (c₉ := 87) (k := 0) rfl rfl)); have z := aN_ro (a := aS 88 S) (p := l2.toInt) (by omega); rw [hi2] at z r0; omega) | (have nf := hi3; have r0 := (congrArg Int32.toInt (aS_I (W := 88) (S := S) (c := 87) (c₉ := 87) (k := 0) rfl rfl)); have o := ob_n1 (a := aS 88 S) (p := l2.toInt) (by omega); have z := aN_fr (a := aS 88 S) (p := l2.toInt) (by omega) (ob_neg o); rw [hi2] at z; omega) | (have nf := hi3; have r0 := (congrArg Int32.toInt (aS_I (W := 88) (S := S) (c := 87) (c₉ := 87) (k := 0) rfl rfl)); have o := ob_n2 (W := 88) (S := S) (x := l2) (by omega); have z := aN_fr (a := aS 88 S) (p := l2.toInt) (by omega) (ob_neg o); rw [hi2] at z; omega))
          · skip
            have g17 := i_nlt h15
            have li18 : (512 : Int32).toInt = 512 := rfl
            refine zd (fun h19 => ?_) (fun h19 => ?_)
            · skip
              have g20 := i_le h19
              exact K (l2) _ rfl (by omega) (show l2.toInt = aN ab p.toInt from by first | (have nf := hi3; have r0 := (congrArg Int32.toInt (aS_I (W := 88) (S := S) (c := 87) (c₉ := 87) (k := 0) rfl rfl)); have z := aN_ro (a := aS 88 S) (p := l2.toInt) (by omega); rw [hi2] at z r0; omega) | (have nf := hi3; have r0 := (congrArg Int32.toInt (aS_I (W := 88) (S := S) (c := 87) (c₉ := 87) (k := 0) rfl rfl)); have o := ob_n1 (a := aS 88 S) (p := l2.toInt) (by omega); have z := aN_fr (a := aS 88 S) (p := l2.toInt) (by omega) (ob_neg o); rw [hi2] at z; omega) | (have nf := hi3; have r0 := (congrArg Int32.toInt (aS_I (W := 88) (S := S) (c := 87) (c₉ := 87) (k := 0) rfl rfl)); have o := ob_n2 (W := 88) (S := S) (x := l2) (by omega); have z := aN_fr (a := aS 88 S) (p := l2.toInt) (by omega) (ob_neg o); rw [hi2] at z; omega))
            · skip
              have g21 := i_nle h19
              refine ⟨i_ix (by omega) (by omega), ?_⟩
              refine ⟨fun hc => ?_, fun c1 hc => ?_⟩
              · skip
                have rn_c1 : zTa (mR S 70) (mI S 71 l2.toNatClampNeg) = none := (ta_rd (y := (mI S 71 l2.toNatClampNeg)) hi1 (by omega) (by omega)).symm.trans hc
                exact K (l2) _ rfl (by omega) (show l2.toInt = aN ab p.toInt from by first | (have nf := hi3; have r0 := (congrArg Int32.toInt (aS_I (W := 88) (S := S) (c := 87) (c₉ := 87) (k := 0) rfl rfl)); have z := aN_ro (a := aS 88 S) (p := l2.toInt) (by omega); rw [hi2] at z r0; omega) | (have nf := hi3; have r0 := (congrArg Int32.toInt (aS_I (W := 88) (S := S) (c := 87) (c₉ := 87) (k := 0) rfl rfl)); have o := ob_n3 (W := 88) (x := l2) hi1 rn_c1; have z := aN_fr (a := aS 88 S) (p := l2.toInt) (by omega) (ob_neg o); rw [hi2] at z; omega))
              · skip
                have th_c1 := (fun _ z => zG_70 hI (c := 70) (by decide) z) c1 hc
                have rg_c1 : zTa (mR S 70) (mI S 71 l2.toNatClampNeg) = some c1 := (ta_rd (y := (mI S 71 l2.toNatClampNeg)) hi1 (by omega) (by omega)).symm.trans hc
                refine ⟨zG_n hI th_c1, ?_⟩
                have f22 := zG_th hI th_c1
                first | have e23 : (l2 + (mI S c1 2)).toInt = l2.toInt + (mI S c1 2).toInt := i_add (by omega) (by omega) | have b24 := i_bd (l2 + (mI S c1 2))
                exact IH _ (by omega) ((l2 + (mI S c1 2))) rfl hI (by omega) (show xB S (mR S 70) from by first | (exact xB_x (xC_o (W := 75) hi1).2)) (show aS 88 S = ab from by first | (exact hi2)) (show aN ab ((l2 + (mI S c1 2))).toInt = aN ab p.toInt from by first | (have r0 := (congrArg Int32.toInt (aS_I (W := 88) (S := S) (c := 87) (c₉ := 87) (k := 0) rfl rfl)); have o := ob_y (W := 88) (x := l2) hi1 rg_c1 (by omega) (by omega); have z := aN_ob (a := aS 88 S) (p := l2.toInt) (sz_of hI (by decide)) (by omega) (by rw [o.1]; omega); rw [o.1, o.2] at z; rw [hi2] at z; refine Eq.trans ?_ (z.symm.trans hi3); congr 1))
theorem sp_105_87_s {X : Nat × (Nat → Int32)} {d w : Nat} {f : Nat → Nat → Int32} {r : Nat → Nat → Option Nat} {C Z N : Nat} {Q : Option ma_V ⊕ Nat → ma_S → Prop} {ab : Nat→Nat→Int32} {S : ma_S} (p : Int32) (hd : 1 ≤ d) (hw : 22 ≤ w) (hI : zJ87 f r C Z N S) (hpre0 : xB S (mR S 70)) (hpre1 : aS 88 S = ab) (hpre2 : 0 ≤ p.toInt) (K : ∀ v S₉, S₉ = S → (0 ≤ v.toInt ∧ v.toInt ≤ 1500) → (v.toInt = aN ab p.toInt) → Q (.inl (some (.inl v))) S₉) : ma_wp X d w 105 0 [(0, .inr (.inr (some 87))), (1, .inl p)] [] S Q := by
  refine g_105_87_s_0 p (by omega) (by omega) (zG_T hI) ?_
  have b1 := i_bd p
  exact lp_105_87_s_2 (by omega) (by omega) K _ (p) rfl hI (by omega) (show xB S (mR S 70) from by first | (exact xB_x (xC_o (W := 75) hpre0).2)) (show aS 88 S = ab from by first | (exact hpre1)) (show aN ab (p).toInt = aN ab p.toInt from by first | (exact rfl))

/-! from 95.g17 -/
/-! the heap by numbers, the class (written by wip/tools/gen18.py) -/
theorem g_106_87_s_0 {X : Nat × (Nat → Int32)} {d w : Nat} {S : ma_S} {Q : Option ma_V ⊕ Nat → ma_S → Prop} (p : Int32) (hd : 1 ≤ d) (hw : 22 ≤ w) (hS : zT S) (h : ma_wp X d w 106 2 [(0, .inr (.inr (some 87))), (2, .inl p)] [] S Q) : ma_wp X d w 106 0 [(0, .inr (.inr (some 87))), (1, .inl p)] [] S Q := by
  refine zw_push hm_106 dX8_freeEnd_0 (v := .inl p) rfl ?_
  refine zw_sto hm_106 dX8_freeEnd_1 [(2, .inl p), (0, .inr (.inr (some 87))), (1, .inl p)] rfl rfl rfl ?_
  exact zw_sub (ma_nd_of (ks := [0, 2]) rfl (by decide)) (ma_nd_of (ks := [2, 0, 1]) rfl (by decide)) (ma_le_cons rfl (ma_le_cons rfl (ma_le_nil _))) h
theorem g_106_87_s_2 {X : Nat × (Nat → Int32)} {d w : Nat} {S : ma_S} {Q : Option ma_V ⊕ Nat → ma_S → Prop} (l2 : Int32) (hd : 1 ≤ d) (hw : 22 ≤ w) (hS : zT S) (h : if (mI S 87 0) ≤ l2 then (Q (.inl (some (.inl l2))) S) else (if l2 < 0 then (ma_wp X d w 106 2 [(0, .inr (.inr (some 87))), (2, .inl (l2 + (1 : Int32)))] [] S Q) else (if (4500 : Int32) ≤ l2 then (ma_wp X d w 106 2 [(0, .inr (.inr (some 87))), (2, .inl (l2 + (1 : Int32)))] [] S Q) else ((0 ≤ l2 ∧ l2.toNatClampNeg < 4500) ∧ (if (mI S 71 l2.toNatClampNeg) < 0 then (ma_wp X d w 106 2 [(0, .inr (.inr (some 87))), (2, .inl (l2 + (1 : Int32)))] [] S Q) else (if (512 : Int32) ≤ (mI S 71 l2.toNatClampNeg) then (ma_wp X d w 106 2 [(0, .inr (.inr (some 87))), (2, .inl (l2 + (1 : Int32)))] [] S Q) else ((0 ≤ (mI S 71 l2.toNatClampNeg) ∧ (mI S 71 l2.toNatClampNeg).toNatClampNeg < 512) ∧ (((mR S 70 (mI S 71 l2.toNatClampNeg).toNatClampNeg) = none → ma_wp X d w 106 2 [(0, .inr (.inr (some 87))), (2, .inl (l2 + (1 : Int32)))] [] S Q) ∧ (∀ c1, (mR S 70 (mI S 71 l2.toNatClampNeg).toNatClampNeg) = some c1 → Q (.inl (some (.inl l2))) S))))))))) : ma_wp X d w 106 2 [(0, .inr (.inr (some 87))), (2, .inl l2)] [] S Q := by
  refine zw_push hm_106 dX8_freeEnd_2 (v := .inl l2) rfl ?_
  refine zw_push hm_106 dX8_freeEnd_3 (v := .inr (.inr (some 87))) rfl ?_
  refine zw_gf hm_106 dX8_freeEnd_4 (v := .inl (mI S 87 0)) (zT_is hS s_87) (zT_t hS s_87) rfl f_8_9_6 rfl ?_
  refine zw_if2 hm_106 dX8_freeEnd_7 (t := 27) rfl zc2_ge ?_ ?_
  · intro hc
    rw [if_pos hc] at h
    refine zw_push hm_106 dX8_freeEnd_27 (v := .inl l2) rfl ?_
    exact zw_iret hm_106 dX8_freeEnd_28 h
  · intro hc
    rw [if_neg hc] at h
    refine zw_push hm_106 dX8_freeEnd_10 (v := .inr (.inr (some 87))) rfl ?_
    refine zw_gf hm_106 dX8_freeEnd_11 (v := .inr (.inr (some 69))) (zT_is hS s_87) (zT_t hS s_87) rfl f_8_46_6 (zT_f hS r_87_3) ?_
    refine zw_push hm_106 dX8_freeEnd_14 (v := .inl l2) rfl ?_
    refine zw_cv hm_106 dX8_freeEnd_15 v_8_50_7 hm_89 [.inl l2] [] rfl (zT_rt hS s_69 rfl) ⟨by omega, by omega⟩ rfl ?_
    show ma_wp X (d - 1) (w - 22) 89 0 [(0, .inr (.inr (some 69))), (1, .inl l2)] [] S _
    refine zw_push hm_89 dX7_thingFrom_0 (v := .inl l2) rfl ?_
    refine zw_if0 hm_89 dX7_thingFrom_1 (t := 20) rfl zc0_lt ?_ ?_
    · intro hc
      rw [if_pos hc] at h
      refine zw_push hm_89 dX7_thingFrom_20 (v := .inl (-1 : Int32)) rfl ?_
      refine zw_sto hm_89 dX7_thingFrom_21 [(2, .inl (-1 : Int32)), (0, .inr (.inr (some 69))), (1, .inl l2)] rfl rfl rfl ?_
      refine zw_push hm_89 dX7_thingFrom_22 (v := .inl (-1 : Int32)) rfl ?_
      refine zw_if0 hm_89 dX7_thingFrom_23 (t := 42) rfl zc0_lt (fun _ => ?_) (fun hc => absurd (by decide) hc)
      refine zw_push hm_89 dX7_thingFrom_42 (v := .inr (.inr none)) rfl ?_
      refine zw_aret hm_89 dX7_thingFrom_43 ?_
      show ma_wp X d w 106 18 [(0, .inr (.inr (some 87))), (2, .inl l2)] [.inr (.inr none)] S _
      refine zw_ifnonnull hm_106 dX8_freeEnd_18 (t := 27) rfl (fun _ => ?_) (fun _ z => by cases z)
      refine zw_sto hm_106 dX8_freeEnd_21 [(2, .inl (l2 + (1 : Int32))), (0, .inr (.inr (some 87)))] rfl rfl rfl ?_
      refine zw_goto hm_106 dX8_freeEnd_24 (t := 2) rfl ?_
      exact zw_sub (ma_nd_of (ks := [0, 2]) rfl (by decide)) (ma_nd_of (ks := [2, 0]) rfl (by decide)) (ma_le_cons rfl (ma_le_cons rfl (ma_le_nil _))) h
    · intro hc
      rw [if_neg hc] at h
      refine zw_push hm_89 dX7_thingFrom_4 (v := .inl l2) rfl ?_
      refine zw_push hm_89 dX7_thingFrom_5 (v := .inl (4500 : Int32)) rfl ?_
      refine zw_if2 hm_89 dX7_thingFrom_8 (t := 20) rfl zc2_ge ?_ ?_
      · intro hc
        rw [if_pos hc] at h
        refine zw_push hm_89 dX7_thingFrom_20 (v := .inl (-1 : Int32)) rfl ?_
        refine zw_sto hm_89 dX7_thingFrom_21 [(2, .inl (-1 : Int32)), (0, .inr (.inr (some 69))), (1, .inl l2)] rfl rfl rfl ?_
        refine zw_push hm_89 dX7_thingFrom_22 (v := .inl (-1 : Int32)) rfl ?_
        refine zw_if0 hm_89 dX7_thingFrom_23 (t := 42) rfl zc0_lt (fun _ => ?_) (fun hc => absurd (by decide) hc)
        refine zw_push hm_89 dX7_thingFrom_42 (v := .inr (.inr none)) rfl ?_
        refine zw_aret hm_89 dX7_thingFrom_43 ?_
        show ma_wp X d w 106 18 [(0, .inr (.inr (some 87))), (2, .inl l2)] [.inr (.inr none)] S _
        refine zw_ifnonnull hm_106 dX8_freeEnd_18 (t := 27) rfl (fun _ => ?_) (fun _ z => by cases z)
        refine zw_sto hm_106 dX8_freeEnd_21 [(2, .inl (l2 + (1 : Int32))), (0, .inr (.inr (some 87)))] rfl rfl rfl ?_
        refine zw_goto hm_106 dX8_freeEnd_24 (t := 2) rfl ?_
        exact zw_sub (ma_nd_of (ks := [0, 2]) rfl (by decide)) (ma_nd_of (ks := [2, 0]) rfl (by decide)) (ma_le_cons rfl (ma_le_cons rfl (ma_le_nil _))) h
      · intro hc
        rw [if_neg hc] at h
        refine zw_push hm_89 dX7_thingFrom_11 (v := .inr (.inr (some 69))) rfl ?_
        refine zw_gf hm_89 dX7_thingFrom_12 (v := .inr (.inr (some 71))) (zT_is hS s_69) (zT_t hS s_69) rfl f_7_17_7 (zT_f hS r_69_1) ?_
        refine zw_push hm_89 dX7_thingFrom_15 (v := .inl l2) rfl ?_
        obtain ⟨hg, h⟩ := h
        refine zw_ia hm_89 dX7_thingFrom_16 (zT_is hS s_71) (zT_h hS s_71) rfl hg ?_
        show ma_wp X (d - 1) (w - 22) 89 17 [(0, .inr (.inr (some 69))), (1, .inl l2)] [.inl (mI S 71 l2.toNatClampNeg)] S _
        refine zw_goto hm_89 dX7_thingFrom_17 (t := 21) rfl ?_
        refine zw_sto hm_89 dX7_thingFrom_21 [(2, .inl (mI S 71 l2.toNatClampNeg)), (0, .inr (.inr (some 69))), (1, .inl l2)] rfl rfl rfl ?_
        refine zw_push hm_89 dX7_thingFrom_22 (v := .inl (mI S 71 l2.toNatClampNeg)) rfl ?_
        refine zw_if0 hm_89 dX7_thingFrom_23 (t := 42) rfl zc0_lt ?_ ?_
        · intro hc
          rw [if_pos hc] at h
          refine zw_push hm_89 dX7_thingFrom_42 (v := .inr (.inr none)) rfl ?_
          refine zw_aret hm_89 dX7_thingFrom_43 ?_
          show ma_wp X d w 106 18 [(0, .inr (.inr (some 87))), (2, .inl l2)] [.inr (.inr none)] S _
          refine zw_ifnonnull hm_106 dX8_freeEnd_18 (t := 27) rfl (fun _ => ?_) (fun _ z => by cases z)
          refine zw_sto hm_106 dX8_freeEnd_21 [(2, .inl (l2 + (1 : Int32))), (0, .inr (.inr (some 87)))] rfl rfl rfl ?_
          refine zw_goto hm_106 dX8_freeEnd_24 (t := 2) rfl ?_
          exact zw_sub (ma_nd_of (ks := [0, 2]) rfl (by decide)) (ma_nd_of (ks := [2, 0]) rfl (by decide)) (ma_le_cons rfl (ma_le_cons rfl (ma_le_nil _))) h
        · intro hc
          rw [if_neg hc] at h
          refine zw_push hm_89 dX7_thingFrom_26 (v := .inl (mI S 71 l2.toNatClampNeg)) rfl ?_
          refine zw_push hm_89 dX7_thingFrom_27 (v := .inl (512 : Int32)) rfl ?_
          refine zw_if2 hm_89 dX7_thingFrom_30 (t := 42) rfl zc2_ge ?_ ?_
          · intro hc
            rw [if_pos hc] at h
            refine zw_push hm_89 dX7_thingFrom_42 (v := .inr (.inr none)) rfl ?_
            refine zw_aret hm_89 dX7_thingFrom_43 ?_
            show ma_wp X d w 106 18 [(0, .inr (.inr (some 87))), (2, .inl l2)] [.inr (.inr none)] S _
            refine zw_ifnonnull hm_106 dX8_freeEnd_18 (t := 27) rfl (fun _ => ?_) (fun _ z => by cases z)
            refine zw_sto hm_106 dX8_freeEnd_21 [(2, .inl (l2 + (1 : Int32))), (0, .inr (.inr (some 87)))] rfl rfl rfl ?_
            refine zw_goto hm_106 dX8_freeEnd_24 (t := 2) rfl ?_
            exact zw_sub (ma_nd_of (ks := [0, 2]) rfl (by decide)) (ma_nd_of (ks := [2, 0]) rfl (by decide)) (ma_le_cons rfl (ma_le_cons rfl (ma_le_nil _))) h
          · intro hc
            rw [if_neg hc] at h
            refine zw_push hm_89 dX7_thingFrom_33 (v := .inr (.inr (some 69))) rfl ?_
            refine zw_gf hm_89 dX7_thingFrom_34 (v := .inr (.inr (some 70))) (zT_is hS s_69) (zT_t hS s_69) rfl f_7_11_7 (zT_f hS r_69_0) ?_
            refine zw_push hm_89 dX7_thingFrom_37 (v := .inl (mI S 71 l2.toNatClampNeg)) rfl ?_
            obtain ⟨hg, h⟩ := h
            refine zw_aa hm_89 dX7_thingFrom_38 (zT_is hS s_70) (zT_h hS s_70) rfl rfl hg rfl ?_
            show ma_wp X (d - 1) (w - 22) 89 39 [(2, .inl (mI S 71 l2.toNatClampNeg)), (0, .inr (.inr (some 69))), (1, .inl l2)] [.inr (.inr (mR S 70 (mI S 71 l2.toNatClampNeg).toNatClampNeg))] S _
            refine zw_goto hm_89 dX7_thingFrom_39 (t := 43) rfl ?_
            refine zw_aret hm_89 dX7_thingFrom_43 ?_
            show ma_wp X d w 106 18 [(0, .inr (.inr (some 87))), (2, .inl l2)] [.inr (.inr (mR S 70 (mI S 71 l2.toNatClampNeg).toNatClampNeg))] S _
            refine zw_ifnonnull hm_106 dX8_freeEnd_18 (t := 27) rfl ?_ ?_
            · intro hc
              have h := h.1 hc
              (try rw [hc])
              show ma_wp X d w 106 21 [(0, .inr (.inr (some 87))), (2, .inl l2)] [] S _
              refine zw_sto hm_106 dX8_freeEnd_21 [(2, .inl (l2 + (1 : Int32))), (0, .inr (.inr (some 87)))] rfl rfl rfl ?_
              refine zw_goto hm_106 dX8_freeEnd_24 (t := 2) rfl ?_
              exact zw_sub (ma_nd_of (ks := [0, 2]) rfl (by decide)) (ma_nd_of (ks := [2, 0]) rfl (by decide)) (ma_le_cons rfl (ma_le_cons rfl (ma_le_nil _))) h
            · intro c1 hc
              have h := h.2 c1 hc
              (try rw [hc])
              show ma_wp X d w 106 27 [(0, .inr (.inr (some 87))), (2, .inl l2)] [] S _
              refine zw_push hm_106 dX8_freeEnd_27 (v := .inl l2) rfl ?_
              exact zw_iret hm_106 dX8_freeEnd_28 h
theorem lp_106_87_s_2 {X : Nat × (Nat → Int32)} {d w : Nat} {f : Nat → Nat → Int32} {r : Nat → Nat → Option Nat} {C Z N : Nat} {Q : Option ma_V ⊕ Nat → ma_S → Prop} {ab : Nat→Nat→Int32} {p : Int32} {S : ma_S} (hd : 1 ≤ d) (hw : 22 ≤ w) (K : ∀ v S₉, S₉ = S → (0 ≤ v.toInt ∧ v.toInt ≤ 300000) → (v.toInt = aE ab p.toInt) → Q (.inl (some (.inl v))) S₉) : ∀ (n : Nat) (l2 : Int32), (1500 - l2.toInt).toNat = n → zJ87 f r C Z N S → (0 ≤ l2.toInt) → (l2.toInt ≤ 300000) → (xB S (mR S 70)) → (aS 88 S = ab) → (aE ab l2.toInt = aE ab p.toInt) → ma_wp X d w 106 2 [(0, .inr (.inr (some 87))), (2, .inl l2)] [] S Q := by
  intro n
  induction n using Nat.strongRecOn with
  | _ n IH =>
    intro l2 hmu hI  hi0 hi1 hi2 hi3 hi4
    refine g_106_87_s_2 l2 (by omega) (by omega) (zG_T hI) ?_
    have f1 := zG_s hI (0) (1500) (c := 87) (k := 0) (by decide)
    have b2 := i_bd l2
    refine zd (fun h3 => ?_) (fun h3 => ?_)
    · skip
      have g4 := i_le h3
      exact K (l2) _ rfl (by omega) (show l2.toInt = aE ab p.toInt from by first | (have ef := hi4; have r0 := (congrArg Int32.toInt (aS_I (W := 88) (S := S) (c := 87) (c₉ := 87) (k := 0) rfl rfl)); have z := aE_st (a := aS 88 S) (p := l2.toInt) (by omega); rw [hi3] at z; omega))
    · skip
      have g5 := i_nle h3
      have li6 : (0 : Int32).toInt = 0 := rfl
      refine zd (fun h7 => ?_) (fun h7 => ?_)
      · skip
        have g8 := i_lt h7
        first | have e9 : (l2 + (1 : Int32)).toInt = l2.toInt + (1) := i_addk rfl (by omega) (by omega) | have b10 := i_bd (l2 + (1 : Int32))
        exact IH _ (by omega) ((l2 + (1 : Int32))) rfl hI (by omega) (by omega) (show xB S (mR S 70) from by first | (exact xB_x (xC_o (W := 75) hi2).2)) (show aS 88 S = ab from by first | (exact hi3)) (show aE ab ((l2 + (1 : Int32))).toInt = aE ab p.toInt from by first | (have r0 := (congrArg Int32.toInt (aS_I (W := 88) (S := S) (c := 87) (c₉ := 87) (k := 0) rfl rfl)); have o := ob_n1 (a := aS 88 S) (p := l2.toInt) (by omega); have z := aE_go (a := aS 88 S) (p := l2.toInt) (by omega) (ob_neg o); rw [hi3] at z; rw [show (l2 + (1 : Int32)).toInt = l2.toInt + 1 from by omega]; exact z.symm.trans hi4) | (have r0 := (congrArg Int32.toInt (aS_I (W := 88) (S := S) (c := 87) (c₉ := 87) (k := 0) rfl rfl)); have o := ob_n2 (W := 88) (S := S) (x := l2) (by omega); have z := aE_go (a := aS 88 S) (p := l2.toInt) (by omega) (ob_neg o); rw [hi3] at z; rw [show (l2 + (1 : Int32)).toInt = l2.toInt + 1 from by omega]; exact z.symm.trans hi4))
      · skip
        have g11 := i_nlt h7
        have li12 : (4500 : Int32).toInt = 4500 := rfl
        refine zd (fun h13 => ?_) (fun h13 => ?_)
        · skip
          have g14 := i_le h13
          first | have e15 : (l2 + (1 : Int32)).toInt = l2.toInt + (1) := i_addk rfl (by omega) (by omega) | have b16 := i_bd (l2 + (1 : Int32))
          exact IH _ (by omega) ((l2 + (1 : Int32))) rfl hI (by omega) (by omega) (show xB S (mR S 70) from by first | (exact xB_x (xC_o (W := 75) hi2).2)) (show aS 88 S = ab from by first | (exact hi3)) (show aE ab ((l2 + (1 : Int32))).toInt = aE ab p.toInt from by first | (have r0 := (congrArg Int32.toInt (aS_I (W := 88) (S := S) (c := 87) (c₉ := 87) (k := 0) rfl rfl)); have o := ob_n1 (a := aS 88 S) (p := l2.toInt) (by omega); have z := aE_go (a := aS 88 S) (p := l2.toInt) (by omega) (ob_neg o); rw [hi3] at z; rw [show (l2 + (1 : Int32)).toInt = l2.toInt + 1 from by omega]; exact z.symm.trans hi4) | (have r0 := (congrArg Int32.toInt (aS_I (W := 88) (S := S) (c := 87) (c₉ := 87) (k := 0) rfl rfl)); have o := ob_n2 (W := 88) (S := S) (x := l2) (by omega); have z := aE_go (a := aS 88 S) (p := l2.toInt) (by omega) (ob_neg o); rw [hi3] at z; rw [show (l2 + (1 : Int32)).toInt = l2.toInt + 1 from by omega]; exact z.symm.trans hi4))
        · skip
          have g17 := i_nle h13
          refine ⟨i_ix (by omega) (by omega), ?_⟩
          have b18 := i_bd (mI S 71 l2.toNatClampNeg)
          refine zd (fun h19 => ?_) (fun h19 => ?_)
          · skip
            have g20 := i_lt h19
            first | have e21 : (l2 + (1 : Int32)).toInt = l2.toInt + (1) := i_addk rfl (by omega) (by omega) | have b22 := i_bd (l2 + (1 : Int32))
            exact IH _ (by omega) ((l2 + (1 : Int32))) rfl hI (by omega) (by omega) (show xB S (mR S 70) from by first | (exact xB_x (xC_o (W := 75) hi2).2)) (show aS 88 S = ab from by first | (exact hi3)) (show aE ab ((l2 + (1 : Int32))).toInt = aE ab p.toInt from by first | (have r0 := (congrArg Int32.toInt (aS_I (W := 88) (S := S) (c := 87) (c₉ := 87) (k := 0) rfl rfl)); have o := ob_n1 (a := aS 88 S) (p := l2.toInt) (by omega); have z := aE_go (a := aS 88 S) (p := l2.toInt) (by omega) (ob_neg o); rw [hi3] at z; rw [show (l2 + (1 : Int32)).toInt = l2.toInt + 1 from by omega]; exact z.symm.trans hi4) | (have r0 := (congrArg Int32.toInt (aS_I (W := 88) (S := S) (c := 87) (c₉ := 87) (k := 0) rfl rfl)); have o := ob_n2 (W := 88) (S := S) (x := l2) (by omega); have z := aE_go (a := aS 88 S) (p := l2.toInt) (by omega) (ob_neg o); rw [hi3] at z; rw [show (l2 + (1 : Int32)).toInt = l2.toInt + 1 from by omega]; exact z.symm.trans hi4))
          · skip
            have g23 := i_nlt h19
            have li24 : (512 : Int32).toInt = 512 := rfl
            refine zd (fun h25 => ?_) (fun h25 => ?_)
            · skip
              have g26 := i_le h25
              first | have e27 : (l2 + (1 : Int32)).toInt = l2.toInt + (1) := i_addk rfl (by omega) (by omega) | have b28 := i_bd (l2 + (1 : Int32))
              exact IH _ (by omega) ((l2 + (1 : Int32))) rfl hI (by omega) (by omega) (show xB S (mR S 70) from by first | (exact xB_x (xC_o (W := 75) hi2).2)) (show aS 88 S = ab from by first | (exact hi3)) (show aE ab ((l2 + (1 : Int32))).toInt = aE ab p.toInt from by first | (have r0 := (congrArg Int32.toInt (aS_I (W := 88) (S := S) (c := 87) (c₉ := 87) (k := 0) rfl rfl)); have o := ob_n1 (a := aS 88 S) (p := l2.toInt) (by omega); have z := aE_go (a := aS 88 S) (p := l2.toInt) (by omega) (ob_neg o); rw [hi3] at z; rw [show (l2 + (1 : Int32)).toInt = l2.toInt + 1 from by omega]; exact z.symm.trans hi4) | (have r0 := (congrArg Int32.toInt (aS_I (W := 88) (S := S) (c := 87) (c₉ := 87) (k := 0) rfl rfl)); have o := ob_n2 (W := 88) (S := S) (x := l2) (by omega); have z := aE_go (a := aS 88 S) (p := l2.toInt) (by omega) (ob_neg o); rw [hi3] at z; rw [show (l2 + (1 : Int32)).toInt = l2.toInt + 1 from by omega]; exact z.symm.trans hi4))
            · skip
              have g29 := i_nle h25
              refine ⟨i_ix (by omega) (by omega), ?_⟩
              refine ⟨fun hc => ?_, fun c1 hc => ?_⟩
              · skip
                have rn_c1 : zTa (mR S 70) (mI S 71 l2.toNatClampNeg) = none := (ta_rd (y := (mI S 71 l2.toNatClampNeg)) hi2 (by omega) (by omega)).symm.trans hc
                first | have e30 : (l2 + (1 : Int32)).toInt = l2.toInt + (1) := i_addk rfl (by omega) (by omega) | have b31 := i_bd (l2 + (1 : Int32))
                exact IH _ (by omega) ((l2 + (1 : Int32))) rfl hI (by omega) (by omega) (show xB S (mR S 70) from by first | (exact xB_x (xC_o (W := 75) hi2).2)) (show aS 88 S = ab from by first | (exact hi3)) (show aE ab ((l2 + (1 : Int32))).toInt = aE ab p.toInt from by first | (have r0 := (congrArg Int32.toInt (aS_I (W := 88) (S := S) (c := 87) (c₉ := 87) (k := 0) rfl rfl)); have o := ob_n3 (W := 88) (x := l2) hi2 rn_c1; have z := aE_go (a := aS 88 S) (p := l2.toInt) (by omega) (ob_neg o); rw [hi3] at z; rw [show (l2 + (1 : Int32)).toInt = l2.toInt + 1 from by omega]; exact z.symm.trans hi4))
              · skip
                have th_c1 := (fun _ z => zG_70 hI (c := 70) (by decide) z) c1 hc
                have rg_c1 : zTa (mR S 70) (mI S 71 l2.toNatClampNeg) = some c1 := (ta_rd (y := (mI S 71 l2.toNatClampNeg)) hi2 (by omega) (by omega)).symm.trans hc
                exact K (l2) _ rfl (by omega) (show l2.toInt = aE ab p.toInt from by first | (have ef := hi4; have r0 := (congrArg Int32.toInt (aS_I (W := 88) (S := S) (c := 87) (c₉ := 87) (k := 0) rfl rfl)); have o := ob_y (W := 88) (x := l2) hi2 rg_c1 (by omega) (by omega); have z := aE_st (a := aS 88 S) (p := l2.toInt) (fun w => by rw [o.1] at w; omega); rw [hi3] at z; omega))
theorem sp_106_87_s {X : Nat × (Nat → Int32)} {d w : Nat} {f : Nat → Nat → Int32} {r : Nat → Nat → Option Nat} {C Z N : Nat} {Q : Option ma_V ⊕ Nat → ma_S → Prop} {ab : Nat→Nat→Int32} {S : ma_S} (p : Int32) (hd : 1 ≤ d) (hw : 22 ≤ w) (hI : zJ87 f r C Z N S) (hpre0 : xB S (mR S 70)) (hpre1 : aS 88 S = ab) (hpre2 : 0 ≤ p.toInt) (hpre3 : p.toInt ≤ 300000) (K : ∀ v S₉, S₉ = S → (0 ≤ v.toInt ∧ v.toInt ≤ 300000) → (v.toInt = aE ab p.toInt) → Q (.inl (some (.inl v))) S₉) : ma_wp X d w 106 0 [(0, .inr (.inr (some 87))), (1, .inl p)] [] S Q := by
  refine g_106_87_s_0 p (by omega) (by omega) (zG_T hI) ?_
  have b1 := i_bd p
  exact lp_106_87_s_2 (by omega) (by omega) K _ (p) rfl hI (by omega) (by omega) (show xB S (mR S 70) from by first | (exact xB_x (xC_o (W := 75) hpre0).2)) (show aS 88 S = ab from by first | (exact hpre1)) (show aE ab (p).toInt = aE ab p.toInt from by first | (exact rfl))

/-! from 95.g18 -/
/-! the heap by numbers, the class (written by wip/tools/gen18.py) -/
theorem g_104_87_s_0 {X : Nat × (Nat → Int32)} {d w : Nat} {S : ma_S} {Q : Option ma_V ⊕ Nat → ma_S → Prop} (a : Int32) (b : Int32) (z : Int32) (hd : 2 ≤ d) (hw : 45 ≤ w) (hS : zT S) (h : ma_wp X (d - 1) (w - 23) 105 0 [(0, .inr (.inr (some 87))), (1, .inl a)] [] S (zi (fun v2 S1 => zT S1 ∧ (ma_wp X d w 104 10 [(0, .inr (.inr (some 87))), (2, .inl b), (3, .inl z), (4, .inl v2), (5, .inl (0 : Int32))] [] S1 Q)) (fun x S9 => Q (.inr x) S9))) : ma_wp X d w 104 0 [(0, .inr (.inr (some 87))), (1, .inl a), (2, .inl b), (3, .inl z)] [] S Q := by
  refine zw_push hm_104 dX8_fitFirst_0 (v := .inr (.inr (some 87))) rfl ?_
  refine zw_push hm_104 dX8_fitFirst_1 (v := .inl a) rfl ?_
  refine zw_cv hm_104 dX8_fitFirst_2 v_8_40_6 hm_105 [.inl a] [] rfl (zT_rt hS s_87 rfl) ⟨by omega, by omega⟩ rfl (zw_mono h (zi_go ?_ ?_))
  · intro v2 S1 hv
    obtain ⟨hS1, h⟩ := hv
    refine zw_sto hm_104 dX8_fitFirst_5 [(4, .inl v2), (0, .inr (.inr (some 87))), (1, .inl a), (2, .inl b), (3, .inl z)] rfl rfl rfl ?_
    refine zw_push hm_104 dX8_fitFirst_7 (v := .inl (0 : Int32)) rfl ?_
    refine zw_sto hm_104 dX8_fitFirst_8 [(5, .inl (0 : Int32)), (4, .inl v2), (0, .inr (.inr (some 87))), (1, .inl a), (2, .inl b), (3, .inl z)] rfl rfl rfl ?_
    exact zw_sub (ma_nd_of (ks := [0, 2, 3, 4, 5]) rfl (by decide)) (ma_nd_of (ks := [5, 4, 0, 1, 2, 3]) rfl (by decide)) (ma_le_cons rfl (ma_le_cons rfl (ma_le_cons rfl (ma_le_cons rfl (ma_le_cons rfl (ma_le_nil _)))))) h
  · intro x S9 hx
    exact ⟨by decide, hx⟩
theorem g_104_87_s_10 {X : Nat × (Nat → Int32)} {d w : Nat} {S : ma_S} {Q : Option ma_V ⊕ Nat → ma_S → Prop} (l2 : Int32) (l3 : Int32) (l4 : Int32) (l5 : Int32) (hd : 2 ≤ d) (hw : 45 ≤ w) (hS : zT S) (h : if (4500 : Int32) ≤ l5 then (Q (.inl (some (.inl (-1 : Int32)))) S) else (if l2 ≤ l4 then (Q (.inl (some (.inl (-1 : Int32)))) S) else (ma_wp X (d - 1) (w - 22) 106 0 [(0, .inr (.inr (some 87))), (1, .inl l4)] [] S (zi (fun v2 S1 => zT S1 ∧ (if (v2 - l4) < l3 then (ma_wp X (d - 1) (w - 23) 105 0 [(0, .inr (.inr (some 87))), (1, .inl v2)] [] (ma_put S1 69 12 (.inl ((mI S1 69 12) + (1 : Int32)))) (zi (fun v4 S3 => zT S3 ∧ (ma_wp X d w 104 10 [(0, .inr (.inr (some 87))), (2, .inl l2), (3, .inl l3), (4, .inl v4), (5, .inl (l5 + (1 : Int32)))] [] S3 Q)) (fun x S9 => Q (.inr x) S9))) else (Q (.inl (some (.inl l4))) (ma_put S1 69 12 (.inl ((mI S1 69 12) + (1 : Int32))))))) (fun x S9 => Q (.inr x) S9))))) : ma_wp X d w 104 10 [(0, .inr (.inr (some 87))), (2, .inl l2), (3, .inl l3), (4, .inl l4), (5, .inl l5)] [] S Q := by
  refine zw_push hm_104 dX8_fitFirst_10 (v := .inl l5) rfl ?_
  refine zw_push hm_104 dX8_fitFirst_12 (v := .inl (4500 : Int32)) rfl ?_
  refine zw_if2 hm_104 dX8_fitFirst_15 (t := 71) rfl zc2_ge ?_ ?_
  · intro hc
    rw [if_pos hc] at h
    refine zw_push hm_104 dX8_fitFirst_71 (v := .inl (-1 : Int32)) rfl ?_
    exact zw_iret hm_104 dX8_fitFirst_72 h
  · intro hc
    rw [if_neg hc] at h
    refine zw_push hm_104 dX8_fitFirst_18 (v := .inl l4) rfl ?_
    refine zw_push hm_104 dX8_fitFirst_20 (v := .inl l2) rfl ?_
    refine zw_if2 hm_104 dX8_fitFirst_21 (t := 71) rfl zc2_ge ?_ ?_
    · intro hc
      rw [if_pos hc] at h
      refine zw_push hm_104 dX8_fitFirst_71 (v := .inl (-1 : Int32)) rfl ?_
      exact zw_iret hm_104 dX8_fitFirst_72 h
    · intro hc
      rw [if_neg hc] at h
      refine zw_push hm_104 dX8_fitFirst_24 (v := .inr (.inr (some 87))) rfl ?_
      refine zw_push hm_104 dX8_fitFirst_25 (v := .inl l4) rfl ?_
      refine zw_cv hm_104 dX8_fitFirst_27 v_8_43_6 hm_106 [.inl l4] [] rfl (zT_rt hS s_87 rfl) ⟨by omega, by omega⟩ rfl (zw_mono h (zi_go ?_ ?_))
      · intro v2 S1 hv
        obtain ⟨hS1, h⟩ := hv
        refine zw_sto hm_104 dX8_fitFirst_30 [(6, .inl v2), (0, .inr (.inr (some 87))), (2, .inl l2), (3, .inl l3), (4, .inl l4), (5, .inl l5)] rfl rfl rfl ?_
        refine zw_push hm_104 dX8_fitFirst_32 (v := .inr (.inr (some 87))) rfl ?_
        refine zw_gf hm_104 dX8_fitFirst_33 (v := .inr (.inr (some 69))) (zT_is hS1 s_87) (zT_t hS1 s_87) rfl f_8_46_6 (zT_f hS1 r_87_3) ?_
        refine zw_stk hm_104 dX8_fitFirst_36 (st₉ := [.inr (.inr (some 69)), .inr (.inr (some 69))]) rfl rfl ?_
        refine zw_gf hm_104 dX8_fitFirst_37 (v := .inl (mI S1 69 12)) (zT_is hS1 s_69) (zT_t hS1 s_69) rfl f_8_67_7 rfl ?_
        refine zw_push hm_104 dX8_fitFirst_40 (v := .inl (1 : Int32)) rfl ?_
        refine zw_stk hm_104 dX8_fitFirst_41 (st₉ := [.inl ((mI S1 69 12) + (1 : Int32)), .inr (.inr (some 69))]) rfl rfl ?_
        refine zw_pf hm_104 dX8_fitFirst_42 (zT_is hS1 s_69) (zT_t hS1 s_69) p_8_67_7 zk_int ?_
        refine zw_push hm_104 dX8_fitFirst_45 (v := .inl v2) rfl ?_
        refine zw_push hm_104 dX8_fitFirst_47 (v := .inl l4) rfl ?_
        refine zw_stk hm_104 dX8_fitFirst_49 (st₉ := [.inl (v2 - l4)]) rfl rfl ?_
        refine zw_push hm_104 dX8_fitFirst_50 (v := .inl l3) rfl ?_
        refine zw_if2 hm_104 dX8_fitFirst_51 (t := 57) rfl zc2_lt ?_ ?_
        · intro hc
          rw [if_pos hc] at h
          refine zw_push hm_104 dX8_fitFirst_57 (v := .inr (.inr (some 87))) rfl ?_
          refine zw_push hm_104 dX8_fitFirst_58 (v := .inl v2) rfl ?_
          refine zw_cv hm_104 dX8_fitFirst_60 v_8_40_6 hm_105 [.inl v2] [] rfl (zT_rt (zT_pi hS1) s_87 rfl) ⟨by omega, by omega⟩ rfl (zw_mono h (zi_go ?_ ?_))
          · intro v4 S3 hv
            obtain ⟨hS3, h⟩ := hv
            refine zw_sto hm_104 dX8_fitFirst_63 [(4, .inl v4), (6, .inl v2), (0, .inr (.inr (some 87))), (2, .inl l2), (3, .inl l3), (5, .inl l5)] rfl rfl rfl ?_
            refine zw_sto hm_104 dX8_fitFirst_65 [(5, .inl (l5 + (1 : Int32))), (4, .inl v4), (6, .inl v2), (0, .inr (.inr (some 87))), (2, .inl l2), (3, .inl l3)] rfl rfl rfl ?_
            refine zw_goto hm_104 dX8_fitFirst_68 (t := 10) rfl ?_
            exact zw_sub (ma_nd_of (ks := [0, 2, 3, 4, 5]) rfl (by decide)) (ma_nd_of (ks := [5, 4, 6, 0, 2, 3]) rfl (by decide)) (ma_le_cons rfl (ma_le_cons rfl (ma_le_cons rfl (ma_le_cons rfl (ma_le_cons rfl (ma_le_nil _)))))) h
          · intro x S9 hx
            exact ⟨by decide, hx⟩
        · intro hc
          rw [if_neg hc] at h
          refine zw_push hm_104 dX8_fitFirst_54 (v := .inl l4) rfl ?_
          exact zw_iret hm_104 dX8_fitFirst_56 h
      · intro x S9 hx
        exact ⟨by decide, hx⟩
theorem lp_104_87_s_10 {X : Nat × (Nat → Int32)} {d w : Nat} {f : Nat → Nat → Int32} {r : Nat → Nat → Option Nat} {C Z N : Nat} {Q : Option ma_V ⊕ Nat → ma_S → Prop} {ab : Nat→Nat→Int32} {a : Int32} {b : Int32} {z : Int32} (hd : 2 ≤ d) (hw : 45 ≤ w) (K : ∀ v S₉, zJ87 f r C Z N S₉ → (-1 ≤ v.toInt ∧ v.toInt ≤ 1500) → (xB S₉ (mR S₉ 70)) → (aS 88 S₉ = ab) → (v.toInt = aFf ab z.toInt b.toInt 4500 (aN ab a.toInt)) → Q (.inl (some (.inl v))) S₉) : ∀ (n : Nat) (S : ma_S) (l2 : Int32) (l3 : Int32) (l4 : Int32) (l5 : Int32), (4500 - l5.toInt).toNat = n → zJ87 f r C Z N S → (0 ≤ l4.toInt) → (l4.toInt ≤ 1500) → (0 ≤ l5.toInt) → (xB S (mR S 70)) → (aS 88 S = ab) → (aFf ab l3.toInt l2.toInt (4500 - l5.toInt).toNat l4.toInt = aFf ab z.toInt b.toInt 4500 (aN ab a.toInt)) → ma_wp X d w 104 10 [(0, .inr (.inr (some 87))), (2, .inl l2), (3, .inl l3), (4, .inl l4), (5, .inl l5)] [] S Q := by
  intro n
  induction n using Nat.strongRecOn with
  | _ n IH =>
    intro S l2 l3 l4 l5 hmu hI  hi0 hi1 hi2 hi3 hi4 hi5
    refine g_104_87_s_10 l2 l3 l4 l5 (by omega) (by omega) (zG_T hI) ?_
    have li1 : (4500 : Int32).toInt = 4500 := rfl
    have b2 := i_bd l5
    refine zd (fun h3 => ?_) (fun h3 => ?_)
    · skip
      have g4 := i_le h3
      have li5 : (-1 : Int32).toInt = -1 := rfl
      exact K ((-1 : Int32)) _ hI (by omega) (show xB S (mR S 70) from by first | (exact xB_x (xC_o (W := 75) hi3).2)) (show aS 88 S = ab from by first | (exact (xC_o (W := 88) hi3).1.trans hi4)) (show (-1 : Int32).toInt = aFf ab z.toInt b.toInt 4500 (aN ab a.toInt) from by first | (have q := (aFf_st (by omega)).symm.trans hi5; exact q))
    · skip
      have g6 := i_nle h3
      have b7 := i_bd l2
      have b8 := i_bd l4
      refine zd (fun h9 => ?_) (fun h9 => ?_)
      · skip
        have g10 := i_le h9
        have li11 : (-1 : Int32).toInt = -1 := rfl
        exact K ((-1 : Int32)) _ hI (by omega) (show xB S (mR S 70) from by first | (exact xB_x (xC_o (W := 75) hi3).2)) (show aS 88 S = ab from by first | (exact (xC_o (W := 88) hi3).1.trans hi4)) (show (-1 : Int32).toInt = aFf ab z.toInt b.toInt 4500 (aN ab a.toInt) from by first | (have q := (aFf_st (by omega)).symm.trans hi5; exact q))
      · skip
        have g12 := i_nle h9
        refine sp_106_87_s (ab := (aS 88 S)) (l4) (by omega) (by omega) hI (show xB S (mR S 70) from by first | (exact xB_x (xC_o (W := 75) hi3).2)) (show aS 88 S = (aS 88 S) from by first | (exact rfl) | (exact hi4)) (by omega) (by omega) (fun v2 S1 eS_S1 hp_v2 rp0_S1 => zi_n ⟨(by rw [eS_S1]; exact zG_T hI), ?_⟩)
        replace eS_S1 := eS_S1.symm; subst eS_S1
        have rp0_S1 : v2.toInt = aE (aS 88 S) l4.toInt := rp0_S1
        have b13 := i_bd v2
        first | have e14 : (v2 - l4).toInt = v2.toInt - l4.toInt := i_sub (by omega) (by omega) | have b15 := i_bd (v2 - l4)
        have b16 := i_bd l3
        refine zd (fun h17 => ?_) (fun h17 => ?_)
        · skip
          have g18 := i_lt h17
          have hI19 : zJ87 f r C Z N (ma_put S 69 12 (.inl ((mI S 69 12) + (1 : Int32)))) := zG_fr hI rfl (by decide) (by decide) (by decide) trivial
          refine sp_105_87_s (ab := (aS 88 (ma_put S 69 12 (.inl ((mI S 69 12) + (1 : Int32)))))) (v2) (by omega) (by omega) hI19 (show xB (ma_put S 69 12 (.inl ((mI S 69 12) + (1 : Int32)))) (mR (ma_put S 69 12 (.inl ((mI S 69 12) + (1 : Int32)))) 70) from by first | (exact xB_x (xC_n (c := 69) (k := 12) (x := ((mI S 69 12) + (1 : Int32))) (xC_o (W := 75) hi3) ⟨by decide, Or.inl ⟨rfl, rfl⟩⟩).2)) (show aS 88 (ma_put S 69 12 (.inl ((mI S 69 12) + (1 : Int32)))) = (aS 88 (ma_put S 69 12 (.inl ((mI S 69 12) + (1 : Int32))))) from by first | (exact rfl) | (exact hi4)) (by omega) (fun v4 S3 eS_S3 hp_v4 rp0_S3 => zi_n ⟨(by rw [eS_S3]; exact zG_T hI19), ?_⟩)
          replace eS_S3 := eS_S3.symm; subst eS_S3
          have rp0_S3 : v4.toInt = aN (aS 88 (ma_put S 69 12 (.inl ((mI S 69 12) + (1 : Int32))))) v2.toInt := rp0_S3
          have b20 := i_bd v4
          first | have e21 : (l5 + (1 : Int32)).toInt = l5.toInt + (1) := i_addk rfl (by omega) (by omega) | have b22 := i_bd (l5 + (1 : Int32))
          exact IH _ (by omega) _ (l2) (l3) (v4) ((l5 + (1 : Int32))) rfl hI19 (by omega) (by omega) (by omega) (show xB (ma_put S 69 12 (.inl ((mI S 69 12) + (1 : Int32)))) (mR (ma_put S 69 12 (.inl ((mI S 69 12) + (1 : Int32)))) 70) from by first | (exact xB_x (xC_n (c := 69) (k := 12) (x := ((mI S 69 12) + (1 : Int32))) (xC_o (W := 75) hi3) ⟨by decide, Or.inl ⟨rfl, rfl⟩⟩).2)) (show aS 88 (ma_put S 69 12 (.inl ((mI S 69 12) + (1 : Int32)))) = ab from by first | (exact (xC_n (c := 69) (k := 12) (x := ((mI S 69 12) + (1 : Int32))) (xC_o (W := 88) hi3) ⟨by decide, Or.inr ⟨rfl, Or.inr ⟨rfl, by decide⟩⟩⟩).1.trans hi4)) (show aFf ab (l3).toInt (l2).toInt (4500 - ((l5 + (1 : Int32))).toInt).toNat (v4).toInt = aFf ab z.toInt b.toInt 4500 (aN ab a.toInt) from by first | (have e1 := rp0_S1; rw [hi4] at e1; have e2 := rp0_S3; rw [(xC_n (c := 69) (k := 12) (x := ((mI S 69 12) + (1 : Int32))) (xC_o (W := 88) hi3) ⟨by decide, Or.inr ⟨rfl, Or.inr ⟨rfl, by decide⟩⟩⟩).1, hi4, e1] at e2; rw [e2]; exact ((congrArg (fun q => aFf ab l3.toInt l2.toInt q l4.toInt) (show (4500 - l5.toInt).toNat = (4500 - (l5 + (1 : Int32)).toInt).toNat + 1 by omega)).trans (aFf_n (by omega) (by omega))).symm.trans hi5))
        · skip
          have g23 := i_nlt h17
          have hI24 : zJ87 f r C Z N (ma_put S 69 12 (.inl ((mI S 69 12) + (1 : Int32)))) := zG_fr hI rfl (by decide) (by decide) (by decide) trivial
          exact K (l4) _ hI24 (by omega) (show xB (ma_put S 69 12 (.inl ((mI S 69 12) + (1 : Int32)))) (mR (ma_put S 69 12 (.inl ((mI S 69 12) + (1 : Int32)))) 70) from by first | (exact xB_x (xC_n (c := 69) (k := 12) (x := ((mI S 69 12) + (1 : Int32))) (xC_o (W := 75) hi3) ⟨by decide, Or.inl ⟨rfl, rfl⟩⟩).2)) (show aS 88 (ma_put S 69 12 (.inl ((mI S 69 12) + (1 : Int32)))) = ab from by first | (exact (xC_n (c := 69) (k := 12) (x := ((mI S 69 12) + (1 : Int32))) (xC_o (W := 88) hi3) ⟨by decide, Or.inr ⟨rfl, Or.inr ⟨rfl, by decide⟩⟩⟩).1.trans hi4)) (show l4.toInt = aFf ab z.toInt b.toInt 4500 (aN ab a.toInt) from by first | (have e1 := rp0_S1; rw [hi4] at e1; have q := ((congrArg (fun q => aFf ab l3.toInt l2.toInt q l4.toInt) (show (4500 - l5.toInt).toNat = (4500 - l5.toInt - 1).toNat + 1 by omega)).trans (aFf_y (by omega) (by omega))).symm.trans hi5; exact q))
theorem sp_104_87_s {X : Nat × (Nat → Int32)} {d w : Nat} {f : Nat → Nat → Int32} {r : Nat → Nat → Option Nat} {C Z N : Nat} {Q : Option ma_V ⊕ Nat → ma_S → Prop} {ab : Nat→Nat→Int32} {S : ma_S} (a : Int32) (b : Int32) (z : Int32) (hd : 2 ≤ d) (hw : 45 ≤ w) (hI : zJ87 f r C Z N S) (hpre0 : xB S (mR S 70)) (hpre1 : aS 88 S = ab) (hpre2 : 0 ≤ a.toInt) (K : ∀ v S₉, zJ87 f r C Z N S₉ → (-1 ≤ v.toInt ∧ v.toInt ≤ 1500) → (xB S₉ (mR S₉ 70)) → (aS 88 S₉ = ab) → (v.toInt = aFf ab z.toInt b.toInt 4500 (aN ab a.toInt)) → Q (.inl (some (.inl v))) S₉) : ma_wp X d w 104 0 [(0, .inr (.inr (some 87))), (1, .inl a), (2, .inl b), (3, .inl z)] [] S Q := by
  refine g_104_87_s_0 a b z (by omega) (by omega) (zG_T hI) ?_
  have b1 := i_bd a
  refine sp_105_87_s (ab := (aS 88 S)) (a) (by omega) (by omega) hI (show xB S (mR S 70) from by first | (exact xB_x (xC_o (W := 75) hpre0).2)) (show aS 88 S = (aS 88 S) from by first | (exact rfl) | (exact hpre1)) (by omega) (fun v2 S1 eS_S1 hp_v2 rp0_S1 => zi_n ⟨(by rw [eS_S1]; exact zG_T hI), ?_⟩)
  replace eS_S1 := eS_S1.symm; subst eS_S1
  have rp0_S1 : v2.toInt = aN (aS 88 S) a.toInt := rp0_S1
  have b2 := i_bd b
  have b3 := i_bd z
  have b4 := i_bd v2
  have li5 : (0 : Int32).toInt = 0 := rfl
  exact lp_104_87_s_10 (by omega) (by omega) K _ _ (b) (z) (v2) ((0 : Int32)) rfl hI (by omega) (by omega) (by omega) (show xB S (mR S 70) from by first | (exact xB_x (xC_o (W := 75) hpre0).2)) (show aS 88 S = ab from by first | (exact (xC_o (W := 88) hpre0).1.trans hpre1)) (show aFf ab (z).toInt (b).toInt (4500 - ((0 : Int32)).toInt).toNat (v2).toInt = aFf ab z.toInt b.toInt 4500 (aN ab a.toInt) from by first | (rw [← hpre1, ← rp0_S1]; rfl))
theorem g_107_87_s_0 {X : Nat × (Nat → Int32)} {d w : Nat} {S : ma_S} {Q : Option ma_V ⊕ Nat → ma_S → Prop} (n : Int32) (hd : 3 ≤ d) (hw : 71 ≤ w) (hS : zT S) (h : ma_wp X (d - 1) (w - 26) 104 0 [(0, .inr (.inr (some 87))), (1, .inl (mI S 87 2)), (2, .inl (mI S 87 0)), (3, .inl n)] [] S (zi (fun v2 S1 => zT S1 ∧ (if v2 = (-1 : Int32) then (ma_wp X (d - 1) (w - 26) 104 0 [(0, .inr (.inr (some 87))), (1, .inl (0 : Int32)), (2, .inl (mI S1 87 2)), (3, .inl n)] [] S1 (zi (fun v4 S3 => zT S3 ∧ (Q (.inl (some (.inl v4))) S3)) (fun x S9 => Q (.inr x) S9))) else (Q (.inl (some (.inl v2))) S1))) (fun x S9 => Q (.inr x) S9))) : ma_wp X d w 107 0 [(0, .inr (.inr (some 87))), (1, .inl n)] [] S Q := by
  refine zw_push hm_107 dX8_fitNext_0 (v := .inr (.inr (some 87))) rfl ?_
  refine zw_push hm_107 dX8_fitNext_1 (v := .inr (.inr (some 87))) rfl ?_
  refine zw_gf hm_107 dX8_fitNext_2 (v := .inl (mI S 87 2)) (zT_is hS s_87) (zT_t hS s_87) rfl f_8_18_6 rfl ?_
  refine zw_push hm_107 dX8_fitNext_5 (v := .inr (.inr (some 87))) rfl ?_
  refine zw_gf hm_107 dX8_fitNext_6 (v := .inl (mI S 87 0)) (zT_is hS s_87) (zT_t hS s_87) rfl f_8_9_6 rfl ?_
  refine zw_push hm_107 dX8_fitNext_9 (v := .inl n) rfl ?_
  refine zw_cv hm_107 dX8_fitNext_10 v_8_56_6 hm_104 [.inl n, .inl (mI S 87 0), .inl (mI S 87 2)] [] rfl (zT_rt hS s_87 rfl) ⟨by omega, by omega⟩ rfl (zw_mono h (zi_go ?_ ?_))
  · intro v2 S1 hv
    obtain ⟨hS1, h⟩ := hv
    refine zw_sto hm_107 dX8_fitNext_13 [(2, .inl v2), (0, .inr (.inr (some 87))), (1, .inl n)] rfl rfl rfl ?_
    refine zw_push hm_107 dX8_fitNext_14 (v := .inl v2) rfl ?_
    refine zw_push hm_107 dX8_fitNext_15 (v := .inl (-1 : Int32)) rfl ?_
    refine zw_if2 hm_107 dX8_fitNext_16 (t := 23) rfl zc2_eq ?_ ?_
    · intro hc
      rw [if_pos hc] at h
      refine zw_push hm_107 dX8_fitNext_23 (v := .inr (.inr (some 87))) rfl ?_
      refine zw_push hm_107 dX8_fitNext_24 (v := .inl (0 : Int32)) rfl ?_
      refine zw_push hm_107 dX8_fitNext_25 (v := .inr (.inr (some 87))) rfl ?_
      refine zw_gf hm_107 dX8_fitNext_26 (v := .inl (mI S1 87 2)) (zT_is hS1 s_87) (zT_t hS1 s_87) rfl f_8_18_6 rfl ?_
      refine zw_push hm_107 dX8_fitNext_29 (v := .inl n) rfl ?_
      refine zw_cv hm_107 dX8_fitNext_30 v_8_56_6 hm_104 [.inl n, .inl (mI S1 87 2), .inl (0 : Int32)] [] rfl (zT_rt hS1 s_87 rfl) ⟨by omega, by omega⟩ rfl (zw_mono h (zi_go ?_ ?_))
      · intro v4 S3 hv
        obtain ⟨hS3, h⟩ := hv
        exact zw_iret hm_107 dX8_fitNext_33 h
      · intro x S9 hx
        exact ⟨by decide, hx⟩
    · intro hc
      rw [if_neg hc] at h
      refine zw_push hm_107 dX8_fitNext_19 (v := .inl v2) rfl ?_
      refine zw_goto hm_107 dX8_fitNext_20 (t := 33) rfl ?_
      exact zw_iret hm_107 dX8_fitNext_33 h
  · intro x S9 hx
    exact ⟨by decide, hx⟩
theorem sp_107_87_s {X : Nat × (Nat → Int32)} {d w : Nat} {f : Nat → Nat → Int32} {r : Nat → Nat → Option Nat} {C Z N : Nat} {Q : Option ma_V ⊕ Nat → ma_S → Prop} {ab : Nat→Nat→Int32} {S : ma_S} (n : Int32) (hd : 3 ≤ d) (hw : 71 ≤ w) (hI : zJ87 f r C Z N S) (hpre0 : xB S (mR S 70)) (hpre1 : aS 88 S = ab) (K : ∀ v S₉, zJ87 f r C Z N S₉ → (-1 ≤ v.toInt ∧ v.toInt ≤ 1500) → (xB S₉ (mR S₉ 70)) → (aS 88 S₉ = ab) → (v.toInt = aFx ab n.toInt) → Q (.inl (some (.inl v))) S₉) : ma_wp X d w 107 0 [(0, .inr (.inr (some 87))), (1, .inl n)] [] S Q := by
  refine g_107_87_s_0 n (by omega) (by omega) (zG_T hI) ?_
  have f1 := zG_s hI (0) (400000) (c := 87) (k := 2) (by decide)
  have f2 := zG_s hI (0) (1500) (c := 87) (k := 0) (by decide)
  have b3 := i_bd n
  refine sp_104_87_s (ab := (aS 88 S)) ((mI S 87 2)) ((mI S 87 0)) (n) (by omega) (by omega) hI (show xB S (mR S 70) from by first | (exact xB_x (xC_o (W := 75) hpre0).2)) (show aS 88 S = (aS 88 S) from by first | (exact rfl) | (exact (xC_o (W := 88) hpre0).1.trans hpre1)) (by omega) (fun v2 S1 hI_S1 hp_v2 rp0_S1 rp1_S1 rp2_S1 => zi_n ⟨zG_T hI_S1, ?_⟩)
  have rp0_S1 : xB S1 (mR S1 70) := rp0_S1
  have rp1_S1 : aS 88 S1 = (aS 88 S) := rp1_S1
  have rp2_S1 : v2.toInt = aFf (aS 88 S) n.toInt (mI S 87 0).toInt 4500 (aN (aS 88 S) (mI S 87 2).toInt) := rp2_S1
  have b4 := i_bd v2
  have li5 : (-1 : Int32).toInt = -1 := rfl
  refine zd (fun h6 => ?_) (fun h6 => ?_)
  · skip
    have g7 := i_eq h6
    have li8 : (0 : Int32).toInt = 0 := rfl
    have f9 := zG_s hI_S1 (0) (400000) (c := 87) (k := 2) (by decide)
    refine sp_104_87_s (ab := (aS 88 S1)) ((0 : Int32)) ((mI S1 87 2)) (n) (by omega) (by omega) hI_S1 (show xB S1 (mR S1 70) from by first | (exact xB_x (xC_o (W := 75) rp0_S1).2)) (show aS 88 S1 = (aS 88 S1) from by first | (exact rfl) | (exact (xC_o (W := 88) rp0_S1).1.trans rp1_S1)) (by omega) (fun v4 S3 hI_S3 hp_v4 rp0_S3 rp1_S3 rp2_S3 => zi_n ⟨zG_T hI_S3, ?_⟩)
    have rp0_S3 : xB S3 (mR S3 70) := rp0_S3
    have rp1_S3 : aS 88 S3 = (aS 88 S1) := rp1_S3
    have rp2_S3 : v4.toInt = aFf (aS 88 S1) n.toInt (mI S1 87 2).toInt 4500 (aN (aS 88 S1) (0 : Int32).toInt) := rp2_S3
    have b10 := i_bd v4
    exact K (v4) _ hI_S3 (by omega) (show xB S3 (mR S3 70) from by first | (exact xB_x (xC_o (W := 75) rp0_S3).2)) (show aS 88 S3 = ab from by first | (exact rp1_S3.trans (rp1_S1.trans (hpre1)))) (show v4.toInt = aFx ab n.toInt from by first | (have e0 : aS 88 S1 = aS 88 S := rp1_S1; have e1 := rp2_S1; have e2 := rp2_S3; rw [← (aS_I (W := 88) (S := S1) (c := 87) (c₉ := 87) (k := 2) rfl rfl), e0, (aS_I (W := 88) (S := S) (c := 87) (c₉ := 87) (k := 2) rfl rfl), show (0 : Int32).toInt = 0 from rfl] at e2; rw [← hpre1]; unfold aFx; rw [(aS_I (W := 88) (S := S) (c := 87) (c₉ := 87) (k := 0) rfl rfl), (aS_I (W := 88) (S := S) (c := 87) (c₉ := 87) (k := 2) rfl rfl), ← e1]; rw [← e2]; exact (if_pos (by omega)).symm))
  · skip
    have g11 := i_ne h6
    exact K (v2) _ hI_S1 (by omega) (show xB S1 (mR S1 70) from by first | (exact xB_x (xC_o (W := 75) rp0_S1).2)) (show aS 88 S1 = ab from by first | (exact rp1_S1.trans (hpre1))) (show v2.toInt = aFx ab n.toInt from by first | (have e0 : aS 88 S1 = aS 88 S := rp1_S1; have e1 := rp2_S1; rw [← hpre1]; unfold aFx; rw [(aS_I (W := 88) (S := S) (c := 87) (c₉ := 87) (k := 0) rfl rfl), (aS_I (W := 88) (S := S) (c := 87) (c₉ := 87) (k := 2) rfl rfl), ← e1]; exact (if_neg (by omega)).symm))

/-! from 95.g19 -/
/-! the heap by numbers, the class (written by wip/tools/gen18.py) -/
theorem g_108_87_s_0 {X : Nat × (Nat → Int32)} {d w : Nat} {S : ma_S} {Q : Option ma_V ⊕ Nat → ma_S → Prop} (z : Int32) (b : Int32) (hd : 2 ≤ d) (hw : 45 ≤ w) (hS : zT S) (h : ma_wp X (d - 1) (w - 23) 105 0 [(0, .inr (.inr (some 87))), (1, .inl (0 : Int32))] [] S (zi (fun v2 S1 => zT S1 ∧ (ma_wp X d w 108 15 [(0, .inr (.inr (some 87))), (1, .inl z), (2, .inl b), (3, .inl (-1 : Int32)), (4, .inl (0 : Int32)), (5, .inl v2), (6, .inl (0 : Int32))] [] S1 Q)) (fun x S9 => Q (.inr x) S9))) : ma_wp X d w 108 0 [(0, .inr (.inr (some 87))), (1, .inl z), (2, .inl b)] [] S Q := by
  refine zw_push hm_108 dX8_fitByLength_0 (v := .inl (-1 : Int32)) rfl ?_
  refine zw_sto hm_108 dX8_fitByLength_1 [(3, .inl (-1 : Int32)), (0, .inr (.inr (some 87))), (1, .inl z), (2, .inl b)] rfl rfl rfl ?_
  refine zw_push hm_108 dX8_fitByLength_2 (v := .inl (0 : Int32)) rfl ?_
  refine zw_sto hm_108 dX8_fitByLength_3 [(4, .inl (0 : Int32)), (3, .inl (-1 : Int32)), (0, .inr (.inr (some 87))), (1, .inl z), (2, .inl b)] rfl rfl rfl ?_
  refine zw_push hm_108 dX8_fitByLength_5 (v := .inr (.inr (some 87))) rfl ?_
  refine zw_push hm_108 dX8_fitByLength_6 (v := .inl (0 : Int32)) rfl ?_
  refine zw_cv hm_108 dX8_fitByLength_7 v_8_40_6 hm_105 [.inl (0 : Int32)] [] rfl (zT_rt hS s_87 rfl) ⟨by omega, by omega⟩ rfl (zw_mono h (zi_go ?_ ?_))
  · intro v2 S1 hv
    obtain ⟨hS1, h⟩ := hv
    refine zw_sto hm_108 dX8_fitByLength_10 [(5, .inl v2), (4, .inl (0 : Int32)), (3, .inl (-1 : Int32)), (0, .inr (.inr (some 87))), (1, .inl z), (2, .inl b)] rfl rfl rfl ?_
    refine zw_push hm_108 dX8_fitByLength_12 (v := .inl (0 : Int32)) rfl ?_
    refine zw_sto hm_108 dX8_fitByLength_13 [(6, .inl (0 : Int32)), (5, .inl v2), (4, .inl (0 : Int32)), (3, .inl (-1 : Int32)), (0, .inr (.inr (some 87))), (1, .inl z), (2, .inl b)] rfl rfl rfl ?_
    exact zw_sub (ma_nd_of (ks := [0, 1, 2, 3, 4, 5, 6]) rfl (by decide)) (ma_nd_of (ks := [6, 5, 4, 3, 0, 1, 2]) rfl (by decide)) (ma_le_cons rfl (ma_le_cons rfl (ma_le_cons rfl (ma_le_cons rfl (ma_le_cons rfl (ma_le_cons rfl (ma_le_cons rfl (ma_le_nil _)))))))) h
  · intro x S9 hx
    exact ⟨by decide, hx⟩
theorem g_108_87_s_15 {X : Nat × (Nat → Int32)} {d w : Nat} {S : ma_S} {Q : Option ma_V ⊕ Nat → ma_S → Prop} (l1 : Int32) (l2 : Int32) (l3 : Int32) (l4 : Int32) (l5 : Int32) (l6 : Int32) (hd : 2 ≤ d) (hw : 45 ≤ w) (hS : zT S) (h : if (4500 : Int32) ≤ l6 then (Q (.inl (some (.inl l3))) S) else (if (mI S 87 0) ≤ l5 then (Q (.inl (some (.inl l3))) S) else (ma_wp X (d - 1) (w - 22) 106 0 [(0, .inr (.inr (some 87))), (1, .inl l5)] [] S (zi (fun v2 S1 => zT S1 ∧ (if (v2 - l5) < l1 then (ma_wp X (d - 1) (w - 23) 105 0 [(0, .inr (.inr (some 87))), (1, .inl v2)] [] (ma_put S1 69 12 (.inl ((mI S1 69 12) + (1 : Int32)))) (zi (fun v4 S3 => zT S3 ∧ (ma_wp X d w 108 15 [(0, .inr (.inr (some 87))), (1, .inl l1), (2, .inl l2), (3, .inl l3), (4, .inl l4), (5, .inl v4), (6, .inl (l6 + (1 : Int32)))] [] S3 Q)) (fun x S9 => Q (.inr x) S9))) else (if l3 = (-1 : Int32) then (ma_wp X (d - 1) (w - 23) 105 0 [(0, .inr (.inr (some 87))), (1, .inl v2)] [] (ma_put S1 69 12 (.inl ((mI S1 69 12) + (1 : Int32)))) (zi (fun v6 S5 => zT S5 ∧ (ma_wp X d w 108 15 [(0, .inr (.inr (some 87))), (1, .inl l1), (2, .inl l2), (3, .inl l5), (4, .inl (v2 - l5)), (5, .inl v6), (6, .inl (l6 + (1 : Int32)))] [] S5 Q)) (fun x S9 => Q (.inr x) S9))) else (if l2 = 0 then (if (v2 - l5) ≤ l4 then (ma_wp X (d - 1) (w - 23) 105 0 [(0, .inr (.inr (some 87))), (1, .inl v2)] [] (ma_put S1 69 12 (.inl ((mI S1 69 12) + (1 : Int32)))) (zi (fun v8 S7 => zT S7 ∧ (ma_wp X d w 108 15 [(0, .inr (.inr (some 87))), (1, .inl l1), (2, .inl l2), (3, .inl l3), (4, .inl l4), (5, .inl v8), (6, .inl (l6 + (1 : Int32)))] [] S7 Q)) (fun x S9 => Q (.inr x) S9))) else (ma_wp X (d - 1) (w - 23) 105 0 [(0, .inr (.inr (some 87))), (1, .inl v2)] [] (ma_put S1 69 12 (.inl ((mI S1 69 12) + (1 : Int32)))) (zi (fun v10 S9 => zT S9 ∧ (ma_wp X d w 108 15 [(0, .inr (.inr (some 87))), (1, .inl l1), (2, .inl l2), (3, .inl l5), (4, .inl (v2 - l5)), (5, .inl v10), (6, .inl (l6 + (1 : Int32)))] [] S9 Q)) (fun x S9 => Q (.inr x) S9)))) else (if l4 ≤ (v2 - l5) then (ma_wp X (d - 1) (w - 23) 105 0 [(0, .inr (.inr (some 87))), (1, .inl v2)] [] (ma_put S1 69 12 (.inl ((mI S1 69 12) + (1 : Int32)))) (zi (fun v12 S11 => zT S11 ∧ (ma_wp X d w 108 15 [(0, .inr (.inr (some 87))), (1, .inl l1), (2, .inl l2), (3, .inl l3), (4, .inl l4), (5, .inl v12), (6, .inl (l6 + (1 : Int32)))] [] S11 Q)) (fun x S9 => Q (.inr x) S9))) else (ma_wp X (d - 1) (w - 23) 105 0 [(0, .inr (.inr (some 87))), (1, .inl v2)] [] (ma_put S1 69 12 (.inl ((mI S1 69 12) + (1 : Int32)))) (zi (fun v14 S13 => zT S13 ∧ (ma_wp X d w 108 15 [(0, .inr (.inr (some 87))), (1, .inl l1), (2, .inl l2), (3, .inl l5), (4, .inl (v2 - l5)), (5, .inl v14), (6, .inl (l6 + (1 : Int32)))] [] S13 Q)) (fun x S9 => Q (.inr x) S9)))))))) (fun x S9 => Q (.inr x) S9))))) : ma_wp X d w 108 15 [(0, .inr (.inr (some 87))), (1, .inl l1), (2, .inl l2), (3, .inl l3), (4, .inl l4), (5, .inl l5), (6, .inl l6)] [] S Q := by
  refine zw_push hm_108 dX8_fitByLength_15 (v := .inl l6) rfl ?_
  refine zw_push hm_108 dX8_fitByLength_17 (v := .inl (4500 : Int32)) rfl ?_
  refine zw_if2 hm_108 dX8_fitByLength_20 (t := 113) rfl zc2_ge ?_ ?_
  · intro hc
    rw [if_pos hc] at h
    refine zw_push hm_108 dX8_fitByLength_113 (v := .inl l3) rfl ?_
    exact zw_iret hm_108 dX8_fitByLength_114 h
  · intro hc
    rw [if_neg hc] at h
    refine zw_push hm_108 dX8_fitByLength_23 (v := .inl l5) rfl ?_
    refine zw_push hm_108 dX8_fitByLength_25 (v := .inr (.inr (some 87))) rfl ?_
    refine zw_gf hm_108 dX8_fitByLength_26 (v := .inl (mI S 87 0)) (zT_is hS s_87) (zT_t hS s_87) rfl f_8_9_6 rfl ?_
    refine zw_if2 hm_108 dX8_fitByLength_29 (t := 113) rfl zc2_ge ?_ ?_
    · intro hc
      rw [if_pos hc] at h
      refine zw_push hm_108 dX8_fitByLength_113 (v := .inl l3) rfl ?_
      exact zw_iret hm_108 dX8_fitByLength_114 h
    · intro hc
      rw [if_neg hc] at h
      refine zw_push hm_108 dX8_fitByLength_32 (v := .inr (.inr (some 87))) rfl ?_
      refine zw_push hm_108 dX8_fitByLength_33 (v := .inl l5) rfl ?_
      refine zw_cv hm_108 dX8_fitByLength_35 v_8_43_6 hm_106 [.inl l5] [] rfl (zT_rt hS s_87 rfl) ⟨by omega, by omega⟩ rfl (zw_mono h (zi_go ?_ ?_))
      · intro v2 S1 hv
        obtain ⟨hS1, h⟩ := hv
        refine zw_sto hm_108 dX8_fitByLength_38 [(7, .inl v2), (0, .inr (.inr (some 87))), (1, .inl l1), (2, .inl l2), (3, .inl l3), (4, .inl l4), (5, .inl l5), (6, .inl l6)] rfl rfl rfl ?_
        refine zw_push hm_108 dX8_fitByLength_40 (v := .inl v2) rfl ?_
        refine zw_push hm_108 dX8_fitByLength_42 (v := .inl l5) rfl ?_
        refine zw_stk hm_108 dX8_fitByLength_44 (st₉ := [.inl (v2 - l5)]) rfl rfl ?_
        refine zw_sto hm_108 dX8_fitByLength_45 [(8, .inl (v2 - l5)), (7, .inl v2), (0, .inr (.inr (some 87))), (1, .inl l1), (2, .inl l2), (3, .inl l3), (4, .inl l4), (5, .inl l5), (6, .inl l6)] rfl rfl rfl ?_
        refine zw_push hm_108 dX8_fitByLength_47 (v := .inr (.inr (some 87))) rfl ?_
        refine zw_gf hm_108 dX8_fitByLength_48 (v := .inr (.inr (some 69))) (zT_is hS1 s_87) (zT_t hS1 s_87) rfl f_8_46_6 (zT_f hS1 r_87_3) ?_
        refine zw_stk hm_108 dX8_fitByLength_51 (st₉ := [.inr (.inr (some 69)), .inr (.inr (some 69))]) rfl rfl ?_
        refine zw_gf hm_108 dX8_fitByLength_52 (v := .inl (mI S1 69 12)) (zT_is hS1 s_69) (zT_t hS1 s_69) rfl f_8_67_7 rfl ?_
        refine zw_push hm_108 dX8_fitByLength_55 (v := .inl (1 : Int32)) rfl ?_
        refine zw_stk hm_108 dX8_fitByLength_56 (st₉ := [.inl ((mI S1 69 12) + (1 : Int32)), .inr (.inr (some 69))]) rfl rfl ?_
        refine zw_pf hm_108 dX8_fitByLength_57 (zT_is hS1 s_69) (zT_t hS1 s_69) p_8_67_7 zk_int ?_
        refine zw_push hm_108 dX8_fitByLength_60 (v := .inl (v2 - l5)) rfl ?_
        refine zw_push hm_108 dX8_fitByLength_62 (v := .inl l1) rfl ?_
        refine zw_if2 hm_108 dX8_fitByLength_63 (t := 99) rfl zc2_lt ?_ ?_
        · intro hc
          rw [if_pos hc] at h
          refine zw_push hm_108 dX8_fitByLength_99 (v := .inr (.inr (some 87))) rfl ?_
          refine zw_push hm_108 dX8_fitByLength_100 (v := .inl v2) rfl ?_
          refine zw_cv hm_108 dX8_fitByLength_102 v_8_40_6 hm_105 [.inl v2] [] rfl (zT_rt (zT_pi hS1) s_87 rfl) ⟨by omega, by omega⟩ rfl (zw_mono h (zi_go ?_ ?_))
          · intro v4 S3 hv
            obtain ⟨hS3, h⟩ := hv
            refine zw_sto hm_108 dX8_fitByLength_105 [(5, .inl v4), (8, .inl (v2 - l5)), (7, .inl v2), (0, .inr (.inr (some 87))), (1, .inl l1), (2, .inl l2), (3, .inl l3), (4, .inl l4), (6, .inl l6)] rfl rfl rfl ?_
            refine zw_sto hm_108 dX8_fitByLength_107 [(6, .inl (l6 + (1 : Int32))), (5, .inl v4), (8, .inl (v2 - l5)), (7, .inl v2), (0, .inr (.inr (some 87))), (1, .inl l1), (2, .inl l2), (3, .inl l3), (4, .inl l4)] rfl rfl rfl ?_
            refine zw_goto hm_108 dX8_fitByLength_110 (t := 15) rfl ?_
            exact zw_sub (ma_nd_of (ks := [0, 1, 2, 3, 4, 5, 6]) rfl (by decide)) (ma_nd_of (ks := [6, 5, 8, 7, 0, 1, 2, 3, 4]) rfl (by decide)) (ma_le_cons rfl (ma_le_cons rfl (ma_le_cons rfl (ma_le_cons rfl (ma_le_cons rfl (ma_le_cons rfl (ma_le_cons rfl (ma_le_nil _)))))))) h
          · intro x S9 hx
            exact ⟨by decide, hx⟩
        · intro hc
          rw [if_neg hc] at h
          refine zw_push hm_108 dX8_fitByLength_66 (v := .inl l3) rfl ?_
          refine zw_push hm_108 dX8_fitByLength_67 (v := .inl (-1 : Int32)) rfl ?_
          refine zw_if2 hm_108 dX8_fitByLength_68 (t := 92) rfl zc2_eq ?_ ?_
          · intro hc
            rw [if_pos hc] at h
            refine zw_push hm_108 dX8_fitByLength_92 (v := .inl l5) rfl ?_
            refine zw_sto hm_108 dX8_fitByLength_94 [(3, .inl l5), (8, .inl (v2 - l5)), (7, .inl v2), (0, .inr (.inr (some 87))), (1, .inl l1), (2, .inl l2), (4, .inl l4), (5, .inl l5), (6, .inl l6)] rfl rfl rfl ?_
            refine zw_push hm_108 dX8_fitByLength_95 (v := .inl (v2 - l5)) rfl ?_
            refine zw_sto hm_108 dX8_fitByLength_97 [(4, .inl (v2 - l5)), (3, .inl l5), (8, .inl (v2 - l5)), (7, .inl v2), (0, .inr (.inr (some 87))), (1, .inl l1), (2, .inl l2), (5, .inl l5), (6, .inl l6)] rfl rfl rfl ?_
            refine zw_push hm_108 dX8_fitByLength_99 (v := .inr (.inr (some 87))) rfl ?_
            refine zw_push hm_108 dX8_fitByLength_100 (v := .inl v2) rfl ?_
            refine zw_cv hm_108 dX8_fitByLength_102 v_8_40_6 hm_105 [.inl v2] [] rfl (zT_rt (zT_pi hS1) s_87 rfl) ⟨by omega, by omega⟩ rfl (zw_mono h (zi_go ?_ ?_))
            · intro v6 S5 hv
              obtain ⟨hS5, h⟩ := hv
              refine zw_sto hm_108 dX8_fitByLength_105 [(5, .inl v6), (4, .inl (v2 - l5)), (3, .inl l5), (8, .inl (v2 - l5)), (7, .inl v2), (0, .inr (.inr (some 87))), (1, .inl l1), (2, .inl l2), (6, .inl l6)] rfl rfl rfl ?_
              refine zw_sto hm_108 dX8_fitByLength_107 [(6, .inl (l6 + (1 : Int32))), (5, .inl v6), (4, .inl (v2 - l5)), (3, .inl l5), (8, .inl (v2 - l5)), (7, .inl v2), (0, .inr (.inr (some 87))), (1, .inl l1), (2, .inl l2)] rfl rfl rfl ?_
              refine zw_goto hm_108 dX8_fitByLength_110 (t := 15) rfl ?_
              exact zw_sub (ma_nd_of (ks := [0, 1, 2, 3, 4, 5, 6]) rfl (by decide)) (ma_nd_of (ks := [6, 5, 4, 3, 8, 7, 0, 1, 2]) rfl (by decide)) (ma_le_cons rfl (ma_le_cons rfl (ma_le_cons rfl (ma_le_cons rfl (ma_le_cons rfl (ma_le_cons rfl (ma_le_cons rfl (ma_le_nil _)))))))) h
            · intro x S9 hx
              exact ⟨by decide, hx⟩
          · intro hc
            rw [if_neg hc] at h
            refine zw_push hm_108 dX8_fitByLength_71 (v := .inl l2) rfl ?_
            refine zw_if0 hm_108 dX8_fitByLength_72 (t := 85) rfl zc0_eq ?_ ?_
            · intro hc
              rw [if_pos hc] at h
              refine zw_push hm_108 dX8_fitByLength_85 (v := .inl (v2 - l5)) rfl ?_
              refine zw_push hm_108 dX8_fitByLength_87 (v := .inl l4) rfl ?_
              refine zw_if2 hm_108 dX8_fitByLength_89 (t := 99) rfl zc2_le ?_ ?_
              · intro hc
                rw [if_pos hc] at h
                refine zw_push hm_108 dX8_fitByLength_99 (v := .inr (.inr (some 87))) rfl ?_
                refine zw_push hm_108 dX8_fitByLength_100 (v := .inl v2) rfl ?_
                refine zw_cv hm_108 dX8_fitByLength_102 v_8_40_6 hm_105 [.inl v2] [] rfl (zT_rt (zT_pi hS1) s_87 rfl) ⟨by omega, by omega⟩ rfl (zw_mono h (zi_go ?_ ?_))
                · intro v8 S7 hv
                  obtain ⟨hS7, h⟩ := hv
                  refine zw_sto hm_108 dX8_fitByLength_105 [(5, .inl v8), (8, .inl (v2 - l5)), (7, .inl v2), (0, .inr (.inr (some 87))), (1, .inl l1), (2, .inl l2), (3, .inl l3), (4, .inl l4), (6, .inl l6)] rfl rfl rfl ?_
                  refine zw_sto hm_108 dX8_fitByLength_107 [(6, .inl (l6 + (1 : Int32))), (5, .inl v8), (8, .inl (v2 - l5)), (7, .inl v2), (0, .inr (.inr (some 87))), (1, .inl l1), (2, .inl l2), (3, .inl l3), (4, .inl l4)] rfl rfl rfl ?_
                  refine zw_goto hm_108 dX8_fitByLength_110 (t := 15) rfl ?_
                  exact zw_sub (ma_nd_of (ks := [0, 1, 2, 3, 4, 5, 6]) rfl (by decide)) (ma_nd_of (ks := [6, 5, 8, 7, 0, 1, 2, 3, 4]) rfl (by decide)) (ma_le_cons rfl (ma_le_cons rfl (ma_le_cons rfl (ma_le_cons rfl (ma_le_cons rfl (ma_le_cons rfl (ma_le_cons rfl (ma_le_nil _)))))))) h
                · intro x S9 hx
                  exact ⟨by decide, hx⟩
              · intro hc
                rw [if_neg hc] at h
                refine zw_push hm_108 dX8_fitByLength_92 (v := .inl l5) rfl ?_
                refine zw_sto hm_108 dX8_fitByLength_94 [(3, .inl l5), (8, .inl (v2 - l5)), (7, .inl v2), (0, .inr (.inr (some 87))), (1, .inl l1), (2, .inl l2), (4, .inl l4), (5, .inl l5), (6, .inl l6)] rfl rfl rfl ?_
                refine zw_push hm_108 dX8_fitByLength_95 (v := .inl (v2 - l5)) rfl ?_
                refine zw_sto hm_108 dX8_fitByLength_97 [(4, .inl (v2 - l5)), (3, .inl l5), (8, .inl (v2 - l5)), (7, .inl v2), (0, .inr (.inr (some 87))), (1, .inl l1), (2, .inl l2), (5, .inl l5), (6, .inl l6)] rfl rfl rfl ?_
                refine zw_push hm_108 dX8_fitByLength_99 (v := .inr (.inr (some 87))) rfl ?_
                refine zw_push hm_108 dX8_fitByLength_100 (v := .inl v2) rfl ?_
                refine zw_cv hm_108 dX8_fitByLength_102 v_8_40_6 hm_105 [.inl v2] [] rfl (zT_rt (zT_pi hS1) s_87 rfl) ⟨by omega, by omega⟩ rfl (zw_mono h (zi_go ?_ ?_))
                · intro v10 S9 hv
                  obtain ⟨hS9, h⟩ := hv
                  refine zw_sto hm_108 dX8_fitByLength_105 [(5, .inl v10), (4, .inl (v2 - l5)), (3, .inl l5), (8, .inl (v2 - l5)), (7, .inl v2), (0, .inr (.inr (some 87))), (1, .inl l1), (2, .inl l2), (6, .inl l6)] rfl rfl rfl ?_
                  refine zw_sto hm_108 dX8_fitByLength_107 [(6, .inl (l6 + (1 : Int32))), (5, .inl v10), (4, .inl (v2 - l5)), (3, .inl l5), (8, .inl (v2 - l5)), (7, .inl v2), (0, .inr (.inr (some 87))), (1, .inl l1), (2, .inl l2)] rfl rfl rfl ?_
                  refine zw_goto hm_108 dX8_fitByLength_110 (t := 15) rfl ?_
                  exact zw_sub (ma_nd_of (ks := [0, 1, 2, 3, 4, 5, 6]) rfl (by decide)) (ma_nd_of (ks := [6, 5, 4, 3, 8, 7, 0, 1, 2]) rfl (by decide)) (ma_le_cons rfl (ma_le_cons rfl (ma_le_cons rfl (ma_le_cons rfl (ma_le_cons rfl (ma_le_cons rfl (ma_le_cons rfl (ma_le_nil _)))))))) h
                · intro x S9 hx
                  exact ⟨by decide, hx⟩
            · intro hc
              rw [if_neg hc] at h
              refine zw_push hm_108 dX8_fitByLength_75 (v := .inl (v2 - l5)) rfl ?_
              refine zw_push hm_108 dX8_fitByLength_77 (v := .inl l4) rfl ?_
              refine zw_if2 hm_108 dX8_fitByLength_79 (t := 99) rfl zc2_ge ?_ ?_
              · intro hc
                rw [if_pos hc] at h
                refine zw_push hm_108 dX8_fitByLength_99 (v := .inr (.inr (some 87))) rfl ?_
                refine zw_push hm_108 dX8_fitByLength_100 (v := .inl v2) rfl ?_
                refine zw_cv hm_108 dX8_fitByLength_102 v_8_40_6 hm_105 [.inl v2] [] rfl (zT_rt (zT_pi hS1) s_87 rfl) ⟨by omega, by omega⟩ rfl (zw_mono h (zi_go ?_ ?_))
                · intro v12 S11 hv
                  obtain ⟨hS11, h⟩ := hv
                  refine zw_sto hm_108 dX8_fitByLength_105 [(5, .inl v12), (8, .inl (v2 - l5)), (7, .inl v2), (0, .inr (.inr (some 87))), (1, .inl l1), (2, .inl l2), (3, .inl l3), (4, .inl l4), (6, .inl l6)] rfl rfl rfl ?_
                  refine zw_sto hm_108 dX8_fitByLength_107 [(6, .inl (l6 + (1 : Int32))), (5, .inl v12), (8, .inl (v2 - l5)), (7, .inl v2), (0, .inr (.inr (some 87))), (1, .inl l1), (2, .inl l2), (3, .inl l3), (4, .inl l4)] rfl rfl rfl ?_
                  refine zw_goto hm_108 dX8_fitByLength_110 (t := 15) rfl ?_
                  exact zw_sub (ma_nd_of (ks := [0, 1, 2, 3, 4, 5, 6]) rfl (by decide)) (ma_nd_of (ks := [6, 5, 8, 7, 0, 1, 2, 3, 4]) rfl (by decide)) (ma_le_cons rfl (ma_le_cons rfl (ma_le_cons rfl (ma_le_cons rfl (ma_le_cons rfl (ma_le_cons rfl (ma_le_cons rfl (ma_le_nil _)))))))) h
                · intro x S9 hx
                  exact ⟨by decide, hx⟩
              · intro hc
                rw [if_neg hc] at h
                refine zw_goto hm_108 dX8_fitByLength_82 (t := 92) rfl ?_
                refine zw_push hm_108 dX8_fitByLength_92 (v := .inl l5) rfl ?_
                refine zw_sto hm_108 dX8_fitByLength_94 [(3, .inl l5), (8, .inl (v2 - l5)), (7, .inl v2), (0, .inr (.inr (some 87))), (1, .inl l1), (2, .inl l2), (4, .inl l4), (5, .inl l5), (6, .inl l6)] rfl rfl rfl ?_
                refine zw_push hm_108 dX8_fitByLength_95 (v := .inl (v2 - l5)) rfl ?_
                refine zw_sto hm_108 dX8_fitByLength_97 [(4, .inl (v2 - l5)), (3, .inl l5), (8, .inl (v2 - l5)), (7, .inl v2), (0, .inr (.inr (some 87))), (1, .inl l1), (2, .inl l2), (5, .inl l5), (6, .inl l6)] rfl rfl rfl ?_
                refine zw_push hm_108 dX8_fitByLength_99 (v := .inr (.inr (some 87))) rfl ?_
                refine zw_push hm_108 dX8_fitByLength_100 (v := .inl v2) rfl ?_
                refine zw_cv hm_108 dX8_fitByLength_102 v_8_40_6 hm_105 [.inl v2] [] rfl (zT_rt (zT_pi hS1) s_87 rfl) ⟨by omega, by omega⟩ rfl (zw_mono h (zi_go ?_ ?_))
                · intro v14 S13 hv
                  obtain ⟨hS13, h⟩ := hv
                  refine zw_sto hm_108 dX8_fitByLength_105 [(5, .inl v14), (4, .inl (v2 - l5)), (3, .inl l5), (8, .inl (v2 - l5)), (7, .inl v2), (0, .inr (.inr (some 87))), (1, .inl l1), (2, .inl l2), (6, .inl l6)] rfl rfl rfl ?_
                  refine zw_sto hm_108 dX8_fitByLength_107 [(6, .inl (l6 + (1 : Int32))), (5, .inl v14), (4, .inl (v2 - l5)), (3, .inl l5), (8, .inl (v2 - l5)), (7, .inl v2), (0, .inr (.inr (some 87))), (1, .inl l1), (2, .inl l2)] rfl rfl rfl ?_
                  refine zw_goto hm_108 dX8_fitByLength_110 (t := 15) rfl ?_
                  exact zw_sub (ma_nd_of (ks := [0, 1, 2, 3, 4, 5, 6]) rfl (by decide)) (ma_nd_of (ks := [6, 5, 4, 3, 8, 7, 0, 1, 2]) rfl (by decide)) (ma_le_cons rfl (ma_le_cons rfl (ma_le_cons rfl (ma_le_cons rfl (ma_le_cons rfl (ma_le_cons rfl (ma_le_cons rfl (ma_le_nil _)))))))) h
                · intro x S9 hx
                  exact ⟨by decide, hx⟩
      · intro x S9 hx
        exact ⟨by decide, hx⟩
theorem lp_108_87_s_15 {X : Nat × (Nat → Int32)} {d w : Nat} {f : Nat → Nat → Int32} {r : Nat → Nat → Option Nat} {C Z N : Nat} {Q : Option ma_V ⊕ Nat → ma_S → Prop} {ab : Nat→Nat→Int32} {z : Int32} {b : Int32} (hd : 2 ≤ d) (hw : 45 ≤ w) (K : ∀ v S₉, zJ87 f r C Z N S₉ → (-1 ≤ v.toInt ∧ v.toInt ≤ 1500) → (xB S₉ (mR S₉ 70)) → (aS 88 S₉ = ab) → (v.toInt = aFl ab z.toInt b 4500 (aN ab 0) (-1) 0) → Q (.inl (some (.inl v))) S₉) : ∀ (n : Nat) (S : ma_S) (l1 : Int32) (l2 : Int32) (l3 : Int32) (l4 : Int32) (l5 : Int32) (l6 : Int32), (4500 - l6.toInt).toNat = n → zJ87 f r C Z N S → (0 ≤ l5.toInt) → (l5.toInt ≤ 1500) → (0 ≤ l6.toInt) → (-1 ≤ l3.toInt) → (l3.toInt ≤ 1500) → (xB S (mR S 70)) → (aS 88 S = ab) → (aFl ab l1.toInt l2 (4500 - l6.toInt).toNat l5.toInt l3.toInt l4.toInt = aFl ab z.toInt b 4500 (aN ab 0) (-1) 0) → ma_wp X d w 108 15 [(0, .inr (.inr (some 87))), (1, .inl l1), (2, .inl l2), (3, .inl l3), (4, .inl l4), (5, .inl l5), (6, .inl l6)] [] S Q := by
  intro n
  induction n using Nat.strongRecOn with
  | _ n IH =>
    intro S l1 l2 l3 l4 l5 l6 hmu hI  hi0 hi1 hi2 hi3 hi4 hi5 hi6 hi7
    refine g_108_87_s_15 l1 l2 l3 l4 l5 l6 (by omega) (by omega) (zG_T hI) ?_
    have li1 : (4500 : Int32).toInt = 4500 := rfl
    have b2 := i_bd l6
    refine zd (fun h3 => ?_) (fun h3 => ?_)
    · skip
      have g4 := i_le h3
      have b5 := i_bd l3
      exact K (l3) _ hI (by omega) (show xB S (mR S 70) from by first | (exact xB_x (xC_o (W := 75) hi5).2)) (show aS 88 S = ab from by first | (exact (xC_o (W := 88) hi5).1.trans hi6)) (show l3.toInt = aFl ab z.toInt b 4500 (aN ab 0) (-1) 0 from by first | (have r0 := congrArg Int32.toInt (aS_I (W := 88) (S := S) (c := 87) (c₉ := 87) (k := 0) rfl rfl); rw [hi6] at r0; have q := (aFl_st (by omega)).symm.trans hi7; exact q))
    · skip
      have g6 := i_nle h3
      have f7 := zG_s hI (0) (1500) (c := 87) (k := 0) (by decide)
      have b8 := i_bd l5
      refine zd (fun h9 => ?_) (fun h9 => ?_)
      · skip
        have g10 := i_le h9
        have b11 := i_bd l3
        exact K (l3) _ hI (by omega) (show xB S (mR S 70) from by first | (exact xB_x (xC_o (W := 75) hi5).2)) (show aS 88 S = ab from by first | (exact (xC_o (W := 88) hi5).1.trans hi6)) (show l3.toInt = aFl ab z.toInt b 4500 (aN ab 0) (-1) 0 from by first | (have r0 := congrArg Int32.toInt (aS_I (W := 88) (S := S) (c := 87) (c₉ := 87) (k := 0) rfl rfl); rw [hi6] at r0; have q := (aFl_st (by omega)).symm.trans hi7; exact q))
      · skip
        have g12 := i_nle h9
        refine sp_106_87_s (ab := (aS 88 S)) (l5) (by omega) (by omega) hI (show xB S (mR S 70) from by first | (exact xB_x (xC_o (W := 75) hi5).2)) (show aS 88 S = (aS 88 S) from by first | (exact rfl) | (exact hi6)) (by omega) (by omega) (fun v2 S1 eS_S1 hp_v2 rp0_S1 => zi_n ⟨(by rw [eS_S1]; exact zG_T hI), ?_⟩)
        replace eS_S1 := eS_S1.symm; subst eS_S1
        have rp0_S1 : v2.toInt = aE (aS 88 S) l5.toInt := rp0_S1
        have b13 := i_bd v2
        first | have e14 : (v2 - l5).toInt = v2.toInt - l5.toInt := i_sub (by omega) (by omega) | have b15 := i_bd (v2 - l5)
        have b16 := i_bd l1
        refine zd (fun h17 => ?_) (fun h17 => ?_)
        · skip
          have g18 := i_lt h17
          have hI19 : zJ87 f r C Z N (ma_put S 69 12 (.inl ((mI S 69 12) + (1 : Int32)))) := zG_fr hI rfl (by decide) (by decide) (by decide) trivial
          refine sp_105_87_s (ab := (aS 88 (ma_put S 69 12 (.inl ((mI S 69 12) + (1 : Int32)))))) (v2) (by omega) (by omega) hI19 (show xB (ma_put S 69 12 (.inl ((mI S 69 12) + (1 : Int32)))) (mR (ma_put S 69 12 (.inl ((mI S 69 12) + (1 : Int32)))) 70) from by first | (exact xB_x (xC_n (c := 69) (k := 12) (x := ((mI S 69 12) + (1 : Int32))) (xC_o (W := 75) hi5) ⟨by decide, Or.inl ⟨rfl, rfl⟩⟩).2)) (show aS 88 (ma_put S 69 12 (.inl ((mI S 69 12) + (1 : Int32)))) = (aS 88 (ma_put S 69 12 (.inl ((mI S 69 12) + (1 : Int32))))) from by first | (exact rfl) | (exact hi6)) (by omega) (fun v4 S3 eS_S3 hp_v4 rp0_S3 => zi_n ⟨(by rw [eS_S3]; exact zG_T hI19), ?_⟩)
          replace eS_S3 := eS_S3.symm; subst eS_S3
          have rp0_S3 : v4.toInt = aN (aS 88 (ma_put S 69 12 (.inl ((mI S 69 12) + (1 : Int32))))) v2.toInt := rp0_S3
          have b20 := i_bd l2
          have b21 := i_bd l3
          have b22 := i_bd l4
          have b23 := i_bd v4
          first | have e24 : (l6 + (1 : Int32)).toInt = l6.toInt + (1) := i_addk rfl (by omega) (by omega) | have b25 := i_bd (l6 + (1 : Int32))
          exact IH _ (by omega) _ (l1) (l2) (l3) (l4) (v4) ((l6 + (1 : Int32))) rfl hI19 (by omega) (by omega) (by omega) (by omega) (by omega) (show xB (ma_put S 69 12 (.inl ((mI S 69 12) + (1 : Int32)))) (mR (ma_put S 69 12 (.inl ((mI S 69 12) + (1 : Int32)))) 70) from by first | (exact xB_x (xC_n (c := 69) (k := 12) (x := ((mI S 69 12) + (1 : Int32))) (xC_o (W := 75) hi5) ⟨by decide, Or.inl ⟨rfl, rfl⟩⟩).2)) (show aS 88 (ma_put S 69 12 (.inl ((mI S 69 12) + (1 : Int32)))) = ab from by first | (exact (xC_n (c := 69) (k := 12) (x := ((mI S 69 12) + (1 : Int32))) (xC_o (W := 88) hi5) ⟨by decide, Or.inr ⟨rfl, Or.inr ⟨rfl, by decide⟩⟩⟩).1.trans hi6)) (show aFl ab (l1).toInt (l2) (4500 - ((l6 + (1 : Int32))).toInt).toNat (v4).toInt (l3).toInt (l4).toInt = aFl ab z.toInt b 4500 (aN ab 0) (-1) 0 from by first | (have r0 := congrArg Int32.toInt (aS_I (W := 88) (S := S) (c := 87) (c₉ := 87) (k := 0) rfl rfl); rw [hi6] at r0; have e1 := rp0_S1; rw [hi6] at e1; have e2 := rp0_S3; rw [(xC_n (c := 69) (k := 12) (x := ((mI S 69 12) + (1 : Int32))) (xC_o (W := 88) hi5) ⟨by decide, Or.inr ⟨rfl, Or.inr ⟨rfl, by decide⟩⟩⟩).1, hi6, e1] at e2; rw [e2]; exact ((congrArg (fun q => aFl ab l1.toInt l2 q l5.toInt l3.toInt l4.toInt) (show (4500 - l6.toInt).toNat = (4500 - (l6 + (1 : Int32)).toInt).toNat + 1 by omega)).trans (aFl_n (by omega) (Or.inl (by omega)))).symm.trans hi7) | (have r0 := congrArg Int32.toInt (aS_I (W := 88) (S := S) (c := 87) (c₉ := 87) (k := 0) rfl rfl); rw [hi6] at r0; have e1 := rp0_S1; rw [hi6] at e1; have e2 := rp0_S3; rw [(xC_n (c := 69) (k := 12) (x := ((mI S 69 12) + (1 : Int32))) (xC_o (W := 88) hi5) ⟨by decide, Or.inr ⟨rfl, Or.inr ⟨rfl, by decide⟩⟩⟩).1, hi6, e1] at e2; rw [e2]; exact ((congrArg (fun q => aFl ab l1.toInt l2 q l5.toInt l3.toInt l4.toInt) (show (4500 - l6.toInt).toNat = (4500 - (l6 + (1 : Int32)).toInt).toNat + 1 by omega)).trans (aFl_n (by omega) (Or.inr ⟨by omega, Or.inl ⟨by assumption, by omega⟩⟩))).symm.trans hi7) | (have r0 := congrArg Int32.toInt (aS_I (W := 88) (S := S) (c := 87) (c₉ := 87) (k := 0) rfl rfl); rw [hi6] at r0; have e1 := rp0_S1; rw [hi6] at e1; have e2 := rp0_S3; rw [(xC_n (c := 69) (k := 12) (x := ((mI S 69 12) + (1 : Int32))) (xC_o (W := 88) hi5) ⟨by decide, Or.inr ⟨rfl, Or.inr ⟨rfl, by decide⟩⟩⟩).1, hi6, e1] at e2; rw [e2]; exact ((congrArg (fun q => aFl ab l1.toInt l2 q l5.toInt l3.toInt l4.toInt) (show (4500 - l6.toInt).toNat = (4500 - (l6 + (1 : Int32)).toInt).toNat + 1 by omega)).trans (aFl_n (by omega) (Or.inr ⟨by omega, Or.inr ⟨by assumption, by omega⟩⟩))).symm.trans hi7))
        · skip
          have g26 := i_nlt h17
          have b27 := i_bd l3
          have li28 : (-1 : Int32).toInt = -1 := rfl
          refine zd (fun h29 => ?_) (fun h29 => ?_)
          · skip
            have g30 := i_eq h29
            have hI31 : zJ87 f r C Z N (ma_put S 69 12 (.inl ((mI S 69 12) + (1 : Int32)))) := zG_fr hI rfl (by decide) (by decide) (by decide) trivial
            refine sp_105_87_s (ab := (aS 88 (ma_put S 69 12 (.inl ((mI S 69 12) + (1 : Int32)))))) (v2) (by omega) (by omega) hI31 (show xB (ma_put S 69 12 (.inl ((mI S 69 12) + (1 : Int32)))) (mR (ma_put S 69 12 (.inl ((mI S 69 12) + (1 : Int32)))) 70) from by first | (exact xB_x (xC_n (c := 69) (k := 12) (x := ((mI S 69 12) + (1 : Int32))) (xC_o (W := 75) hi5) ⟨by decide, Or.inl ⟨rfl, rfl⟩⟩).2)) (show aS 88 (ma_put S 69 12 (.inl ((mI S 69 12) + (1 : Int32)))) = (aS 88 (ma_put S 69 12 (.inl ((mI S 69 12) + (1 : Int32))))) from by first | (exact rfl) | (exact hi6)) (by omega) (fun v6 S5 eS_S5 hp_v6 rp0_S5 => zi_n ⟨(by rw [eS_S5]; exact zG_T hI31), ?_⟩)
            replace eS_S5 := eS_S5.symm; subst eS_S5
            have rp0_S5 : v6.toInt = aN (aS 88 (ma_put S 69 12 (.inl ((mI S 69 12) + (1 : Int32))))) v2.toInt := rp0_S5
            have b32 := i_bd l2
            have b33 := i_bd v6
            first | have e34 : (l6 + (1 : Int32)).toInt = l6.toInt + (1) := i_addk rfl (by omega) (by omega) | have b35 := i_bd (l6 + (1 : Int32))
            exact IH _ (by omega) _ (l1) (l2) (l5) ((v2 - l5)) (v6) ((l6 + (1 : Int32))) rfl hI31 (by omega) (by omega) (by omega) (by omega) (by omega) (show xB (ma_put S 69 12 (.inl ((mI S 69 12) + (1 : Int32)))) (mR (ma_put S 69 12 (.inl ((mI S 69 12) + (1 : Int32)))) 70) from by first | (exact xB_x (xC_n (c := 69) (k := 12) (x := ((mI S 69 12) + (1 : Int32))) (xC_o (W := 75) hi5) ⟨by decide, Or.inl ⟨rfl, rfl⟩⟩).2)) (show aS 88 (ma_put S 69 12 (.inl ((mI S 69 12) + (1 : Int32)))) = ab from by first | (exact (xC_n (c := 69) (k := 12) (x := ((mI S 69 12) + (1 : Int32))) (xC_o (W := 88) hi5) ⟨by decide, Or.inr ⟨rfl, Or.inr ⟨rfl, by decide⟩⟩⟩).1.trans hi6)) (show aFl ab (l1).toInt (l2) (4500 - ((l6 + (1 : Int32))).toInt).toNat (v6).toInt (l5).toInt ((v2 - l5)).toInt = aFl ab z.toInt b 4500 (aN ab 0) (-1) 0 from by first | (have r0 := congrArg Int32.toInt (aS_I (W := 88) (S := S) (c := 87) (c₉ := 87) (k := 0) rfl rfl); rw [hi6] at r0; have e1 := rp0_S1; rw [hi6] at e1; have e2 := rp0_S5; rw [(xC_n (c := 69) (k := 12) (x := ((mI S 69 12) + (1 : Int32))) (xC_o (W := 88) hi5) ⟨by decide, Or.inr ⟨rfl, Or.inr ⟨rfl, by decide⟩⟩⟩).1, hi6, e1] at e2; rw [e2]; rw [show ((v2 - l5)).toInt = aE ab l5.toInt - l5.toInt from by omega]; exact ((congrArg (fun q => aFl ab l1.toInt l2 q l5.toInt l3.toInt l4.toInt) (show (4500 - l6.toInt).toNat = (4500 - (l6 + (1 : Int32)).toInt).toNat + 1 by omega)).trans (aFl_y (by omega) (by omega) (Or.inl (by omega)))).symm.trans hi7) | (have r0 := congrArg Int32.toInt (aS_I (W := 88) (S := S) (c := 87) (c₉ := 87) (k := 0) rfl rfl); rw [hi6] at r0; have e1 := rp0_S1; rw [hi6] at e1; have e2 := rp0_S5; rw [(xC_n (c := 69) (k := 12) (x := ((mI S 69 12) + (1 : Int32))) (xC_o (W := 88) hi5) ⟨by decide, Or.inr ⟨rfl, Or.inr ⟨rfl, by decide⟩⟩⟩).1, hi6, e1] at e2; rw [e2]; rw [show ((v2 - l5)).toInt = aE ab l5.toInt - l5.toInt from by omega]; exact ((congrArg (fun q => aFl ab l1.toInt l2 q l5.toInt l3.toInt l4.toInt) (show (4500 - l6.toInt).toNat = (4500 - (l6 + (1 : Int32)).toInt).toNat + 1 by omega)).trans (aFl_y (by omega) (by omega) (Or.inr (Or.inl ⟨by assumption, by omega⟩)))).symm.trans hi7) | (have r0 := congrArg Int32.toInt (aS_I (W := 88) (S := S) (c := 87) (c₉ := 87) (k := 0) rfl rfl); rw [hi6] at r0; have e1 := rp0_S1; rw [hi6] at e1; have e2 := rp0_S5; rw [(xC_n (c := 69) (k := 12) (x := ((mI S 69 12) + (1 : Int32))) (xC_o (W := 88) hi5) ⟨by decide, Or.inr ⟨rfl, Or.inr ⟨rfl, by decide⟩⟩⟩).1, hi6, e1] at e2; rw [e2]; rw [show ((v2 - l5)).toInt = aE ab l5.toInt - l5.toInt from by omega]; exact ((congrArg (fun q => aFl ab l1.toInt l2 q l5.toInt l3.toInt l4.toInt) (show (4500 - l6.toInt).toNat = (4500 - (l6 + (1 : Int32)).toInt).toNat + 1 by omega)).trans (aFl_y (by omega) (by omega) (Or.inr (Or.inr ⟨by assumption, by omega⟩)))).symm.trans hi7))
          · skip
            have g36 := i_ne h29
            have b37 := i_bd l2
            have li38 : (0 : Int32).toInt = 0 := rfl
            refine zd (fun h39 => ?_) (fun h39 => ?_)
            · skip
              have g40 := i_eq h39
              have b41 := i_bd l4
              refine zd (fun h42 => ?_) (fun h42 => ?_)
              · skip
                have g43 := i_le h42
                have hI44 : zJ87 f r C Z N (ma_put S 69 12 (.inl ((mI S 69 12) + (1 : Int32)))) := zG_fr hI rfl (by decide) (by decide) (by decide) trivial
                refine sp_105_87_s (ab := (aS 88 (ma_put S 69 12 (.inl ((mI S 69 12) + (1 : Int32)))))) (v2) (by omega) (by omega) hI44 (show xB (ma_put S 69 12 (.inl ((mI S 69 12) + (1 : Int32)))) (mR (ma_put S 69 12 (.inl ((mI S 69 12) + (1 : Int32)))) 70) from by first | (exact xB_x (xC_n (c := 69) (k := 12) (x := ((mI S 69 12) + (1 : Int32))) (xC_o (W := 75) hi5) ⟨by decide, Or.inl ⟨rfl, rfl⟩⟩).2)) (show aS 88 (ma_put S 69 12 (.inl ((mI S 69 12) + (1 : Int32)))) = (aS 88 (ma_put S 69 12 (.inl ((mI S 69 12) + (1 : Int32))))) from by first | (exact rfl) | (exact hi6)) (by omega) (fun v8 S7 eS_S7 hp_v8 rp0_S7 => zi_n ⟨(by rw [eS_S7]; exact zG_T hI44), ?_⟩)
                replace eS_S7 := eS_S7.symm; subst eS_S7
                have rp0_S7 : v8.toInt = aN (aS 88 (ma_put S 69 12 (.inl ((mI S 69 12) + (1 : Int32))))) v2.toInt := rp0_S7
                have b45 := i_bd v8
                first | have e46 : (l6 + (1 : Int32)).toInt = l6.toInt + (1) := i_addk rfl (by omega) (by omega) | have b47 := i_bd (l6 + (1 : Int32))
                exact IH _ (by omega) _ (l1) (l2) (l3) (l4) (v8) ((l6 + (1 : Int32))) rfl hI44 (by omega) (by omega) (by omega) (by omega) (by omega) (show xB (ma_put S 69 12 (.inl ((mI S 69 12) + (1 : Int32)))) (mR (ma_put S 69 12 (.inl ((mI S 69 12) + (1 : Int32)))) 70) from by first | (exact xB_x (xC_n (c := 69) (k := 12) (x := ((mI S 69 12) + (1 : Int32))) (xC_o (W := 75) hi5) ⟨by decide, Or.inl ⟨rfl, rfl⟩⟩).2)) (show aS 88 (ma_put S 69 12 (.inl ((mI S 69 12) + (1 : Int32)))) = ab from by first | (exact (xC_n (c := 69) (k := 12) (x := ((mI S 69 12) + (1 : Int32))) (xC_o (W := 88) hi5) ⟨by decide, Or.inr ⟨rfl, Or.inr ⟨rfl, by decide⟩⟩⟩).1.trans hi6)) (show aFl ab (l1).toInt (l2) (4500 - ((l6 + (1 : Int32))).toInt).toNat (v8).toInt (l3).toInt (l4).toInt = aFl ab z.toInt b 4500 (aN ab 0) (-1) 0 from by first | (have r0 := congrArg Int32.toInt (aS_I (W := 88) (S := S) (c := 87) (c₉ := 87) (k := 0) rfl rfl); rw [hi6] at r0; have e1 := rp0_S1; rw [hi6] at e1; have e2 := rp0_S7; rw [(xC_n (c := 69) (k := 12) (x := ((mI S 69 12) + (1 : Int32))) (xC_o (W := 88) hi5) ⟨by decide, Or.inr ⟨rfl, Or.inr ⟨rfl, by decide⟩⟩⟩).1, hi6, e1] at e2; rw [e2]; exact ((congrArg (fun q => aFl ab l1.toInt l2 q l5.toInt l3.toInt l4.toInt) (show (4500 - l6.toInt).toNat = (4500 - (l6 + (1 : Int32)).toInt).toNat + 1 by omega)).trans (aFl_n (by omega) (Or.inl (by omega)))).symm.trans hi7) | (have r0 := congrArg Int32.toInt (aS_I (W := 88) (S := S) (c := 87) (c₉ := 87) (k := 0) rfl rfl); rw [hi6] at r0; have e1 := rp0_S1; rw [hi6] at e1; have e2 := rp0_S7; rw [(xC_n (c := 69) (k := 12) (x := ((mI S 69 12) + (1 : Int32))) (xC_o (W := 88) hi5) ⟨by decide, Or.inr ⟨rfl, Or.inr ⟨rfl, by decide⟩⟩⟩).1, hi6, e1] at e2; rw [e2]; exact ((congrArg (fun q => aFl ab l1.toInt l2 q l5.toInt l3.toInt l4.toInt) (show (4500 - l6.toInt).toNat = (4500 - (l6 + (1 : Int32)).toInt).toNat + 1 by omega)).trans (aFl_n (by omega) (Or.inr ⟨by omega, Or.inl ⟨by assumption, by omega⟩⟩))).symm.trans hi7) | (have r0 := congrArg Int32.toInt (aS_I (W := 88) (S := S) (c := 87) (c₉ := 87) (k := 0) rfl rfl); rw [hi6] at r0; have e1 := rp0_S1; rw [hi6] at e1; have e2 := rp0_S7; rw [(xC_n (c := 69) (k := 12) (x := ((mI S 69 12) + (1 : Int32))) (xC_o (W := 88) hi5) ⟨by decide, Or.inr ⟨rfl, Or.inr ⟨rfl, by decide⟩⟩⟩).1, hi6, e1] at e2; rw [e2]; exact ((congrArg (fun q => aFl ab l1.toInt l2 q l5.toInt l3.toInt l4.toInt) (show (4500 - l6.toInt).toNat = (4500 - (l6 + (1 : Int32)).toInt).toNat + 1 by omega)).trans (aFl_n (by omega) (Or.inr ⟨by omega, Or.inr ⟨by assumption, by omega⟩⟩))).symm.trans hi7))
              · skip
                have g48 := i_nle h42
                have hI49 : zJ87 f r C Z N (ma_put S 69 12 (.inl ((mI S 69 12) + (1 : Int32)))) := zG_fr hI rfl (by decide) (by decide) (by decide) trivial
                refine sp_105_87_s (ab := (aS 88 (ma_put S 69 12 (.inl ((mI S 69 12) + (1 : Int32)))))) (v2) (by omega) (by omega) hI49 (show xB (ma_put S 69 12 (.inl ((mI S 69 12) + (1 : Int32)))) (mR (ma_put S 69 12 (.inl ((mI S 69 12) + (1 : Int32)))) 70) from by first | (exact xB_x (xC_n (c := 69) (k := 12) (x := ((mI S 69 12) + (1 : Int32))) (xC_o (W := 75) hi5) ⟨by decide, Or.inl ⟨rfl, rfl⟩⟩).2)) (show aS 88 (ma_put S 69 12 (.inl ((mI S 69 12) + (1 : Int32)))) = (aS 88 (ma_put S 69 12 (.inl ((mI S 69 12) + (1 : Int32))))) from by first | (exact rfl) | (exact hi6)) (by omega) (fun v10 S9 eS_S9 hp_v10 rp0_S9 => zi_n ⟨(by rw [eS_S9]; exact zG_T hI49), ?_⟩)
                replace eS_S9 := eS_S9.symm; subst eS_S9
                have rp0_S9 : v10.toInt = aN (aS 88 (ma_put S 69 12 (.inl ((mI S 69 12) + (1 : Int32))))) v2.toInt := rp0_S9
                have b50 := i_bd v10
                first | have e51 : (l6 + (1 : Int32)).toInt = l6.toInt + (1) := i_addk rfl (by omega) (by omega) | have b52 := i_bd (l6 + (1 : Int32))
                exact IH _ (by omega) _ (l1) (l2) (l5) ((v2 - l5)) (v10) ((l6 + (1 : Int32))) rfl hI49 (by omega) (by omega) (by omega) (by omega) (by omega) (show xB (ma_put S 69 12 (.inl ((mI S 69 12) + (1 : Int32)))) (mR (ma_put S 69 12 (.inl ((mI S 69 12) + (1 : Int32)))) 70) from by first | (exact xB_x (xC_n (c := 69) (k := 12) (x := ((mI S 69 12) + (1 : Int32))) (xC_o (W := 75) hi5) ⟨by decide, Or.inl ⟨rfl, rfl⟩⟩).2)) (show aS 88 (ma_put S 69 12 (.inl ((mI S 69 12) + (1 : Int32)))) = ab from by first | (exact (xC_n (c := 69) (k := 12) (x := ((mI S 69 12) + (1 : Int32))) (xC_o (W := 88) hi5) ⟨by decide, Or.inr ⟨rfl, Or.inr ⟨rfl, by decide⟩⟩⟩).1.trans hi6)) (show aFl ab (l1).toInt (l2) (4500 - ((l6 + (1 : Int32))).toInt).toNat (v10).toInt (l5).toInt ((v2 - l5)).toInt = aFl ab z.toInt b 4500 (aN ab 0) (-1) 0 from by first | (have r0 := congrArg Int32.toInt (aS_I (W := 88) (S := S) (c := 87) (c₉ := 87) (k := 0) rfl rfl); rw [hi6] at r0; have e1 := rp0_S1; rw [hi6] at e1; have e2 := rp0_S9; rw [(xC_n (c := 69) (k := 12) (x := ((mI S 69 12) + (1 : Int32))) (xC_o (W := 88) hi5) ⟨by decide, Or.inr ⟨rfl, Or.inr ⟨rfl, by decide⟩⟩⟩).1, hi6, e1] at e2; rw [e2]; rw [show ((v2 - l5)).toInt = aE ab l5.toInt - l5.toInt from by omega]; exact ((congrArg (fun q => aFl ab l1.toInt l2 q l5.toInt l3.toInt l4.toInt) (show (4500 - l6.toInt).toNat = (4500 - (l6 + (1 : Int32)).toInt).toNat + 1 by omega)).trans (aFl_y (by omega) (by omega) (Or.inl (by omega)))).symm.trans hi7) | (have r0 := congrArg Int32.toInt (aS_I (W := 88) (S := S) (c := 87) (c₉ := 87) (k := 0) rfl rfl); rw [hi6] at r0; have e1 := rp0_S1; rw [hi6] at e1; have e2 := rp0_S9; rw [(xC_n (c := 69) (k := 12) (x := ((mI S 69 12) + (1 : Int32))) (xC_o (W := 88) hi5) ⟨by decide, Or.inr ⟨rfl, Or.inr ⟨rfl, by decide⟩⟩⟩).1, hi6, e1] at e2; rw [e2]; rw [show ((v2 - l5)).toInt = aE ab l5.toInt - l5.toInt from by omega]; exact ((congrArg (fun q => aFl ab l1.toInt l2 q l5.toInt l3.toInt l4.toInt) (show (4500 - l6.toInt).toNat = (4500 - (l6 + (1 : Int32)).toInt).toNat + 1 by omega)).trans (aFl_y (by omega) (by omega) (Or.inr (Or.inl ⟨by assumption, by omega⟩)))).symm.trans hi7) | (have r0 := congrArg Int32.toInt (aS_I (W := 88) (S := S) (c := 87) (c₉ := 87) (k := 0) rfl rfl); rw [hi6] at r0; have e1 := rp0_S1; rw [hi6] at e1; have e2 := rp0_S9; rw [(xC_n (c := 69) (k := 12) (x := ((mI S 69 12) + (1 : Int32))) (xC_o (W := 88) hi5) ⟨by decide, Or.inr ⟨rfl, Or.inr ⟨rfl, by decide⟩⟩⟩).1, hi6, e1] at e2; rw [e2]; rw [show ((v2 - l5)).toInt = aE ab l5.toInt - l5.toInt from by omega]; exact ((congrArg (fun q => aFl ab l1.toInt l2 q l5.toInt l3.toInt l4.toInt) (show (4500 - l6.toInt).toNat = (4500 - (l6 + (1 : Int32)).toInt).toNat + 1 by omega)).trans (aFl_y (by omega) (by omega) (Or.inr (Or.inr ⟨by assumption, by omega⟩)))).symm.trans hi7))
            · skip
              have g53 := i_ne h39
              have b54 := i_bd l4
              refine zd (fun h55 => ?_) (fun h55 => ?_)
              · skip
                have g56 := i_le h55
                have hI57 : zJ87 f r C Z N (ma_put S 69 12 (.inl ((mI S 69 12) + (1 : Int32)))) := zG_fr hI rfl (by decide) (by decide) (by decide) trivial
                refine sp_105_87_s (ab := (aS 88 (ma_put S 69 12 (.inl ((mI S 69 12) + (1 : Int32)))))) (v2) (by omega) (by omega) hI57 (show xB (ma_put S 69 12 (.inl ((mI S 69 12) + (1 : Int32)))) (mR (ma_put S 69 12 (.inl ((mI S 69 12) + (1 : Int32)))) 70) from by first | (exact xB_x (xC_n (c := 69) (k := 12) (x := ((mI S 69 12) + (1 : Int32))) (xC_o (W := 75) hi5) ⟨by decide, Or.inl ⟨rfl, rfl⟩⟩).2)) (show aS 88 (ma_put S 69 12 (.inl ((mI S 69 12) + (1 : Int32)))) = (aS 88 (ma_put S 69 12 (.inl ((mI S 69 12) + (1 : Int32))))) from by first | (exact rfl) | (exact hi6)) (by omega) (fun v12 S11 eS_S11 hp_v12 rp0_S11 => zi_n ⟨(by rw [eS_S11]; exact zG_T hI57), ?_⟩)
                replace eS_S11 := eS_S11.symm; subst eS_S11
                have rp0_S11 : v12.toInt = aN (aS 88 (ma_put S 69 12 (.inl ((mI S 69 12) + (1 : Int32))))) v2.toInt := rp0_S11
                have b58 := i_bd v12
                first | have e59 : (l6 + (1 : Int32)).toInt = l6.toInt + (1) := i_addk rfl (by omega) (by omega) | have b60 := i_bd (l6 + (1 : Int32))
                exact IH _ (by omega) _ (l1) (l2) (l3) (l4) (v12) ((l6 + (1 : Int32))) rfl hI57 (by omega) (by omega) (by omega) (by omega) (by omega) (show xB (ma_put S 69 12 (.inl ((mI S 69 12) + (1 : Int32)))) (mR (ma_put S 69 12 (.inl ((mI S 69 12) + (1 : Int32)))) 70) from by first | (exact xB_x (xC_n (c := 69) (k := 12) (x := ((mI S 69 12) + (1 : Int32))) (xC_o (W := 75) hi5) ⟨by decide, Or.inl ⟨rfl, rfl⟩⟩).2)) (show aS 88 (ma_put S 69 12 (.inl ((mI S 69 12) + (1 : Int32)))) = ab from by first | (exact (xC_n (c := 69) (k := 12) (x := ((mI S 69 12) + (1 : Int32))) (xC_o (W := 88) hi5) ⟨by decide, Or.inr ⟨rfl, Or.inr ⟨rfl, by decide⟩⟩⟩).1.trans hi6)) (show aFl ab (l1).toInt (l2) (4500 - ((l6 + (1 : Int32))).toInt).toNat (v12).toInt (l3).toInt (l4).toInt = aFl ab z.toInt b 4500 (aN ab 0) (-1) 0 from by first | (have r0 := congrArg Int32.toInt (aS_I (W := 88) (S := S) (c := 87) (c₉ := 87) (k := 0) rfl rfl); rw [hi6] at r0; have e1 := rp0_S1; rw [hi6] at e1; have e2 := rp0_S11; rw [(xC_n (c := 69) (k := 12) (x := ((mI S 69 12) + (1 : Int32))) (xC_o (W := 88) hi5) ⟨by decide, Or.inr ⟨rfl, Or.inr ⟨rfl, by decide⟩⟩⟩).1, hi6, e1] at e2; rw [e2]; exact ((congrArg (fun q => aFl ab l1.toInt l2 q l5.toInt l3.toInt l4.toInt) (show (4500 - l6.toInt).toNat = (4500 - (l6 + (1 : Int32)).toInt).toNat + 1 by omega)).trans (aFl_n (by omega) (Or.inl (by omega)))).symm.trans hi7) | (have r0 := congrArg Int32.toInt (aS_I (W := 88) (S := S) (c := 87) (c₉ := 87) (k := 0) rfl rfl); rw [hi6] at r0; have e1 := rp0_S1; rw [hi6] at e1; have e2 := rp0_S11; rw [(xC_n (c := 69) (k := 12) (x := ((mI S 69 12) + (1 : Int32))) (xC_o (W := 88) hi5) ⟨by decide, Or.inr ⟨rfl, Or.inr ⟨rfl, by decide⟩⟩⟩).1, hi6, e1] at e2; rw [e2]; exact ((congrArg (fun q => aFl ab l1.toInt l2 q l5.toInt l3.toInt l4.toInt) (show (4500 - l6.toInt).toNat = (4500 - (l6 + (1 : Int32)).toInt).toNat + 1 by omega)).trans (aFl_n (by omega) (Or.inr ⟨by omega, Or.inl ⟨by assumption, by omega⟩⟩))).symm.trans hi7) | (have r0 := congrArg Int32.toInt (aS_I (W := 88) (S := S) (c := 87) (c₉ := 87) (k := 0) rfl rfl); rw [hi6] at r0; have e1 := rp0_S1; rw [hi6] at e1; have e2 := rp0_S11; rw [(xC_n (c := 69) (k := 12) (x := ((mI S 69 12) + (1 : Int32))) (xC_o (W := 88) hi5) ⟨by decide, Or.inr ⟨rfl, Or.inr ⟨rfl, by decide⟩⟩⟩).1, hi6, e1] at e2; rw [e2]; exact ((congrArg (fun q => aFl ab l1.toInt l2 q l5.toInt l3.toInt l4.toInt) (show (4500 - l6.toInt).toNat = (4500 - (l6 + (1 : Int32)).toInt).toNat + 1 by omega)).trans (aFl_n (by omega) (Or.inr ⟨by omega, Or.inr ⟨by assumption, by omega⟩⟩))).symm.trans hi7))
              · skip
                have g61 := i_nle h55
                have hI62 : zJ87 f r C Z N (ma_put S 69 12 (.inl ((mI S 69 12) + (1 : Int32)))) := zG_fr hI rfl (by decide) (by decide) (by decide) trivial
                refine sp_105_87_s (ab := (aS 88 (ma_put S 69 12 (.inl ((mI S 69 12) + (1 : Int32)))))) (v2) (by omega) (by omega) hI62 (show xB (ma_put S 69 12 (.inl ((mI S 69 12) + (1 : Int32)))) (mR (ma_put S 69 12 (.inl ((mI S 69 12) + (1 : Int32)))) 70) from by first | (exact xB_x (xC_n (c := 69) (k := 12) (x := ((mI S 69 12) + (1 : Int32))) (xC_o (W := 75) hi5) ⟨by decide, Or.inl ⟨rfl, rfl⟩⟩).2)) (show aS 88 (ma_put S 69 12 (.inl ((mI S 69 12) + (1 : Int32)))) = (aS 88 (ma_put S 69 12 (.inl ((mI S 69 12) + (1 : Int32))))) from by first | (exact rfl) | (exact hi6)) (by omega) (fun v14 S13 eS_S13 hp_v14 rp0_S13 => zi_n ⟨(by rw [eS_S13]; exact zG_T hI62), ?_⟩)
                replace eS_S13 := eS_S13.symm; subst eS_S13
                have rp0_S13 : v14.toInt = aN (aS 88 (ma_put S 69 12 (.inl ((mI S 69 12) + (1 : Int32))))) v2.toInt := rp0_S13
                have b63 := i_bd v14
                first | have e64 : (l6 + (1 : Int32)).toInt = l6.toInt + (1) := i_addk rfl (by omega) (by omega) | have b65 := i_bd (l6 + (1 : Int32))
                exact IH _ (by omega) _ (l1) (l2) (l5) ((v2 - l5)) (v14) ((l6 + (1 : Int32))) rfl hI62 (by omega) (by omega) (by omega) (by omega) (by omega) (show xB (ma_put S 69 12 (.inl ((mI S 69 12) + (1 : Int32)))) (mR (ma_put S 69 12 (.inl ((mI S 69 12) + (1 : Int32)))) 70) from by first | (exact xB_x (xC_n (c := 69) (k := 12) (x := ((mI S 69 12) + (1 : Int32))) (xC_o (W := 75) hi5) ⟨by decide, Or.inl ⟨rfl, rfl⟩⟩).2)) (show aS 88 (ma_put S 69 12 (.inl ((mI S 69 12) + (1 : Int32)))) = ab from by first | (exact (xC_n (c := 69) (k := 12) (x := ((mI S 69 12) + (1 : Int32))) (xC_o (W := 88) hi5) ⟨by decide, Or.inr ⟨rfl, Or.inr ⟨rfl, by decide⟩⟩⟩).1.trans hi6)) (show aFl ab (l1).toInt (l2) (4500 - ((l6 + (1 : Int32))).toInt).toNat (v14).toInt (l5).toInt ((v2 - l5)).toInt = aFl ab z.toInt b 4500 (aN ab 0) (-1) 0 from by first | (have r0 := congrArg Int32.toInt (aS_I (W := 88) (S := S) (c := 87) (c₉ := 87) (k := 0) rfl rfl); rw [hi6] at r0; have e1 := rp0_S1; rw [hi6] at e1; have e2 := rp0_S13; rw [(xC_n (c := 69) (k := 12) (x := ((mI S 69 12) + (1 : Int32))) (xC_o (W := 88) hi5) ⟨by decide, Or.inr ⟨rfl, Or.inr ⟨rfl, by decide⟩⟩⟩).1, hi6, e1] at e2; rw [e2]; rw [show ((v2 - l5)).toInt = aE ab l5.toInt - l5.toInt from by omega]; exact ((congrArg (fun q => aFl ab l1.toInt l2 q l5.toInt l3.toInt l4.toInt) (show (4500 - l6.toInt).toNat = (4500 - (l6 + (1 : Int32)).toInt).toNat + 1 by omega)).trans (aFl_y (by omega) (by omega) (Or.inl (by omega)))).symm.trans hi7) | (have r0 := congrArg Int32.toInt (aS_I (W := 88) (S := S) (c := 87) (c₉ := 87) (k := 0) rfl rfl); rw [hi6] at r0; have e1 := rp0_S1; rw [hi6] at e1; have e2 := rp0_S13; rw [(xC_n (c := 69) (k := 12) (x := ((mI S 69 12) + (1 : Int32))) (xC_o (W := 88) hi5) ⟨by decide, Or.inr ⟨rfl, Or.inr ⟨rfl, by decide⟩⟩⟩).1, hi6, e1] at e2; rw [e2]; rw [show ((v2 - l5)).toInt = aE ab l5.toInt - l5.toInt from by omega]; exact ((congrArg (fun q => aFl ab l1.toInt l2 q l5.toInt l3.toInt l4.toInt) (show (4500 - l6.toInt).toNat = (4500 - (l6 + (1 : Int32)).toInt).toNat + 1 by omega)).trans (aFl_y (by omega) (by omega) (Or.inr (Or.inl ⟨by assumption, by omega⟩)))).symm.trans hi7) | (have r0 := congrArg Int32.toInt (aS_I (W := 88) (S := S) (c := 87) (c₉ := 87) (k := 0) rfl rfl); rw [hi6] at r0; have e1 := rp0_S1; rw [hi6] at e1; have e2 := rp0_S13; rw [(xC_n (c := 69) (k := 12) (x := ((mI S 69 12) + (1 : Int32))) (xC_o (W := 88) hi5) ⟨by decide, Or.inr ⟨rfl, Or.inr ⟨rfl, by decide⟩⟩⟩).1, hi6, e1] at e2; rw [e2]; rw [show ((v2 - l5)).toInt = aE ab l5.toInt - l5.toInt from by omega]; exact ((congrArg (fun q => aFl ab l1.toInt l2 q l5.toInt l3.toInt l4.toInt) (show (4500 - l6.toInt).toNat = (4500 - (l6 + (1 : Int32)).toInt).toNat + 1 by omega)).trans (aFl_y (by omega) (by omega) (Or.inr (Or.inr ⟨by assumption, by omega⟩)))).symm.trans hi7))
theorem sp_108_87_s {X : Nat × (Nat → Int32)} {d w : Nat} {f : Nat → Nat → Int32} {r : Nat → Nat → Option Nat} {C Z N : Nat} {Q : Option ma_V ⊕ Nat → ma_S → Prop} {ab : Nat→Nat→Int32} {S : ma_S} (z : Int32) (b : Int32) (hd : 2 ≤ d) (hw : 45 ≤ w) (hI : zJ87 f r C Z N S) (hpre0 : xB S (mR S 70)) (hpre1 : aS 88 S = ab) (K : ∀ v S₉, zJ87 f r C Z N S₉ → (-1 ≤ v.toInt ∧ v.toInt ≤ 1500) → (xB S₉ (mR S₉ 70)) → (aS 88 S₉ = ab) → (v.toInt = aFl ab z.toInt b 4500 (aN ab 0) (-1) 0) → Q (.inl (some (.inl v))) S₉) : ma_wp X d w 108 0 [(0, .inr (.inr (some 87))), (1, .inl z), (2, .inl b)] [] S Q := by
  refine g_108_87_s_0 z b (by omega) (by omega) (zG_T hI) ?_
  have li1 : (0 : Int32).toInt = 0 := rfl
  refine sp_105_87_s (ab := (aS 88 S)) ((0 : Int32)) (by omega) (by omega) hI (show xB S (mR S 70) from by first | (exact xB_x (xC_o (W := 75) hpre0).2)) (show aS 88 S = (aS 88 S) from by first | (exact rfl) | (exact hpre1)) (by omega) (fun v2 S1 eS_S1 hp_v2 rp0_S1 => zi_n ⟨(by rw [eS_S1]; exact zG_T hI), ?_⟩)
  replace eS_S1 := eS_S1.symm; subst eS_S1
  have rp0_S1 : v2.toInt = aN (aS 88 S) (0 : Int32).toInt := rp0_S1
  have b2 := i_bd z
  have b3 := i_bd b
  have li4 : (-1 : Int32).toInt = -1 := rfl
  have b5 := i_bd v2
  exact lp_108_87_s_15 (by omega) (by omega) K _ _ (z) (b) ((-1 : Int32)) ((0 : Int32)) (v2) ((0 : Int32)) rfl hI (by omega) (by omega) (by omega) (by omega) (by omega) (show xB S (mR S 70) from by first | (exact xB_x (xC_o (W := 75) hpre0).2)) (show aS 88 S = ab from by first | (exact (xC_o (W := 88) hpre0).1.trans hpre1)) (show aFl ab (z).toInt (b) (4500 - ((0 : Int32)).toInt).toNat (v2).toInt ((-1 : Int32)).toInt ((0 : Int32)).toInt = aFl ab z.toInt b 4500 (aN ab 0) (-1) 0 from by first | (have q := rp0_S1; rw [show (0 : Int32).toInt = 0 from rfl] at q; rw [← hpre1, ← q]; rfl))

/-! from 95.g20 -/
/-! the heap by numbers, the class (written by wip/tools/gen18.py) -/
theorem g_103_87_s_0 {X : Nat × (Nat → Int32)} {d w : Nat} {S : ma_S} {Q : Option ma_V ⊕ Nat → ma_S → Prop} (n : Int32) (hd : 4 ≤ d) (hw : 93 ≤ w) (hS : zT S) (h : if (mI S 87 1) = (0 : Int32) then (ma_wp X (d - 1) (w - 26) 104 0 [(0, .inr (.inr (some 87))), (1, .inl (0 : Int32)), (2, .inl (mI S 87 0)), (3, .inl n)] [] S (zi (fun v2 S1 => zT S1 ∧ (Q (.inl (some (.inl v2))) S1)) (fun x S9 => Q (.inr x) S9))) else (if (mI S 87 1) = (1 : Int32) then (ma_wp X (d - 1) (w - 22) 107 0 [(0, .inr (.inr (some 87))), (1, .inl n)] [] S (zi (fun v4 S3 => zT S3 ∧ (Q (.inl (some (.inl v4))) S3)) (fun x S9 => Q (.inr x) S9))) else (if (mI S 87 1) = (2 : Int32) then (ma_wp X (d - 1) (w - 28) 108 0 [(0, .inr (.inr (some 87))), (1, .inl n), (2, .inl (1 : Int32))] [] S (zi (fun v6 S5 => zT S5 ∧ (Q (.inl (some (.inl v6))) S5)) (fun x S9 => Q (.inr x) S9))) else (ma_wp X (d - 1) (w - 28) 108 0 [(0, .inr (.inr (some 87))), (1, .inl n), (2, .inl (0 : Int32))] [] S (zi (fun v8 S7 => zT S7 ∧ (Q (.inl (some (.inl v8))) S7)) (fun x S9 => Q (.inr x) S9)))))) : ma_wp X d w 103 0 [(0, .inr (.inr (some 87))), (1, .inl n)] [] S Q := by
  refine zw_push hm_103 dX8_fit_0 (v := .inr (.inr (some 87))) rfl ?_
  refine zw_gf hm_103 dX8_fit_1 (v := .inl (mI S 87 1)) (zT_is hS s_87) (zT_t hS s_87) rfl f_8_15_6 rfl ?_
  by_cases hc0 : (mI S 87 1) = (0 : Int32)
  · rw [if_pos hc0] at h
    refine zw_jmp hm_103 dX8_fit_4 (t := 32) (st₉ := []) rfl rfl rfl (ma_jmp_tab (by rw [hc0]; decide +kernel)) ?_
    refine zw_push hm_103 dX8_fit_32 (v := .inr (.inr (some 87))) rfl ?_
    refine zw_push hm_103 dX8_fit_33 (v := .inl (0 : Int32)) rfl ?_
    refine zw_push hm_103 dX8_fit_34 (v := .inr (.inr (some 87))) rfl ?_
    refine zw_gf hm_103 dX8_fit_35 (v := .inl (mI S 87 0)) (zT_is hS s_87) (zT_t hS s_87) rfl f_8_9_6 rfl ?_
    refine zw_push hm_103 dX8_fit_38 (v := .inl n) rfl ?_
    refine zw_cv hm_103 dX8_fit_39 v_8_56_6 hm_104 [.inl n, .inl (mI S 87 0), .inl (0 : Int32)] [] rfl (zT_rt hS s_87 rfl) ⟨by omega, by omega⟩ rfl (zw_mono h (zi_go ?_ ?_))
    · intro v2 S1 hv
      obtain ⟨hS1, h⟩ := hv
      exact zw_iret hm_103 dX8_fit_42 h
    · intro x S9 hx
      exact ⟨by decide, hx⟩
  rw [if_neg hc0] at h
  by_cases hc1 : (mI S 87 1) = (1 : Int32)
  · rw [if_pos hc1] at h
    refine zw_jmp hm_103 dX8_fit_4 (t := 43) (st₉ := []) rfl rfl rfl (ma_jmp_tab (by rw [hc1]; decide +kernel)) ?_
    refine zw_push hm_103 dX8_fit_43 (v := .inr (.inr (some 87))) rfl ?_
    refine zw_push hm_103 dX8_fit_44 (v := .inl n) rfl ?_
    refine zw_cv hm_103 dX8_fit_45 v_8_60_6 hm_107 [.inl n] [] rfl (zT_rt hS s_87 rfl) ⟨by omega, by omega⟩ rfl (zw_mono h (zi_go ?_ ?_))
    · intro v4 S3 hv
      obtain ⟨hS3, h⟩ := hv
      exact zw_iret hm_103 dX8_fit_48 h
    · intro x S9 hx
      exact ⟨by decide, hx⟩
  rw [if_neg hc1] at h
  by_cases hc2 : (mI S 87 1) = (2 : Int32)
  · rw [if_pos hc2] at h
    refine zw_jmp hm_103 dX8_fit_4 (t := 49) (st₉ := []) rfl rfl rfl (ma_jmp_tab (by rw [hc2]; decide +kernel)) ?_
    refine zw_push hm_103 dX8_fit_49 (v := .inr (.inr (some 87))) rfl ?_
    refine zw_push hm_103 dX8_fit_50 (v := .inl n) rfl ?_
    refine zw_push hm_103 dX8_fit_51 (v := .inl (1 : Int32)) rfl ?_
    refine zw_cv hm_103 dX8_fit_52 v_8_63_6 hm_108 [.inl (1 : Int32), .inl n] [] rfl (zT_rt hS s_87 rfl) ⟨by omega, by omega⟩ rfl (zw_mono h (zi_go ?_ ?_))
    · intro v6 S5 hv
      obtain ⟨hS5, h⟩ := hv
      exact zw_iret hm_103 dX8_fit_55 h
    · intro x S9 hx
      exact ⟨by decide, hx⟩
  rw [if_neg hc2] at h
  refine zw_jmp hm_103 dX8_fit_4 (t := 56) (st₉ := []) rfl rfl rfl (ma_jmp_def (m := 3) (by decide) (fun j hj => by
      have hj2 : j = 0 ∨ j = 1 ∨ j = 2 := by omega
      rcases hj2 with rfl | rfl | rfl
      · exact hc0
      · exact hc1
      · exact hc2
      ) rfl) ?_
  refine zw_push hm_103 dX8_fit_56 (v := .inr (.inr (some 87))) rfl ?_
  refine zw_push hm_103 dX8_fit_57 (v := .inl n) rfl ?_
  refine zw_push hm_103 dX8_fit_58 (v := .inl (0 : Int32)) rfl ?_
  refine zw_cv hm_103 dX8_fit_59 v_8_63_6 hm_108 [.inl (0 : Int32), .inl n] [] rfl (zT_rt hS s_87 rfl) ⟨by omega, by omega⟩ rfl (zw_mono h (zi_go ?_ ?_))
  · intro v8 S7 hv
    obtain ⟨hS7, h⟩ := hv
    exact zw_iret hm_103 dX8_fit_62 h
  · intro x S9 hx
    exact ⟨by decide, hx⟩
theorem sp_103_87_s {X : Nat × (Nat → Int32)} {d w : Nat} {f : Nat → Nat → Int32} {r : Nat → Nat → Option Nat} {C Z N : Nat} {Q : Option ma_V ⊕ Nat → ma_S → Prop} {ab : Nat→Nat→Int32} {S : ma_S} (n : Int32) (hd : 4 ≤ d) (hw : 93 ≤ w) (hI : zJ87 f r C Z N S) (hpre0 : xB S (mR S 70)) (hpre1 : aS 88 S = ab) (K : ∀ v S₉, zJ87 f r C Z N S₉ → (-1 ≤ v.toInt ∧ v.toInt ≤ 1500) → (xB S₉ (mR S₉ 70)) → (aS 88 S₉ = ab) → (v.toInt = aFt ab n.toInt) → Q (.inl (some (.inl v))) S₉) : ma_wp X d w 103 0 [(0, .inr (.inr (some 87))), (1, .inl n)] [] S Q := by
  refine g_103_87_s_0 n (by omega) (by omega) (zG_T hI) ?_
  have b1 := i_bd (mI S 87 1)
  have li2 : (0 : Int32).toInt = 0 := rfl
  refine zd (fun h3 => ?_) (fun h3 => ?_)
  · skip
    have g4 := i_eq h3
    have f5 := zG_s hI (0) (1500) (c := 87) (k := 0) (by decide)
    have b6 := i_bd n
    refine sp_104_87_s (ab := (aS 88 S)) ((0 : Int32)) ((mI S 87 0)) (n) (by omega) (by omega) hI (show xB S (mR S 70) from by first | (exact xB_x (xC_o (W := 75) hpre0).2)) (show aS 88 S = (aS 88 S) from by first | (exact rfl) | (exact (xC_o (W := 88) hpre0).1.trans hpre1)) (by omega) (fun v2 S1 hI_S1 hp_v2 rp0_S1 rp1_S1 rp2_S1 => zi_n ⟨zG_T hI_S1, ?_⟩)
    have rp0_S1 : xB S1 (mR S1 70) := rp0_S1
    have rp1_S1 : aS 88 S1 = (aS 88 S) := rp1_S1
    have rp2_S1 : v2.toInt = aFf (aS 88 S) n.toInt (mI S 87 0).toInt 4500 (aN (aS 88 S) (0 : Int32).toInt) := rp2_S1
    have b7 := i_bd v2
    exact K (v2) _ hI_S1 (by omega) (show xB S1 (mR S1 70) from by first | (exact xB_x (xC_o (W := 75) rp0_S1).2)) (show aS 88 S1 = ab from by first | (exact rp1_S1.trans (hpre1))) (show v2.toInt = aFt ab n.toInt from by first | (have q := rp2_S1; rw [← (aS_I (W := 88) (S := S) (c := 87) (c₉ := 87) (k := 0) rfl rfl), hpre1, show (0 : Int32).toInt = 0 from rfl] at q; refine q.trans ?_; unfold aFt; refine (if_pos ?_).symm; rw [← hpre1, (aS_I (W := 88) (S := S) (c := 87) (c₉ := 87) (k := 1) rfl rfl)]; assumption))
  · skip
    have g8 := i_ne h3
    have li9 : (1 : Int32).toInt = 1 := rfl
    refine zd (fun h10 => ?_) (fun h10 => ?_)
    · skip
      have g11 := i_eq h10
      have b12 := i_bd n
      refine sp_107_87_s (ab := (aS 88 S)) (n) (by omega) (by omega) hI (show xB S (mR S 70) from by first | (exact xB_x (xC_o (W := 75) hpre0).2)) (show aS 88 S = (aS 88 S) from by first | (exact rfl)) (fun v4 S3 hI_S3 hp_v4 rp0_S3 rp1_S3 rp2_S3 => zi_n ⟨zG_T hI_S3, ?_⟩)
      have rp0_S3 : xB S3 (mR S3 70) := rp0_S3
      have rp1_S3 : aS 88 S3 = (aS 88 S) := rp1_S3
      have rp2_S3 : v4.toInt = aFx (aS 88 S) n.toInt := rp2_S3
      have b13 := i_bd v4
      exact K (v4) _ hI_S3 (by omega) (show xB S3 (mR S3 70) from by first | (exact xB_x (xC_o (W := 75) rp0_S3).2)) (show aS 88 S3 = ab from by first | (exact rp1_S3.trans (hpre1))) (show v4.toInt = aFt ab n.toInt from by first | (have q := rp2_S3; rw [hpre1] at q; refine q.trans ?_; unfold aFt; rw [← hpre1, (aS_I (W := 88) (S := S) (c := 87) (c₉ := 87) (k := 1) rfl rfl)]; exact ((if_neg (by assumption)).trans (if_pos (by assumption))).symm))
    · skip
      have g14 := i_ne h10
      have li15 : (2 : Int32).toInt = 2 := rfl
      refine zd (fun h16 => ?_) (fun h16 => ?_)
      · skip
        have g17 := i_eq h16
        have b18 := i_bd n
        refine sp_108_87_s (ab := (aS 88 S)) (n) ((1 : Int32)) (by omega) (by omega) hI (show xB S (mR S 70) from by first | (exact xB_x (xC_o (W := 75) hpre0).2)) (show aS 88 S = (aS 88 S) from by first | (exact rfl) | (exact (xC_o (W := 88) hpre0).1.trans hpre1)) (fun v6 S5 hI_S5 hp_v6 rp0_S5 rp1_S5 rp2_S5 => zi_n ⟨zG_T hI_S5, ?_⟩)
        have rp0_S5 : xB S5 (mR S5 70) := rp0_S5
        have rp1_S5 : aS 88 S5 = (aS 88 S) := rp1_S5
        have rp2_S5 : v6.toInt = aFl (aS 88 S) n.toInt (1 : Int32) 4500 (aN (aS 88 S) 0) (-1) 0 := rp2_S5
        have b19 := i_bd v6
        exact K (v6) _ hI_S5 (by omega) (show xB S5 (mR S5 70) from by first | (exact xB_x (xC_o (W := 75) rp0_S5).2)) (show aS 88 S5 = ab from by first | (exact rp1_S5.trans (hpre1))) (show v6.toInt = aFt ab n.toInt from by first | (have q := rp2_S5; rw [hpre1] at q; refine q.trans ?_; unfold aFt; rw [← hpre1, (aS_I (W := 88) (S := S) (c := 87) (c₉ := 87) (k := 1) rfl rfl)]; exact ((if_neg (by assumption)).trans ((if_neg (by assumption)).trans (if_pos (by assumption)))).symm) | (have q := rp2_S5; rw [hpre1] at q; refine q.trans ?_; unfold aFt; rw [← hpre1, (aS_I (W := 88) (S := S) (c := 87) (c₉ := 87) (k := 1) rfl rfl)]; exact ((if_neg (by assumption)).trans ((if_neg (by assumption)).trans (if_neg (by assumption)))).symm))
      · skip
        have g20 := i_ne h16
        have b21 := i_bd n
        refine sp_108_87_s (ab := (aS 88 S)) (n) ((0 : Int32)) (by omega) (by omega) hI (show xB S (mR S 70) from by first | (exact xB_x (xC_o (W := 75) hpre0).2)) (show aS 88 S = (aS 88 S) from by first | (exact rfl) | (exact (xC_o (W := 88) hpre0).1.trans hpre1)) (fun v8 S7 hI_S7 hp_v8 rp0_S7 rp1_S7 rp2_S7 => zi_n ⟨zG_T hI_S7, ?_⟩)
        have rp0_S7 : xB S7 (mR S7 70) := rp0_S7
        have rp1_S7 : aS 88 S7 = (aS 88 S) := rp1_S7
        have rp2_S7 : v8.toInt = aFl (aS 88 S) n.toInt (0 : Int32) 4500 (aN (aS 88 S) 0) (-1) 0 := rp2_S7
        have b22 := i_bd v8
        exact K (v8) _ hI_S7 (by omega) (show xB S7 (mR S7 70) from by first | (exact xB_x (xC_o (W := 75) rp0_S7).2)) (show aS 88 S7 = ab from by first | (exact rp1_S7.trans (hpre1))) (show v8.toInt = aFt ab n.toInt from by first | (have q := rp2_S7; rw [hpre1] at q; refine q.trans ?_; unfold aFt; rw [← hpre1, (aS_I (W := 88) (S := S) (c := 87) (c₉ := 87) (k := 1) rfl rfl)]; exact ((if_neg (by assumption)).trans ((if_neg (by assumption)).trans (if_pos (by assumption)))).symm) | (have q := rp2_S7; rw [hpre1] at q; refine q.trans ?_; unfold aFt; rw [← hpre1, (aS_I (W := 88) (S := S) (c := 87) (c₉ := 87) (k := 1) rfl rfl)]; exact ((if_neg (by assumption)).trans ((if_neg (by assumption)).trans (if_neg (by assumption)))).symm))
/-! FINDING ROOM IN STEPS -/
def aF0 (a : Nat → Nat → Int32) : Nat → Nat → Int32 := if a 87 8 = 0 ∧ (4 : Int32) * (a 87 0 - a 69 8) < a 87 0 then aB0 a else a
def aF1 (a : Nat → Nat → Int32) : Nat → Nat → Int32 := aGo (aF0 a) (a 87 6).toInt.toNat
def aRs (a : Nat → Nat → Int32) (z : Int) : Nat → Nat → Int32 := if aFt (aF1 a) z = -1 then (if aFt (aCl (aF1 a)) z = -1 ∧ aF1 a 87 8 ≠ 0 then aCl (aCl (aF1 a)) else aCl (aF1 a)) else aF1 a
def aRp (a : Nat → Nat → Int32) (z : Int) : Int := aFt (aRs a z) z
section FR5
variable {a b c d : Nat → Nat → Int32} {z : Int} {m k : Nat} {n : Int32}
theorem aF0_y (h : a 87 8 = 0) (h1 : (4 : Int32) * (a 87 0 - a 69 8) < a 87 0) : aF0 a = aB0 a := if_pos ⟨h, h1⟩
theorem aF0_n (h : ¬ (a 87 8 = 0 ∧ (4 : Int32) * (a 87 0 - a 69 8) < a 87 0)) : aF0 a = a := if_neg h
theorem aRs_1 (e : b = aF1 a) (h : aFt b z ≠ -1) : aRs a z = b := by
  unfold aRs
  rw [← e, if_neg h]
theorem aRs_2 (e : b = aF1 a) (h : aFt b z = -1) (e2 : c = aCl b) (h2 : aFt c z ≠ -1 ∨ b 87 8 = 0) : aRs a z = c := by
  unfold aRs
  rw [← e, if_pos h, ← e2, if_neg (fun w => by
    rcases h2 with h2 | h2
    · exact h2 w.1
    · exact w.2 h2)]
theorem aRs_3 (e : b = aF1 a) (h : aFt b z = -1) (e2 : c = aCl b) (h2 : aFt c z = -1) (h3 : b 87 8 ≠ 0) (e3 : d = aCl c) : aRs a z = d := by
  unfold aRs
  rw [← e, if_pos h, ← e2, if_pos ⟨h2, h3⟩, ← e3]
/-- cells that a walk's coming leaves -/
theorem aHf_o {c : Nat} (h : c ≠ 75 ∧ c ≠ 76 ∧ c ≠ 77) : ∀ (f : Nat) (n : Int32) (a : Nat → Nat → Int32), aHf f n a c k = a c k := by
  intro f
  induction f with
  | zero => intro n a; rfl
  | succ f ih =>
    intro n a
    show aHf f (n + 1) (if _ then aCm a n else a) c k = a c k
    rw [ih]
    split
    · exact aCm_o h
    · rfl
theorem aWf_o {c : Nat} (h : c ≠ 75 ∧ c ≠ 76 ∧ c ≠ 77) : ∀ (f : Nat) (n : Int32) (a : Nat → Nat → Int32), aWf f n a c k = a c k := by
  intro f
  induction f with
  | zero => intro n a; exact aHf_o h _ _ _
  | succ f ih =>
    intro n a
    show aWf f (n + 1) (aCm a _) c k = a c k
    rw [ih]
    exact aCm_o h
theorem aRf_o {c : Nat} (h : c ≠ 75 ∧ c ≠ 76 ∧ c ≠ 77) : ∀ (f : Nat) (n : Int32) (a : Nat → Nat → Int32), aRf f n a c k = a c k := by
  intro f
  induction f with
  | zero => intro n a; exact aWf_o h _ _ _
  | succ f ih =>
    intro n a
    show aRf f (n + 1) (aCm a _) c k = a c k
    rw [ih]
    exact aCm_o h
theorem aRo_o {c : Nat} (h : c ≠ 75 ∧ c ≠ 76 ∧ c ≠ 77) : aRo a n c k = a c k := aRf_o h _ _ _
theorem aB0_o {c : Nat} (h : c ≠ 75 ∧ c ≠ 76 ∧ c ≠ 77) (h2 : ¬ (c = 87 ∧ k = 8)) : aB0 a c k = a c k := by
  unfold aB0
  rw [aRo_o h]
  show (if c = 75 ∧ k = 5 then _ else if c = 75 ∧ k = 4 then _ else if c = 75 ∧ k = 3 then _ else if c = 77 ∧ _ then _ else if c = 87 ∧ k = 8 then _ else a c k) = _
  rw [if_neg (fun w => h.1 w.1), if_neg (fun w => h.1 w.1), if_neg (fun w => h.1 w.1), if_neg (fun w => h.2.2 w.1), if_neg h2]
end FR5

/-! from 95.g21 -/
/-! the heap by numbers, the class (written by wip/tools/gen18.py) -/
theorem g_71_87_s_0 {X : Nat × (Nat → Int32)} {d w : Nat} {S : ma_S} {Q : Option ma_V ⊕ Nat → ma_S → Prop} (z : Int32) (hd : 5 ≤ d) (hw : 114 ≤ w) (hS : zT S) (h : if (mI S 87 8) = 0 then (if (mI S 87 0) ≤ ((4 : Int32) * ((mI S 87 0) - (mI S 69 8))) then (ma_wp X (d - 1) (w - 22) 72 0 [(0, .inr (.inr (some 87))), (1, .inl (mI S 87 6))] [] S (zi (fun v18 S17 => zT S17 ∧ (ma_wp X (d - 1) (w - 21) 103 0 [(0, .inr (.inr (some 87))), (1, .inl z)] [] S17 (zi (fun v20 S19 => zT S19 ∧ (if v20 = (-1 : Int32) then (ma_wp X (d - 1) (w - 21) 67 0 [(0, .inr (.inr (some 87)))] [] S19 (zi (fun v26 S25 => zT S25 ∧ (ma_wp X (d - 1) (w - 21) 103 0 [(0, .inr (.inr (some 87))), (1, .inl z)] [] S25 (zi (fun v28 S27 => zT S27 ∧ (if v28 = (-1 : Int32) then (if (mI S19 87 8) = 0 then (Q (.inl (some (.inl v28))) S27) else (ma_wp X (d - 1) (w - 21) 67 0 [(0, .inr (.inr (some 87)))] [] S27 (zi (fun v30 S29 => zT S29 ∧ (ma_wp X (d - 1) (w - 21) 103 0 [(0, .inr (.inr (some 87))), (1, .inl z)] [] S29 (zi (fun v32 S31 => zT S31 ∧ (Q (.inl (some (.inl v32))) S31)) (fun _ _ => False)))) (fun x S9 => Q (.inr x) S9)))) else (Q (.inl (some (.inl v28))) S27))) (fun _ _ => False)))) (fun x S9 => Q (.inr x) S9))) else (if v20 = (-1 : Int32) then (if (mI S19 87 8) = 0 then (Q (.inl (some (.inl v20))) S19) else (ma_wp X (d - 1) (w - 21) 67 0 [(0, .inr (.inr (some 87)))] [] S19 (zi (fun v22 S21 => zT S21 ∧ (ma_wp X (d - 1) (w - 21) 103 0 [(0, .inr (.inr (some 87))), (1, .inl z)] [] S21 (zi (fun v24 S23 => zT S23 ∧ (Q (.inl (some (.inl v24))) S23)) (fun _ _ => False)))) (fun x S9 => Q (.inr x) S9)))) else (Q (.inl (some (.inl v20))) S19)))) (fun _ _ => False)))) (fun x S9 => Q (.inr x) S9))) else (ma_wp X (d - 1) (w - 20) 68 0 [(0, .inr (.inr (some 87)))] [] S (zv (fun S33 => zT S33 ∧ (ma_wp X (d - 1) (w - 22) 72 0 [(0, .inr (.inr (some 87))), (1, .inl (mI S33 87 6))] [] S33 (zi (fun v36 S35 => zT S35 ∧ (ma_wp X (d - 1) (w - 21) 103 0 [(0, .inr (.inr (some 87))), (1, .inl z)] [] S35 (zi (fun v38 S37 => zT S37 ∧ (if v38 = (-1 : Int32) then (ma_wp X (d - 1) (w - 21) 67 0 [(0, .inr (.inr (some 87)))] [] S37 (zi (fun v44 S43 => zT S43 ∧ (ma_wp X (d - 1) (w - 21) 103 0 [(0, .inr (.inr (some 87))), (1, .inl z)] [] S43 (zi (fun v46 S45 => zT S45 ∧ (if v46 = (-1 : Int32) then (if (mI S37 87 8) = 0 then (Q (.inl (some (.inl v46))) S45) else (ma_wp X (d - 1) (w - 21) 67 0 [(0, .inr (.inr (some 87)))] [] S45 (zi (fun v48 S47 => zT S47 ∧ (ma_wp X (d - 1) (w - 21) 103 0 [(0, .inr (.inr (some 87))), (1, .inl z)] [] S47 (zi (fun v50 S49 => zT S49 ∧ (Q (.inl (some (.inl v50))) S49)) (fun _ _ => False)))) (fun x S9 => Q (.inr x) S9)))) else (Q (.inl (some (.inl v46))) S45))) (fun _ _ => False)))) (fun x S9 => Q (.inr x) S9))) else (if v38 = (-1 : Int32) then (if (mI S37 87 8) = 0 then (Q (.inl (some (.inl v38))) S37) else (ma_wp X (d - 1) (w - 21) 67 0 [(0, .inr (.inr (some 87)))] [] S37 (zi (fun v40 S39 => zT S39 ∧ (ma_wp X (d - 1) (w - 21) 103 0 [(0, .inr (.inr (some 87))), (1, .inl z)] [] S39 (zi (fun v42 S41 => zT S41 ∧ (Q (.inl (some (.inl v42))) S41)) (fun _ _ => False)))) (fun x S9 => Q (.inr x) S9)))) else (Q (.inl (some (.inl v38))) S37)))) (fun _ _ => False)))) (fun x S9 => Q (.inr x) S9)))) (fun x S9 => Q (.inr x) S9)))) else (ma_wp X (d - 1) (w - 22) 72 0 [(0, .inr (.inr (some 87))), (1, .inl (mI S 87 6))] [] S (zi (fun v2 S1 => zT S1 ∧ (ma_wp X (d - 1) (w - 21) 103 0 [(0, .inr (.inr (some 87))), (1, .inl z)] [] S1 (zi (fun v4 S3 => zT S3 ∧ (if v4 = (-1 : Int32) then (ma_wp X (d - 1) (w - 21) 67 0 [(0, .inr (.inr (some 87)))] [] S3 (zi (fun v10 S9 => zT S9 ∧ (ma_wp X (d - 1) (w - 21) 103 0 [(0, .inr (.inr (some 87))), (1, .inl z)] [] S9 (zi (fun v12 S11 => zT S11 ∧ (if v12 = (-1 : Int32) then (if (mI S3 87 8) = 0 then (Q (.inl (some (.inl v12))) S11) else (ma_wp X (d - 1) (w - 21) 67 0 [(0, .inr (.inr (some 87)))] [] S11 (zi (fun v14 S13 => zT S13 ∧ (ma_wp X (d - 1) (w - 21) 103 0 [(0, .inr (.inr (some 87))), (1, .inl z)] [] S13 (zi (fun v16 S15 => zT S15 ∧ (Q (.inl (some (.inl v16))) S15)) (fun _ _ => False)))) (fun x S9 => Q (.inr x) S9)))) else (Q (.inl (some (.inl v12))) S11))) (fun _ _ => False)))) (fun x S9 => Q (.inr x) S9))) else (if v4 = (-1 : Int32) then (if (mI S3 87 8) = 0 then (Q (.inl (some (.inl v4))) S3) else (ma_wp X (d - 1) (w - 21) 67 0 [(0, .inr (.inr (some 87)))] [] S3 (zi (fun v6 S5 => zT S5 ∧ (ma_wp X (d - 1) (w - 21) 103 0 [(0, .inr (.inr (some 87))), (1, .inl z)] [] S5 (zi (fun v8 S7 => zT S7 ∧ (Q (.inl (some (.inl v8))) S7)) (fun _ _ => False)))) (fun x S9 => Q (.inr x) S9)))) else (Q (.inl (some (.inl v4))) S3)))) (fun _ _ => False)))) (fun x S9 => Q (.inr x) S9)))) : ma_wp X d w 71 0 [(0, .inr (.inr (some 87))), (1, .inl z)] [] S Q := by
  refine zw_push hm_71 dX6_findRoom_0 (v := .inr (.inr (some 87))) rfl ?_
  refine zw_gf hm_71 dX6_findRoom_1 (v := .inl (mI S 87 8)) (zT_is hS s_87) (zT_t hS s_87) rfl f_6_31_6 rfl ?_
  refine zw_if0 hm_71 dX6_findRoom_4 (t := 32) rfl zc0_ne ?_ ?_
  · intro hc
    rw [if_neg hc] at h
    refine zw_push hm_71 dX6_findRoom_32 (v := .inr (.inr (some 87))) rfl ?_
    refine zw_push hm_71 dX6_findRoom_33 (v := .inr (.inr (some 87))) rfl ?_
    refine zw_gf hm_71 dX6_findRoom_34 (v := .inl (mI S 87 6)) (zT_is hS s_87) (zT_t hS s_87) rfl f_6_24_6 rfl ?_
    refine zw_cv hm_71 dX6_findRoom_37 v_6_51_6 hm_72 [.inl (mI S 87 6)] [] rfl (zT_rt hS s_87 rfl) ⟨by omega, by omega⟩ rfl (zw_mono h (zi_go ?_ ?_))
    · intro v2 S1 hv
      obtain ⟨hS1, h⟩ := hv
      refine zw_stk hm_71 dX6_findRoom_40 (st₉ := []) rfl rfl ?_
      refine zw_push hm_71 dX6_findRoom_41 (v := .inr (.inr (some 87))) rfl ?_
      refine zw_push hm_71 dX6_findRoom_42 (v := .inl z) rfl ?_
      refine zw_cv hm_71 dX6_findRoom_43 v_6_55_6 hm_103 [.inl z] [] rfl (zT_rt hS1 s_87 rfl) ⟨by omega, by omega⟩ rfl (zw_mono h (zi_go ?_ ?_))
      · intro v4 S3 hv
        obtain ⟨hS3, h⟩ := hv
        refine zw_sto hm_71 dX6_findRoom_46 [(2, .inl v4), (0, .inr (.inr (some 87))), (1, .inl z)] rfl rfl rfl ?_
        refine zw_push hm_71 dX6_findRoom_47 (v := .inr (.inr (some 87))) rfl ?_
        refine zw_gf hm_71 dX6_findRoom_48 (v := .inl (mI S3 87 8)) (zT_is hS3 s_87) (zT_t hS3 s_87) rfl f_6_31_6 rfl ?_
        refine zw_sto hm_71 dX6_findRoom_51 [(3, .inl (mI S3 87 8)), (2, .inl v4), (0, .inr (.inr (some 87))), (1, .inl z)] rfl rfl rfl ?_
        refine zw_push hm_71 dX6_findRoom_52 (v := .inl v4) rfl ?_
        refine zw_push hm_71 dX6_findRoom_53 (v := .inl (-1 : Int32)) rfl ?_
        refine zw_if2 hm_71 dX6_findRoom_54 (t := 68) rfl zc2_ne ?_ ?_
        · intro hc
          rw [if_neg hc] at h
          refine zw_push hm_71 dX6_findRoom_68 (v := .inl v4) rfl ?_
          refine zw_push hm_71 dX6_findRoom_69 (v := .inl (-1 : Int32)) rfl ?_
          refine zw_if2 hm_71 dX6_findRoom_70 (t := 88) rfl zc2_ne ?_ ?_
          · intro hc
            rw [if_neg hc] at h
            refine zw_push hm_71 dX6_findRoom_88 (v := .inl v4) rfl ?_
            exact zw_iret hm_71 dX6_findRoom_89 h
          · intro hc
            rw [if_pos (Classical.not_not.mp hc)] at h
            refine zw_push hm_71 dX6_findRoom_73 (v := .inl (mI S3 87 8)) rfl ?_
            refine zw_if0 hm_71 dX6_findRoom_74 (t := 88) rfl zc0_eq ?_ ?_
            · intro hc
              rw [if_pos hc] at h
              refine zw_push hm_71 dX6_findRoom_88 (v := .inl v4) rfl ?_
              exact zw_iret hm_71 dX6_findRoom_89 h
            · intro hc
              rw [if_neg hc] at h
              refine zw_push hm_71 dX6_findRoom_77 (v := .inr (.inr (some 87))) rfl ?_
              refine zw_cv hm_71 dX6_findRoom_78 v_6_58_6 hm_67 [] [] rfl (zT_rt hS3 s_87 rfl) ⟨by omega, by omega⟩ rfl (zw_mono h (zi_go ?_ ?_))
              · intro v6 S5 hv
                obtain ⟨hS5, h⟩ := hv
                refine zw_stk hm_71 dX6_findRoom_81 (st₉ := []) rfl rfl ?_
                refine zw_push hm_71 dX6_findRoom_82 (v := .inr (.inr (some 87))) rfl ?_
                refine zw_push hm_71 dX6_findRoom_83 (v := .inl z) rfl ?_
                refine zw_cv hm_71 dX6_findRoom_84 v_6_55_6 hm_103 [.inl z] [] rfl (zT_rt hS5 s_87 rfl) ⟨by omega, by omega⟩ rfl (zw_mono h (zi_go ?_ ?_))
                · intro v8 S7 hv
                  obtain ⟨hS7, h⟩ := hv
                  refine zw_sto hm_71 dX6_findRoom_87 [(2, .inl v8), (3, .inl (mI S3 87 8)), (0, .inr (.inr (some 87))), (1, .inl z)] rfl rfl rfl ?_
                  refine zw_push hm_71 dX6_findRoom_88 (v := .inl v8) rfl ?_
                  exact zw_iret hm_71 dX6_findRoom_89 h
                · intro x S9 hx
                  exact hx.elim
              · intro x S9 hx
                exact ⟨by decide, hx⟩
        · intro hc
          rw [if_pos (Classical.not_not.mp hc)] at h
          refine zw_push hm_71 dX6_findRoom_57 (v := .inr (.inr (some 87))) rfl ?_
          refine zw_cv hm_71 dX6_findRoom_58 v_6_58_6 hm_67 [] [] rfl (zT_rt hS3 s_87 rfl) ⟨by omega, by omega⟩ rfl (zw_mono h (zi_go ?_ ?_))
          · intro v10 S9 hv
            obtain ⟨hS9, h⟩ := hv
            refine zw_stk hm_71 dX6_findRoom_61 (st₉ := []) rfl rfl ?_
            refine zw_push hm_71 dX6_findRoom_62 (v := .inr (.inr (some 87))) rfl ?_
            refine zw_push hm_71 dX6_findRoom_63 (v := .inl z) rfl ?_
            refine zw_cv hm_71 dX6_findRoom_64 v_6_55_6 hm_103 [.inl z] [] rfl (zT_rt hS9 s_87 rfl) ⟨by omega, by omega⟩ rfl (zw_mono h (zi_go ?_ ?_))
            · intro v12 S11 hv
              obtain ⟨hS11, h⟩ := hv
              refine zw_sto hm_71 dX6_findRoom_67 [(2, .inl v12), (3, .inl (mI S3 87 8)), (0, .inr (.inr (some 87))), (1, .inl z)] rfl rfl rfl ?_
              refine zw_push hm_71 dX6_findRoom_68 (v := .inl v12) rfl ?_
              refine zw_push hm_71 dX6_findRoom_69 (v := .inl (-1 : Int32)) rfl ?_
              refine zw_if2 hm_71 dX6_findRoom_70 (t := 88) rfl zc2_ne ?_ ?_
              · intro hc
                rw [if_neg hc] at h
                refine zw_push hm_71 dX6_findRoom_88 (v := .inl v12) rfl ?_
                exact zw_iret hm_71 dX6_findRoom_89 h
              · intro hc
                rw [if_pos (Classical.not_not.mp hc)] at h
                refine zw_push hm_71 dX6_findRoom_73 (v := .inl (mI S3 87 8)) rfl ?_
                refine zw_if0 hm_71 dX6_findRoom_74 (t := 88) rfl zc0_eq ?_ ?_
                · intro hc
                  rw [if_pos hc] at h
                  refine zw_push hm_71 dX6_findRoom_88 (v := .inl v12) rfl ?_
                  exact zw_iret hm_71 dX6_findRoom_89 h
                · intro hc
                  rw [if_neg hc] at h
                  refine zw_push hm_71 dX6_findRoom_77 (v := .inr (.inr (some 87))) rfl ?_
                  refine zw_cv hm_71 dX6_findRoom_78 v_6_58_6 hm_67 [] [] rfl (zT_rt hS11 s_87 rfl) ⟨by omega, by omega⟩ rfl (zw_mono h (zi_go ?_ ?_))
                  · intro v14 S13 hv
                    obtain ⟨hS13, h⟩ := hv
                    refine zw_stk hm_71 dX6_findRoom_81 (st₉ := []) rfl rfl ?_
                    refine zw_push hm_71 dX6_findRoom_82 (v := .inr (.inr (some 87))) rfl ?_
                    refine zw_push hm_71 dX6_findRoom_83 (v := .inl z) rfl ?_
                    refine zw_cv hm_71 dX6_findRoom_84 v_6_55_6 hm_103 [.inl z] [] rfl (zT_rt hS13 s_87 rfl) ⟨by omega, by omega⟩ rfl (zw_mono h (zi_go ?_ ?_))
                    · intro v16 S15 hv
                      obtain ⟨hS15, h⟩ := hv
                      refine zw_sto hm_71 dX6_findRoom_87 [(2, .inl v16), (3, .inl (mI S3 87 8)), (0, .inr (.inr (some 87))), (1, .inl z)] rfl rfl rfl ?_
                      refine zw_push hm_71 dX6_findRoom_88 (v := .inl v16) rfl ?_
                      exact zw_iret hm_71 dX6_findRoom_89 h
                    · intro x S9 hx
                      exact hx.elim
                  · intro x S9 hx
                    exact ⟨by decide, hx⟩
            · intro x S9 hx
              exact hx.elim
          · intro x S9 hx
            exact ⟨by decide, hx⟩
      · intro x S9 hx
        exact hx.elim
    · intro x S9 hx
      exact ⟨by decide, hx⟩
  · intro hc
    rw [if_pos (Classical.not_not.mp hc)] at h
    refine zw_push hm_71 dX6_findRoom_7 (v := .inl (4 : Int32)) rfl ?_
    refine zw_push hm_71 dX6_findRoom_8 (v := .inr (.inr (some 87))) rfl ?_
    refine zw_gf hm_71 dX6_findRoom_9 (v := .inl (mI S 87 0)) (zT_is hS s_87) (zT_t hS s_87) rfl f_6_35_6 rfl ?_
    refine zw_push hm_71 dX6_findRoom_12 (v := .inr (.inr (some 87))) rfl ?_
    refine zw_gf hm_71 dX6_findRoom_13 (v := .inr (.inr (some 69))) (zT_is hS s_87) (zT_t hS s_87) rfl f_6_38_6 (zT_f hS r_87_3) ?_
    refine zw_gf hm_71 dX6_findRoom_16 (v := .inl (mI S 69 8)) (zT_is hS s_69) (zT_t hS s_69) rfl f_6_42_7 rfl ?_
    refine zw_stk hm_71 dX6_findRoom_19 (st₉ := [.inl ((mI S 87 0) - (mI S 69 8)), .inl (4 : Int32)]) rfl rfl ?_
    refine zw_stk hm_71 dX6_findRoom_20 (st₉ := [.inl ((4 : Int32) * ((mI S 87 0) - (mI S 69 8)))]) rfl rfl ?_
    refine zw_push hm_71 dX6_findRoom_21 (v := .inr (.inr (some 87))) rfl ?_
    refine zw_gf hm_71 dX6_findRoom_22 (v := .inl (mI S 87 0)) (zT_is hS s_87) (zT_t hS s_87) rfl f_6_35_6 rfl ?_
    refine zw_if2 hm_71 dX6_findRoom_25 (t := 32) rfl zc2_ge ?_ ?_
    · intro hc
      rw [if_pos hc] at h
      refine zw_push hm_71 dX6_findRoom_32 (v := .inr (.inr (some 87))) rfl ?_
      refine zw_push hm_71 dX6_findRoom_33 (v := .inr (.inr (some 87))) rfl ?_
      refine zw_gf hm_71 dX6_findRoom_34 (v := .inl (mI S 87 6)) (zT_is hS s_87) (zT_t hS s_87) rfl f_6_24_6 rfl ?_
      refine zw_cv hm_71 dX6_findRoom_37 v_6_51_6 hm_72 [.inl (mI S 87 6)] [] rfl (zT_rt hS s_87 rfl) ⟨by omega, by omega⟩ rfl (zw_mono h (zi_go ?_ ?_))
      · intro v18 S17 hv
        obtain ⟨hS17, h⟩ := hv
        refine zw_stk hm_71 dX6_findRoom_40 (st₉ := []) rfl rfl ?_
        refine zw_push hm_71 dX6_findRoom_41 (v := .inr (.inr (some 87))) rfl ?_
        refine zw_push hm_71 dX6_findRoom_42 (v := .inl z) rfl ?_
        refine zw_cv hm_71 dX6_findRoom_43 v_6_55_6 hm_103 [.inl z] [] rfl (zT_rt hS17 s_87 rfl) ⟨by omega, by omega⟩ rfl (zw_mono h (zi_go ?_ ?_))
        · intro v20 S19 hv
          obtain ⟨hS19, h⟩ := hv
          refine zw_sto hm_71 dX6_findRoom_46 [(2, .inl v20), (0, .inr (.inr (some 87))), (1, .inl z)] rfl rfl rfl ?_
          refine zw_push hm_71 dX6_findRoom_47 (v := .inr (.inr (some 87))) rfl ?_
          refine zw_gf hm_71 dX6_findRoom_48 (v := .inl (mI S19 87 8)) (zT_is hS19 s_87) (zT_t hS19 s_87) rfl f_6_31_6 rfl ?_
          refine zw_sto hm_71 dX6_findRoom_51 [(3, .inl (mI S19 87 8)), (2, .inl v20), (0, .inr (.inr (some 87))), (1, .inl z)] rfl rfl rfl ?_
          refine zw_push hm_71 dX6_findRoom_52 (v := .inl v20) rfl ?_
          refine zw_push hm_71 dX6_findRoom_53 (v := .inl (-1 : Int32)) rfl ?_
          refine zw_if2 hm_71 dX6_findRoom_54 (t := 68) rfl zc2_ne ?_ ?_
          · intro hc
            rw [if_neg hc] at h
            refine zw_push hm_71 dX6_findRoom_68 (v := .inl v20) rfl ?_
            refine zw_push hm_71 dX6_findRoom_69 (v := .inl (-1 : Int32)) rfl ?_
            refine zw_if2 hm_71 dX6_findRoom_70 (t := 88) rfl zc2_ne ?_ ?_
            · intro hc
              rw [if_neg hc] at h
              refine zw_push hm_71 dX6_findRoom_88 (v := .inl v20) rfl ?_
              exact zw_iret hm_71 dX6_findRoom_89 h
            · intro hc
              rw [if_pos (Classical.not_not.mp hc)] at h
              refine zw_push hm_71 dX6_findRoom_73 (v := .inl (mI S19 87 8)) rfl ?_
              refine zw_if0 hm_71 dX6_findRoom_74 (t := 88) rfl zc0_eq ?_ ?_
              · intro hc
                rw [if_pos hc] at h
                refine zw_push hm_71 dX6_findRoom_88 (v := .inl v20) rfl ?_
                exact zw_iret hm_71 dX6_findRoom_89 h
              · intro hc
                rw [if_neg hc] at h
                refine zw_push hm_71 dX6_findRoom_77 (v := .inr (.inr (some 87))) rfl ?_
                refine zw_cv hm_71 dX6_findRoom_78 v_6_58_6 hm_67 [] [] rfl (zT_rt hS19 s_87 rfl) ⟨by omega, by omega⟩ rfl (zw_mono h (zi_go ?_ ?_))
                · intro v22 S21 hv
                  obtain ⟨hS21, h⟩ := hv
                  refine zw_stk hm_71 dX6_findRoom_81 (st₉ := []) rfl rfl ?_
                  refine zw_push hm_71 dX6_findRoom_82 (v := .inr (.inr (some 87))) rfl ?_
                  refine zw_push hm_71 dX6_findRoom_83 (v := .inl z) rfl ?_
                  refine zw_cv hm_71 dX6_findRoom_84 v_6_55_6 hm_103 [.inl z] [] rfl (zT_rt hS21 s_87 rfl) ⟨by omega, by omega⟩ rfl (zw_mono h (zi_go ?_ ?_))
                  · intro v24 S23 hv
                    obtain ⟨hS23, h⟩ := hv
                    refine zw_sto hm_71 dX6_findRoom_87 [(2, .inl v24), (3, .inl (mI S19 87 8)), (0, .inr (.inr (some 87))), (1, .inl z)] rfl rfl rfl ?_
                    refine zw_push hm_71 dX6_findRoom_88 (v := .inl v24) rfl ?_
                    exact zw_iret hm_71 dX6_findRoom_89 h
                  · intro x S9 hx
                    exact hx.elim
                · intro x S9 hx
                  exact ⟨by decide, hx⟩
          · intro hc
            rw [if_pos (Classical.not_not.mp hc)] at h
            refine zw_push hm_71 dX6_findRoom_57 (v := .inr (.inr (some 87))) rfl ?_
            refine zw_cv hm_71 dX6_findRoom_58 v_6_58_6 hm_67 [] [] rfl (zT_rt hS19 s_87 rfl) ⟨by omega, by omega⟩ rfl (zw_mono h (zi_go ?_ ?_))
            · intro v26 S25 hv
              obtain ⟨hS25, h⟩ := hv
              refine zw_stk hm_71 dX6_findRoom_61 (st₉ := []) rfl rfl ?_
              refine zw_push hm_71 dX6_findRoom_62 (v := .inr (.inr (some 87))) rfl ?_
              refine zw_push hm_71 dX6_findRoom_63 (v := .inl z) rfl ?_
              refine zw_cv hm_71 dX6_findRoom_64 v_6_55_6 hm_103 [.inl z] [] rfl (zT_rt hS25 s_87 rfl) ⟨by omega, by omega⟩ rfl (zw_mono h (zi_go ?_ ?_))
              · intro v28 S27 hv
                obtain ⟨hS27, h⟩ := hv
                refine zw_sto hm_71 dX6_findRoom_67 [(2, .inl v28), (3, .inl (mI S19 87 8)), (0, .inr (.inr (some 87))), (1, .inl z)] rfl rfl rfl ?_
                refine zw_push hm_71 dX6_findRoom_68 (v := .inl v28) rfl ?_
                refine zw_push hm_71 dX6_findRoom_69 (v := .inl (-1 : Int32)) rfl ?_
                refine zw_if2 hm_71 dX6_findRoom_70 (t := 88) rfl zc2_ne ?_ ?_
                · intro hc
                  rw [if_neg hc] at h
                  refine zw_push hm_71 dX6_findRoom_88 (v := .inl v28) rfl ?_
                  exact zw_iret hm_71 dX6_findRoom_89 h
                · intro hc
                  rw [if_pos (Classical.not_not.mp hc)] at h
                  refine zw_push hm_71 dX6_findRoom_73 (v := .inl (mI S19 87 8)) rfl ?_
                  refine zw_if0 hm_71 dX6_findRoom_74 (t := 88) rfl zc0_eq ?_ ?_
                  · intro hc
                    rw [if_pos hc] at h
                    refine zw_push hm_71 dX6_findRoom_88 (v := .inl v28) rfl ?_
                    exact zw_iret hm_71 dX6_findRoom_89 h
                  · intro hc
                    rw [if_neg hc] at h
                    refine zw_push hm_71 dX6_findRoom_77 (v := .inr (.inr (some 87))) rfl ?_
                    refine zw_cv hm_71 dX6_findRoom_78 v_6_58_6 hm_67 [] [] rfl (zT_rt hS27 s_87 rfl) ⟨by omega, by omega⟩ rfl (zw_mono h (zi_go ?_ ?_))
                    · intro v30 S29 hv
                      obtain ⟨hS29, h⟩ := hv
                      refine zw_stk hm_71 dX6_findRoom_81 (st₉ := []) rfl rfl ?_
                      refine zw_push hm_71 dX6_findRoom_82 (v := .inr (.inr (some 87))) rfl ?_
                      refine zw_push hm_71 dX6_findRoom_83 (v := .inl z) rfl ?_
                      refine zw_cv hm_71 dX6_findRoom_84 v_6_55_6 hm_103 [.inl z] [] rfl (zT_rt hS29 s_87 rfl) ⟨by omega, by omega⟩ rfl (zw_mono h (zi_go ?_ ?_))
                      · intro v32 S31 hv
                        obtain ⟨hS31, h⟩ := hv
                        refine zw_sto hm_71 dX6_findRoom_87 [(2, .inl v32), (3, .inl (mI S19 87 8)), (0, .inr (.inr (some 87))), (1, .inl z)] rfl rfl rfl ?_
                        refine zw_push hm_71 dX6_findRoom_88 (v := .inl v32) rfl ?_
                        exact zw_iret hm_71 dX6_findRoom_89 h
                      · intro x S9 hx
                        exact hx.elim
                    · intro x S9 hx
                      exact ⟨by decide, hx⟩
              · intro x S9 hx
                exact hx.elim
            · intro x S9 hx
              exact ⟨by decide, hx⟩
        · intro x S9 hx
          exact hx.elim
      · intro x S9 hx
        exact ⟨by decide, hx⟩
    · intro hc
      rw [if_neg hc] at h
      refine zw_push hm_71 dX6_findRoom_28 (v := .inr (.inr (some 87))) rfl ?_
      refine zw_cv hm_71 dX6_findRoom_29 v_6_47_6 hm_68 [] [] rfl (zT_rt hS s_87 rfl) ⟨by omega, by omega⟩ rfl (zw_mono h (zv_go ?_ ?_))
      · intro S33 hv
        obtain ⟨hS33, h⟩ := hv
        refine zw_push hm_71 dX6_findRoom_32 (v := .inr (.inr (some 87))) rfl ?_
        refine zw_push hm_71 dX6_findRoom_33 (v := .inr (.inr (some 87))) rfl ?_
        refine zw_gf hm_71 dX6_findRoom_34 (v := .inl (mI S33 87 6)) (zT_is hS33 s_87) (zT_t hS33 s_87) rfl f_6_24_6 rfl ?_
        refine zw_cv hm_71 dX6_findRoom_37 v_6_51_6 hm_72 [.inl (mI S33 87 6)] [] rfl (zT_rt hS33 s_87 rfl) ⟨by omega, by omega⟩ rfl (zw_mono h (zi_go ?_ ?_))
        · intro v36 S35 hv
          obtain ⟨hS35, h⟩ := hv
          refine zw_stk hm_71 dX6_findRoom_40 (st₉ := []) rfl rfl ?_
          refine zw_push hm_71 dX6_findRoom_41 (v := .inr (.inr (some 87))) rfl ?_
          refine zw_push hm_71 dX6_findRoom_42 (v := .inl z) rfl ?_
          refine zw_cv hm_71 dX6_findRoom_43 v_6_55_6 hm_103 [.inl z] [] rfl (zT_rt hS35 s_87 rfl) ⟨by omega, by omega⟩ rfl (zw_mono h (zi_go ?_ ?_))
          · intro v38 S37 hv
            obtain ⟨hS37, h⟩ := hv
            refine zw_sto hm_71 dX6_findRoom_46 [(2, .inl v38), (0, .inr (.inr (some 87))), (1, .inl z)] rfl rfl rfl ?_
            refine zw_push hm_71 dX6_findRoom_47 (v := .inr (.inr (some 87))) rfl ?_
            refine zw_gf hm_71 dX6_findRoom_48 (v := .inl (mI S37 87 8)) (zT_is hS37 s_87) (zT_t hS37 s_87) rfl f_6_31_6 rfl ?_
            refine zw_sto hm_71 dX6_findRoom_51 [(3, .inl (mI S37 87 8)), (2, .inl v38), (0, .inr (.inr (some 87))), (1, .inl z)] rfl rfl rfl ?_
            refine zw_push hm_71 dX6_findRoom_52 (v := .inl v38) rfl ?_
            refine zw_push hm_71 dX6_findRoom_53 (v := .inl (-1 : Int32)) rfl ?_
            refine zw_if2 hm_71 dX6_findRoom_54 (t := 68) rfl zc2_ne ?_ ?_
            · intro hc
              rw [if_neg hc] at h
              refine zw_push hm_71 dX6_findRoom_68 (v := .inl v38) rfl ?_
              refine zw_push hm_71 dX6_findRoom_69 (v := .inl (-1 : Int32)) rfl ?_
              refine zw_if2 hm_71 dX6_findRoom_70 (t := 88) rfl zc2_ne ?_ ?_
              · intro hc
                rw [if_neg hc] at h
                refine zw_push hm_71 dX6_findRoom_88 (v := .inl v38) rfl ?_
                exact zw_iret hm_71 dX6_findRoom_89 h
              · intro hc
                rw [if_pos (Classical.not_not.mp hc)] at h
                refine zw_push hm_71 dX6_findRoom_73 (v := .inl (mI S37 87 8)) rfl ?_
                refine zw_if0 hm_71 dX6_findRoom_74 (t := 88) rfl zc0_eq ?_ ?_
                · intro hc
                  rw [if_pos hc] at h
                  refine zw_push hm_71 dX6_findRoom_88 (v := .inl v38) rfl ?_
                  exact zw_iret hm_71 dX6_findRoom_89 h
                · intro hc
                  rw [if_neg hc] at h
                  refine zw_push hm_71 dX6_findRoom_77 (v := .inr (.inr (some 87))) rfl ?_
                  refine zw_cv hm_71 dX6_findRoom_78 v_6_58_6 hm_67 [] [] rfl (zT_rt hS37 s_87 rfl) ⟨by omega, by omega⟩ rfl (zw_mono h (zi_go ?_ ?_))
                  · intro v40 S39 hv
                    obtain ⟨hS39, h⟩ := hv
                    refine zw_stk hm_71 dX6_findRoom_81 (st₉ := []) rfl rfl ?_
                    refine zw_push hm_71 dX6_findRoom_82 (v := .inr (.inr (some 87))) rfl ?_
                    refine zw_push hm_71 dX6_findRoom_83 (v := .inl z) rfl ?_
                    refine zw_cv hm_71 dX6_findRoom_84 v_6_55_6 hm_103 [.inl z] [] rfl (zT_rt hS39 s_87 rfl) ⟨by omega, by omega⟩ rfl (zw_mono h (zi_go ?_ ?_))
                    · intro v42 S41 hv
                      obtain ⟨hS41, h⟩ := hv
                      refine zw_sto hm_71 dX6_findRoom_87 [(2, .inl v42), (3, .inl (mI S37 87 8)), (0, .inr (.inr (some 87))), (1, .inl z)] rfl rfl rfl ?_
                      refine zw_push hm_71 dX6_findRoom_88 (v := .inl v42) rfl ?_
                      exact zw_iret hm_71 dX6_findRoom_89 h
                    · intro x S9 hx
                      exact hx.elim
                  · intro x S9 hx
                    exact ⟨by decide, hx⟩
            · intro hc
              rw [if_pos (Classical.not_not.mp hc)] at h
              refine zw_push hm_71 dX6_findRoom_57 (v := .inr (.inr (some 87))) rfl ?_
              refine zw_cv hm_71 dX6_findRoom_58 v_6_58_6 hm_67 [] [] rfl (zT_rt hS37 s_87 rfl) ⟨by omega, by omega⟩ rfl (zw_mono h (zi_go ?_ ?_))
              · intro v44 S43 hv
                obtain ⟨hS43, h⟩ := hv
                refine zw_stk hm_71 dX6_findRoom_61 (st₉ := []) rfl rfl ?_
                refine zw_push hm_71 dX6_findRoom_62 (v := .inr (.inr (some 87))) rfl ?_
                refine zw_push hm_71 dX6_findRoom_63 (v := .inl z) rfl ?_
                refine zw_cv hm_71 dX6_findRoom_64 v_6_55_6 hm_103 [.inl z] [] rfl (zT_rt hS43 s_87 rfl) ⟨by omega, by omega⟩ rfl (zw_mono h (zi_go ?_ ?_))
                · intro v46 S45 hv
                  obtain ⟨hS45, h⟩ := hv
                  refine zw_sto hm_71 dX6_findRoom_67 [(2, .inl v46), (3, .inl (mI S37 87 8)), (0, .inr (.inr (some 87))), (1, .inl z)] rfl rfl rfl ?_
                  refine zw_push hm_71 dX6_findRoom_68 (v := .inl v46) rfl ?_
                  refine zw_push hm_71 dX6_findRoom_69 (v := .inl (-1 : Int32)) rfl ?_
                  refine zw_if2 hm_71 dX6_findRoom_70 (t := 88) rfl zc2_ne ?_ ?_
                  · intro hc
                    rw [if_neg hc] at h
                    refine zw_push hm_71 dX6_findRoom_88 (v := .inl v46) rfl ?_
                    exact zw_iret hm_71 dX6_findRoom_89 h
                  · intro hc
                    rw [if_pos (Classical.not_not.mp hc)] at h
                    refine zw_push hm_71 dX6_findRoom_73 (v := .inl (mI S37 87 8)) rfl ?_
                    refine zw_if0 hm_71 dX6_findRoom_74 (t := 88) rfl zc0_eq ?_ ?_
                    · intro hc
                      rw [if_pos hc] at h
                      refine zw_push hm_71 dX6_findRoom_88 (v := .inl v46) rfl ?_
                      exact zw_iret hm_71 dX6_findRoom_89 h
                    · intro hc
                      rw [if_neg hc] at h
                      refine zw_push hm_71 dX6_findRoom_77 (v := .inr (.inr (some 87))) rfl ?_
                      refine zw_cv hm_71 dX6_findRoom_78 v_6_58_6 hm_67 [] [] rfl (zT_rt hS45 s_87 rfl) ⟨by omega, by omega⟩ rfl (zw_mono h (zi_go ?_ ?_))
                      · intro v48 S47 hv
                        obtain ⟨hS47, h⟩ := hv
                        refine zw_stk hm_71 dX6_findRoom_81 (st₉ := []) rfl rfl ?_
                        refine zw_push hm_71 dX6_findRoom_82 (v := .inr (.inr (some 87))) rfl ?_
                        refine zw_push hm_71 dX6_findRoom_83 (v := .inl z) rfl ?_
                        refine zw_cv hm_71 dX6_findRoom_84 v_6_55_6 hm_103 [.inl z] [] rfl (zT_rt hS47 s_87 rfl) ⟨by omega, by omega⟩ rfl (zw_mono h (zi_go ?_ ?_))
                        · intro v50 S49 hv
                          obtain ⟨hS49, h⟩ := hv
                          refine zw_sto hm_71 dX6_findRoom_87 [(2, .inl v50), (3, .inl (mI S37 87 8)), (0, .inr (.inr (some 87))), (1, .inl z)] rfl rfl rfl ?_
                          refine zw_push hm_71 dX6_findRoom_88 (v := .inl v50) rfl ?_
                          exact zw_iret hm_71 dX6_findRoom_89 h
                        · intro x S9 hx
                          exact hx.elim
                      · intro x S9 hx
                        exact ⟨by decide, hx⟩
                · intro x S9 hx
                  exact hx.elim
              · intro x S9 hx
                exact ⟨by decide, hx⟩
          · intro x S9 hx
            exact hx.elim
        · intro x S9 hx
          exact ⟨by decide, hx⟩
      · intro x S9 hx
        exact ⟨by decide, hx⟩
theorem sp_71_87_s {X : Nat × (Nat → Int32)} {d w : Nat} {f : Nat → Nat → Int32} {r : Nat → Nat → Option Nat} {C Z N : Nat} {Q : Option ma_V ⊕ Nat → ma_S → Prop} {ab : Nat→Nat→Int32} {S : ma_S} (z : Int32) (hd : 5 ≤ d) (hw : 114 ≤ w) (hI : zJ87 f r C Z N S) (hpre0 : xB S (mR S 70)) (hpre1 : aS 88 S = ab) (hpre2 : 0 ≤ (ab 87 6).toInt) (K : ∀ v S₉, zJ87 f r C Z N S₉ → (-1 ≤ v.toInt ∧ v.toInt ≤ 1500) → (xB S₉ (mR S₉ 70)) → (aS 88 S₉ = aRs ab z.toInt ∧ v.toInt = aRp ab z.toInt) → Q (.inl (some (.inl v))) S₉) : ma_wp X d w 71 0 [(0, .inr (.inr (some 87))), (1, .inl z)] [] S Q := by
  refine g_71_87_s_0 z (by omega) (by omega) (zG_T hI) ?_
  have f1 := zG_s hI (0) (1) (c := 87) (k := 8) (by decide)
  have li2 : (0 : Int32).toInt = 0 := rfl
  refine zd (fun h3 => ?_) (fun h3 => ?_)
  · skip
    have g4 := i_eq h3
    have f5 := zG_s hI (0) (1500) (c := 87) (k := 0) (by decide)
    have li6 : (4 : Int32).toInt = 4 := rfl
    have b7 := i_bd (mI S 69 8)
    first | have e8 : ((mI S 87 0) - (mI S 69 8)).toInt = (mI S 87 0).toInt - (mI S 69 8).toInt := i_sub (by omega) (by omega) | have b9 := i_bd ((mI S 87 0) - (mI S 69 8))
    first | have f10 := i_muln (x := (4 : Int32)) (y := ((mI S 87 0) - (mI S 69 8))) (by omega) (by omega) (by omega) (by omega) | have b11 := i_bd ((4 : Int32) * ((mI S 87 0) - (mI S 69 8)))
    refine zd (fun h12 => ?_) (fun h12 => ?_)
    · skip
      have g13 := i_le h12
      have f14 := zG_s hI (-1) (1500) (c := 87) (k := 6) (by decide)
      refine sp_72_87_s (ab := (aS 88 S)) ((mI S 87 6)) (by omega) (by omega) hI (show xB S (mR S 70) from by first | (exact xB_x (xC_o (W := 75) hpre0).2)) (show aS 88 S = (aS 88 S) from by first | (exact rfl)) (show 0 ≤ (mI S 87 6).toInt from by first | (rw [show mI S 87 6 = ab 87 6 from (aS_I (W := 88) (S := S) (c := 87) (c₉ := 87) (k := 6) rfl rfl).symm.trans (congrFun (congrFun hpre1 87) 6)]; exact hpre2)) (fun v18 S17 hI_S17 hp_v18 rp0_S17 rp1_S17 => zi_n ⟨zG_T hI_S17, ?_⟩)
      have rp0_S17 : xB S17 (mR S17 70) := rp0_S17
      have rp1_S17 : aS 88 S17 = aGo (aS 88 S) (mI S 87 6).toInt.toNat ∧ v18.toInt = aGv (aS 88 S) (mI S 87 6).toInt.toNat := rp1_S17
      have b15 := i_bd z
      refine sp_103_87_s (ab := (aS 88 S17)) (z) (by omega) (by omega) hI_S17 (show xB S17 (mR S17 70) from by first | (exact xB_x (xC_o (W := 75) rp0_S17).2)) (show aS 88 S17 = (aS 88 S17) from by first | (exact rfl)) (fun v20 S19 hI_S19 hp_v20 rp0_S19 rp1_S19 rp2_S19 => zi_n ⟨zG_T hI_S19, ?_⟩)
      have rp0_S19 : xB S19 (mR S19 70) := rp0_S19
      have rp1_S19 : aS 88 S19 = (aS 88 S17) := rp1_S19
      have rp2_S19 : v20.toInt = aFt (aS 88 S17) z.toInt := rp2_S19
      have b16 := i_bd v20
      have li17 : (-1 : Int32).toInt = -1 := rfl
      refine zd (fun h18 => ?_) (fun h18 => ?_)
      · skip
        have g19 := i_eq h18
        refine sp_67_87_s (ab := (aS 88 S19)) (by omega) (by omega) hI_S19 (show xB S19 (mR S19 70) from by first | (exact xB_x (xC_o (W := 75) rp0_S19).2)) (show aS 88 S19 = (aS 88 S19) from by first | (exact rfl)) (fun v26 S25 hI_S25 hp_v26 rp0_S25 rp1_S25 => zi_n ⟨zG_T hI_S25, ?_⟩)
        have rp0_S25 : xB S25 (mR S25 70) := rp0_S25
        have rp1_S25 : aS 88 S25 = aCl (aS 88 S19) ∧ v26 = aFv (aC1 (aS 88 S19)) := rp1_S25
        refine sp_103_87_s (ab := (aS 88 S25)) (z) (by omega) (by omega) hI_S25 (show xB S25 (mR S25 70) from by first | (exact xB_x (xC_o (W := 75) rp0_S25).2)) (show aS 88 S25 = (aS 88 S25) from by first | (exact rfl)) (fun v28 S27 hI_S27 hp_v28 rp0_S27 rp1_S27 rp2_S27 => zi_n ⟨zG_T hI_S27, ?_⟩)
        have rp0_S27 : xB S27 (mR S27 70) := rp0_S27
        have rp1_S27 : aS 88 S27 = (aS 88 S25) := rp1_S27
        have rp2_S27 : v28.toInt = aFt (aS 88 S25) z.toInt := rp2_S27
        have b20 := i_bd v28
        refine zd (fun h21 => ?_) (fun h21 => ?_)
        · skip
          have g22 := i_eq h21
          have f23 := zG_s hI_S19 (0) (1) (c := 87) (k := 8) (by decide)
          refine zd (fun h24 => ?_) (fun h24 => ?_)
          · skip
            have g25 := i_eq h24
            exact K (v28) _ hI_S27 (by omega) (show xB S27 (mR S27 70) from by first | (exact xB_x (xC_o (W := 75) rp0_S27).2)) (show aS 88 S27 = aRs ab z.toInt ∧ v28.toInt = aRp ab z.toInt from by first | (have k0 : aS 88 S = aF0 ab := hpre1.trans (aF0_n (fun w => by rw [← hpre1, (aS_I (W := 88) (S := S) (c := 87) (c₉ := 87) (k := 8) rfl rfl), (aS_I (W := 88) (S := S) (c := 87) (c₉ := 87) (k := 0) rfl rfl), (aS_I (W := 88) (S := S) (c := 69) (c₉ := 69) (k := 8) rfl rfl)] at w; first | exact absurd w.1 (by assumption) | (have w2 := i_lt w.2; omega))).symm; have k6 : mI S 87 6 = ab 87 6 := (aS_I (W := 88) (S := S) (c := 87) (c₉ := 87) (k := 6) rfl rfl).symm.trans (congrFun (congrFun hpre1 87) 6); have k1 : aS 88 S17 = aF1 ab := (by have q := rp1_S17.1; rw [k0, k6] at q; exact q); have k2 : aS 88 S19 = aF1 ab := rp1_S19.trans k1; have v2 := rp2_S19; rw [← rp1_S19] at v2; have k3 : aS 88 S27 = aCl (aS 88 S19) := rp1_S27.trans rp1_S25.1; have v4 := rp2_S27; rw [← rp1_S27] at v4; have E := aRs_2 (z := z.toInt) k2 (by omega) k3 (by first | exact Or.inl (by omega) | exact Or.inr ((aS_I (W := 88) (S := S19) (c := 87) (c₉ := 87) (k := 8) rfl rfl).trans (by assumption))); refine ⟨E.symm, ?_⟩; unfold aRp; rw [E]; assumption))
          · skip
            have g26 := i_ne h24
            refine sp_67_87_s (ab := (aS 88 S27)) (by omega) (by omega) hI_S27 (show xB S27 (mR S27 70) from by first | (exact xB_x (xC_o (W := 75) rp0_S27).2)) (show aS 88 S27 = (aS 88 S27) from by first | (exact rfl)) (fun v30 S29 hI_S29 hp_v30 rp0_S29 rp1_S29 => zi_n ⟨zG_T hI_S29, ?_⟩)
            have rp0_S29 : xB S29 (mR S29 70) := rp0_S29
            have rp1_S29 : aS 88 S29 = aCl (aS 88 S27) ∧ v30 = aFv (aC1 (aS 88 S27)) := rp1_S29
            refine sp_103_87_s (ab := (aS 88 S29)) (z) (by omega) (by omega) hI_S29 (show xB S29 (mR S29 70) from by first | (exact xB_x (xC_o (W := 75) rp0_S29).2)) (show aS 88 S29 = (aS 88 S29) from by first | (exact rfl)) (fun v32 S31 hI_S31 hp_v32 rp0_S31 rp1_S31 rp2_S31 => zi_n ⟨zG_T hI_S31, ?_⟩)
            have rp0_S31 : xB S31 (mR S31 70) := rp0_S31
            have rp1_S31 : aS 88 S31 = (aS 88 S29) := rp1_S31
            have rp2_S31 : v32.toInt = aFt (aS 88 S29) z.toInt := rp2_S31
            have b27 := i_bd v32
            exact K (v32) _ hI_S31 (by omega) (show xB S31 (mR S31 70) from by first | (exact xB_x (xC_o (W := 75) rp0_S31).2)) (show aS 88 S31 = aRs ab z.toInt ∧ v32.toInt = aRp ab z.toInt from by first | (have k0 : aS 88 S = aF0 ab := hpre1.trans (aF0_n (fun w => by rw [← hpre1, (aS_I (W := 88) (S := S) (c := 87) (c₉ := 87) (k := 8) rfl rfl), (aS_I (W := 88) (S := S) (c := 87) (c₉ := 87) (k := 0) rfl rfl), (aS_I (W := 88) (S := S) (c := 69) (c₉ := 69) (k := 8) rfl rfl)] at w; first | exact absurd w.1 (by assumption) | (have w2 := i_lt w.2; omega))).symm; have k6 : mI S 87 6 = ab 87 6 := (aS_I (W := 88) (S := S) (c := 87) (c₉ := 87) (k := 6) rfl rfl).symm.trans (congrFun (congrFun hpre1 87) 6); have k1 : aS 88 S17 = aF1 ab := (by have q := rp1_S17.1; rw [k0, k6] at q; exact q); have k2 : aS 88 S19 = aF1 ab := rp1_S19.trans k1; have v2 := rp2_S19; rw [← rp1_S19] at v2; have k3 : aS 88 S27 = aCl (aS 88 S19) := rp1_S27.trans rp1_S25.1; have v4 := rp2_S27; rw [← rp1_S27] at v4; have k5 : aS 88 S31 = aCl (aS 88 S27) := rp1_S31.trans rp1_S29.1; have v6 := rp2_S31; rw [← rp1_S31] at v6; have E := aRs_3 (z := z.toInt) k2 (by omega) k3 (by omega) (fun w => by rw [(aS_I (W := 88) (S := S19) (c := 87) (c₉ := 87) (k := 8) rfl rfl)] at w; exact absurd w (by assumption)) k5; refine ⟨E.symm, ?_⟩; unfold aRp; rw [E]; assumption))
        · skip
          have g28 := i_ne h21
          exact K (v28) _ hI_S27 (by omega) (show xB S27 (mR S27 70) from by first | (exact xB_x (xC_o (W := 75) rp0_S27).2)) (show aS 88 S27 = aRs ab z.toInt ∧ v28.toInt = aRp ab z.toInt from by first | (have k0 : aS 88 S = aF0 ab := hpre1.trans (aF0_n (fun w => by rw [← hpre1, (aS_I (W := 88) (S := S) (c := 87) (c₉ := 87) (k := 8) rfl rfl), (aS_I (W := 88) (S := S) (c := 87) (c₉ := 87) (k := 0) rfl rfl), (aS_I (W := 88) (S := S) (c := 69) (c₉ := 69) (k := 8) rfl rfl)] at w; first | exact absurd w.1 (by assumption) | (have w2 := i_lt w.2; omega))).symm; have k6 : mI S 87 6 = ab 87 6 := (aS_I (W := 88) (S := S) (c := 87) (c₉ := 87) (k := 6) rfl rfl).symm.trans (congrFun (congrFun hpre1 87) 6); have k1 : aS 88 S17 = aF1 ab := (by have q := rp1_S17.1; rw [k0, k6] at q; exact q); have k2 : aS 88 S19 = aF1 ab := rp1_S19.trans k1; have v2 := rp2_S19; rw [← rp1_S19] at v2; have k3 : aS 88 S27 = aCl (aS 88 S19) := rp1_S27.trans rp1_S25.1; have v4 := rp2_S27; rw [← rp1_S27] at v4; have E := aRs_2 (z := z.toInt) k2 (by omega) k3 (by first | exact Or.inl (by omega) | exact Or.inr ((aS_I (W := 88) (S := S19) (c := 87) (c₉ := 87) (k := 8) rfl rfl).trans (by assumption))); refine ⟨E.symm, ?_⟩; unfold aRp; rw [E]; assumption))
      · skip
        have g29 := i_ne h18
        refine zd (fun h30 => ?_) (fun h30 => ?_)
        · skip
          have g31 := i_eq h30
          have f32 := zG_s hI_S19 (0) (1) (c := 87) (k := 8) (by decide)
          refine zd (fun h33 => ?_) (fun h33 => ?_)
          · skip
            have g34 := i_eq h33
            exact K (v20) _ hI_S19 (by omega) (show xB S19 (mR S19 70) from by first | (exact xB_x (xC_o (W := 75) rp0_S19).2)) (show aS 88 S19 = aRs ab z.toInt ∧ v20.toInt = aRp ab z.toInt from by first | (have k0 : aS 88 S = aF0 ab := hpre1.trans (aF0_n (fun w => by rw [← hpre1, (aS_I (W := 88) (S := S) (c := 87) (c₉ := 87) (k := 8) rfl rfl), (aS_I (W := 88) (S := S) (c := 87) (c₉ := 87) (k := 0) rfl rfl), (aS_I (W := 88) (S := S) (c := 69) (c₉ := 69) (k := 8) rfl rfl)] at w; first | exact absurd w.1 (by assumption) | (have w2 := i_lt w.2; omega))).symm; have k6 : mI S 87 6 = ab 87 6 := (aS_I (W := 88) (S := S) (c := 87) (c₉ := 87) (k := 6) rfl rfl).symm.trans (congrFun (congrFun hpre1 87) 6); have k1 : aS 88 S17 = aF1 ab := (by have q := rp1_S17.1; rw [k0, k6] at q; exact q); have k2 : aS 88 S19 = aF1 ab := rp1_S19.trans k1; have v2 := rp2_S19; rw [← rp1_S19] at v2; have E := aRs_1 (z := z.toInt) k2 (by omega); refine ⟨E.symm, ?_⟩; unfold aRp; rw [E]; assumption))
          · skip
            have g35 := i_ne h33
            refine sp_67_87_s (ab := (aS 88 S19)) (by omega) (by omega) hI_S19 (show xB S19 (mR S19 70) from by first | (exact xB_x (xC_o (W := 75) rp0_S19).2)) (show aS 88 S19 = (aS 88 S19) from by first | (exact rfl)) (fun v22 S21 hI_S21 hp_v22 rp0_S21 rp1_S21 => zi_n ⟨zG_T hI_S21, ?_⟩)
            have rp0_S21 : xB S21 (mR S21 70) := rp0_S21
            have rp1_S21 : aS 88 S21 = aCl (aS 88 S19) ∧ v22 = aFv (aC1 (aS 88 S19)) := rp1_S21
            refine sp_103_87_s (ab := (aS 88 S21)) (z) (by omega) (by omega) hI_S21 (show xB S21 (mR S21 70) from by first | (exact xB_x (xC_o (W := 75) rp0_S21).2)) (show aS 88 S21 = (aS 88 S21) from by first | (exact rfl)) (fun v24 S23 hI_S23 hp_v24 rp0_S23 rp1_S23 rp2_S23 => zi_n ⟨zG_T hI_S23, ?_⟩)
            have rp0_S23 : xB S23 (mR S23 70) := rp0_S23
            have rp1_S23 : aS 88 S23 = (aS 88 S21) := rp1_S23
            have rp2_S23 : v24.toInt = aFt (aS 88 S21) z.toInt := rp2_S23
            have b36 := i_bd v24
            exact K (v24) _ hI_S23 (by omega) (show xB S23 (mR S23 70) from by first | (exact xB_x (xC_o (W := 75) rp0_S23).2)) (show aS 88 S23 = aRs ab z.toInt ∧ v24.toInt = aRp ab z.toInt from by first | (have k0 : aS 88 S = aF0 ab := hpre1.trans (aF0_n (fun w => by rw [← hpre1, (aS_I (W := 88) (S := S) (c := 87) (c₉ := 87) (k := 8) rfl rfl), (aS_I (W := 88) (S := S) (c := 87) (c₉ := 87) (k := 0) rfl rfl), (aS_I (W := 88) (S := S) (c := 69) (c₉ := 69) (k := 8) rfl rfl)] at w; first | exact absurd w.1 (by assumption) | (have w2 := i_lt w.2; omega))).symm; have k6 : mI S 87 6 = ab 87 6 := (aS_I (W := 88) (S := S) (c := 87) (c₉ := 87) (k := 6) rfl rfl).symm.trans (congrFun (congrFun hpre1 87) 6); have k1 : aS 88 S17 = aF1 ab := (by have q := rp1_S17.1; rw [k0, k6] at q; exact q); have k2 : aS 88 S19 = aF1 ab := rp1_S19.trans k1; have v2 := rp2_S19; rw [← rp1_S19] at v2; have k3 : aS 88 S23 = aCl (aS 88 S19) := rp1_S23.trans rp1_S21.1; have v4 := rp2_S23; rw [← rp1_S23] at v4; have E := aRs_2 (z := z.toInt) k2 (by omega) k3 (by first | exact Or.inl (by omega) | exact Or.inr ((aS_I (W := 88) (S := S19) (c := 87) (c₉ := 87) (k := 8) rfl rfl).trans (by assumption))); refine ⟨E.symm, ?_⟩; unfold aRp; rw [E]; assumption))
        · skip
          have g37 := i_ne h30
          exact K (v20) _ hI_S19 (by omega) (show xB S19 (mR S19 70) from by first | (exact xB_x (xC_o (W := 75) rp0_S19).2)) (show aS 88 S19 = aRs ab z.toInt ∧ v20.toInt = aRp ab z.toInt from by first | (have k0 : aS 88 S = aF0 ab := hpre1.trans (aF0_n (fun w => by rw [← hpre1, (aS_I (W := 88) (S := S) (c := 87) (c₉ := 87) (k := 8) rfl rfl), (aS_I (W := 88) (S := S) (c := 87) (c₉ := 87) (k := 0) rfl rfl), (aS_I (W := 88) (S := S) (c := 69) (c₉ := 69) (k := 8) rfl rfl)] at w; first | exact absurd w.1 (by assumption) | (have w2 := i_lt w.2; omega))).symm; have k6 : mI S 87 6 = ab 87 6 := (aS_I (W := 88) (S := S) (c := 87) (c₉ := 87) (k := 6) rfl rfl).symm.trans (congrFun (congrFun hpre1 87) 6); have k1 : aS 88 S17 = aF1 ab := (by have q := rp1_S17.1; rw [k0, k6] at q; exact q); have k2 : aS 88 S19 = aF1 ab := rp1_S19.trans k1; have v2 := rp2_S19; rw [← rp1_S19] at v2; have E := aRs_1 (z := z.toInt) k2 (by omega); refine ⟨E.symm, ?_⟩; unfold aRp; rw [E]; assumption))
    · skip
      have g38 := i_nle h12
      refine sp_68_87_s (ab := (aS 88 S)) (by omega) (by omega) hI (show xB S (mR S 70) from by first | (exact xB_x (xC_o (W := 75) hpre0).2)) (show aS 88 S = (aS 88 S) from by first | (exact rfl)) (fun S33 hI_S33 rp0_S33 rp1_S33 => zv_n ⟨zG_T hI_S33, ?_⟩)
      have rp0_S33 : xB S33 (mR S33 70) := rp0_S33
      have rp1_S33 : aS 88 S33 = aB0 (aS 88 S) := rp1_S33
      have f39 := zG_s hI_S33 (-1) (1500) (c := 87) (k := 6) (by decide)
      refine sp_72_87_s (ab := (aS 88 S33)) ((mI S33 87 6)) (by omega) (by omega) hI_S33 (show xB S33 (mR S33 70) from by first | (exact xB_x (xC_o (W := 75) rp0_S33).2)) (show aS 88 S33 = (aS 88 S33) from by first | (exact rfl)) (show 0 ≤ (mI S33 87 6).toInt from by first | (rw [show mI S33 87 6 = ab 87 6 from (aS_I (W := 88) (S := S33) (c := 87) (c₉ := 87) (k := 6) rfl rfl).symm.trans ((congrFun (congrFun rp1_S33 87) 6).trans ((aB0_o ⟨by decide, by decide, by decide⟩ (by decide)).trans (congrFun (congrFun hpre1 87) 6)))]; exact hpre2)) (fun v36 S35 hI_S35 hp_v36 rp0_S35 rp1_S35 => zi_n ⟨zG_T hI_S35, ?_⟩)
      have rp0_S35 : xB S35 (mR S35 70) := rp0_S35
      have rp1_S35 : aS 88 S35 = aGo (aS 88 S33) (mI S33 87 6).toInt.toNat ∧ v36.toInt = aGv (aS 88 S33) (mI S33 87 6).toInt.toNat := rp1_S35
      have b40 := i_bd z
      refine sp_103_87_s (ab := (aS 88 S35)) (z) (by omega) (by omega) hI_S35 (show xB S35 (mR S35 70) from by first | (exact xB_x (xC_o (W := 75) rp0_S35).2)) (show aS 88 S35 = (aS 88 S35) from by first | (exact rfl)) (fun v38 S37 hI_S37 hp_v38 rp0_S37 rp1_S37 rp2_S37 => zi_n ⟨zG_T hI_S37, ?_⟩)
      have rp0_S37 : xB S37 (mR S37 70) := rp0_S37
      have rp1_S37 : aS 88 S37 = (aS 88 S35) := rp1_S37
      have rp2_S37 : v38.toInt = aFt (aS 88 S35) z.toInt := rp2_S37
      have b41 := i_bd v38
      have li42 : (-1 : Int32).toInt = -1 := rfl
      refine zd (fun h43 => ?_) (fun h43 => ?_)
      · skip
        have g44 := i_eq h43
        refine sp_67_87_s (ab := (aS 88 S37)) (by omega) (by omega) hI_S37 (show xB S37 (mR S37 70) from by first | (exact xB_x (xC_o (W := 75) rp0_S37).2)) (show aS 88 S37 = (aS 88 S37) from by first | (exact rfl)) (fun v44 S43 hI_S43 hp_v44 rp0_S43 rp1_S43 => zi_n ⟨zG_T hI_S43, ?_⟩)
        have rp0_S43 : xB S43 (mR S43 70) := rp0_S43
        have rp1_S43 : aS 88 S43 = aCl (aS 88 S37) ∧ v44 = aFv (aC1 (aS 88 S37)) := rp1_S43
        refine sp_103_87_s (ab := (aS 88 S43)) (z) (by omega) (by omega) hI_S43 (show xB S43 (mR S43 70) from by first | (exact xB_x (xC_o (W := 75) rp0_S43).2)) (show aS 88 S43 = (aS 88 S43) from by first | (exact rfl)) (fun v46 S45 hI_S45 hp_v46 rp0_S45 rp1_S45 rp2_S45 => zi_n ⟨zG_T hI_S45, ?_⟩)
        have rp0_S45 : xB S45 (mR S45 70) := rp0_S45
        have rp1_S45 : aS 88 S45 = (aS 88 S43) := rp1_S45
        have rp2_S45 : v46.toInt = aFt (aS 88 S43) z.toInt := rp2_S45
        have b45 := i_bd v46
        refine zd (fun h46 => ?_) (fun h46 => ?_)
        · skip
          have g47 := i_eq h46
          have f48 := zG_s hI_S37 (0) (1) (c := 87) (k := 8) (by decide)
          refine zd (fun h49 => ?_) (fun h49 => ?_)
          · skip
            have g50 := i_eq h49
            exact K (v46) _ hI_S45 (by omega) (show xB S45 (mR S45 70) from by first | (exact xB_x (xC_o (W := 75) rp0_S45).2)) (show aS 88 S45 = aRs ab z.toInt ∧ v46.toInt = aRp ab z.toInt from by first | (have k0 : aS 88 S33 = aF0 ab := (rp1_S33.trans (congrArg aB0 hpre1)).trans (aF0_y (by rw [← hpre1, (aS_I (W := 88) (S := S) (c := 87) (c₉ := 87) (k := 8) rfl rfl)]; assumption) (by rw [← hpre1, (aS_I (W := 88) (S := S) (c := 87) (c₉ := 87) (k := 0) rfl rfl), (aS_I (W := 88) (S := S) (c := 69) (c₉ := 69) (k := 8) rfl rfl)]; first | assumption | exact Int32.lt_iff_toInt_lt.mpr (by omega))).symm; have k6 : mI S33 87 6 = ab 87 6 := (aS_I (W := 88) (S := S33) (c := 87) (c₉ := 87) (k := 6) rfl rfl).symm.trans ((congrFun (congrFun rp1_S33 87) 6).trans ((aB0_o ⟨by decide, by decide, by decide⟩ (by decide)).trans (congrFun (congrFun hpre1 87) 6))); have k1 : aS 88 S35 = aF1 ab := (by have q := rp1_S35.1; rw [k0, k6] at q; exact q); have k2 : aS 88 S37 = aF1 ab := rp1_S37.trans k1; have v2 := rp2_S37; rw [← rp1_S37] at v2; have k3 : aS 88 S45 = aCl (aS 88 S37) := rp1_S45.trans rp1_S43.1; have v4 := rp2_S45; rw [← rp1_S45] at v4; have E := aRs_2 (z := z.toInt) k2 (by omega) k3 (by first | exact Or.inl (by omega) | exact Or.inr ((aS_I (W := 88) (S := S37) (c := 87) (c₉ := 87) (k := 8) rfl rfl).trans (by assumption))); refine ⟨E.symm, ?_⟩; unfold aRp; rw [E]; assumption))
          · skip
            have g51 := i_ne h49
            refine sp_67_87_s (ab := (aS 88 S45)) (by omega) (by omega) hI_S45 (show xB S45 (mR S45 70) from by first | (exact xB_x (xC_o (W := 75) rp0_S45).2)) (show aS 88 S45 = (aS 88 S45) from by first | (exact rfl)) (fun v48 S47 hI_S47 hp_v48 rp0_S47 rp1_S47 => zi_n ⟨zG_T hI_S47, ?_⟩)
            have rp0_S47 : xB S47 (mR S47 70) := rp0_S47
            have rp1_S47 : aS 88 S47 = aCl (aS 88 S45) ∧ v48 = aFv (aC1 (aS 88 S45)) := rp1_S47
            refine sp_103_87_s (ab := (aS 88 S47)) (z) (by omega) (by omega) hI_S47 (show xB S47 (mR S47 70) from by first | (exact xB_x (xC_o (W := 75) rp0_S47).2)) (show aS 88 S47 = (aS 88 S47) from by first | (exact rfl)) (fun v50 S49 hI_S49 hp_v50 rp0_S49 rp1_S49 rp2_S49 => zi_n ⟨zG_T hI_S49, ?_⟩)
            have rp0_S49 : xB S49 (mR S49 70) := rp0_S49
            have rp1_S49 : aS 88 S49 = (aS 88 S47) := rp1_S49
            have rp2_S49 : v50.toInt = aFt (aS 88 S47) z.toInt := rp2_S49
            have b52 := i_bd v50
            exact K (v50) _ hI_S49 (by omega) (show xB S49 (mR S49 70) from by first | (exact xB_x (xC_o (W := 75) rp0_S49).2)) (show aS 88 S49 = aRs ab z.toInt ∧ v50.toInt = aRp ab z.toInt from by first | (have k0 : aS 88 S33 = aF0 ab := (rp1_S33.trans (congrArg aB0 hpre1)).trans (aF0_y (by rw [← hpre1, (aS_I (W := 88) (S := S) (c := 87) (c₉ := 87) (k := 8) rfl rfl)]; assumption) (by rw [← hpre1, (aS_I (W := 88) (S := S) (c := 87) (c₉ := 87) (k := 0) rfl rfl), (aS_I (W := 88) (S := S) (c := 69) (c₉ := 69) (k := 8) rfl rfl)]; first | assumption | exact Int32.lt_iff_toInt_lt.mpr (by omega))).symm; have k6 : mI S33 87 6 = ab 87 6 := (aS_I (W := 88) (S := S33) (c := 87) (c₉ := 87) (k := 6) rfl rfl).symm.trans ((congrFun (congrFun rp1_S33 87) 6).trans ((aB0_o ⟨by decide, by decide, by decide⟩ (by decide)).trans (congrFun (congrFun hpre1 87) 6))); have k1 : aS 88 S35 = aF1 ab := (by have q := rp1_S35.1; rw [k0, k6] at q; exact q); have k2 : aS 88 S37 = aF1 ab := rp1_S37.trans k1; have v2 := rp2_S37; rw [← rp1_S37] at v2; have k3 : aS 88 S45 = aCl (aS 88 S37) := rp1_S45.trans rp1_S43.1; have v4 := rp2_S45; rw [← rp1_S45] at v4; have k5 : aS 88 S49 = aCl (aS 88 S45) := rp1_S49.trans rp1_S47.1; have v6 := rp2_S49; rw [← rp1_S49] at v6; have E := aRs_3 (z := z.toInt) k2 (by omega) k3 (by omega) (fun w => by rw [(aS_I (W := 88) (S := S37) (c := 87) (c₉ := 87) (k := 8) rfl rfl)] at w; exact absurd w (by assumption)) k5; refine ⟨E.symm, ?_⟩; unfold aRp; rw [E]; assumption))
        · skip
          have g53 := i_ne h46
          exact K (v46) _ hI_S45 (by omega) (show xB S45 (mR S45 70) from by first | (exact xB_x (xC_o (W := 75) rp0_S45).2)) (show aS 88 S45 = aRs ab z.toInt ∧ v46.toInt = aRp ab z.toInt from by first | (have k0 : aS 88 S33 = aF0 ab := (rp1_S33.trans (congrArg aB0 hpre1)).trans (aF0_y (by rw [← hpre1, (aS_I (W := 88) (S := S) (c := 87) (c₉ := 87) (k := 8) rfl rfl)]; assumption) (by rw [← hpre1, (aS_I (W := 88) (S := S) (c := 87) (c₉ := 87) (k := 0) rfl rfl), (aS_I (W := 88) (S := S) (c := 69) (c₉ := 69) (k := 8) rfl rfl)]; first | assumption | exact Int32.lt_iff_toInt_lt.mpr (by omega))).symm; have k6 : mI S33 87 6 = ab 87 6 := (aS_I (W := 88) (S := S33) (c := 87) (c₉ := 87) (k := 6) rfl rfl).symm.trans ((congrFun (congrFun rp1_S33 87) 6).trans ((aB0_o ⟨by decide, by decide, by decide⟩ (by decide)).trans (congrFun (congrFun hpre1 87) 6))); have k1 : aS 88 S35 = aF1 ab := (by have q := rp1_S35.1; rw [k0, k6] at q; exact q); have k2 : aS 88 S37 = aF1 ab := rp1_S37.trans k1; have v2 := rp2_S37; rw [← rp1_S37] at v2; have k3 : aS 88 S45 = aCl (aS 88 S37) := rp1_S45.trans rp1_S43.1; have v4 := rp2_S45; rw [← rp1_S45] at v4; have E := aRs_2 (z := z.toInt) k2 (by omega) k3 (by first | exact Or.inl (by omega) | exact Or.inr ((aS_I (W := 88) (S := S37) (c := 87) (c₉ := 87) (k := 8) rfl rfl).trans (by assumption))); refine ⟨E.symm, ?_⟩; unfold aRp; rw [E]; assumption))
      · skip
        have g54 := i_ne h43
        refine zd (fun h55 => ?_) (fun h55 => ?_)
        · skip
          have g56 := i_eq h55
          have f57 := zG_s hI_S37 (0) (1) (c := 87) (k := 8) (by decide)
          refine zd (fun h58 => ?_) (fun h58 => ?_)
          · skip
            have g59 := i_eq h58
            exact K (v38) _ hI_S37 (by omega) (show xB S37 (mR S37 70) from by first | (exact xB_x (xC_o (W := 75) rp0_S37).2)) (show aS 88 S37 = aRs ab z.toInt ∧ v38.toInt = aRp ab z.toInt from by first | (have k0 : aS 88 S33 = aF0 ab := (rp1_S33.trans (congrArg aB0 hpre1)).trans (aF0_y (by rw [← hpre1, (aS_I (W := 88) (S := S) (c := 87) (c₉ := 87) (k := 8) rfl rfl)]; assumption) (by rw [← hpre1, (aS_I (W := 88) (S := S) (c := 87) (c₉ := 87) (k := 0) rfl rfl), (aS_I (W := 88) (S := S) (c := 69) (c₉ := 69) (k := 8) rfl rfl)]; first | assumption | exact Int32.lt_iff_toInt_lt.mpr (by omega))).symm; have k6 : mI S33 87 6 = ab 87 6 := (aS_I (W := 88) (S := S33) (c := 87) (c₉ := 87) (k := 6) rfl rfl).symm.trans ((congrFun (congrFun rp1_S33 87) 6).trans ((aB0_o ⟨by decide, by decide, by decide⟩ (by decide)).trans (congrFun (congrFun hpre1 87) 6))); have k1 : aS 88 S35 = aF1 ab := (by have q := rp1_S35.1; rw [k0, k6] at q; exact q); have k2 : aS 88 S37 = aF1 ab := rp1_S37.trans k1; have v2 := rp2_S37; rw [← rp1_S37] at v2; have E := aRs_1 (z := z.toInt) k2 (by omega); refine ⟨E.symm, ?_⟩; unfold aRp; rw [E]; assumption))
          · skip
            have g60 := i_ne h58
            refine sp_67_87_s (ab := (aS 88 S37)) (by omega) (by omega) hI_S37 (show xB S37 (mR S37 70) from by first | (exact xB_x (xC_o (W := 75) rp0_S37).2)) (show aS 88 S37 = (aS 88 S37) from by first | (exact rfl)) (fun v40 S39 hI_S39 hp_v40 rp0_S39 rp1_S39 => zi_n ⟨zG_T hI_S39, ?_⟩)
            have rp0_S39 : xB S39 (mR S39 70) := rp0_S39
            have rp1_S39 : aS 88 S39 = aCl (aS 88 S37) ∧ v40 = aFv (aC1 (aS 88 S37)) := rp1_S39
            refine sp_103_87_s (ab := (aS 88 S39)) (z) (by omega) (by omega) hI_S39 (show xB S39 (mR S39 70) from by first | (exact xB_x (xC_o (W := 75) rp0_S39).2)) (show aS 88 S39 = (aS 88 S39) from by first | (exact rfl)) (fun v42 S41 hI_S41 hp_v42 rp0_S41 rp1_S41 rp2_S41 => zi_n ⟨zG_T hI_S41, ?_⟩)
            have rp0_S41 : xB S41 (mR S41 70) := rp0_S41
            have rp1_S41 : aS 88 S41 = (aS 88 S39) := rp1_S41
            have rp2_S41 : v42.toInt = aFt (aS 88 S39) z.toInt := rp2_S41
            have b61 := i_bd v42
            exact K (v42) _ hI_S41 (by omega) (show xB S41 (mR S41 70) from by first | (exact xB_x (xC_o (W := 75) rp0_S41).2)) (show aS 88 S41 = aRs ab z.toInt ∧ v42.toInt = aRp ab z.toInt from by first | (have k0 : aS 88 S33 = aF0 ab := (rp1_S33.trans (congrArg aB0 hpre1)).trans (aF0_y (by rw [← hpre1, (aS_I (W := 88) (S := S) (c := 87) (c₉ := 87) (k := 8) rfl rfl)]; assumption) (by rw [← hpre1, (aS_I (W := 88) (S := S) (c := 87) (c₉ := 87) (k := 0) rfl rfl), (aS_I (W := 88) (S := S) (c := 69) (c₉ := 69) (k := 8) rfl rfl)]; first | assumption | exact Int32.lt_iff_toInt_lt.mpr (by omega))).symm; have k6 : mI S33 87 6 = ab 87 6 := (aS_I (W := 88) (S := S33) (c := 87) (c₉ := 87) (k := 6) rfl rfl).symm.trans ((congrFun (congrFun rp1_S33 87) 6).trans ((aB0_o ⟨by decide, by decide, by decide⟩ (by decide)).trans (congrFun (congrFun hpre1 87) 6))); have k1 : aS 88 S35 = aF1 ab := (by have q := rp1_S35.1; rw [k0, k6] at q; exact q); have k2 : aS 88 S37 = aF1 ab := rp1_S37.trans k1; have v2 := rp2_S37; rw [← rp1_S37] at v2; have k3 : aS 88 S41 = aCl (aS 88 S37) := rp1_S41.trans rp1_S39.1; have v4 := rp2_S41; rw [← rp1_S41] at v4; have E := aRs_2 (z := z.toInt) k2 (by omega) k3 (by first | exact Or.inl (by omega) | exact Or.inr ((aS_I (W := 88) (S := S37) (c := 87) (c₉ := 87) (k := 8) rfl rfl).trans (by assumption))); refine ⟨E.symm, ?_⟩; unfold aRp; rw [E]; assumption))
        · skip
          have g62 := i_ne h55
          exact K (v38) _ hI_S37 (by omega) (show xB S37 (mR S37 70) from by first | (exact xB_x (xC_o (W := 75) rp0_S37).2)) (show aS 88 S37 = aRs ab z.toInt ∧ v38.toInt = aRp ab z.toInt from by first | (have k0 : aS 88 S33 = aF0 ab := (rp1_S33.trans (congrArg aB0 hpre1)).trans (aF0_y (by rw [← hpre1, (aS_I (W := 88) (S := S) (c := 87) (c₉ := 87) (k := 8) rfl rfl)]; assumption) (by rw [← hpre1, (aS_I (W := 88) (S := S) (c := 87) (c₉ := 87) (k := 0) rfl rfl), (aS_I (W := 88) (S := S) (c := 69) (c₉ := 69) (k := 8) rfl rfl)]; first | assumption | exact Int32.lt_iff_toInt_lt.mpr (by omega))).symm; have k6 : mI S33 87 6 = ab 87 6 := (aS_I (W := 88) (S := S33) (c := 87) (c₉ := 87) (k := 6) rfl rfl).symm.trans ((congrFun (congrFun rp1_S33 87) 6).trans ((aB0_o ⟨by decide, by decide, by decide⟩ (by decide)).trans (congrFun (congrFun hpre1 87) 6))); have k1 : aS 88 S35 = aF1 ab := (by have q := rp1_S35.1; rw [k0, k6] at q; exact q); have k2 : aS 88 S37 = aF1 ab := rp1_S37.trans k1; have v2 := rp2_S37; rw [← rp1_S37] at v2; have E := aRs_1 (z := z.toInt) k2 (by omega); refine ⟨E.symm, ?_⟩; unfold aRp; rw [E]; assumption))
  · skip
    have g63 := i_ne h3
    have f64 := zG_s hI (-1) (1500) (c := 87) (k := 6) (by decide)
    refine sp_72_87_s (ab := (aS 88 S)) ((mI S 87 6)) (by omega) (by omega) hI (show xB S (mR S 70) from by first | (exact xB_x (xC_o (W := 75) hpre0).2)) (show aS 88 S = (aS 88 S) from by first | (exact rfl)) (show 0 ≤ (mI S 87 6).toInt from by first | (rw [show mI S 87 6 = ab 87 6 from (aS_I (W := 88) (S := S) (c := 87) (c₉ := 87) (k := 6) rfl rfl).symm.trans (congrFun (congrFun hpre1 87) 6)]; exact hpre2)) (fun v2 S1 hI_S1 hp_v2 rp0_S1 rp1_S1 => zi_n ⟨zG_T hI_S1, ?_⟩)
    have rp0_S1 : xB S1 (mR S1 70) := rp0_S1
    have rp1_S1 : aS 88 S1 = aGo (aS 88 S) (mI S 87 6).toInt.toNat ∧ v2.toInt = aGv (aS 88 S) (mI S 87 6).toInt.toNat := rp1_S1
    have b65 := i_bd z
    refine sp_103_87_s (ab := (aS 88 S1)) (z) (by omega) (by omega) hI_S1 (show xB S1 (mR S1 70) from by first | (exact xB_x (xC_o (W := 75) rp0_S1).2)) (show aS 88 S1 = (aS 88 S1) from by first | (exact rfl)) (fun v4 S3 hI_S3 hp_v4 rp0_S3 rp1_S3 rp2_S3 => zi_n ⟨zG_T hI_S3, ?_⟩)
    have rp0_S3 : xB S3 (mR S3 70) := rp0_S3
    have rp1_S3 : aS 88 S3 = (aS 88 S1) := rp1_S3
    have rp2_S3 : v4.toInt = aFt (aS 88 S1) z.toInt := rp2_S3
    have b66 := i_bd v4
    have li67 : (-1 : Int32).toInt = -1 := rfl
    refine zd (fun h68 => ?_) (fun h68 => ?_)
    · skip
      have g69 := i_eq h68
      refine sp_67_87_s (ab := (aS 88 S3)) (by omega) (by omega) hI_S3 (show xB S3 (mR S3 70) from by first | (exact xB_x (xC_o (W := 75) rp0_S3).2)) (show aS 88 S3 = (aS 88 S3) from by first | (exact rfl)) (fun v10 S9 hI_S9 hp_v10 rp0_S9 rp1_S9 => zi_n ⟨zG_T hI_S9, ?_⟩)
      have rp0_S9 : xB S9 (mR S9 70) := rp0_S9
      have rp1_S9 : aS 88 S9 = aCl (aS 88 S3) ∧ v10 = aFv (aC1 (aS 88 S3)) := rp1_S9
      refine sp_103_87_s (ab := (aS 88 S9)) (z) (by omega) (by omega) hI_S9 (show xB S9 (mR S9 70) from by first | (exact xB_x (xC_o (W := 75) rp0_S9).2)) (show aS 88 S9 = (aS 88 S9) from by first | (exact rfl)) (fun v12 S11 hI_S11 hp_v12 rp0_S11 rp1_S11 rp2_S11 => zi_n ⟨zG_T hI_S11, ?_⟩)
      have rp0_S11 : xB S11 (mR S11 70) := rp0_S11
      have rp1_S11 : aS 88 S11 = (aS 88 S9) := rp1_S11
      have rp2_S11 : v12.toInt = aFt (aS 88 S9) z.toInt := rp2_S11
      have b70 := i_bd v12
      refine zd (fun h71 => ?_) (fun h71 => ?_)
      · skip
        have g72 := i_eq h71
        have f73 := zG_s hI_S3 (0) (1) (c := 87) (k := 8) (by decide)
        refine zd (fun h74 => ?_) (fun h74 => ?_)
        · skip
          have g75 := i_eq h74
          exact K (v12) _ hI_S11 (by omega) (show xB S11 (mR S11 70) from by first | (exact xB_x (xC_o (W := 75) rp0_S11).2)) (show aS 88 S11 = aRs ab z.toInt ∧ v12.toInt = aRp ab z.toInt from by first | (have k0 : aS 88 S = aF0 ab := hpre1.trans (aF0_n (fun w => by rw [← hpre1, (aS_I (W := 88) (S := S) (c := 87) (c₉ := 87) (k := 8) rfl rfl), (aS_I (W := 88) (S := S) (c := 87) (c₉ := 87) (k := 0) rfl rfl), (aS_I (W := 88) (S := S) (c := 69) (c₉ := 69) (k := 8) rfl rfl)] at w; first | exact absurd w.1 (by assumption) | (have w2 := i_lt w.2; omega))).symm; have k6 : mI S 87 6 = ab 87 6 := (aS_I (W := 88) (S := S) (c := 87) (c₉ := 87) (k := 6) rfl rfl).symm.trans (congrFun (congrFun hpre1 87) 6); have k1 : aS 88 S1 = aF1 ab := (by have q := rp1_S1.1; rw [k0, k6] at q; exact q); have k2 : aS 88 S3 = aF1 ab := rp1_S3.trans k1; have v2 := rp2_S3; rw [← rp1_S3] at v2; have k3 : aS 88 S11 = aCl (aS 88 S3) := rp1_S11.trans rp1_S9.1; have v4 := rp2_S11; rw [← rp1_S11] at v4; have E := aRs_2 (z := z.toInt) k2 (by omega) k3 (by first | exact Or.inl (by omega) | exact Or.inr ((aS_I (W := 88) (S := S3) (c := 87) (c₉ := 87) (k := 8) rfl rfl).trans (by assumption))); refine ⟨E.symm, ?_⟩; unfold aRp; rw [E]; assumption))
        · skip
          have g76 := i_ne h74
          refine sp_67_87_s (ab := (aS 88 S11)) (by omega) (by omega) hI_S11 (show xB S11 (mR S11 70) from by first | (exact xB_x (xC_o (W := 75) rp0_S11).2)) (show aS 88 S11 = (aS 88 S11) from by first | (exact rfl)) (fun v14 S13 hI_S13 hp_v14 rp0_S13 rp1_S13 => zi_n ⟨zG_T hI_S13, ?_⟩)
          have rp0_S13 : xB S13 (mR S13 70) := rp0_S13
          have rp1_S13 : aS 88 S13 = aCl (aS 88 S11) ∧ v14 = aFv (aC1 (aS 88 S11)) := rp1_S13
          refine sp_103_87_s (ab := (aS 88 S13)) (z) (by omega) (by omega) hI_S13 (show xB S13 (mR S13 70) from by first | (exact xB_x (xC_o (W := 75) rp0_S13).2)) (show aS 88 S13 = (aS 88 S13) from by first | (exact rfl)) (fun v16 S15 hI_S15 hp_v16 rp0_S15 rp1_S15 rp2_S15 => zi_n ⟨zG_T hI_S15, ?_⟩)
          have rp0_S15 : xB S15 (mR S15 70) := rp0_S15
          have rp1_S15 : aS 88 S15 = (aS 88 S13) := rp1_S15
          have rp2_S15 : v16.toInt = aFt (aS 88 S13) z.toInt := rp2_S15
          have b77 := i_bd v16
          exact K (v16) _ hI_S15 (by omega) (show xB S15 (mR S15 70) from by first | (exact xB_x (xC_o (W := 75) rp0_S15).2)) (show aS 88 S15 = aRs ab z.toInt ∧ v16.toInt = aRp ab z.toInt from by first | (have k0 : aS 88 S = aF0 ab := hpre1.trans (aF0_n (fun w => by rw [← hpre1, (aS_I (W := 88) (S := S) (c := 87) (c₉ := 87) (k := 8) rfl rfl), (aS_I (W := 88) (S := S) (c := 87) (c₉ := 87) (k := 0) rfl rfl), (aS_I (W := 88) (S := S) (c := 69) (c₉ := 69) (k := 8) rfl rfl)] at w; first | exact absurd w.1 (by assumption) | (have w2 := i_lt w.2; omega))).symm; have k6 : mI S 87 6 = ab 87 6 := (aS_I (W := 88) (S := S) (c := 87) (c₉ := 87) (k := 6) rfl rfl).symm.trans (congrFun (congrFun hpre1 87) 6); have k1 : aS 88 S1 = aF1 ab := (by have q := rp1_S1.1; rw [k0, k6] at q; exact q); have k2 : aS 88 S3 = aF1 ab := rp1_S3.trans k1; have v2 := rp2_S3; rw [← rp1_S3] at v2; have k3 : aS 88 S11 = aCl (aS 88 S3) := rp1_S11.trans rp1_S9.1; have v4 := rp2_S11; rw [← rp1_S11] at v4; have k5 : aS 88 S15 = aCl (aS 88 S11) := rp1_S15.trans rp1_S13.1; have v6 := rp2_S15; rw [← rp1_S15] at v6; have E := aRs_3 (z := z.toInt) k2 (by omega) k3 (by omega) (fun w => by rw [(aS_I (W := 88) (S := S3) (c := 87) (c₉ := 87) (k := 8) rfl rfl)] at w; exact absurd w (by assumption)) k5; refine ⟨E.symm, ?_⟩; unfold aRp; rw [E]; assumption))
      · skip
        have g78 := i_ne h71
        exact K (v12) _ hI_S11 (by omega) (show xB S11 (mR S11 70) from by first | (exact xB_x (xC_o (W := 75) rp0_S11).2)) (show aS 88 S11 = aRs ab z.toInt ∧ v12.toInt = aRp ab z.toInt from by first | (have k0 : aS 88 S = aF0 ab := hpre1.trans (aF0_n (fun w => by rw [← hpre1, (aS_I (W := 88) (S := S) (c := 87) (c₉ := 87) (k := 8) rfl rfl), (aS_I (W := 88) (S := S) (c := 87) (c₉ := 87) (k := 0) rfl rfl), (aS_I (W := 88) (S := S) (c := 69) (c₉ := 69) (k := 8) rfl rfl)] at w; first | exact absurd w.1 (by assumption) | (have w2 := i_lt w.2; omega))).symm; have k6 : mI S 87 6 = ab 87 6 := (aS_I (W := 88) (S := S) (c := 87) (c₉ := 87) (k := 6) rfl rfl).symm.trans (congrFun (congrFun hpre1 87) 6); have k1 : aS 88 S1 = aF1 ab := (by have q := rp1_S1.1; rw [k0, k6] at q; exact q); have k2 : aS 88 S3 = aF1 ab := rp1_S3.trans k1; have v2 := rp2_S3; rw [← rp1_S3] at v2; have k3 : aS 88 S11 = aCl (aS 88 S3) := rp1_S11.trans rp1_S9.1; have v4 := rp2_S11; rw [← rp1_S11] at v4; have E := aRs_2 (z := z.toInt) k2 (by omega) k3 (by first | exact Or.inl (by omega) | exact Or.inr ((aS_I (W := 88) (S := S3) (c := 87) (c₉ := 87) (k := 8) rfl rfl).trans (by assumption))); refine ⟨E.symm, ?_⟩; unfold aRp; rw [E]; assumption))
    · skip
      have g79 := i_ne h68
      refine zd (fun h80 => ?_) (fun h80 => ?_)
      · skip
        have g81 := i_eq h80
        have f82 := zG_s hI_S3 (0) (1) (c := 87) (k := 8) (by decide)
        refine zd (fun h83 => ?_) (fun h83 => ?_)
        · skip
          have g84 := i_eq h83
          exact K (v4) _ hI_S3 (by omega) (show xB S3 (mR S3 70) from by first | (exact xB_x (xC_o (W := 75) rp0_S3).2)) (show aS 88 S3 = aRs ab z.toInt ∧ v4.toInt = aRp ab z.toInt from by first | (have k0 : aS 88 S = aF0 ab := hpre1.trans (aF0_n (fun w => by rw [← hpre1, (aS_I (W := 88) (S := S) (c := 87) (c₉ := 87) (k := 8) rfl rfl), (aS_I (W := 88) (S := S) (c := 87) (c₉ := 87) (k := 0) rfl rfl), (aS_I (W := 88) (S := S) (c := 69) (c₉ := 69) (k := 8) rfl rfl)] at w; first | exact absurd w.1 (by assumption) | (have w2 := i_lt w.2; omega))).symm; have k6 : mI S 87 6 = ab 87 6 := (aS_I (W := 88) (S := S) (c := 87) (c₉ := 87) (k := 6) rfl rfl).symm.trans (congrFun (congrFun hpre1 87) 6); have k1 : aS 88 S1 = aF1 ab := (by have q := rp1_S1.1; rw [k0, k6] at q; exact q); have k2 : aS 88 S3 = aF1 ab := rp1_S3.trans k1; have v2 := rp2_S3; rw [← rp1_S3] at v2; have E := aRs_1 (z := z.toInt) k2 (by omega); refine ⟨E.symm, ?_⟩; unfold aRp; rw [E]; assumption))
        · skip
          have g85 := i_ne h83
          refine sp_67_87_s (ab := (aS 88 S3)) (by omega) (by omega) hI_S3 (show xB S3 (mR S3 70) from by first | (exact xB_x (xC_o (W := 75) rp0_S3).2)) (show aS 88 S3 = (aS 88 S3) from by first | (exact rfl)) (fun v6 S5 hI_S5 hp_v6 rp0_S5 rp1_S5 => zi_n ⟨zG_T hI_S5, ?_⟩)
          have rp0_S5 : xB S5 (mR S5 70) := rp0_S5
          have rp1_S5 : aS 88 S5 = aCl (aS 88 S3) ∧ v6 = aFv (aC1 (aS 88 S3)) := rp1_S5
          refine sp_103_87_s (ab := (aS 88 S5)) (z) (by omega) (by omega) hI_S5 (show xB S5 (mR S5 70) from by first | (exact xB_x (xC_o (W := 75) rp0_S5).2)) (show aS 88 S5 = (aS 88 S5) from by first | (exact rfl)) (fun v8 S7 hI_S7 hp_v8 rp0_S7 rp1_S7 rp2_S7 => zi_n ⟨zG_T hI_S7, ?_⟩)
          have rp0_S7 : xB S7 (mR S7 70) := rp0_S7
          have rp1_S7 : aS 88 S7 = (aS 88 S5) := rp1_S7
          have rp2_S7 : v8.toInt = aFt (aS 88 S5) z.toInt := rp2_S7
          have b86 := i_bd v8
          exact K (v8) _ hI_S7 (by omega) (show xB S7 (mR S7 70) from by first | (exact xB_x (xC_o (W := 75) rp0_S7).2)) (show aS 88 S7 = aRs ab z.toInt ∧ v8.toInt = aRp ab z.toInt from by first | (have k0 : aS 88 S = aF0 ab := hpre1.trans (aF0_n (fun w => by rw [← hpre1, (aS_I (W := 88) (S := S) (c := 87) (c₉ := 87) (k := 8) rfl rfl), (aS_I (W := 88) (S := S) (c := 87) (c₉ := 87) (k := 0) rfl rfl), (aS_I (W := 88) (S := S) (c := 69) (c₉ := 69) (k := 8) rfl rfl)] at w; first | exact absurd w.1 (by assumption) | (have w2 := i_lt w.2; omega))).symm; have k6 : mI S 87 6 = ab 87 6 := (aS_I (W := 88) (S := S) (c := 87) (c₉ := 87) (k := 6) rfl rfl).symm.trans (congrFun (congrFun hpre1 87) 6); have k1 : aS 88 S1 = aF1 ab := (by have q := rp1_S1.1; rw [k0, k6] at q; exact q); have k2 : aS 88 S3 = aF1 ab := rp1_S3.trans k1; have v2 := rp2_S3; rw [← rp1_S3] at v2; have k3 : aS 88 S7 = aCl (aS 88 S3) := rp1_S7.trans rp1_S5.1; have v4 := rp2_S7; rw [← rp1_S7] at v4; have E := aRs_2 (z := z.toInt) k2 (by omega) k3 (by first | exact Or.inl (by omega) | exact Or.inr ((aS_I (W := 88) (S := S3) (c := 87) (c₉ := 87) (k := 8) rfl rfl).trans (by assumption))); refine ⟨E.symm, ?_⟩; unfold aRp; rw [E]; assumption))
      · skip
        have g87 := i_ne h80
        exact K (v4) _ hI_S3 (by omega) (show xB S3 (mR S3 70) from by first | (exact xB_x (xC_o (W := 75) rp0_S3).2)) (show aS 88 S3 = aRs ab z.toInt ∧ v4.toInt = aRp ab z.toInt from by first | (have k0 : aS 88 S = aF0 ab := hpre1.trans (aF0_n (fun w => by rw [← hpre1, (aS_I (W := 88) (S := S) (c := 87) (c₉ := 87) (k := 8) rfl rfl), (aS_I (W := 88) (S := S) (c := 87) (c₉ := 87) (k := 0) rfl rfl), (aS_I (W := 88) (S := S) (c := 69) (c₉ := 69) (k := 8) rfl rfl)] at w; first | exact absurd w.1 (by assumption) | (have w2 := i_lt w.2; omega))).symm; have k6 : mI S 87 6 = ab 87 6 := (aS_I (W := 88) (S := S) (c := 87) (c₉ := 87) (k := 6) rfl rfl).symm.trans (congrFun (congrFun hpre1 87) 6); have k1 : aS 88 S1 = aF1 ab := (by have q := rp1_S1.1; rw [k0, k6] at q; exact q); have k2 : aS 88 S3 = aF1 ab := rp1_S3.trans k1; have v2 := rp2_S3; rw [← rp1_S3] at v2; have E := aRs_1 (z := z.toInt) k2 (by omega); refine ⟨E.symm, ?_⟩; unfold aRp; rw [E]; assumption))

/-! from 95.g22 -/
/-! the heap by numbers, the class (written by wip/tools/gen18.py) -/
/-! WHAT THE CALLS CHANGE -/
/-- its number if it is there, else -1 -/
def aNm (a : Nat → Nat → Int32) (y : Int32) : Int32 := if 0 ≤ y.toInt ∧ y.toInt < 512 ∧ a 126 y.toNatClampNeg ≠ 0 then y else -1
/-- a ROOT or a REFERENCE that had the one has the other -/
def aNc (a : Nat → Nat → Int32) (y z : Int32) : Nat → Nat → Int32 := if a 87 8 ≠ 0 ∧ aNm a y ≠ aNm a z then aCm a (if a 87 7 = 0 then y else z) else a
def aSt (a : Nat → Nat → Int32) (y : Int32) : Nat → Nat → Int32 := if a 87 8 ≠ 0 then aCm a y else a
/-- a word is written -/
def aCi (a : Nat → Nat → Int32) (n : Nat) (i x : Int32) : Nat → Nat → Int32 := if 0 ≤ (a 130 n + 1 + i).toInt ∧ (a 130 n + 1 + i).toInt < 4500 then ma_u a 71 (a 130 n + 1 + i).toNatClampNeg x else a
def aWo (a : Nat → Nat → Int32) (n : Nat) (i : Int32) : Int32 := if 0 ≤ (a 130 n + 1 + i).toInt ∧ (a 130 n + 1 + i).toInt < 4500 then a 71 (a 130 n + 1 + i).toNatClampNeg else -1
/-- a ROOT is set -/
def aRt (a : Nat → Nat → Int32) (i y : Int32) : Nat → Nat → Int32 := aNc (ma_u a 72 i.toNatClampNeg (aNm a y)) (a 72 i.toNatClampNeg) y
/-- a REFERENCE is set -/
def aLn (a : Nat → Nat → Int32) (n : Nat) (i y : Int32) : Nat → Nat → Int32 := aNc (aCi a n i (aNm a y)) (aRef a n i) y
section B6
variable {a b : Nat → Nat → Int32} {W c d : Nat} {x y z i : Int32} {S : ma_S} {R : zRT}
theorem nm_y (hC : xB S R) (rg : zTa R y = some c) : aNm (aS W S) y = y := by
  have t := xB_th (W := W) hC rg
  exact if_pos ⟨t.1, t.2.1, by rw [t.2.2.2.2.2.2.2.2]; decide⟩
theorem nm_n (hC : xB S R) (rn : zTa R y = none) : aNm (aS W S) y = -1 := if_neg (xB_nt hC rn)
theorem nm_eq (hC : xB S R) : aNm (aS W S) y = aNm (aS W S) z ↔ zTa R y = zTa R z := by
  cases e1 : zTa R y with
  | none =>
    rw [nm_n hC e1]
    cases e2 : zTa R z with
    | none => exact ⟨fun _ => rfl, fun _ => (nm_n hC e2).symm⟩
    | some c =>
      rw [nm_y hC e2]
      refine ⟨fun h => ?_, fun h => by cases h⟩
      have t := (zTa_p e2).1
      rw [← h] at t
      exact absurd t (by decide)
  | some c =>
    rw [nm_y hC e1]
    cases e2 : zTa R z with
    | none =>
      rw [nm_n hC e2]
      refine ⟨fun h => ?_, fun h => by cases h⟩
      have t := (zTa_p e1).1
      rw [h] at t
      exact absurd t (by decide)
    | some d =>
      rw [nm_y hC e2]
      refine ⟨fun h => ?_, fun h => ?_⟩
      · rw [← h, e1] at e2
        exact e2
      · have t1 := (xB_th (W := W) hC e1).2.2.1
        cases h
        exact t1.symm.trans (xB_th (W := W) hC e2).2.2.1
theorem aNc_y (h : a 87 8 ≠ 0) (h1 : aNm a y ≠ aNm a z) : aNc a y z = aCm a (if a 87 7 = 0 then y else z) := if_pos ⟨h, h1⟩
theorem aNc_n (h : ¬ (a 87 8 ≠ 0 ∧ aNm a y ≠ aNm a z)) : aNc a y z = a := if_neg h
end B6
theorem g_74_87_s_0 {X : Nat × (Nat → Int32)} {d w : Nat} {S : ma_S} {Q : Option ma_V ⊕ Nat → ma_S → Prop} (p : Option Nat) (q : Option Nat) (hd : 1 ≤ d) (hw : 21 ≤ w) (hS : zT S) (h : if (mI S 87 8) = 0 then (Q (.inl none) S) else (((∀ b, p = some b → 64 ≤ b) ∧ ∀ b, q = some b → 64 ≤ b) ∧ (if p = q then (Q (.inl none) S) else (if (mI S 87 7) = 0 then (ma_wp X (d - 1) (w - 21) 119 0 [(0, .inr (.inr (some 88))), (1, .inr (.inr p))] [] S (zv (fun S3 => zT S3 ∧ (Q (.inl none) S3)) (fun x S9 => Q (.inr x) S9))) else (ma_wp X (d - 1) (w - 21) 119 0 [(0, .inr (.inr (some 88))), (1, .inr (.inr q))] [] S (zv (fun S1 => zT S1 ∧ (Q (.inl none) S1)) (fun x S9 => Q (.inr x) S9))))))) : ma_wp X d w 74 0 [(0, .inr (.inr (some 87))), (1, .inr (.inr p)), (2, .inr (.inr q))] [] S Q := by
  refine zw_push hm_74 dX6_noteChange_0 (v := .inr (.inr (some 87))) rfl ?_
  refine zw_gf hm_74 dX6_noteChange_1 (v := .inl (mI S 87 8)) (zT_is hS s_87) (zT_t hS s_87) rfl f_6_31_6 rfl ?_
  refine zw_if0 hm_74 dX6_noteChange_4 (t := 31) rfl zc0_eq ?_ ?_
  · intro hc
    rw [if_pos hc] at h
    exact zw_vret hm_74 dX6_noteChange_31 h
  · intro hc
    rw [if_neg hc] at h
    refine zw_push hm_74 dX6_noteChange_7 (v := .inr (.inr p)) rfl ?_
    refine zw_push hm_74 dX6_noteChange_8 (v := .inr (.inr q)) rfl ?_
    obtain ⟨hg, h⟩ := h
    refine zw_acmp hm_74 dX6_noteChange_9 (t := 31) rfl hg.1 hg.2 ?_ ?_
    · intro hc
      rw [if_pos hc] at h
      exact zw_vret hm_74 dX6_noteChange_31 h
    · intro hc
      rw [if_neg hc] at h
      refine zw_push hm_74 dX6_noteChange_12 (v := .inr (.inr (some 87))) rfl ?_
      refine zw_gf hm_74 dX6_noteChange_13 (v := .inr (.inr (some 88))) (zT_is hS s_87) (zT_t hS s_87) rfl f_6_14_6 (zT_f hS r_87_5) ?_
      refine zw_push hm_74 dX6_noteChange_16 (v := .inr (.inr (some 87))) rfl ?_
      refine zw_gf hm_74 dX6_noteChange_17 (v := .inl (mI S 87 7)) (zT_is hS s_87) (zT_t hS s_87) rfl f_6_28_6 rfl ?_
      refine zw_if0 hm_74 dX6_noteChange_20 (t := 27) rfl zc0_ne ?_ ?_
      · intro hc
        rw [if_neg hc] at h
        refine zw_push hm_74 dX6_noteChange_27 (v := .inr (.inr q)) rfl ?_
        refine zw_cv hm_74 dX6_noteChange_28 v_6_97_10 hm_119 [.inr (.inr q)] [] rfl (zT_rt hS s_88 rfl) ⟨by omega, by omega⟩ rfl (zw_mono h (zv_go ?_ ?_))
        · intro S1 hv
          obtain ⟨hS1, h⟩ := hv
          exact zw_vret hm_74 dX6_noteChange_31 h
        · intro x S9 hx
          exact ⟨by decide, hx⟩
      · intro hc
        rw [if_pos (Classical.not_not.mp hc)] at h
        refine zw_push hm_74 dX6_noteChange_23 (v := .inr (.inr p)) rfl ?_
        refine zw_goto hm_74 dX6_noteChange_24 (t := 28) rfl ?_
        refine zw_cv hm_74 dX6_noteChange_28 v_6_97_10 hm_119 [.inr (.inr p)] [] rfl (zT_rt hS s_88 rfl) ⟨by omega, by omega⟩ rfl (zw_mono h (zv_go ?_ ?_))
        · intro S3 hv
          obtain ⟨hS3, h⟩ := hv
          exact zw_vret hm_74 dX6_noteChange_31 h
        · intro x S9 hx
          exact ⟨by decide, hx⟩
theorem sp_74_87_s {X : Nat × (Nat → Int32)} {d w : Nat} {f : Nat → Nat → Int32} {r : Nat → Nat → Option Nat} {C Z N : Nat} {Q : Option ma_V ⊕ Nat → ma_S → Prop} {ab : Nat→Nat→Int32} {R : zRT} {y1 : Int32} {y2 : Int32} {S : ma_S} (p : Option Nat) (q : Option Nat) (hd : 1 ≤ d) (hw : 21 ≤ w) (hI : zJ87 f r C Z N S) (hq_p : ∀ c, p = some c → 126 ≤ c ∧ c < N) (hq_q : ∀ c, q = some c → 126 ≤ c ∧ c < N) (hpre0 : xB S R) (hpre1 : aS 88 S = ab) (hpre2 : p = zTa R y1) (hpre3 : q = zTa R y2) (K : ∀ S₉, zJ87 f r C Z N S₉ → (xB S₉ R) → (aS 88 S₉ = aNc ab y1 y2) → Q (.inl none) S₉) : ma_wp X d w 74 0 [(0, .inr (.inr (some 87))), (1, .inr (.inr p)), (2, .inr (.inr q))] [] S Q := by
  refine g_74_87_s_0 p q (by omega) (by omega) (zG_T hI) ?_
  have f1 := zG_s hI (0) (1) (c := 87) (k := 8) (by decide)
  have li2 : (0 : Int32).toInt = 0 := rfl
  refine zd (fun h3 => ?_) (fun h3 => ?_)
  · skip
    have g4 := i_eq h3
    exact K _ hI (show xB S R from by first | (exact (xC_o (W := 75) hpre0).2)) (show aS 88 S = aNc ab y1 y2 from by first | (refine hpre1.trans (aNc_n (fun w => ?_)).symm; have w1 := w.1; rw [← hpre1, (aS_I (W := 88) (S := S) (c := 87) (c₉ := 87) (k := 8) rfl rfl)] at w1; first | exact absurd (by assumption) w1 | (have w2 := w.2; rw [← hpre1] at w2; exact w2 ((nm_eq (W := 88) hpre0).mpr (hpre2.symm.trans (Eq.trans (by assumption) hpre3)))) | exact absurd (by rw [← hpre1]; exact (nm_eq (W := 88) hpre0).mpr (hpre2.symm.trans hpre3)) w.2))
  · skip
    have g5 := i_ne h3
    refine ⟨⟨fun b z => Nat.le_trans (by decide) (hq_p b z).1, fun b z => Nat.le_trans (by decide) (hq_q b z).1⟩, ?_⟩
    refine zd (fun h6 => ?_) (fun h6 => ?_)
    · skip
      exact K _ hI (show xB S R from by first | (exact (xC_o (W := 75) hpre0).2)) (show aS 88 S = aNc ab y1 y2 from by first | (refine hpre1.trans (aNc_n (fun w => ?_)).symm; have w1 := w.1; rw [← hpre1, (aS_I (W := 88) (S := S) (c := 87) (c₉ := 87) (k := 8) rfl rfl)] at w1; first | exact absurd (by assumption) w1 | (have w2 := w.2; rw [← hpre1] at w2; exact w2 ((nm_eq (W := 88) hpre0).mpr (hpre2.symm.trans (Eq.trans (by assumption) hpre3)))) | exact absurd (by rw [← hpre1]; exact (nm_eq (W := 88) hpre0).mpr (hpre2.symm.trans hpre3)) w.2))
    · skip
      have b7 := i_bd (mI S 87 7)
      refine zd (fun h8 => ?_) (fun h8 => ?_)
      · skip
        have g9 := i_eq h8
        refine sp_119_88_s (ab := (aS 88 S)) (R := R) (y := (y1)) (p) (by omega) (by omega) (zJ87_dn hI) hq_p (show xB S R from by first | (exact (xC_o (W := 75) hpre0).2)) (show aS 88 S = (aS 88 S) from by first | (exact rfl)) (show p = zTa R (y1) from by first | (exact hpre2)) (fun S3 hL_S3 rp0_S3 rp1_S3 => zv_n ⟨zG_T hL_S3, ?_⟩)
        have hI_S3 := zJ87_up hI hL_S3
        have rp0_S3 : xB S3 R := by
          have z := rp0_S3
          (try rw [show mI S 65 = f 65 from funext (fun k => zG_z hI rfl)] at z)
          (try rw [show mI S 64 1 = f 64 1 from zG_z hI rfl] at z)
          exact z
        have rp1_S3 : aS 88 S3 = aCm (aS 88 S) (y1) := by
          have z := rp1_S3
          (try rw [show mI S 65 = f 65 from funext (fun k => zG_z hI rfl)] at z)
          (try rw [show mI S 64 1 = f 64 1 from zG_z hI rfl] at z)
          exact z
        exact K _ hI_S3 (show xB S3 R from by first | (exact (xC_o (W := 75) rp0_S3).2)) (show aS 88 S3 = aNc ab y1 y2 from by first | (rw [rp1_S3, hpre1, aNc_y (by rw [← hpre1, (aS_I (W := 88) (S := S) (c := 87) (c₉ := 87) (k := 8) rfl rfl)]; assumption) (fun w => by rw [← hpre1] at w; have q := (nm_eq (W := 88) hpre0).mp w; rw [← hpre2, ← hpre3] at q; exact absurd q (by assumption))]; rw [← hpre1, (aS_I (W := 88) (S := S) (c := 87) (c₉ := 87) (k := 7) rfl rfl), if_pos (by assumption)]) | (rw [rp1_S3, hpre1, aNc_y (by rw [← hpre1, (aS_I (W := 88) (S := S) (c := 87) (c₉ := 87) (k := 8) rfl rfl)]; assumption) (fun w => by rw [← hpre1] at w; have q := (nm_eq (W := 88) hpre0).mp w; rw [← hpre2, ← hpre3] at q; exact absurd q (by assumption))]; rw [← hpre1, (aS_I (W := 88) (S := S) (c := 87) (c₉ := 87) (k := 7) rfl rfl), if_neg (by assumption)]))
      · skip
        have g10 := i_ne h8
        refine sp_119_88_s (ab := (aS 88 S)) (R := R) (y := (y2)) (q) (by omega) (by omega) (zJ87_dn hI) hq_q (show xB S R from by first | (exact (xC_o (W := 75) hpre0).2)) (show aS 88 S = (aS 88 S) from by first | (exact rfl)) (show q = zTa R (y2) from by first | (exact hpre3)) (fun S1 hL_S1 rp0_S1 rp1_S1 => zv_n ⟨zG_T hL_S1, ?_⟩)
        have hI_S1 := zJ87_up hI hL_S1
        have rp0_S1 : xB S1 R := by
          have z := rp0_S1
          (try rw [show mI S 65 = f 65 from funext (fun k => zG_z hI rfl)] at z)
          (try rw [show mI S 64 1 = f 64 1 from zG_z hI rfl] at z)
          exact z
        have rp1_S1 : aS 88 S1 = aCm (aS 88 S) (y2) := by
          have z := rp1_S1
          (try rw [show mI S 65 = f 65 from funext (fun k => zG_z hI rfl)] at z)
          (try rw [show mI S 64 1 = f 64 1 from zG_z hI rfl] at z)
          exact z
        exact K _ hI_S1 (show xB S1 R from by first | (exact (xC_o (W := 75) rp0_S1).2)) (show aS 88 S1 = aNc ab y1 y2 from by first | (rw [rp1_S1, hpre1, aNc_y (by rw [← hpre1, (aS_I (W := 88) (S := S) (c := 87) (c₉ := 87) (k := 8) rfl rfl)]; assumption) (fun w => by rw [← hpre1] at w; have q := (nm_eq (W := 88) hpre0).mp w; rw [← hpre2, ← hpre3] at q; exact absurd q (by assumption))]; rw [← hpre1, (aS_I (W := 88) (S := S) (c := 87) (c₉ := 87) (k := 7) rfl rfl), if_pos (by assumption)]) | (rw [rp1_S1, hpre1, aNc_y (by rw [← hpre1, (aS_I (W := 88) (S := S) (c := 87) (c₉ := 87) (k := 8) rfl rfl)]; assumption) (fun w => by rw [← hpre1] at w; have q := (nm_eq (W := 88) hpre0).mp w; rw [← hpre2, ← hpre3] at q; exact absurd q (by assumption))]; rw [← hpre1, (aS_I (W := 88) (S := S) (c := 87) (c₉ := 87) (k := 7) rfl rfl), if_neg (by assumption)]))
theorem g_75_87_s_0 {X : Nat × (Nat → Int32)} {d w : Nat} {S : ma_S} {Q : Option ma_V ⊕ Nat → ma_S → Prop} (t : Nat) (hd : 1 ≤ d) (hw : 21 ≤ w) (hS : zT S) (h : if (mI S 87 8) = 0 then (Q (.inl none) S) else (ma_wp X (d - 1) (w - 21) 119 0 [(0, .inr (.inr (some 88))), (1, .inr (.inr (some t)))] [] S (zv (fun S1 => zT S1 ∧ (Q (.inl none) S1)) (fun x S9 => Q (.inr x) S9)))) : ma_wp X d w 75 0 [(0, .inr (.inr (some 87))), (1, .inr (.inr (some t)))] [] S Q := by
  refine zw_push hm_75 dX6_noteStrong_0 (v := .inr (.inr (some 87))) rfl ?_
  refine zw_gf hm_75 dX6_noteStrong_1 (v := .inl (mI S 87 8)) (zT_is hS s_87) (zT_t hS s_87) rfl f_6_31_6 rfl ?_
  refine zw_if0 hm_75 dX6_noteStrong_4 (t := 15) rfl zc0_eq ?_ ?_
  · intro hc
    rw [if_pos hc] at h
    exact zw_vret hm_75 dX6_noteStrong_15 h
  · intro hc
    rw [if_neg hc] at h
    refine zw_push hm_75 dX6_noteStrong_7 (v := .inr (.inr (some 87))) rfl ?_
    refine zw_gf hm_75 dX6_noteStrong_8 (v := .inr (.inr (some 88))) (zT_is hS s_87) (zT_t hS s_87) rfl f_6_14_6 (zT_f hS r_87_5) ?_
    refine zw_push hm_75 dX6_noteStrong_11 (v := .inr (.inr (some t))) rfl ?_
    refine zw_cv hm_75 dX6_noteStrong_12 v_6_97_10 hm_119 [.inr (.inr (some t))] [] rfl (zT_rt hS s_88 rfl) ⟨by omega, by omega⟩ rfl (zw_mono h (zv_go ?_ ?_))
    · intro S1 hv
      obtain ⟨hS1, h⟩ := hv
      exact zw_vret hm_75 dX6_noteStrong_15 h
    · intro x S9 hx
      exact ⟨by decide, hx⟩
theorem sp_75_87_s {X : Nat × (Nat → Int32)} {d w : Nat} {f : Nat → Nat → Int32} {r : Nat → Nat → Option Nat} {C Z N : Nat} {Q : Option ma_V ⊕ Nat → ma_S → Prop} {ab : Nat→Nat→Int32} {R : zRT} {y : Int32} {S : ma_S} (t : Nat) (hd : 1 ≤ d) (hw : 21 ≤ w) (hI : zJ87 f r C Z N S) (th_t : 126 ≤ t ∧ t < N) (hpre0 : xB S R) (hpre1 : aS 88 S = ab) (hpre2 : zTa R y = some t) (K : ∀ S₉, zJ87 f r C Z N S₉ → (xB S₉ R) → (aS 88 S₉ = aSt ab y) → Q (.inl none) S₉) : ma_wp X d w 75 0 [(0, .inr (.inr (some 87))), (1, .inr (.inr (some t)))] [] S Q := by
  refine g_75_87_s_0 t (by omega) (by omega) (zG_T hI) ?_
  have f1 := zG_s hI (0) (1) (c := 87) (k := 8) (by decide)
  have li2 : (0 : Int32).toInt = 0 := rfl
  refine zd (fun h3 => ?_) (fun h3 => ?_)
  · skip
    have g4 := i_eq h3
    exact K _ hI (show xB S R from by first | (exact (xC_o (W := 75) hpre0).2)) (show aS 88 S = aSt ab y from by first | (refine hpre1.trans (if_neg (fun w => ?_)).symm; rw [← hpre1, (aS_I (W := 88) (S := S) (c := 87) (c₉ := 87) (k := 8) rfl rfl)] at w; exact absurd (by assumption) w))
  · skip
    have g5 := i_ne h3
    refine sp_119_88_s (ab := (aS 88 S)) (R := R) (y := (y)) ((some t)) (by omega) (by omega) (zJ87_dn hI) (fun _ z => by cases z; exact th_t) (show xB S R from by first | (exact (xC_o (W := 75) hpre0).2)) (show aS 88 S = (aS 88 S) from by first | (exact rfl)) (show (some t) = zTa R (y) from by first | (exact hpre2.symm)) (fun S1 hL_S1 rp0_S1 rp1_S1 => zv_n ⟨zG_T hL_S1, ?_⟩)
    have hI_S1 := zJ87_up hI hL_S1
    have rp0_S1 : xB S1 R := by
      have z := rp0_S1
      (try rw [show mI S 65 = f 65 from funext (fun k => zG_z hI rfl)] at z)
      (try rw [show mI S 64 1 = f 64 1 from zG_z hI rfl] at z)
      exact z
    have rp1_S1 : aS 88 S1 = aCm (aS 88 S) (y) := by
      have z := rp1_S1
      (try rw [show mI S 65 = f 65 from funext (fun k => zG_z hI rfl)] at z)
      (try rw [show mI S 64 1 = f 64 1 from zG_z hI rfl] at z)
      exact z
    exact K _ hI_S1 (show xB S1 R from by first | (exact (xC_o (W := 75) rp0_S1).2)) (show aS 88 S1 = aSt ab y from by first | (refine rp1_S1.trans (Eq.trans (congrArg (fun q => aCm q y) hpre1) (if_pos (fun w => ?_)).symm); rw [← hpre1, (aS_I (W := 88) (S := S) (c := 87) (c₉ := 87) (k := 8) rfl rfl)] at w; exact absurd w (by assumption)))
theorem g_93_s_0 {X : Nat × (Nat → Int32)} {d w : Nat} {S : ma_S} {Q : Option ma_V ⊕ Nat → ma_S → Prop} (p : Option Nat) (q : Option Nat) (hd : 0 ≤ d) (hw : 0 ≤ w) (hS : zT S) (h : (q = none → (p = none → Q (.inl none) S) ∧ (∀ c2, p = some c2 → (126 ≤ c2 ∧ c2 < mN S) ∧ ((126 ≤ c2 ∧ c2 < mN S) ∧ (Q (.inl none) (ma_put S c2 6 (.inl ((mI S c2 6) - (1 : Int32)))))))) ∧ (∀ c1, q = some c1 → (126 ≤ c1 ∧ c1 < mN S) ∧ ((126 ≤ c1 ∧ c1 < mN S) ∧ ((p = none → Q (.inl none) (ma_put S c1 6 (.inl ((mI S c1 6) + (1 : Int32))))) ∧ (∀ c3, p = some c3 → (126 ≤ c3 ∧ c3 < mN (ma_put S c1 6 (.inl ((mI S c1 6) + (1 : Int32))))) ∧ ((126 ≤ c3 ∧ c3 < mN (ma_put S c1 6 (.inl ((mI S c1 6) + (1 : Int32))))) ∧ (Q (.inl none) (ma_put (ma_put S c1 6 (.inl ((mI S c1 6) + (1 : Int32)))) c3 6 (.inl ((mI (ma_put S c1 6 (.inl ((mI S c1 6) + (1 : Int32)))) c3 6) - (1 : Int32))))))))))) : ma_wp X d w 93 0 [(0, .inr (.inr p)), (1, .inr (.inr q))] [] S Q := by
  refine zw_push hm_93 dX7_changeCounts_0 (v := .inr (.inr q)) rfl ?_
  refine zw_ifnull hm_93 dX7_changeCounts_1 (t := 14) rfl ?_ ?_
  · intro hc
    have h := h.1 hc
    (try rw [hc])
    show ma_wp X d w 93 14 [(0, .inr (.inr p)), (1, .inr (.inr none))] [] S _
    refine zw_push hm_93 dX7_changeCounts_14 (v := .inr (.inr p)) rfl ?_
    refine zw_ifnull hm_93 dX7_changeCounts_15 (t := 28) rfl ?_ ?_
    · intro hc
      have h := h.1 hc
      (try rw [hc])
      show ma_wp X d w 93 28 [(0, .inr (.inr none)), (1, .inr (.inr none))] [] S _
      exact zw_vret hm_93 dX7_changeCounts_28 h
    · intro c2 hc
      have h := h.2 c2 hc
      (try rw [hc])
      show ma_wp X d w 93 18 [(0, .inr (.inr (some c2))), (1, .inr (.inr none))] [] S _
      refine zw_push hm_93 dX7_changeCounts_18 (v := .inr (.inr (some c2))) rfl ?_
      refine zw_stk hm_93 dX7_changeCounts_19 (st₉ := [.inr (.inr (some c2)), .inr (.inr (some c2))]) rfl rfl ?_
      obtain ⟨hg, h⟩ := h
      refine zw_gf hm_93 dX7_changeCounts_20 (v := .inl (mI S c2 6)) (zT_tis hS hg) (zT_tt hS hg) rfl f_7_98_9 rfl ?_
      refine zw_push hm_93 dX7_changeCounts_23 (v := .inl (1 : Int32)) rfl ?_
      refine zw_stk hm_93 dX7_changeCounts_24 (st₉ := [.inl ((mI S c2 6) - (1 : Int32)), .inr (.inr (some c2))]) rfl rfl ?_
      obtain ⟨hg, h⟩ := h
      refine zw_pf hm_93 dX7_changeCounts_25 (zT_tis hS hg) (zT_tt hS hg) p_7_98_9 zk_int ?_
      exact zw_vret hm_93 dX7_changeCounts_28 h
  · intro c1 hc
    have h := h.2 c1 hc
    (try rw [hc])
    show ma_wp X d w 93 4 [(0, .inr (.inr p)), (1, .inr (.inr (some c1)))] [] S _
    refine zw_push hm_93 dX7_changeCounts_4 (v := .inr (.inr (some c1))) rfl ?_
    refine zw_stk hm_93 dX7_changeCounts_5 (st₉ := [.inr (.inr (some c1)), .inr (.inr (some c1))]) rfl rfl ?_
    obtain ⟨hg, h⟩ := h
    refine zw_gf hm_93 dX7_changeCounts_6 (v := .inl (mI S c1 6)) (zT_tis hS hg) (zT_tt hS hg) rfl f_7_98_9 rfl ?_
    refine zw_push hm_93 dX7_changeCounts_9 (v := .inl (1 : Int32)) rfl ?_
    refine zw_stk hm_93 dX7_changeCounts_10 (st₉ := [.inl ((mI S c1 6) + (1 : Int32)), .inr (.inr (some c1))]) rfl rfl ?_
    obtain ⟨hg, h⟩ := h
    refine zw_pf hm_93 dX7_changeCounts_11 (zT_tis hS hg) (zT_tt hS hg) p_7_98_9 zk_int ?_
    refine zw_push hm_93 dX7_changeCounts_14 (v := .inr (.inr p)) rfl ?_
    refine zw_ifnull hm_93 dX7_changeCounts_15 (t := 28) rfl ?_ ?_
    · intro hc
      have h := h.1 hc
      (try rw [hc])
      show ma_wp X d w 93 28 [(0, .inr (.inr none)), (1, .inr (.inr (some c1)))] [] (ma_put S c1 6 (.inl ((mI S c1 6) + (1 : Int32)))) _
      exact zw_vret hm_93 dX7_changeCounts_28 h
    · intro c3 hc
      have h := h.2 c3 hc
      (try rw [hc])
      show ma_wp X d w 93 18 [(0, .inr (.inr (some c3))), (1, .inr (.inr (some c1)))] [] (ma_put S c1 6 (.inl ((mI S c1 6) + (1 : Int32)))) _
      refine zw_push hm_93 dX7_changeCounts_18 (v := .inr (.inr (some c3))) rfl ?_
      refine zw_stk hm_93 dX7_changeCounts_19 (st₉ := [.inr (.inr (some c3)), .inr (.inr (some c3))]) rfl rfl ?_
      obtain ⟨hg, h⟩ := h
      refine zw_gf hm_93 dX7_changeCounts_20 (v := .inl (mI (ma_put S c1 6 (.inl ((mI S c1 6) + (1 : Int32)))) c3 6)) (zT_tis (zT_pi hS) hg) (zT_tt (zT_pi hS) hg) rfl f_7_98_9 rfl ?_
      refine zw_push hm_93 dX7_changeCounts_23 (v := .inl (1 : Int32)) rfl ?_
      refine zw_stk hm_93 dX7_changeCounts_24 (st₉ := [.inl ((mI (ma_put S c1 6 (.inl ((mI S c1 6) + (1 : Int32)))) c3 6) - (1 : Int32)), .inr (.inr (some c3))]) rfl rfl ?_
      obtain ⟨hg, h⟩ := h
      refine zw_pf hm_93 dX7_changeCounts_25 (zT_tis (zT_pi hS) hg) (zT_tt (zT_pi hS) hg) p_7_98_9 zk_int ?_
      exact zw_vret hm_93 dX7_changeCounts_28 h
theorem sp_93_s {X : Nat × (Nat → Int32)} {d w : Nat} {f : Nat → Nat → Int32} {r : Nat → Nat → Option Nat} {C Z N : Nat} {Q : Option ma_V ⊕ Nat → ma_S → Prop} {ab : Nat→Nat→Int32} {R : zRT} {W : Nat} {y1 : Int32} {y2 : Int32} {S : ma_S} (p : Option Nat) (q : Option Nat) (hd : 0 ≤ d) (hw : 0 ≤ w) (hI : zI f r C Z N S) (hq_p : ∀ c, p = some c → 126 ≤ c ∧ c < N) (hq_q : ∀ c, q = some c → 126 ≤ c ∧ c < N) (hpre0 : xB S R) (hpre1 : aS W S = ab) (hpre2 : xW W) (hpre3 : p = zTa R y1) (hpre4 : q = zTa R y2) (K : ∀ S₉, zI f r C Z N S₉ → (xB S₉ R) → (aS W S₉ = ab) → Q (.inl none) S₉) : ma_wp X d w 93 0 [(0, .inr (.inr p)), (1, .inr (.inr q))] [] S Q := by
  refine g_93_s_0 p q (by omega) (by omega) (zG_T hI) ?_
  refine ⟨fun hc => ?_, fun c1 hc => ?_⟩
  · skip
    have rn_c1 : zTa R y2 = none := hpre4.symm.trans hc
    refine ⟨fun hc => ?_, fun c2 hc => ?_⟩
    · skip
      have rn_c2 : zTa R y1 = none := hpre3.symm.trans hc
      exact K _ hI (show xB S R from by first | (exact (xC_o (W := 75) hpre0).2)) (show aS W S = ab from by first | (exact (xC_o (W := W) hpre0).1.trans hpre1))
    · skip
      have th_c2 := hq_p c2 hc
      have rg_c2 : zTa R y1 = some c2 := hpre3.symm.trans hc
      subst hc
      refine ⟨zG_n hI th_c2, ?_⟩
      refine ⟨zG_n hI th_c2, ?_⟩
      have hI1 : zI f r C Z N (ma_put S c2 6 (.inl ((mI S c2 6) - (1 : Int32)))) := zG_tf hI th_c2.1 zI_t (by decide) (by decide) trivial (by decide) (by decide) (by decide)
      exact K _ hI1 (show xB (ma_put S c2 6 (.inl ((mI S c2 6) - (1 : Int32)))) R from by first | (exact (xC_6 (k := 6) (x := ((mI S c2 6) - (1 : Int32))) (xC_o (W := 75) hpre0) xW75 th_c2.1 rfl (by decide)).2)) (show aS W (ma_put S c2 6 (.inl ((mI S c2 6) - (1 : Int32)))) = ab from by first | (exact (xC_6 (k := 6) (x := ((mI S c2 6) - (1 : Int32))) (xC_o (W := W) hpre0) hpre2 th_c2.1 rfl (by decide)).1.trans hpre1))
  · skip
    have th_c1 := hq_q c1 hc
    have rg_c1 : zTa R y2 = some c1 := hpre4.symm.trans hc
    subst hc
    refine ⟨zG_n hI th_c1, ?_⟩
    refine ⟨zG_n hI th_c1, ?_⟩
    refine ⟨fun hc => ?_, fun c3 hc => ?_⟩
    · skip
      have rn_c3 : zTa R y1 = none := hpre3.symm.trans hc
      have hI2 : zI f r C Z N (ma_put S c1 6 (.inl ((mI S c1 6) + (1 : Int32)))) := zG_tf hI th_c1.1 zI_t (by decide) (by decide) trivial (by decide) (by decide) (by decide)
      exact K _ hI2 (show xB (ma_put S c1 6 (.inl ((mI S c1 6) + (1 : Int32)))) R from by first | (exact (xC_6 (k := 6) (x := ((mI S c1 6) + (1 : Int32))) (xC_o (W := 75) hpre0) xW75 th_c1.1 rfl (by decide)).2)) (show aS W (ma_put S c1 6 (.inl ((mI S c1 6) + (1 : Int32)))) = ab from by first | (exact (xC_6 (k := 6) (x := ((mI S c1 6) + (1 : Int32))) (xC_o (W := W) hpre0) hpre2 th_c1.1 rfl (by decide)).1.trans hpre1))
    · skip
      have th_c3 := hq_p c3 hc
      have rg_c3 : zTa R y1 = some c3 := hpre3.symm.trans hc
      subst hc
      have hI3 : zI f r C Z N (ma_put S c1 6 (.inl ((mI S c1 6) + (1 : Int32)))) := zG_tf hI th_c1.1 zI_t (by decide) (by decide) trivial (by decide) (by decide) (by decide)
      refine ⟨zG_n hI3 th_c3, ?_⟩
      refine ⟨zG_n hI3 th_c3, ?_⟩
      have hI4 : zI f r C Z N (ma_put (ma_put S c1 6 (.inl ((mI S c1 6) + (1 : Int32)))) c3 6 (.inl ((mI (ma_put S c1 6 (.inl ((mI S c1 6) + (1 : Int32)))) c3 6) - (1 : Int32)))) := zG_tf hI3 th_c3.1 zI_t (by decide) (by decide) trivial (by decide) (by decide) (by decide)
      exact K _ hI4 (show xB (ma_put (ma_put S c1 6 (.inl ((mI S c1 6) + (1 : Int32)))) c3 6 (.inl ((mI (ma_put S c1 6 (.inl ((mI S c1 6) + (1 : Int32)))) c3 6) - (1 : Int32)))) R from by first | (exact (xC_6 (k := 6) (x := ((mI (ma_put S c1 6 (.inl ((mI S c1 6) + (1 : Int32)))) c3 6) - (1 : Int32))) (xC_6 (k := 6) (x := ((mI S c1 6) + (1 : Int32))) (xC_o (W := 75) hpre0) xW75 th_c1.1 rfl (by decide)) xW75 th_c3.1 rfl (by decide)).2)) (show aS W (ma_put (ma_put S c1 6 (.inl ((mI S c1 6) + (1 : Int32)))) c3 6 (.inl ((mI (ma_put S c1 6 (.inl ((mI S c1 6) + (1 : Int32)))) c3 6) - (1 : Int32)))) = ab from by first | (exact (xC_6 (k := 6) (x := ((mI (ma_put S c1 6 (.inl ((mI S c1 6) + (1 : Int32)))) c3 6) - (1 : Int32))) (xC_6 (k := 6) (x := ((mI S c1 6) + (1 : Int32))) (xC_o (W := W) hpre0) hpre2 th_c1.1 rfl (by decide)) hpre2 th_c3.1 rfl (by decide)).1.trans hpre1))

/-! from 95.g23 -/
/-! the heap by numbers, the class (written by wip/tools/gen18.py) -/
theorem g_95_69_s_0 {X : Nat × (Nat → Int32)} {d w : Nat} {S : ma_S} {Q : Option ma_V ⊕ Nat → ma_S → Prop} (t : Nat) (i : Int32) (x : Int32) (hd : 0 ≤ d) (hw : 0 ≤ w) (hS : zT S) (h : (126 ≤ t ∧ t < mN S) ∧ (if (((mI S t 4) + (1 : Int32)) + i) < 0 then (Q (.inl (some (.inl (-1 : Int32)))) S) else (if (((mI S t 4) + (1 : Int32)) + i) < (4500 : Int32) then ((0 ≤ (((mI S t 4) + (1 : Int32)) + i) ∧ (((mI S t 4) + (1 : Int32)) + i).toNatClampNeg < 4500) ∧ ((0 ≤ (((mI S t 4) + (1 : Int32)) + i) ∧ (((mI S t 4) + (1 : Int32)) + i).toNatClampNeg < 4500) ∧ (Q (.inl (some (.inl (mI S 71 (((mI S t 4) + (1 : Int32)) + i).toNatClampNeg)))) (ma_put S 71 (((mI S t 4) + (1 : Int32)) + i).toNatClampNeg (.inl x))))) else (Q (.inl (some (.inl (-1 : Int32)))) S)))) : ma_wp X d w 95 0 [(0, .inr (.inr (some 69))), (1, .inr (.inr (some t))), (2, .inl i), (3, .inl x)] [] S Q := by
  refine zw_push hm_95 dX7_changeInt_0 (v := .inr (.inr (some t))) rfl ?_
  obtain ⟨hg, h⟩ := h
  refine zw_gf hm_95 dX7_changeInt_1 (v := .inl (mI S t 4)) (zT_tis hS hg) (zT_tt hS hg) rfl f_7_61_9 rfl ?_
  refine zw_push hm_95 dX7_changeInt_4 (v := .inl (1 : Int32)) rfl ?_
  refine zw_stk hm_95 dX7_changeInt_5 (st₉ := [.inl ((mI S t 4) + (1 : Int32))]) rfl rfl ?_
  refine zw_push hm_95 dX7_changeInt_6 (v := .inl i) rfl ?_
  refine zw_stk hm_95 dX7_changeInt_7 (st₉ := [.inl (((mI S t 4) + (1 : Int32)) + i)]) rfl rfl ?_
  refine zw_sto hm_95 dX7_changeInt_8 [(4, .inl (((mI S t 4) + (1 : Int32)) + i)), (0, .inr (.inr (some 69))), (1, .inr (.inr (some t))), (2, .inl i), (3, .inl x)] rfl rfl rfl ?_
  refine zw_push hm_95 dX7_changeInt_10 (v := .inl (((mI S t 4) + (1 : Int32)) + i)) rfl ?_
  refine zw_if0 hm_95 dX7_changeInt_12 (t := 23) rfl zc0_lt ?_ ?_
  · intro hc
    rw [if_pos hc] at h
    refine zw_push hm_95 dX7_changeInt_23 (v := .inl (-1 : Int32)) rfl ?_
    exact zw_iret hm_95 dX7_changeInt_24 h
  · intro hc
    rw [if_neg hc] at h
    refine zw_push hm_95 dX7_changeInt_15 (v := .inl (((mI S t 4) + (1 : Int32)) + i)) rfl ?_
    refine zw_push hm_95 dX7_changeInt_17 (v := .inl (4500 : Int32)) rfl ?_
    refine zw_if2 hm_95 dX7_changeInt_20 (t := 25) rfl zc2_lt ?_ ?_
    · intro hc
      rw [if_pos hc] at h
      refine zw_push hm_95 dX7_changeInt_25 (v := .inr (.inr (some 69))) rfl ?_
      refine zw_gf hm_95 dX7_changeInt_26 (v := .inr (.inr (some 71))) (zT_is hS s_69) (zT_t hS s_69) rfl f_7_17_7 (zT_f hS r_69_1) ?_
      refine zw_push hm_95 dX7_changeInt_29 (v := .inl (((mI S t 4) + (1 : Int32)) + i)) rfl ?_
      obtain ⟨hg, h⟩ := h
      refine zw_ia hm_95 dX7_changeInt_31 (zT_is hS s_71) (zT_h hS s_71) rfl hg ?_
      show ma_wp X d w 95 32 [(4, .inl (((mI S t 4) + (1 : Int32)) + i)), (0, .inr (.inr (some 69))), (1, .inr (.inr (some t))), (2, .inl i), (3, .inl x)] [.inl (mI S 71 (((mI S t 4) + (1 : Int32)) + i).toNatClampNeg)] S _
      refine zw_sto hm_95 dX7_changeInt_32 [(5, .inl (mI S 71 (((mI S t 4) + (1 : Int32)) + i).toNatClampNeg)), (4, .inl (((mI S t 4) + (1 : Int32)) + i)), (0, .inr (.inr (some 69))), (1, .inr (.inr (some t))), (2, .inl i), (3, .inl x)] rfl rfl rfl ?_
      refine zw_push hm_95 dX7_changeInt_34 (v := .inr (.inr (some 69))) rfl ?_
      refine zw_gf hm_95 dX7_changeInt_35 (v := .inr (.inr (some 71))) (zT_is hS s_69) (zT_t hS s_69) rfl f_7_17_7 (zT_f hS r_69_1) ?_
      refine zw_push hm_95 dX7_changeInt_38 (v := .inl (((mI S t 4) + (1 : Int32)) + i)) rfl ?_
      refine zw_push hm_95 dX7_changeInt_40 (v := .inl x) rfl ?_
      obtain ⟨hg, h⟩ := h
      refine zw_ias hm_95 dX7_changeInt_41 (zT_is hS s_71) (zT_h hS s_71) rfl hg ?_
      refine zw_push hm_95 dX7_changeInt_42 (v := .inl (mI S 71 (((mI S t 4) + (1 : Int32)) + i).toNatClampNeg)) rfl ?_
      exact zw_iret hm_95 dX7_changeInt_44 h
    · intro hc
      rw [if_neg hc] at h
      refine zw_push hm_95 dX7_changeInt_23 (v := .inl (-1 : Int32)) rfl ?_
      exact zw_iret hm_95 dX7_changeInt_24 h
theorem sp_95_69_s {X : Nat × (Nat → Int32)} {d w : Nat} {f : Nat → Nat → Int32} {r : Nat → Nat → Option Nat} {C Z N : Nat} {Q : Option ma_V ⊕ Nat → ma_S → Prop} {ab : Nat→Nat→Int32} {R : zRT} {W : Nat} {y : Int32} {S : ma_S} (t : Nat) (i : Int32) (x : Int32) (hd : 0 ≤ d) (hw : 0 ≤ w) (hI : zI f r C Z N S) (th_t : 126 ≤ t ∧ t < N) (hpre0 : xB S R) (hpre1 : aS W S = ab) (hpre2 : xW W) (hpre3 : zTa R y = some t) (K : ∀ v S₉, zI f r C Z N S₉ → (True) → (xB S₉ R) → (aS W S₉ = aCi ab y.toNatClampNeg i x ∧ v = aWo ab y.toNatClampNeg i) → Q (.inl (some (.inl v))) S₉) : ma_wp X d w 95 0 [(0, .inr (.inr (some 69))), (1, .inr (.inr (some t))), (2, .inl i), (3, .inl x)] [] S Q := by
  refine g_95_69_s_0 t i x (by omega) (by omega) (zG_T hI) ?_
  refine ⟨zG_n hI th_t, ?_⟩
  have f1 := zG_th hI th_t
  first | have e2 : ((mI S t 4) + (1 : Int32)).toInt = (mI S t 4).toInt + (1) := i_addk rfl (by omega) (by omega) | have b3 := i_bd ((mI S t 4) + (1 : Int32))
  have b4 := i_bd i
  first | have e5 : (((mI S t 4) + (1 : Int32)) + i).toInt = ((mI S t 4) + (1 : Int32)).toInt + i.toInt := i_add (by omega) (by omega) | have b6 := i_bd (((mI S t 4) + (1 : Int32)) + i)
  have li7 : (0 : Int32).toInt = 0 := rfl
  refine zd (fun h8 => ?_) (fun h8 => ?_)
  · skip
    have g9 := i_lt h8
    have li10 : (-1 : Int32).toInt = -1 := rfl
    exact K ((-1 : Int32)) _ hI trivial (show xB S R from by first | (exact (xC_o (W := 75) hpre0).2)) (show aS W S = aCi ab y.toNatClampNeg i x ∧ (-1 : Int32) = aWo ab y.toNatClampNeg i from by first | (have ty := xB_th (W := W) hpre0 hpre3; have e4 := ty.2.2.2.2.2.1; rw [hpre1] at e4; exact ⟨hpre1.trans (if_neg (by rw [← e4]; omega)).symm, (if_neg (by rw [← e4]; omega)).symm⟩))
  · skip
    have g11 := i_nlt h8
    have li12 : (4500 : Int32).toInt = 4500 := rfl
    refine zd (fun h13 => ?_) (fun h13 => ?_)
    · skip
      have g14 := i_lt h13
      refine ⟨i_ix (by omega) (by omega), ?_⟩
      refine ⟨i_ix (by omega) (by omega), ?_⟩
      have hI15 : zI f r C Z N (ma_put S 71 (((mI S t 4) + (1 : Int32)) + i).toNatClampNeg (.inl x)) := zG_fa hI rfl (by decide) (by decide) (by decide) trivial
      have b16 := i_bd (mI S 71 (((mI S t 4) + (1 : Int32)) + i).toNatClampNeg)
      exact K ((mI S 71 (((mI S t 4) + (1 : Int32)) + i).toNatClampNeg)) _ hI15 trivial (show xB (ma_put S 71 (((mI S t 4) + (1 : Int32)) + i).toNatClampNeg (.inl x)) R from by first | (exact (xC_p (c := 71) (k := (((mI S t 4) + (1 : Int32)) + i).toNatClampNeg) (x := x) (xC_o (W := 75) hpre0) 71 xW75 rfl rfl).2)) (show aS W (ma_put S 71 (((mI S t 4) + (1 : Int32)) + i).toNatClampNeg (.inl x)) = aCi ab y.toNatClampNeg i x ∧ (mI S 71 (((mI S t 4) + (1 : Int32)) + i).toNatClampNeg) = aWo ab y.toNatClampNeg i from by first | (have ty := xB_th (W := W) hpre0 hpre3; have e4 := ty.2.2.2.2.2.1; rw [hpre1] at e4; refine ⟨(xC_p (c := 71) (k := (((mI S t 4) + (1 : Int32)) + i).toNatClampNeg) (x := x) (xC_o (W := W) hpre0) 71 hpre2 rfl (zcw_s (by decide))).1.trans ?_, ?_⟩; (rw [hpre1, e4]; exact (if_pos ⟨by rw [← e4]; omega, by rw [← e4]; omega⟩).symm); (refine Eq.trans ?_ (if_pos ⟨by rw [← e4]; omega, by rw [← e4]; omega⟩).symm; rw [← hpre1, (aS_I (W := W) (S := S) (c := 71) (c₉ := 71)  rfl (zcw_s (by decide))), hpre1, ← e4])))
    · skip
      have g17 := i_nlt h13
      have li18 : (-1 : Int32).toInt = -1 := rfl
      exact K ((-1 : Int32)) _ hI trivial (show xB S R from by first | (exact (xC_o (W := 75) hpre0).2)) (show aS W S = aCi ab y.toNatClampNeg i x ∧ (-1 : Int32) = aWo ab y.toNatClampNeg i from by first | (have ty := xB_th (W := W) hpre0 hpre3; have e4 := ty.2.2.2.2.2.1; rw [hpre1] at e4; exact ⟨hpre1.trans (if_neg (by rw [← e4]; omega)).symm, (if_neg (by rw [← e4]; omega)).symm⟩))
theorem g_96_69_s_0 {X : Nat × (Nat → Int32)} {d w : Nat} {S : ma_S} {Q : Option ma_V ⊕ Nat → ma_S → Prop} (t : Nat) (i : Int32) (hd : 0 ≤ d) (hw : 0 ≤ w) (hS : zT S) (h : (126 ≤ t ∧ t < mN S) ∧ (if (((mI S t 4) + (1 : Int32)) + i) < 0 then (Q (.inl (some (.inl (-1 : Int32)))) S) else (if (4500 : Int32) ≤ (((mI S t 4) + (1 : Int32)) + i) then (Q (.inl (some (.inl (-1 : Int32)))) S) else ((0 ≤ (((mI S t 4) + (1 : Int32)) + i) ∧ (((mI S t 4) + (1 : Int32)) + i).toNatClampNeg < 4500) ∧ (Q (.inl (some (.inl (mI S 71 (((mI S t 4) + (1 : Int32)) + i).toNatClampNeg)))) S))))) : ma_wp X d w 96 0 [(0, .inr (.inr (some 69))), (1, .inr (.inr (some t))), (2, .inl i)] [] S Q := by
  refine zw_push hm_96 dX7_wordOf_0 (v := .inr (.inr (some t))) rfl ?_
  obtain ⟨hg, h⟩ := h
  refine zw_gf hm_96 dX7_wordOf_1 (v := .inl (mI S t 4)) (zT_tis hS hg) (zT_tt hS hg) rfl f_7_61_9 rfl ?_
  refine zw_push hm_96 dX7_wordOf_4 (v := .inl (1 : Int32)) rfl ?_
  refine zw_stk hm_96 dX7_wordOf_5 (st₉ := [.inl ((mI S t 4) + (1 : Int32))]) rfl rfl ?_
  refine zw_push hm_96 dX7_wordOf_6 (v := .inl i) rfl ?_
  refine zw_stk hm_96 dX7_wordOf_7 (st₉ := [.inl (((mI S t 4) + (1 : Int32)) + i)]) rfl rfl ?_
  refine zw_sto hm_96 dX7_wordOf_8 [(3, .inl (((mI S t 4) + (1 : Int32)) + i)), (0, .inr (.inr (some 69))), (1, .inr (.inr (some t))), (2, .inl i)] rfl rfl rfl ?_
  refine zw_push hm_96 dX7_wordOf_9 (v := .inl (((mI S t 4) + (1 : Int32)) + i)) rfl ?_
  refine zw_if0 hm_96 dX7_wordOf_10 (t := 29) rfl zc0_lt ?_ ?_
  · intro hc
    rw [if_pos hc] at h
    refine zw_push hm_96 dX7_wordOf_29 (v := .inl (-1 : Int32)) rfl ?_
    exact zw_iret hm_96 dX7_wordOf_30 h
  · intro hc
    rw [if_neg hc] at h
    refine zw_push hm_96 dX7_wordOf_13 (v := .inl (((mI S t 4) + (1 : Int32)) + i)) rfl ?_
    refine zw_push hm_96 dX7_wordOf_14 (v := .inl (4500 : Int32)) rfl ?_
    refine zw_if2 hm_96 dX7_wordOf_17 (t := 29) rfl zc2_ge ?_ ?_
    · intro hc
      rw [if_pos hc] at h
      refine zw_push hm_96 dX7_wordOf_29 (v := .inl (-1 : Int32)) rfl ?_
      exact zw_iret hm_96 dX7_wordOf_30 h
    · intro hc
      rw [if_neg hc] at h
      refine zw_push hm_96 dX7_wordOf_20 (v := .inr (.inr (some 69))) rfl ?_
      refine zw_gf hm_96 dX7_wordOf_21 (v := .inr (.inr (some 71))) (zT_is hS s_69) (zT_t hS s_69) rfl f_7_17_7 (zT_f hS r_69_1) ?_
      refine zw_push hm_96 dX7_wordOf_24 (v := .inl (((mI S t 4) + (1 : Int32)) + i)) rfl ?_
      obtain ⟨hg, h⟩ := h
      refine zw_ia hm_96 dX7_wordOf_25 (zT_is hS s_71) (zT_h hS s_71) rfl hg ?_
      show ma_wp X d w 96 26 [(3, .inl (((mI S t 4) + (1 : Int32)) + i)), (0, .inr (.inr (some 69))), (1, .inr (.inr (some t))), (2, .inl i)] [.inl (mI S 71 (((mI S t 4) + (1 : Int32)) + i).toNatClampNeg)] S _
      refine zw_goto hm_96 dX7_wordOf_26 (t := 30) rfl ?_
      exact zw_iret hm_96 dX7_wordOf_30 h
theorem sp_96_69_s {X : Nat × (Nat → Int32)} {d w : Nat} {f : Nat → Nat → Int32} {r : Nat → Nat → Option Nat} {C Z N : Nat} {Q : Option ma_V ⊕ Nat → ma_S → Prop} {ab : Nat→Nat→Int32} {R : zRT} {W : Nat} {y : Int32} {S : ma_S} (t : Nat) (i : Int32) (hd : 0 ≤ d) (hw : 0 ≤ w) (hI : zI f r C Z N S) (th_t : 126 ≤ t ∧ t < N) (hpre0 : xB S R) (hpre1 : aS W S = ab) (hpre2 : xW W) (hpre3 : zTa R y = some t) (K : ∀ v S₉, zI f r C Z N S₉ → (True) → (xB S₉ R) → (aS W S₉ = ab) → (v = aWo ab y.toNatClampNeg i) → Q (.inl (some (.inl v))) S₉) : ma_wp X d w 96 0 [(0, .inr (.inr (some 69))), (1, .inr (.inr (some t))), (2, .inl i)] [] S Q := by
  refine g_96_69_s_0 t i (by omega) (by omega) (zG_T hI) ?_
  refine ⟨zG_n hI th_t, ?_⟩
  have f1 := zG_th hI th_t
  first | have e2 : ((mI S t 4) + (1 : Int32)).toInt = (mI S t 4).toInt + (1) := i_addk rfl (by omega) (by omega) | have b3 := i_bd ((mI S t 4) + (1 : Int32))
  have b4 := i_bd i
  first | have e5 : (((mI S t 4) + (1 : Int32)) + i).toInt = ((mI S t 4) + (1 : Int32)).toInt + i.toInt := i_add (by omega) (by omega) | have b6 := i_bd (((mI S t 4) + (1 : Int32)) + i)
  have li7 : (0 : Int32).toInt = 0 := rfl
  refine zd (fun h8 => ?_) (fun h8 => ?_)
  · skip
    have g9 := i_lt h8
    have li10 : (-1 : Int32).toInt = -1 := rfl
    exact K ((-1 : Int32)) _ hI trivial (show xB S R from by first | (exact (xC_o (W := 75) hpre0).2)) (show aS W S = ab from by first | (exact (xC_o (W := W) hpre0).1.trans hpre1)) (show (-1 : Int32) = aWo ab y.toNatClampNeg i from by first | (have ty := xB_th (W := W) hpre0 hpre3; have e4 := ty.2.2.2.2.2.1; rw [hpre1] at e4; exact (if_neg (by rw [← e4]; omega)).symm))
  · skip
    have g11 := i_nlt h8
    have li12 : (4500 : Int32).toInt = 4500 := rfl
    refine zd (fun h13 => ?_) (fun h13 => ?_)
    · skip
      have g14 := i_le h13
      have li15 : (-1 : Int32).toInt = -1 := rfl
      exact K ((-1 : Int32)) _ hI trivial (show xB S R from by first | (exact (xC_o (W := 75) hpre0).2)) (show aS W S = ab from by first | (exact (xC_o (W := W) hpre0).1.trans hpre1)) (show (-1 : Int32) = aWo ab y.toNatClampNeg i from by first | (have ty := xB_th (W := W) hpre0 hpre3; have e4 := ty.2.2.2.2.2.1; rw [hpre1] at e4; exact (if_neg (by rw [← e4]; omega)).symm))
    · skip
      have g16 := i_nle h13
      refine ⟨i_ix (by omega) (by omega), ?_⟩
      have b17 := i_bd (mI S 71 (((mI S t 4) + (1 : Int32)) + i).toNatClampNeg)
      exact K ((mI S 71 (((mI S t 4) + (1 : Int32)) + i).toNatClampNeg)) _ hI trivial (show xB S R from by first | (exact (xC_o (W := 75) hpre0).2)) (show aS W S = ab from by first | (exact (xC_o (W := W) hpre0).1.trans hpre1)) (show (mI S 71 (((mI S t 4) + (1 : Int32)) + i).toNatClampNeg) = aWo ab y.toNatClampNeg i from by first | (have ty := xB_th (W := W) hpre0 hpre3; have e4 := ty.2.2.2.2.2.1; rw [hpre1] at e4; refine Eq.trans ?_ (if_pos ⟨by rw [← e4]; omega, by rw [← e4]; omega⟩).symm; rw [← hpre1, (aS_I (W := W) (S := S) (c := 71) (c₉ := 71)  rfl (zcw_s (by decide))), hpre1, ← e4]))
theorem g_97_69_s_0 {X : Nat × (Nat → Int32)} {d w : Nat} {S : ma_S} {Q : Option ma_V ⊕ Nat → ma_S → Prop} (t : Nat) (x : Int32) (hd : 0 ≤ d) (hw : 0 ≤ w) (hS : zT S) (h : (126 ≤ t ∧ t < mN S) ∧ ((126 ≤ t ∧ t < mN S) ∧ ((126 ≤ t ∧ t < mN (ma_put S t 7 (.inl ((mI S t 7) + x)))) ∧ ((126 ≤ t ∧ t < mN (ma_put S t 7 (.inl ((mI S t 7) + x)))) ∧ (Q (.inl none) (ma_put (ma_put S t 7 (.inl ((mI S t 7) + x))) t 6 (.inl ((mI (ma_put S t 7 (.inl ((mI S t 7) + x))) t 6) + x)))))))) : ma_wp X d w 97 0 [(0, .inr (.inr (some 69))), (1, .inr (.inr (some t))), (2, .inl x)] [] S Q := by
  refine zw_push hm_97 dX7_changeHolds_0 (v := .inr (.inr (some t))) rfl ?_
  refine zw_stk hm_97 dX7_changeHolds_1 (st₉ := [.inr (.inr (some t)), .inr (.inr (some t))]) rfl rfl ?_
  obtain ⟨hg, h⟩ := h
  refine zw_gf hm_97 dX7_changeHolds_2 (v := .inl (mI S t 7)) (zT_tis hS hg) (zT_tt hS hg) rfl f_7_101_9 rfl ?_
  refine zw_push hm_97 dX7_changeHolds_5 (v := .inl x) rfl ?_
  refine zw_stk hm_97 dX7_changeHolds_6 (st₉ := [.inl ((mI S t 7) + x), .inr (.inr (some t))]) rfl rfl ?_
  obtain ⟨hg, h⟩ := h
  refine zw_pf hm_97 dX7_changeHolds_7 (zT_tis hS hg) (zT_tt hS hg) p_7_101_9 zk_int ?_
  refine zw_push hm_97 dX7_changeHolds_10 (v := .inr (.inr (some t))) rfl ?_
  refine zw_stk hm_97 dX7_changeHolds_11 (st₉ := [.inr (.inr (some t)), .inr (.inr (some t))]) rfl rfl ?_
  obtain ⟨hg, h⟩ := h
  refine zw_gf hm_97 dX7_changeHolds_12 (v := .inl (mI (ma_put S t 7 (.inl ((mI S t 7) + x))) t 6)) (zT_tis (zT_pi hS) hg) (zT_tt (zT_pi hS) hg) rfl f_7_98_9 rfl ?_
  refine zw_push hm_97 dX7_changeHolds_15 (v := .inl x) rfl ?_
  refine zw_stk hm_97 dX7_changeHolds_16 (st₉ := [.inl ((mI (ma_put S t 7 (.inl ((mI S t 7) + x))) t 6) + x), .inr (.inr (some t))]) rfl rfl ?_
  obtain ⟨hg, h⟩ := h
  refine zw_pf hm_97 dX7_changeHolds_17 (zT_tis (zT_pi hS) hg) (zT_tt (zT_pi hS) hg) p_7_98_9 zk_int ?_
  exact zw_vret hm_97 dX7_changeHolds_20 h
theorem sp_97_69_s {X : Nat × (Nat → Int32)} {d w : Nat} {f : Nat → Nat → Int32} {r : Nat → Nat → Option Nat} {C Z N : Nat} {Q : Option ma_V ⊕ Nat → ma_S → Prop} {ab : Nat→Nat→Int32} {R : zRT} {W : Nat} {y : Int32} {S : ma_S} (t : Nat) (x : Int32) (hd : 0 ≤ d) (hw : 0 ≤ w) (hI : zI f r C Z N S) (th_t : 126 ≤ t ∧ t < N) (hpre0 : xB S R) (hpre1 : aS W S = ab) (hpre2 : xW W) (hpre3 : zTa R y = some t) (K : ∀ S₉, zI f r C Z N S₉ → (xB S₉ R) → (aS W S₉ = ma_u ab 133 y.toNatClampNeg (ab 133 y.toNatClampNeg + x)) → Q (.inl none) S₉) : ma_wp X d w 97 0 [(0, .inr (.inr (some 69))), (1, .inr (.inr (some t))), (2, .inl x)] [] S Q := by
  refine g_97_69_s_0 t x (by omega) (by omega) (zG_T hI) ?_
  refine ⟨zG_n hI th_t, ?_⟩
  refine ⟨zG_n hI th_t, ?_⟩
  have hI1 : zI f r C Z N (ma_put S t 7 (.inl ((mI S t 7) + x))) := zG_tf hI th_t.1 zI_t (by decide) (by decide) trivial (by decide) (by decide) (by decide)
  refine ⟨zG_n hI1 th_t, ?_⟩
  refine ⟨zG_n hI1 th_t, ?_⟩
  have hI2 : zI f r C Z N (ma_put (ma_put S t 7 (.inl ((mI S t 7) + x))) t 6 (.inl ((mI (ma_put S t 7 (.inl ((mI S t 7) + x))) t 6) + x))) := zG_tf hI1 th_t.1 zI_t (by decide) (by decide) trivial (by decide) (by decide) (by decide)
  exact K _ hI2 (show xB (ma_put (ma_put S t 7 (.inl ((mI S t 7) + x))) t 6 (.inl ((mI (ma_put S t 7 (.inl ((mI S t 7) + x))) t 6) + x))) R from by first | (exact (xC_6 (k := 6) (x := ((mI (ma_put S t 7 (.inl ((mI S t 7) + x))) t 6) + x)) (xC_t (k := 7) (x := ((mI S t 7) + x)) (xC_o (W := 75) hpre0) xW75 hpre3 rfl) xW75 th_t.1 rfl (by decide)).2)) (show aS W (ma_put (ma_put S t 7 (.inl ((mI S t 7) + x))) t 6 (.inl ((mI (ma_put S t 7 (.inl ((mI S t 7) + x))) t 6) + x))) = ma_u ab 133 y.toNatClampNeg (ab 133 y.toNatClampNeg + x) from by first | (have ty := xB_th (W := W) hpre0 hpre3; have e7 := ty.2.2.2.2.2.2.1; rw [hpre1] at e7; refine (xC_6 (k := 6) (x := ((mI (ma_put S t 7 (.inl ((mI S t 7) + x))) t 6) + x)) (xC_t (k := 7) (x := ((mI S t 7) + x)) (xC_o (W := W) hpre0) hpre2 hpre3 rfl) hpre2 th_t.1 rfl (by decide)).1.trans ?_; (try simp only [zp_i (c := 69) (c₉ := t) (k₉ := 6) th_t.1 (by decide), zp_i (c := 71) (c₉ := t) (k₉ := 6) th_t.1 (by decide), zp_i (c := 72) (c₉ := t) (k₉ := 6) th_t.1 (by decide), zp_i (c := 73) (c₉ := t) (k₉ := 6) th_t.1 (by decide), zp_i (c := 74) (c₉ := t) (k₉ := 6) th_t.1 (by decide), zp_i (c := 75) (c₉ := t) (k₉ := 6) th_t.1 (by decide), zp_i (c := 76) (c₉ := t) (k₉ := 6) th_t.1 (by decide), zp_i (c := 77) (c₉ := t) (k₉ := 6) th_t.1 (by decide), zp_i (c := 87) (c₉ := t) (k₉ := 6) th_t.1 (by decide), zp_i (c := 88) (c₉ := t) (k₉ := 6) th_t.1 (by decide), zp_i (c := 89) (c₉ := t) (k₉ := 6) th_t.1 (by decide), zp_i (c := 90) (c₉ := t) (k₉ := 6) th_t.1 (by decide), zp_f (k := 0) (c₉ := t) (k₉ := 6) (by decide), zp_f (k := 1) (c₉ := t) (k₉ := 6) (by decide), zp_f (k := 2) (c₉ := t) (k₉ := 6) (by decide), zp_f (k := 4) (c₉ := t) (k₉ := 6) (by decide), zp_f (k := 7) (c₉ := t) (k₉ := 6) (by decide), zp_f (k := 8) (c₉ := t) (k₉ := 6) (by decide), zp_i (c := 69) (c₉ := t) (k₉ := 7) th_t.1 (by decide), zp_i (c := 71) (c₉ := t) (k₉ := 7) th_t.1 (by decide), zp_i (c := 72) (c₉ := t) (k₉ := 7) th_t.1 (by decide), zp_i (c := 73) (c₉ := t) (k₉ := 7) th_t.1 (by decide), zp_i (c := 74) (c₉ := t) (k₉ := 7) th_t.1 (by decide), zp_i (c := 75) (c₉ := t) (k₉ := 7) th_t.1 (by decide), zp_i (c := 76) (c₉ := t) (k₉ := 7) th_t.1 (by decide), zp_i (c := 77) (c₉ := t) (k₉ := 7) th_t.1 (by decide), zp_i (c := 87) (c₉ := t) (k₉ := 7) th_t.1 (by decide), zp_i (c := 88) (c₉ := t) (k₉ := 7) th_t.1 (by decide), zp_i (c := 89) (c₉ := t) (k₉ := 7) th_t.1 (by decide), zp_i (c := 90) (c₉ := t) (k₉ := 7) th_t.1 (by decide), zp_f (k := 0) (c₉ := t) (k₉ := 7) (by decide), zp_f (k := 1) (c₉ := t) (k₉ := 7) (by decide), zp_f (k := 2) (c₉ := t) (k₉ := 7) (by decide), zp_f (k := 4) (c₉ := t) (k₉ := 7) (by decide), zp_f (k := 8) (c₉ := t) (k₉ := 7) (by decide)]); rw [hpre1, e7]))

/-! from 95.g24 -/
/-! the heap by numbers, the class (written by wip/tools/gen18.py) -/
theorem g_92_69_s_0 {X : Nat × (Nat → Int32)} {d w : Nat} {S : ma_S} {Q : Option ma_V ⊕ Nat → ma_S → Prop} (i : Int32) (x : Option Nat) (hd : 1 ≤ d) (hw : 21 ≤ w) (hS : zT S) (h : if i < 0 then (Q (.inl (some (.inr (.inr none)))) S) else (if i < (16 : Int32) then ((0 ≤ i ∧ i.toNatClampNeg < 16) ∧ (if (mI S 72 i.toNatClampNeg) < 0 then ((x = none → (0 ≤ i ∧ i.toNatClampNeg < 16) ∧ (ma_wp X (d - 1) (w - 21) 93 0 [(0, .inr (.inr none)), (1, .inr (.inr none))] [] (ma_put S 72 i.toNatClampNeg (.inl (-1 : Int32))) (zv (fun S2 => zT S2 ∧ (Q (.inl (some (.inr (.inr none)))) S2)) (fun _ _ => False)))) ∧ (∀ c1, x = some c1 → (126 ≤ c1 ∧ c1 < mN S) ∧ ((0 ≤ i ∧ i.toNatClampNeg < 16) ∧ (ma_wp X (d - 1) (w - 21) 93 0 [(0, .inr (.inr none)), (1, .inr (.inr (some c1)))] [] (ma_put S 72 i.toNatClampNeg (.inl (mI S c1 0))) (zv (fun S4 => zT S4 ∧ (Q (.inl (some (.inr (.inr none)))) S4)) (fun _ _ => False)))))) else (if (512 : Int32) ≤ (mI S 72 i.toNatClampNeg) then ((x = none → (0 ≤ i ∧ i.toNatClampNeg < 16) ∧ (ma_wp X (d - 1) (w - 21) 93 0 [(0, .inr (.inr none)), (1, .inr (.inr none))] [] (ma_put S 72 i.toNatClampNeg (.inl (-1 : Int32))) (zv (fun S7 => zT S7 ∧ (Q (.inl (some (.inr (.inr none)))) S7)) (fun _ _ => False)))) ∧ (∀ c6, x = some c6 → (126 ≤ c6 ∧ c6 < mN S) ∧ ((0 ≤ i ∧ i.toNatClampNeg < 16) ∧ (ma_wp X (d - 1) (w - 21) 93 0 [(0, .inr (.inr none)), (1, .inr (.inr (some c6)))] [] (ma_put S 72 i.toNatClampNeg (.inl (mI S c6 0))) (zv (fun S9 => zT S9 ∧ (Q (.inl (some (.inr (.inr none)))) S9)) (fun _ _ => False)))))) else ((0 ≤ (mI S 72 i.toNatClampNeg) ∧ (mI S 72 i.toNatClampNeg).toNatClampNeg < 512) ∧ ((x = none → (0 ≤ i ∧ i.toNatClampNeg < 16) ∧ (ma_wp X (d - 1) (w - 21) 93 0 [(0, .inr (.inr (mR S 70 (mI S 72 i.toNatClampNeg).toNatClampNeg))), (1, .inr (.inr none))] [] (ma_put S 72 i.toNatClampNeg (.inl (-1 : Int32))) (zv (fun S12 => zT S12 ∧ (Q (.inl (some (.inr (.inr (mR S 70 (mI S 72 i.toNatClampNeg).toNatClampNeg))))) S12)) (fun _ _ => False)))) ∧ (∀ c11, x = some c11 → (126 ≤ c11 ∧ c11 < mN S) ∧ ((0 ≤ i ∧ i.toNatClampNeg < 16) ∧ (ma_wp X (d - 1) (w - 21) 93 0 [(0, .inr (.inr (mR S 70 (mI S 72 i.toNatClampNeg).toNatClampNeg))), (1, .inr (.inr (some c11)))] [] (ma_put S 72 i.toNatClampNeg (.inl (mI S c11 0))) (zv (fun S14 => zT S14 ∧ (Q (.inl (some (.inr (.inr (mR S 70 (mI S 72 i.toNatClampNeg).toNatClampNeg))))) S14)) (fun _ _ => False)))))))))) else (Q (.inl (some (.inr (.inr none)))) S))) : ma_wp X d w 92 0 [(0, .inr (.inr (some 69))), (1, .inl i), (2, .inr (.inr x))] [] S Q := by
  refine zw_push hm_92 dX7_changeRoot_0 (v := .inl i) rfl ?_
  refine zw_if0 hm_92 dX7_changeRoot_1 (t := 10) rfl zc0_lt ?_ ?_
  · intro hc
    rw [if_pos hc] at h
    refine zw_push hm_92 dX7_changeRoot_10 (v := .inr (.inr none)) rfl ?_
    exact zw_aret hm_92 dX7_changeRoot_11 h
  · intro hc
    rw [if_neg hc] at h
    refine zw_push hm_92 dX7_changeRoot_4 (v := .inl i) rfl ?_
    refine zw_push hm_92 dX7_changeRoot_5 (v := .inl (16 : Int32)) rfl ?_
    refine zw_if2 hm_92 dX7_changeRoot_7 (t := 12) rfl zc2_lt ?_ ?_
    · intro hc
      rw [if_pos hc] at h
      refine zw_push hm_92 dX7_changeRoot_12 (v := .inr (.inr (some 69))) rfl ?_
      refine zw_push hm_92 dX7_changeRoot_13 (v := .inr (.inr (some 69))) rfl ?_
      refine zw_gf hm_92 dX7_changeRoot_14 (v := .inr (.inr (some 72))) (zT_is hS s_69) (zT_t hS s_69) rfl f_7_21_7 (zT_f hS r_69_2) ?_
      refine zw_push hm_92 dX7_changeRoot_17 (v := .inl i) rfl ?_
      obtain ⟨hg, h⟩ := h
      refine zw_ia hm_92 dX7_changeRoot_18 (zT_is hS s_72) (zT_h hS s_72) rfl hg ?_
      show ma_wp X d w 92 19 [(0, .inr (.inr (some 69))), (1, .inl i), (2, .inr (.inr x))] [.inl (mI S 72 i.toNatClampNeg), .inr (.inr (some 69))] S _
      refine zw_cv hm_92 dX7_changeRoot_19 v_7_94_7 hm_81 [.inl (mI S 72 i.toNatClampNeg)] [] rfl (zT_rt hS s_69 rfl) ⟨by omega, by omega⟩ rfl ?_
      show ma_wp X (d - 1) (w - 21) 81 0 [(0, .inr (.inr (some 69))), (1, .inl (mI S 72 i.toNatClampNeg))] [] S _
      refine zw_push hm_81 dX7_thingAt_0 (v := .inl (mI S 72 i.toNatClampNeg)) rfl ?_
      refine zw_if0 hm_81 dX7_thingAt_1 (t := 20) rfl zc0_lt ?_ ?_
      · intro hc
        rw [if_pos hc] at h
        refine zw_push hm_81 dX7_thingAt_20 (v := .inr (.inr none)) rfl ?_
        refine zw_aret hm_81 dX7_thingAt_21 ?_
        show ma_wp X d w 92 22 [(0, .inr (.inr (some 69))), (1, .inl i), (2, .inr (.inr x))] [.inr (.inr none)] S _
        refine zw_sto hm_92 dX7_changeRoot_22 [(3, .inr (.inr none)), (0, .inr (.inr (some 69))), (1, .inl i), (2, .inr (.inr x))] rfl rfl rfl ?_
        refine zw_push hm_92 dX7_changeRoot_23 (v := .inr (.inr (some 69))) rfl ?_
        refine zw_gf hm_92 dX7_changeRoot_24 (v := .inr (.inr (some 72))) (zT_is hS s_69) (zT_t hS s_69) rfl f_7_21_7 (zT_f hS r_69_2) ?_
        refine zw_push hm_92 dX7_changeRoot_27 (v := .inl i) rfl ?_
        refine zw_push hm_92 dX7_changeRoot_28 (v := .inr (.inr x)) rfl ?_
        refine zw_cs hm_92 dX7_changeRoot_29 pn_7_82 sl_7_82 hm_146 [.inr (.inr x)] [.inl i, .inr (.inr (some 72))] rfl ⟨by omega, by omega⟩ rfl ?_
        show ma_wp X (d - 1) (w - 20) 146 0 [(0, .inr (.inr x))] [] S _
        refine zw_push hm_146 dX11_numberOf_0 (v := .inr (.inr x)) rfl ?_
        refine zw_ifnonnull hm_146 dX11_numberOf_1 (t := 8) rfl ?_ ?_
        · intro hc
          have h := h.1 hc
          (try rw [hc])
          show ma_wp X (d - 1) (w - 20) 146 4 [(0, .inr (.inr none))] [] S _
          refine zw_push hm_146 dX11_numberOf_4 (v := .inl (-1 : Int32)) rfl ?_
          refine zw_goto hm_146 dX11_numberOf_5 (t := 12) rfl ?_
          refine zw_iret hm_146 dX11_numberOf_12 ?_
          show ma_wp X d w 92 32 [(3, .inr (.inr none)), (0, .inr (.inr (some 69))), (1, .inl i), (2, .inr (.inr none))] [.inl (-1 : Int32), .inl i, .inr (.inr (some 72))] S _
          obtain ⟨hg, h⟩ := h
          refine zw_ias hm_92 dX7_changeRoot_32 (zT_is hS s_72) (zT_h hS s_72) rfl hg ?_
          refine zw_push hm_92 dX7_changeRoot_33 (v := .inr (.inr none)) rfl ?_
          refine zw_push hm_92 dX7_changeRoot_34 (v := .inr (.inr none)) rfl ?_
          refine zw_cs hm_92 dX7_changeRoot_35 pn_7_90 sl_7_90 hm_93 [.inr (.inr none), .inr (.inr none)] [] rfl ⟨by omega, by omega⟩ rfl (zw_mono h (zv_go ?_ ?_))
          · intro S2 hv
            obtain ⟨hS2, h⟩ := hv
            refine zw_push hm_92 dX7_changeRoot_38 (v := .inr (.inr none)) rfl ?_
            exact zw_aret hm_92 dX7_changeRoot_39 h
          · intro x S9 hx
            exact hx.elim
        · intro c1 hc
          have h := h.2 c1 hc
          (try rw [hc])
          show ma_wp X (d - 1) (w - 20) 146 8 [(0, .inr (.inr (some c1)))] [] S _
          refine zw_push hm_146 dX11_numberOf_8 (v := .inr (.inr (some c1))) rfl ?_
          obtain ⟨hg, h⟩ := h
          refine zw_gf hm_146 dX11_numberOf_9 (v := .inl (mI S c1 0)) (zT_tis hS hg) (zT_tt hS hg) rfl f_11_182_9 rfl ?_
          refine zw_iret hm_146 dX11_numberOf_12 ?_
          show ma_wp X d w 92 32 [(3, .inr (.inr none)), (0, .inr (.inr (some 69))), (1, .inl i), (2, .inr (.inr (some c1)))] [.inl (mI S c1 0), .inl i, .inr (.inr (some 72))] S _
          obtain ⟨hg, h⟩ := h
          refine zw_ias hm_92 dX7_changeRoot_32 (zT_is hS s_72) (zT_h hS s_72) rfl hg ?_
          refine zw_push hm_92 dX7_changeRoot_33 (v := .inr (.inr none)) rfl ?_
          refine zw_push hm_92 dX7_changeRoot_34 (v := .inr (.inr (some c1))) rfl ?_
          refine zw_cs hm_92 dX7_changeRoot_35 pn_7_90 sl_7_90 hm_93 [.inr (.inr (some c1)), .inr (.inr none)] [] rfl ⟨by omega, by omega⟩ rfl (zw_mono h (zv_go ?_ ?_))
          · intro S4 hv
            obtain ⟨hS4, h⟩ := hv
            refine zw_push hm_92 dX7_changeRoot_38 (v := .inr (.inr none)) rfl ?_
            exact zw_aret hm_92 dX7_changeRoot_39 h
          · intro x S9 hx
            exact hx.elim
      · intro hc
        rw [if_neg hc] at h
        refine zw_push hm_81 dX7_thingAt_4 (v := .inl (mI S 72 i.toNatClampNeg)) rfl ?_
        refine zw_push hm_81 dX7_thingAt_5 (v := .inl (512 : Int32)) rfl ?_
        refine zw_if2 hm_81 dX7_thingAt_8 (t := 20) rfl zc2_ge ?_ ?_
        · intro hc
          rw [if_pos hc] at h
          refine zw_push hm_81 dX7_thingAt_20 (v := .inr (.inr none)) rfl ?_
          refine zw_aret hm_81 dX7_thingAt_21 ?_
          show ma_wp X d w 92 22 [(0, .inr (.inr (some 69))), (1, .inl i), (2, .inr (.inr x))] [.inr (.inr none)] S _
          refine zw_sto hm_92 dX7_changeRoot_22 [(3, .inr (.inr none)), (0, .inr (.inr (some 69))), (1, .inl i), (2, .inr (.inr x))] rfl rfl rfl ?_
          refine zw_push hm_92 dX7_changeRoot_23 (v := .inr (.inr (some 69))) rfl ?_
          refine zw_gf hm_92 dX7_changeRoot_24 (v := .inr (.inr (some 72))) (zT_is hS s_69) (zT_t hS s_69) rfl f_7_21_7 (zT_f hS r_69_2) ?_
          refine zw_push hm_92 dX7_changeRoot_27 (v := .inl i) rfl ?_
          refine zw_push hm_92 dX7_changeRoot_28 (v := .inr (.inr x)) rfl ?_
          refine zw_cs hm_92 dX7_changeRoot_29 pn_7_82 sl_7_82 hm_146 [.inr (.inr x)] [.inl i, .inr (.inr (some 72))] rfl ⟨by omega, by omega⟩ rfl ?_
          show ma_wp X (d - 1) (w - 20) 146 0 [(0, .inr (.inr x))] [] S _
          refine zw_push hm_146 dX11_numberOf_0 (v := .inr (.inr x)) rfl ?_
          refine zw_ifnonnull hm_146 dX11_numberOf_1 (t := 8) rfl ?_ ?_
          · intro hc
            have h := h.1 hc
            (try rw [hc])
            show ma_wp X (d - 1) (w - 20) 146 4 [(0, .inr (.inr none))] [] S _
            refine zw_push hm_146 dX11_numberOf_4 (v := .inl (-1 : Int32)) rfl ?_
            refine zw_goto hm_146 dX11_numberOf_5 (t := 12) rfl ?_
            refine zw_iret hm_146 dX11_numberOf_12 ?_
            show ma_wp X d w 92 32 [(3, .inr (.inr none)), (0, .inr (.inr (some 69))), (1, .inl i), (2, .inr (.inr none))] [.inl (-1 : Int32), .inl i, .inr (.inr (some 72))] S _
            obtain ⟨hg, h⟩ := h
            refine zw_ias hm_92 dX7_changeRoot_32 (zT_is hS s_72) (zT_h hS s_72) rfl hg ?_
            refine zw_push hm_92 dX7_changeRoot_33 (v := .inr (.inr none)) rfl ?_
            refine zw_push hm_92 dX7_changeRoot_34 (v := .inr (.inr none)) rfl ?_
            refine zw_cs hm_92 dX7_changeRoot_35 pn_7_90 sl_7_90 hm_93 [.inr (.inr none), .inr (.inr none)] [] rfl ⟨by omega, by omega⟩ rfl (zw_mono h (zv_go ?_ ?_))
            · intro S7 hv
              obtain ⟨hS7, h⟩ := hv
              refine zw_push hm_92 dX7_changeRoot_38 (v := .inr (.inr none)) rfl ?_
              exact zw_aret hm_92 dX7_changeRoot_39 h
            · intro x S9 hx
              exact hx.elim
          · intro c6 hc
            have h := h.2 c6 hc
            (try rw [hc])
            show ma_wp X (d - 1) (w - 20) 146 8 [(0, .inr (.inr (some c6)))] [] S _
            refine zw_push hm_146 dX11_numberOf_8 (v := .inr (.inr (some c6))) rfl ?_
            obtain ⟨hg, h⟩ := h
            refine zw_gf hm_146 dX11_numberOf_9 (v := .inl (mI S c6 0)) (zT_tis hS hg) (zT_tt hS hg) rfl f_11_182_9 rfl ?_
            refine zw_iret hm_146 dX11_numberOf_12 ?_
            show ma_wp X d w 92 32 [(3, .inr (.inr none)), (0, .inr (.inr (some 69))), (1, .inl i), (2, .inr (.inr (some c6)))] [.inl (mI S c6 0), .inl i, .inr (.inr (some 72))] S _
            obtain ⟨hg, h⟩ := h
            refine zw_ias hm_92 dX7_changeRoot_32 (zT_is hS s_72) (zT_h hS s_72) rfl hg ?_
            refine zw_push hm_92 dX7_changeRoot_33 (v := .inr (.inr none)) rfl ?_
            refine zw_push hm_92 dX7_changeRoot_34 (v := .inr (.inr (some c6))) rfl ?_
            refine zw_cs hm_92 dX7_changeRoot_35 pn_7_90 sl_7_90 hm_93 [.inr (.inr (some c6)), .inr (.inr none)] [] rfl ⟨by omega, by omega⟩ rfl (zw_mono h (zv_go ?_ ?_))
            · intro S9 hv
              obtain ⟨hS9, h⟩ := hv
              refine zw_push hm_92 dX7_changeRoot_38 (v := .inr (.inr none)) rfl ?_
              exact zw_aret hm_92 dX7_changeRoot_39 h
            · intro x S9 hx
              exact hx.elim
        · intro hc
          rw [if_neg hc] at h
          refine zw_push hm_81 dX7_thingAt_11 (v := .inr (.inr (some 69))) rfl ?_
          refine zw_gf hm_81 dX7_thingAt_12 (v := .inr (.inr (some 70))) (zT_is hS s_69) (zT_t hS s_69) rfl f_7_11_7 (zT_f hS r_69_0) ?_
          refine zw_push hm_81 dX7_thingAt_15 (v := .inl (mI S 72 i.toNatClampNeg)) rfl ?_
          obtain ⟨hg, h⟩ := h
          refine zw_aa hm_81 dX7_thingAt_16 (zT_is hS s_70) (zT_h hS s_70) rfl rfl hg rfl ?_
          show ma_wp X (d - 1) (w - 21) 81 17 [(0, .inr (.inr (some 69))), (1, .inl (mI S 72 i.toNatClampNeg))] [.inr (.inr (mR S 70 (mI S 72 i.toNatClampNeg).toNatClampNeg))] S _
          refine zw_goto hm_81 dX7_thingAt_17 (t := 21) rfl ?_
          refine zw_aret hm_81 dX7_thingAt_21 ?_
          show ma_wp X d w 92 22 [(0, .inr (.inr (some 69))), (1, .inl i), (2, .inr (.inr x))] [.inr (.inr (mR S 70 (mI S 72 i.toNatClampNeg).toNatClampNeg))] S _
          refine zw_sto hm_92 dX7_changeRoot_22 [(3, .inr (.inr (mR S 70 (mI S 72 i.toNatClampNeg).toNatClampNeg))), (0, .inr (.inr (some 69))), (1, .inl i), (2, .inr (.inr x))] rfl rfl rfl ?_
          refine zw_push hm_92 dX7_changeRoot_23 (v := .inr (.inr (some 69))) rfl ?_
          refine zw_gf hm_92 dX7_changeRoot_24 (v := .inr (.inr (some 72))) (zT_is hS s_69) (zT_t hS s_69) rfl f_7_21_7 (zT_f hS r_69_2) ?_
          refine zw_push hm_92 dX7_changeRoot_27 (v := .inl i) rfl ?_
          refine zw_push hm_92 dX7_changeRoot_28 (v := .inr (.inr x)) rfl ?_
          refine zw_cs hm_92 dX7_changeRoot_29 pn_7_82 sl_7_82 hm_146 [.inr (.inr x)] [.inl i, .inr (.inr (some 72))] rfl ⟨by omega, by omega⟩ rfl ?_
          show ma_wp X (d - 1) (w - 20) 146 0 [(0, .inr (.inr x))] [] S _
          refine zw_push hm_146 dX11_numberOf_0 (v := .inr (.inr x)) rfl ?_
          refine zw_ifnonnull hm_146 dX11_numberOf_1 (t := 8) rfl ?_ ?_
          · intro hc
            have h := h.1 hc
            (try rw [hc])
            show ma_wp X (d - 1) (w - 20) 146 4 [(0, .inr (.inr none))] [] S _
            refine zw_push hm_146 dX11_numberOf_4 (v := .inl (-1 : Int32)) rfl ?_
            refine zw_goto hm_146 dX11_numberOf_5 (t := 12) rfl ?_
            refine zw_iret hm_146 dX11_numberOf_12 ?_
            show ma_wp X d w 92 32 [(3, .inr (.inr (mR S 70 (mI S 72 i.toNatClampNeg).toNatClampNeg))), (0, .inr (.inr (some 69))), (1, .inl i), (2, .inr (.inr none))] [.inl (-1 : Int32), .inl i, .inr (.inr (some 72))] S _
            obtain ⟨hg, h⟩ := h
            refine zw_ias hm_92 dX7_changeRoot_32 (zT_is hS s_72) (zT_h hS s_72) rfl hg ?_
            refine zw_push hm_92 dX7_changeRoot_33 (v := .inr (.inr (mR S 70 (mI S 72 i.toNatClampNeg).toNatClampNeg))) rfl ?_
            refine zw_push hm_92 dX7_changeRoot_34 (v := .inr (.inr none)) rfl ?_
            refine zw_cs hm_92 dX7_changeRoot_35 pn_7_90 sl_7_90 hm_93 [.inr (.inr none), .inr (.inr (mR S 70 (mI S 72 i.toNatClampNeg).toNatClampNeg))] [] rfl ⟨by omega, by omega⟩ rfl (zw_mono h (zv_go ?_ ?_))
            · intro S12 hv
              obtain ⟨hS12, h⟩ := hv
              refine zw_push hm_92 dX7_changeRoot_38 (v := .inr (.inr (mR S 70 (mI S 72 i.toNatClampNeg).toNatClampNeg))) rfl ?_
              exact zw_aret hm_92 dX7_changeRoot_39 h
            · intro x S9 hx
              exact hx.elim
          · intro c11 hc
            have h := h.2 c11 hc
            (try rw [hc])
            show ma_wp X (d - 1) (w - 20) 146 8 [(0, .inr (.inr (some c11)))] [] S _
            refine zw_push hm_146 dX11_numberOf_8 (v := .inr (.inr (some c11))) rfl ?_
            obtain ⟨hg, h⟩ := h
            refine zw_gf hm_146 dX11_numberOf_9 (v := .inl (mI S c11 0)) (zT_tis hS hg) (zT_tt hS hg) rfl f_11_182_9 rfl ?_
            refine zw_iret hm_146 dX11_numberOf_12 ?_
            show ma_wp X d w 92 32 [(3, .inr (.inr (mR S 70 (mI S 72 i.toNatClampNeg).toNatClampNeg))), (0, .inr (.inr (some 69))), (1, .inl i), (2, .inr (.inr (some c11)))] [.inl (mI S c11 0), .inl i, .inr (.inr (some 72))] S _
            obtain ⟨hg, h⟩ := h
            refine zw_ias hm_92 dX7_changeRoot_32 (zT_is hS s_72) (zT_h hS s_72) rfl hg ?_
            refine zw_push hm_92 dX7_changeRoot_33 (v := .inr (.inr (mR S 70 (mI S 72 i.toNatClampNeg).toNatClampNeg))) rfl ?_
            refine zw_push hm_92 dX7_changeRoot_34 (v := .inr (.inr (some c11))) rfl ?_
            refine zw_cs hm_92 dX7_changeRoot_35 pn_7_90 sl_7_90 hm_93 [.inr (.inr (some c11)), .inr (.inr (mR S 70 (mI S 72 i.toNatClampNeg).toNatClampNeg))] [] rfl ⟨by omega, by omega⟩ rfl (zw_mono h (zv_go ?_ ?_))
            · intro S14 hv
              obtain ⟨hS14, h⟩ := hv
              refine zw_push hm_92 dX7_changeRoot_38 (v := .inr (.inr (mR S 70 (mI S 72 i.toNatClampNeg).toNatClampNeg))) rfl ?_
              exact zw_aret hm_92 dX7_changeRoot_39 h
            · intro x S9 hx
              exact hx.elim
    · intro hc
      rw [if_neg hc] at h
      refine zw_push hm_92 dX7_changeRoot_10 (v := .inr (.inr none)) rfl ?_
      exact zw_aret hm_92 dX7_changeRoot_11 h
theorem sp_92_69_s {X : Nat × (Nat → Int32)} {d w : Nat} {f : Nat → Nat → Int32} {r : Nat → Nat → Option Nat} {C Z N : Nat} {Q : Option ma_V ⊕ Nat → ma_S → Prop} {ab : Nat→Nat→Int32} {R : zRT} {W : Nat} {y : Int32} {S : ma_S} (i : Int32) (x : Option Nat) (hd : 1 ≤ d) (hw : 21 ≤ w) (hI : zI f r C Z N S) (hq_x : ∀ c, x = some c → 126 ≤ c ∧ c < N) (hpre0 : xB S R) (hpre1 : aS W S = ab) (hpre2 : xW W) (hpre3 : x = zTa R y) (hpre4 : 0 ≤ i.toInt) (hpre5 : i.toInt ≤ 15) (K : ∀ v S₉, zI f r C Z N S₉ → (∀ c, v = some c → 126 ≤ c ∧ c < N) → (xB S₉ R) → (aS W S₉ = ma_u ab 72 i.toNatClampNeg (aNm ab y)) → (v = zTa R (ab 72 i.toNatClampNeg)) → Q (.inl (some (.inr (.inr v)))) S₉) : ma_wp X d w 92 0 [(0, .inr (.inr (some 69))), (1, .inl i), (2, .inr (.inr x))] [] S Q := by
  refine g_92_69_s_0 i x (by omega) (by omega) (zG_T hI) ?_
  have b1 := i_bd i
  have li2 : (0 : Int32).toInt = 0 := rfl
  refine zd (fun h3 => ?_) (fun h3 => ?_)
  · skip
    have g4 := i_lt h3
    exact K (none) _ hI (fun _ z => by cases z) (show xB S R from by first | (exact (xC_o (W := 75) hpre0).2)) (show aS W S = ma_u ab 72 i.toNatClampNeg (aNm ab y) from by first | (exfalso; omega)) (show none = zTa R (ab 72 i.toNatClampNeg) from by first | (exfalso; omega))
  · skip
    have g5 := i_nlt h3
    have li6 : (16 : Int32).toInt = 16 := rfl
    refine zd (fun h7 => ?_) (fun h7 => ?_)
    · skip
      have g8 := i_lt h7
      refine ⟨i_ix (by omega) (by omega), ?_⟩
      have b9 := i_bd (mI S 72 i.toNatClampNeg)
      refine zd (fun h10 => ?_) (fun h10 => ?_)
      · skip
        have g11 := i_lt h10
        refine ⟨fun hc => ?_, fun c1 hc => ?_⟩
        · skip
          have rn_c1 : zTa R y = none := hpre3.symm.trans hc
          refine ⟨i_ix (by omega) (by omega), ?_⟩
          have hI12 : zI f r C Z N (ma_put S 72 i.toNatClampNeg (.inl (-1 : Int32))) := zG_fa hI rfl (by decide) (by decide) (by decide) trivial
          refine sp_93_s (ab := (aS W (ma_put S 72 i.toNatClampNeg (.inl (-1 : Int32))))) (R := R) (W := W) (y1 := ((-1 : Int32))) (y2 := ((-1 : Int32))) (none) (none) (by omega) (by omega) hI12 (fun _ z => by cases z) (fun _ z => by cases z) (show xB (ma_put S 72 i.toNatClampNeg (.inl (-1 : Int32))) R from by first | (exact (xC_p (c := 72) (k := i.toNatClampNeg) (x := (-1 : Int32)) (xC_o (W := 75) hpre0) 72 xW75 rfl rfl).2)) (show aS W (ma_put S 72 i.toNatClampNeg (.inl (-1 : Int32))) = (aS W (ma_put S 72 i.toNatClampNeg (.inl (-1 : Int32)))) from by first | (exact rfl)) (show xW W from by first | (exact hpre2) | (exact xW88)) (show none = zTa R ((-1 : Int32)) from by first | (exact ta_m1) | (exact ta_no (by omega))) (show none = zTa R ((-1 : Int32)) from by first | (exact ta_m1) | (exact ta_no (by omega))) (fun S2 hI_S2 rp0_S2 rp1_S2 => zv_n ⟨zG_T hI_S2, ?_⟩)
          have rp0_S2 : xB S2 R := rp0_S2
          have rp1_S2 : aS W S2 = (aS W (ma_put S 72 i.toNatClampNeg (.inl (-1 : Int32)))) := rp1_S2
          exact K (none) _ hI_S2 (fun _ z => by cases z) (show xB S2 R from by first | (exact (xC_o (W := 75) rp0_S2).2)) (show aS W S2 = ma_u ab 72 i.toNatClampNeg (aNm ab y) from by first | (have nn := (nm_n (W := W) hpre0 rn_c1); rw [hpre1] at nn; refine (rp1_S2.trans (xC_p (c := 72) (k := i.toNatClampNeg) (x := (-1 : Int32)) (xC_o (W := W) hpre0) 72 hpre2 rfl (zcw_s (by decide))).1).trans ?_; rw [hpre1]; rw [nn])) (show none = zTa R (ab 72 i.toNatClampNeg) from by first | (rw [← hpre1, (aS_I (W := W) (S := S) (c := 72) (c₉ := 72) (k := i.toNatClampNeg) rfl (zcw_s (by decide)))]; exact ta_no (by omega)))
        · skip
          have th_c1 := hq_x c1 hc
          have rg_c1 : zTa R y = some c1 := hpre3.symm.trans hc
          subst hc
          refine ⟨zG_n hI th_c1, ?_⟩
          refine ⟨i_ix (by omega) (by omega), ?_⟩
          have hI13 : zI f r C Z N (ma_put S 72 i.toNatClampNeg (.inl (mI S c1 0))) := zG_fa hI rfl (by decide) (by decide) (by decide) trivial
          refine sp_93_s (ab := (aS W (ma_put S 72 i.toNatClampNeg (.inl (mI S c1 0))))) (R := R) (W := W) (y1 := ((-1 : Int32))) (y2 := (y)) (none) ((some c1)) (by omega) (by omega) hI13 (fun _ z => by cases z) (fun _ z => by cases z; exact th_c1) (show xB (ma_put S 72 i.toNatClampNeg (.inl (mI S c1 0))) R from by first | (exact (xC_p (c := 72) (k := i.toNatClampNeg) (x := (mI S c1 0)) (xC_o (W := 75) hpre0) 72 xW75 rfl rfl).2)) (show aS W (ma_put S 72 i.toNatClampNeg (.inl (mI S c1 0))) = (aS W (ma_put S 72 i.toNatClampNeg (.inl (mI S c1 0)))) from by first | (exact rfl)) (show xW W from by first | (exact hpre2) | (exact xW88)) (show none = zTa R ((-1 : Int32)) from by first | (exact ta_m1) | (exact ta_no (by omega))) (show (some c1) = zTa R (y) from by first | (exact rg_c1.symm)) (fun S4 hI_S4 rp0_S4 rp1_S4 => zv_n ⟨zG_T hI_S4, ?_⟩)
          have rp0_S4 : xB S4 R := rp0_S4
          have rp1_S4 : aS W S4 = (aS W (ma_put S 72 i.toNatClampNeg (.inl (mI S c1 0)))) := rp1_S4
          exact K (none) _ hI_S4 (fun _ z => by cases z) (show xB S4 R from by first | (exact (xC_o (W := 75) rp0_S4).2)) (show aS W S4 = ma_u ab 72 i.toNatClampNeg (aNm ab y) from by first | (have nn := (nm_y (W := W) hpre0 rg_c1); rw [hpre1] at nn; refine (rp1_S4.trans (xC_p (c := 72) (k := i.toNatClampNeg) (x := (mI S c1 0)) (xC_o (W := W) hpre0) 72 hpre2 rfl (zcw_s (by decide))).1).trans ?_; rw [hpre1]; have tn := (xB_th (W := W) hpre0 rg_c1).2.2.1; rw [tn]; rw [nn])) (show none = zTa R (ab 72 i.toNatClampNeg) from by first | (rw [← hpre1, (aS_I (W := W) (S := S) (c := 72) (c₉ := 72) (k := i.toNatClampNeg) rfl (zcw_s (by decide)))]; exact ta_no (by omega)))
      · skip
        have g14 := i_nlt h10
        have li15 : (512 : Int32).toInt = 512 := rfl
        refine zd (fun h16 => ?_) (fun h16 => ?_)
        · skip
          have g17 := i_le h16
          refine ⟨fun hc => ?_, fun c6 hc => ?_⟩
          · skip
            have rn_c6 : zTa R y = none := hpre3.symm.trans hc
            refine ⟨i_ix (by omega) (by omega), ?_⟩
            have hI18 : zI f r C Z N (ma_put S 72 i.toNatClampNeg (.inl (-1 : Int32))) := zG_fa hI rfl (by decide) (by decide) (by decide) trivial
            refine sp_93_s (ab := (aS W (ma_put S 72 i.toNatClampNeg (.inl (-1 : Int32))))) (R := R) (W := W) (y1 := ((-1 : Int32))) (y2 := ((-1 : Int32))) (none) (none) (by omega) (by omega) hI18 (fun _ z => by cases z) (fun _ z => by cases z) (show xB (ma_put S 72 i.toNatClampNeg (.inl (-1 : Int32))) R from by first | (exact (xC_p (c := 72) (k := i.toNatClampNeg) (x := (-1 : Int32)) (xC_o (W := 75) hpre0) 72 xW75 rfl rfl).2)) (show aS W (ma_put S 72 i.toNatClampNeg (.inl (-1 : Int32))) = (aS W (ma_put S 72 i.toNatClampNeg (.inl (-1 : Int32)))) from by first | (exact rfl)) (show xW W from by first | (exact hpre2) | (exact xW88)) (show none = zTa R ((-1 : Int32)) from by first | (exact ta_m1) | (exact ta_no (by omega))) (show none = zTa R ((-1 : Int32)) from by first | (exact ta_m1) | (exact ta_no (by omega))) (fun S7 hI_S7 rp0_S7 rp1_S7 => zv_n ⟨zG_T hI_S7, ?_⟩)
            have rp0_S7 : xB S7 R := rp0_S7
            have rp1_S7 : aS W S7 = (aS W (ma_put S 72 i.toNatClampNeg (.inl (-1 : Int32)))) := rp1_S7
            exact K (none) _ hI_S7 (fun _ z => by cases z) (show xB S7 R from by first | (exact (xC_o (W := 75) rp0_S7).2)) (show aS W S7 = ma_u ab 72 i.toNatClampNeg (aNm ab y) from by first | (have nn := (nm_n (W := W) hpre0 rn_c6); rw [hpre1] at nn; refine (rp1_S7.trans (xC_p (c := 72) (k := i.toNatClampNeg) (x := (-1 : Int32)) (xC_o (W := W) hpre0) 72 hpre2 rfl (zcw_s (by decide))).1).trans ?_; rw [hpre1]; rw [nn])) (show none = zTa R (ab 72 i.toNatClampNeg) from by first | (rw [← hpre1, (aS_I (W := W) (S := S) (c := 72) (c₉ := 72) (k := i.toNatClampNeg) rfl (zcw_s (by decide)))]; exact ta_no (by omega)))
          · skip
            have th_c6 := hq_x c6 hc
            have rg_c6 : zTa R y = some c6 := hpre3.symm.trans hc
            subst hc
            refine ⟨zG_n hI th_c6, ?_⟩
            refine ⟨i_ix (by omega) (by omega), ?_⟩
            have hI19 : zI f r C Z N (ma_put S 72 i.toNatClampNeg (.inl (mI S c6 0))) := zG_fa hI rfl (by decide) (by decide) (by decide) trivial
            refine sp_93_s (ab := (aS W (ma_put S 72 i.toNatClampNeg (.inl (mI S c6 0))))) (R := R) (W := W) (y1 := ((-1 : Int32))) (y2 := (y)) (none) ((some c6)) (by omega) (by omega) hI19 (fun _ z => by cases z) (fun _ z => by cases z; exact th_c6) (show xB (ma_put S 72 i.toNatClampNeg (.inl (mI S c6 0))) R from by first | (exact (xC_p (c := 72) (k := i.toNatClampNeg) (x := (mI S c6 0)) (xC_o (W := 75) hpre0) 72 xW75 rfl rfl).2)) (show aS W (ma_put S 72 i.toNatClampNeg (.inl (mI S c6 0))) = (aS W (ma_put S 72 i.toNatClampNeg (.inl (mI S c6 0)))) from by first | (exact rfl)) (show xW W from by first | (exact hpre2) | (exact xW88)) (show none = zTa R ((-1 : Int32)) from by first | (exact ta_m1) | (exact ta_no (by omega))) (show (some c6) = zTa R (y) from by first | (exact rg_c6.symm)) (fun S9 hI_S9 rp0_S9 rp1_S9 => zv_n ⟨zG_T hI_S9, ?_⟩)
            have rp0_S9 : xB S9 R := rp0_S9
            have rp1_S9 : aS W S9 = (aS W (ma_put S 72 i.toNatClampNeg (.inl (mI S c6 0)))) := rp1_S9
            exact K (none) _ hI_S9 (fun _ z => by cases z) (show xB S9 R from by first | (exact (xC_o (W := 75) rp0_S9).2)) (show aS W S9 = ma_u ab 72 i.toNatClampNeg (aNm ab y) from by first | (have nn := (nm_y (W := W) hpre0 rg_c6); rw [hpre1] at nn; refine (rp1_S9.trans (xC_p (c := 72) (k := i.toNatClampNeg) (x := (mI S c6 0)) (xC_o (W := W) hpre0) 72 hpre2 rfl (zcw_s (by decide))).1).trans ?_; rw [hpre1]; have tn := (xB_th (W := W) hpre0 rg_c6).2.2.1; rw [tn]; rw [nn])) (show none = zTa R (ab 72 i.toNatClampNeg) from by first | (rw [← hpre1, (aS_I (W := W) (S := S) (c := 72) (c₉ := 72) (k := i.toNatClampNeg) rfl (zcw_s (by decide)))]; exact ta_no (by omega)))
        · skip
          have g20 := i_nle h16
          refine ⟨i_ix (by omega) (by omega), ?_⟩
          refine ⟨fun hc => ?_, fun c11 hc => ?_⟩
          · skip
            have rn_c11 : zTa R y = none := hpre3.symm.trans hc
            refine ⟨i_ix (by omega) (by omega), ?_⟩
            have hI21 : zI f r C Z N (ma_put S 72 i.toNatClampNeg (.inl (-1 : Int32))) := zG_fa hI rfl (by decide) (by decide) (by decide) trivial
            refine sp_93_s (ab := (aS W (ma_put S 72 i.toNatClampNeg (.inl (-1 : Int32))))) (R := R) (W := W) (y1 := ((mI S 72 i.toNatClampNeg))) (y2 := ((-1 : Int32))) ((mR S 70 (mI S 72 i.toNatClampNeg).toNatClampNeg)) (none) (by omega) (by omega) hI21 (fun _ z => zG_70 hI (c := 70) (by decide) z) (fun _ z => by cases z) (show xB (ma_put S 72 i.toNatClampNeg (.inl (-1 : Int32))) R from by first | (exact (xC_p (c := 72) (k := i.toNatClampNeg) (x := (-1 : Int32)) (xC_o (W := 75) hpre0) 72 xW75 rfl rfl).2)) (show aS W (ma_put S 72 i.toNatClampNeg (.inl (-1 : Int32))) = (aS W (ma_put S 72 i.toNatClampNeg (.inl (-1 : Int32)))) from by first | (exact rfl)) (show xW W from by first | (exact hpre2) | (exact xW88)) (show (mR S 70 (mI S 72 i.toNatClampNeg).toNatClampNeg) = zTa R ((mI S 72 i.toNatClampNeg)) from by first | (exact ta_rd hpre0 (by omega) (by omega))) (show none = zTa R ((-1 : Int32)) from by first | (exact ta_m1) | (exact ta_no (by omega))) (fun S12 hI_S12 rp0_S12 rp1_S12 => zv_n ⟨zG_T hI_S12, ?_⟩)
            have rp0_S12 : xB S12 R := rp0_S12
            have rp1_S12 : aS W S12 = (aS W (ma_put S 72 i.toNatClampNeg (.inl (-1 : Int32)))) := rp1_S12
            exact K ((mR S 70 (mI S 72 i.toNatClampNeg).toNatClampNeg)) _ hI_S12 (fun _ z => zG_70 hI (c := 70) (by decide) z) (show xB S12 R from by first | (exact (xC_o (W := 75) rp0_S12).2)) (show aS W S12 = ma_u ab 72 i.toNatClampNeg (aNm ab y) from by first | (have nn := (nm_n (W := W) hpre0 rn_c11); rw [hpre1] at nn; refine (rp1_S12.trans (xC_p (c := 72) (k := i.toNatClampNeg) (x := (-1 : Int32)) (xC_o (W := W) hpre0) 72 hpre2 rfl (zcw_s (by decide))).1).trans ?_; rw [hpre1]; rw [nn])) (show (mR S 70 (mI S 72 i.toNatClampNeg).toNatClampNeg) = zTa R (ab 72 i.toNatClampNeg) from by first | (rw [← hpre1, (aS_I (W := W) (S := S) (c := 72) (c₉ := 72) (k := i.toNatClampNeg) rfl (zcw_s (by decide)))]; exact ta_rd hpre0 (by omega) (by omega)))
          · skip
            have th_c11 := hq_x c11 hc
            have rg_c11 : zTa R y = some c11 := hpre3.symm.trans hc
            subst hc
            refine ⟨zG_n hI th_c11, ?_⟩
            refine ⟨i_ix (by omega) (by omega), ?_⟩
            have hI22 : zI f r C Z N (ma_put S 72 i.toNatClampNeg (.inl (mI S c11 0))) := zG_fa hI rfl (by decide) (by decide) (by decide) trivial
            refine sp_93_s (ab := (aS W (ma_put S 72 i.toNatClampNeg (.inl (mI S c11 0))))) (R := R) (W := W) (y1 := ((mI S 72 i.toNatClampNeg))) (y2 := (y)) ((mR S 70 (mI S 72 i.toNatClampNeg).toNatClampNeg)) ((some c11)) (by omega) (by omega) hI22 (fun _ z => zG_70 hI (c := 70) (by decide) z) (fun _ z => by cases z; exact th_c11) (show xB (ma_put S 72 i.toNatClampNeg (.inl (mI S c11 0))) R from by first | (exact (xC_p (c := 72) (k := i.toNatClampNeg) (x := (mI S c11 0)) (xC_o (W := 75) hpre0) 72 xW75 rfl rfl).2)) (show aS W (ma_put S 72 i.toNatClampNeg (.inl (mI S c11 0))) = (aS W (ma_put S 72 i.toNatClampNeg (.inl (mI S c11 0)))) from by first | (exact rfl)) (show xW W from by first | (exact hpre2) | (exact xW88)) (show (mR S 70 (mI S 72 i.toNatClampNeg).toNatClampNeg) = zTa R ((mI S 72 i.toNatClampNeg)) from by first | (exact ta_rd hpre0 (by omega) (by omega))) (show (some c11) = zTa R (y) from by first | (exact rg_c11.symm)) (fun S14 hI_S14 rp0_S14 rp1_S14 => zv_n ⟨zG_T hI_S14, ?_⟩)
            have rp0_S14 : xB S14 R := rp0_S14
            have rp1_S14 : aS W S14 = (aS W (ma_put S 72 i.toNatClampNeg (.inl (mI S c11 0)))) := rp1_S14
            exact K ((mR S 70 (mI S 72 i.toNatClampNeg).toNatClampNeg)) _ hI_S14 (fun _ z => zG_70 hI (c := 70) (by decide) z) (show xB S14 R from by first | (exact (xC_o (W := 75) rp0_S14).2)) (show aS W S14 = ma_u ab 72 i.toNatClampNeg (aNm ab y) from by first | (have nn := (nm_y (W := W) hpre0 rg_c11); rw [hpre1] at nn; refine (rp1_S14.trans (xC_p (c := 72) (k := i.toNatClampNeg) (x := (mI S c11 0)) (xC_o (W := W) hpre0) 72 hpre2 rfl (zcw_s (by decide))).1).trans ?_; rw [hpre1]; have tn := (xB_th (W := W) hpre0 rg_c11).2.2.1; rw [tn]; rw [nn])) (show (mR S 70 (mI S 72 i.toNatClampNeg).toNatClampNeg) = zTa R (ab 72 i.toNatClampNeg) from by first | (rw [← hpre1, (aS_I (W := W) (S := S) (c := 72) (c₉ := 72) (k := i.toNatClampNeg) rfl (zcw_s (by decide)))]; exact ta_rd hpre0 (by omega) (by omega)))
    · skip
      have g23 := i_nlt h7
      exact K (none) _ hI (fun _ z => by cases z) (show xB S R from by first | (exact (xC_o (W := 75) hpre0).2)) (show aS W S = ma_u ab 72 i.toNatClampNeg (aNm ab y) from by first | (exfalso; omega)) (show none = zTa R (ab 72 i.toNatClampNeg) from by first | (exfalso; omega))

/-! from 95.g25 -/
/-! the heap by numbers, the class (written by wip/tools/gen18.py) -/
theorem g_94_69_s_0 {X : Nat × (Nat → Int32)} {d w : Nat} {S : ma_S} {Q : Option ma_V ⊕ Nat → ma_S → Prop} (t : Nat) (i : Int32) (x : Option Nat) (hd : 1 ≤ d) (hw : 25 ≤ w) (hS : zT S) (h : ma_wp X (d - 1) (w - 25) 82 0 [(0, .inr (.inr (some 69))), (1, .inr (.inr (some t))), (2, .inl i)] [] S (zo (fun v2 S1 => zT S1 ∧ ((x = none → ma_wp X (d - 1) (w - 25) 95 0 [(0, .inr (.inr (some 69))), (1, .inr (.inr (some t))), (2, .inl i), (3, .inl (-1 : Int32))] [] S1 (zi (fun v5 S4 => zT S4 ∧ (ma_wp X (d - 1) (w - 21) 93 0 [(0, .inr (.inr v2)), (1, .inr (.inr none))] [] S4 (zv (fun S6 => zT S6 ∧ (Q (.inl (some (.inr (.inr v2)))) S6)) (fun _ _ => False)))) (fun x S9 => Q (.inr x) S9))) ∧ (∀ c3, x = some c3 → (126 ≤ c3 ∧ c3 < mN S1) ∧ (ma_wp X (d - 1) (w - 25) 95 0 [(0, .inr (.inr (some 69))), (1, .inr (.inr (some t))), (2, .inl i), (3, .inl (mI S1 c3 0))] [] S1 (zi (fun v9 S8 => zT S8 ∧ (ma_wp X (d - 1) (w - 21) 93 0 [(0, .inr (.inr v2)), (1, .inr (.inr (some c3)))] [] S8 (zv (fun S10 => zT S10 ∧ (Q (.inl (some (.inr (.inr v2)))) S10)) (fun _ _ => False)))) (fun x S9 => Q (.inr x) S9)))))) (fun x S9 => Q (.inr x) S9))) : ma_wp X d w 94 0 [(0, .inr (.inr (some 69))), (1, .inr (.inr (some t))), (2, .inl i), (3, .inr (.inr x))] [] S Q := by
  refine zw_push hm_94 dX7_changeReference_0 (v := .inr (.inr (some 69))) rfl ?_
  refine zw_push hm_94 dX7_changeReference_1 (v := .inr (.inr (some t))) rfl ?_
  refine zw_push hm_94 dX7_changeReference_2 (v := .inl i) rfl ?_
  refine zw_cv hm_94 dX7_changeReference_3 v_7_78_7 hm_82 [.inl i, .inr (.inr (some t))] [] rfl (zT_rt hS s_69 rfl) ⟨by omega, by omega⟩ rfl (zw_mono h (zo_go ?_ ?_))
  · intro v2 S1 hv
    obtain ⟨hS1, h⟩ := hv
    refine zw_sto hm_94 dX7_changeReference_6 [(4, .inr (.inr v2)), (0, .inr (.inr (some 69))), (1, .inr (.inr (some t))), (2, .inl i), (3, .inr (.inr x))] rfl rfl rfl ?_
    refine zw_push hm_94 dX7_changeReference_8 (v := .inr (.inr (some 69))) rfl ?_
    refine zw_push hm_94 dX7_changeReference_9 (v := .inr (.inr (some t))) rfl ?_
    refine zw_push hm_94 dX7_changeReference_10 (v := .inl i) rfl ?_
    refine zw_push hm_94 dX7_changeReference_11 (v := .inr (.inr x)) rfl ?_
    refine zw_cs hm_94 dX7_changeReference_12 pn_7_82 sl_7_82 hm_146 [.inr (.inr x)] [.inl i, .inr (.inr (some t)), .inr (.inr (some 69))] rfl ⟨by omega, by omega⟩ rfl ?_
    show ma_wp X (d - 1) (w - 20) 146 0 [(0, .inr (.inr x))] [] S1 _
    refine zw_push hm_146 dX11_numberOf_0 (v := .inr (.inr x)) rfl ?_
    refine zw_ifnonnull hm_146 dX11_numberOf_1 (t := 8) rfl ?_ ?_
    · intro hc
      have h := h.1 hc
      (try rw [hc])
      show ma_wp X (d - 1) (w - 20) 146 4 [(0, .inr (.inr none))] [] S1 _
      refine zw_push hm_146 dX11_numberOf_4 (v := .inl (-1 : Int32)) rfl ?_
      refine zw_goto hm_146 dX11_numberOf_5 (t := 12) rfl ?_
      refine zw_iret hm_146 dX11_numberOf_12 ?_
      show ma_wp X d w 94 15 [(4, .inr (.inr v2)), (0, .inr (.inr (some 69))), (1, .inr (.inr (some t))), (2, .inl i), (3, .inr (.inr none))] [.inl (-1 : Int32), .inl i, .inr (.inr (some t)), .inr (.inr (some 69))] S1 _
      refine zw_cv hm_94 dX7_changeReference_15 v_7_86_7 hm_95 [.inl (-1 : Int32), .inl i, .inr (.inr (some t))] [] rfl (zT_rt hS1 s_69 rfl) ⟨by omega, by omega⟩ rfl (zw_mono h (zi_go ?_ ?_))
      · intro v5 S4 hv
        obtain ⟨hS4, h⟩ := hv
        refine zw_stk hm_94 dX7_changeReference_18 (st₉ := []) rfl rfl ?_
        refine zw_push hm_94 dX7_changeReference_19 (v := .inr (.inr v2)) rfl ?_
        refine zw_push hm_94 dX7_changeReference_21 (v := .inr (.inr none)) rfl ?_
        refine zw_cs hm_94 dX7_changeReference_22 pn_7_90 sl_7_90 hm_93 [.inr (.inr none), .inr (.inr v2)] [] rfl ⟨by omega, by omega⟩ rfl (zw_mono h (zv_go ?_ ?_))
        · intro S6 hv
          obtain ⟨hS6, h⟩ := hv
          refine zw_push hm_94 dX7_changeReference_25 (v := .inr (.inr v2)) rfl ?_
          exact zw_aret hm_94 dX7_changeReference_27 h
        · intro x S9 hx
          exact hx.elim
      · intro x S9 hx
        exact ⟨by decide, hx⟩
    · intro c3 hc
      have h := h.2 c3 hc
      (try rw [hc])
      show ma_wp X (d - 1) (w - 20) 146 8 [(0, .inr (.inr (some c3)))] [] S1 _
      refine zw_push hm_146 dX11_numberOf_8 (v := .inr (.inr (some c3))) rfl ?_
      obtain ⟨hg, h⟩ := h
      refine zw_gf hm_146 dX11_numberOf_9 (v := .inl (mI S1 c3 0)) (zT_tis hS1 hg) (zT_tt hS1 hg) rfl f_11_182_9 rfl ?_
      refine zw_iret hm_146 dX11_numberOf_12 ?_
      show ma_wp X d w 94 15 [(4, .inr (.inr v2)), (0, .inr (.inr (some 69))), (1, .inr (.inr (some t))), (2, .inl i), (3, .inr (.inr (some c3)))] [.inl (mI S1 c3 0), .inl i, .inr (.inr (some t)), .inr (.inr (some 69))] S1 _
      refine zw_cv hm_94 dX7_changeReference_15 v_7_86_7 hm_95 [.inl (mI S1 c3 0), .inl i, .inr (.inr (some t))] [] rfl (zT_rt hS1 s_69 rfl) ⟨by omega, by omega⟩ rfl (zw_mono h (zi_go ?_ ?_))
      · intro v9 S8 hv
        obtain ⟨hS8, h⟩ := hv
        refine zw_stk hm_94 dX7_changeReference_18 (st₉ := []) rfl rfl ?_
        refine zw_push hm_94 dX7_changeReference_19 (v := .inr (.inr v2)) rfl ?_
        refine zw_push hm_94 dX7_changeReference_21 (v := .inr (.inr (some c3))) rfl ?_
        refine zw_cs hm_94 dX7_changeReference_22 pn_7_90 sl_7_90 hm_93 [.inr (.inr (some c3)), .inr (.inr v2)] [] rfl ⟨by omega, by omega⟩ rfl (zw_mono h (zv_go ?_ ?_))
        · intro S10 hv
          obtain ⟨hS10, h⟩ := hv
          refine zw_push hm_94 dX7_changeReference_25 (v := .inr (.inr v2)) rfl ?_
          exact zw_aret hm_94 dX7_changeReference_27 h
        · intro x S9 hx
          exact hx.elim
      · intro x S9 hx
        exact ⟨by decide, hx⟩
  · intro x S9 hx
    exact ⟨by decide, hx⟩
theorem sp_94_69_s {X : Nat × (Nat → Int32)} {d w : Nat} {f : Nat → Nat → Int32} {r : Nat → Nat → Option Nat} {C Z N : Nat} {Q : Option ma_V ⊕ Nat → ma_S → Prop} {ab : Nat→Nat→Int32} {R : zRT} {W : Nat} {yt : Int32} {y : Int32} {S : ma_S} (t : Nat) (i : Int32) (x : Option Nat) (hd : 1 ≤ d) (hw : 25 ≤ w) (hI : zI f r C Z N S) (th_t : 126 ≤ t ∧ t < N) (hq_x : ∀ c, x = some c → 126 ≤ c ∧ c < N) (hpre0 : xB S R) (hpre1 : aS W S = ab) (hpre2 : xW W) (hpre3 : zTa R yt = some t) (hpre4 : x = zTa R y) (hpre5 : 0 ≤ i.toInt) (K : ∀ v S₉, zI f r C Z N S₉ → (∀ c, v = some c → 126 ≤ c ∧ c < N) → (xB S₉ R) → (aS W S₉ = aCi ab yt.toNatClampNeg i (aNm ab y)) → (v = zTa R (aRef ab yt.toNatClampNeg i)) → Q (.inl (some (.inr (.inr v)))) S₉) : ma_wp X d w 94 0 [(0, .inr (.inr (some 69))), (1, .inr (.inr (some t))), (2, .inl i), (3, .inr (.inr x))] [] S Q := by
  refine g_94_69_s_0 t i x (by omega) (by omega) (zG_T hI) ?_
  have b1 := i_bd i
  refine sp_82_69_s (R := R) (W := W) (y := yt) t (i) (by omega) (by omega) hI th_t (show xB S R from by first | (exact (xC_o (W := 75) hpre0).2)) (show zTa R yt = some t from by first | (exact hpre3)) (by omega) (fun v2 S1 eS_S1 hq_v2 rp0_S1 => zo_n ⟨(by rw [eS_S1]; exact zG_T hI), ?_⟩)
  replace eS_S1 := eS_S1.symm; subst eS_S1
  have rp0_S1 : v2 = zTa R (aRef (aS W S) yt.toNatClampNeg i) := rp0_S1
  refine ⟨fun hc => ?_, fun c3 hc => ?_⟩
  · skip
    have rn_c3 : zTa R y = none := hpre4.symm.trans hc
    have li2 : (-1 : Int32).toInt = -1 := rfl
    refine sp_95_69_s (ab := (aS W S)) (R := R) (W := W) (y := (yt)) t (i) ((-1 : Int32)) (by omega) (by omega) hI th_t (show xB S R from by first | (exact (xC_o (W := 75) hpre0).2)) (show aS W S = (aS W S) from by first | (exact rfl)) (show xW W from by first | (exact hpre2) | (exact xW88)) (show zTa R (yt) = some t from by first | (exact hpre3)) (fun v5 S4 hI_S4 hp_v5 rp0_S4 rp1_S4 => zi_n ⟨zG_T hI_S4, ?_⟩)
    have rp0_S4 : xB S4 R := rp0_S4
    have rp1_S4 : aS W S4 = aCi (aS W S) (yt).toNatClampNeg i (-1 : Int32) ∧ v5 = aWo (aS W S) (yt).toNatClampNeg i := rp1_S4
    refine sp_93_s (ab := (aS W S4)) (R := R) (W := W) (y1 := ((aRef (aS W S) yt.toNatClampNeg i))) (y2 := ((-1 : Int32))) (v2) (none) (by omega) (by omega) hI_S4 hq_v2 (fun _ z => by cases z) (show xB S4 R from by first | (exact (xC_o (W := 75) rp0_S4).2)) (show aS W S4 = (aS W S4) from by first | (exact rfl)) (show xW W from by first | (exact hpre2) | (exact xW88)) (show v2 = zTa R ((aRef (aS W S) yt.toNatClampNeg i)) from by first | (exact rp0_S1)) (show none = zTa R ((-1 : Int32)) from by first | (exact ta_m1) | (exact ta_no (by omega))) (fun S6 hI_S6 rp0_S6 rp1_S6 => zv_n ⟨zG_T hI_S6, ?_⟩)
    have rp0_S6 : xB S6 R := rp0_S6
    have rp1_S6 : aS W S6 = (aS W S4) := rp1_S6
    exact K (v2) _ hI_S6 hq_v2 (show xB S6 R from by first | (exact (xC_o (W := 75) rp0_S6).2)) (show aS W S6 = aCi ab yt.toNatClampNeg i (aNm ab y) from by first | (have nn := (nm_n (W := W) hpre0 rn_c3); rw [hpre1] at nn; have ci := rp1_S4.1; skip; refine rp1_S6.trans (ci.trans ?_); rw [hpre1, nn])) (show v2 = zTa R (aRef ab yt.toNatClampNeg i) from by first | (rw [← hpre1]; exact rp0_S1))
  · skip
    have th_c3 := hq_x c3 hc
    have rg_c3 : zTa R y = some c3 := hpre4.symm.trans hc
    subst hc
    refine ⟨zG_n hI th_c3, ?_⟩
    have f3 := zG_th hI th_c3
    refine sp_95_69_s (ab := (aS W S)) (R := R) (W := W) (y := (yt)) t (i) ((mI S c3 0)) (by omega) (by omega) hI th_t (show xB S R from by first | (exact (xC_o (W := 75) hpre0).2)) (show aS W S = (aS W S) from by first | (exact rfl)) (show xW W from by first | (exact hpre2) | (exact xW88)) (show zTa R (yt) = some t from by first | (exact hpre3)) (fun v9 S8 hI_S8 hp_v9 rp0_S8 rp1_S8 => zi_n ⟨zG_T hI_S8, ?_⟩)
    have rp0_S8 : xB S8 R := rp0_S8
    have rp1_S8 : aS W S8 = aCi (aS W S) (yt).toNatClampNeg i (mI S c3 0) ∧ v9 = aWo (aS W S) (yt).toNatClampNeg i := rp1_S8
    refine sp_93_s (ab := (aS W S8)) (R := R) (W := W) (y1 := ((aRef (aS W S) yt.toNatClampNeg i))) (y2 := (y)) (v2) ((some c3)) (by omega) (by omega) hI_S8 hq_v2 (fun _ z => by cases z; exact th_c3) (show xB S8 R from by first | (exact (xC_o (W := 75) rp0_S8).2)) (show aS W S8 = (aS W S8) from by first | (exact rfl)) (show xW W from by first | (exact hpre2) | (exact xW88)) (show v2 = zTa R ((aRef (aS W S) yt.toNatClampNeg i)) from by first | (exact rp0_S1)) (show (some c3) = zTa R (y) from by first | (exact rg_c3.symm)) (fun S10 hI_S10 rp0_S10 rp1_S10 => zv_n ⟨zG_T hI_S10, ?_⟩)
    have rp0_S10 : xB S10 R := rp0_S10
    have rp1_S10 : aS W S10 = (aS W S8) := rp1_S10
    exact K (v2) _ hI_S10 hq_v2 (show xB S10 R from by first | (exact (xC_o (W := 75) rp0_S10).2)) (show aS W S10 = aCi ab yt.toNatClampNeg i (aNm ab y) from by first | (have nn := (nm_y (W := W) hpre0 rg_c3); rw [hpre1] at nn; have ci := rp1_S8.1; rw [(xB_th (W := W) hpre0 rg_c3).2.2.1] at ci; refine rp1_S10.trans (ci.trans ?_); rw [hpre1, nn])) (show v2 = zTa R (aRef ab yt.toNatClampNeg i) from by first | (rw [← hpre1]; exact rp0_S1))
theorem g_145_64_87_s_0 {X : Nat × (Nat → Int32)} {d w : Nat} {S : ma_S} {Q : Option ma_V ⊕ Nat → ma_S → Prop} (i : Int32) (x : Option Nat) (hd : 5 ≤ d) (hw : 110 ≤ w) (hS : zT S) (h : ma_wp X (d - 1) (w - 23) 92 0 [(0, .inr (.inr (some 69))), (1, .inl i), (2, .inr (.inr x))] [] S (zo (fun v2 S1 => zT S1 ∧ (ma_wp X (d - 1) (w - 22) 74 0 [(0, .inr (.inr (some 87))), (1, .inr (.inr v2)), (2, .inr (.inr x))] [] S1 (zv (fun S3 => zT S3 ∧ (Q (.inl (some (.inr (.inr v2)))) S3)) (fun _ _ => False)))) (fun x S9 => Q (.inr x) S9))) : ma_wp X d w 145 0 [(0, .inr (.inr (some 64))), (1, .inr (.inr (some 87))), (2, .inl i), (3, .inr (.inr x))] [] S Q := by
  refine zw_push hm_145 dX11_changeRoot_0 (v := .inr (.inr (some 64))) rfl ?_
  refine zw_gf hm_145 dX11_changeRoot_1 (v := .inr (.inr (some 69))) (zT_is hS s_64) (zT_t hS s_64) rfl f_11_26_11 (zT_f hS r_64_8) ?_
  refine zw_push hm_145 dX11_changeRoot_4 (v := .inl i) rfl ?_
  refine zw_push hm_145 dX11_changeRoot_5 (v := .inr (.inr x)) rfl ?_
  refine zw_cv hm_145 dX11_changeRoot_6 v_11_379_7 hm_92 [.inr (.inr x), .inl i] [] rfl (zT_rt hS s_69 rfl) ⟨by omega, by omega⟩ rfl (zw_mono h (zo_go ?_ ?_))
  · intro v2 S1 hv
    obtain ⟨hS1, h⟩ := hv
    refine zw_sto hm_145 dX11_changeRoot_9 [(4, .inr (.inr v2)), (0, .inr (.inr (some 64))), (1, .inr (.inr (some 87))), (2, .inl i), (3, .inr (.inr x))] rfl rfl rfl ?_
    refine zw_push hm_145 dX11_changeRoot_11 (v := .inr (.inr (some 87))) rfl ?_
    refine zw_push hm_145 dX11_changeRoot_12 (v := .inr (.inr v2)) rfl ?_
    refine zw_push hm_145 dX11_changeRoot_14 (v := .inr (.inr x)) rfl ?_
    refine zw_cv hm_145 dX11_changeRoot_15 v_11_153_6 hm_74 [.inr (.inr x), .inr (.inr v2)] [] rfl (zT_rt hS1 s_87 rfl) ⟨by omega, by omega⟩ rfl (zw_mono h (zv_go ?_ ?_))
    · intro S3 hv
      obtain ⟨hS3, h⟩ := hv
      refine zw_push hm_145 dX11_changeRoot_18 (v := .inr (.inr (some 87))) rfl ?_
      refine zw_push hm_145 dX11_changeRoot_19 (v := .inr (.inr v2)) rfl ?_
      refine zw_cv hm_145 dX11_changeRoot_21 v_11_157_6 hm_266 [.inr (.inr v2)] [] rfl (zT_rt hS3 s_87 rfl) ⟨by omega, by omega⟩ rfl ?_
      show ma_wp X (d - 1) (w - 21) 266 0 [(0, .inr (.inr (some 87))), (1, .inr (.inr v2))] [] S3 _
      refine zw_vret hm_266 dX1_noteFewer_0 ?_
      show ma_wp X d w 145 24 [(4, .inr (.inr v2)), (0, .inr (.inr (some 64))), (1, .inr (.inr (some 87))), (2, .inl i), (3, .inr (.inr x))] [] S3 _
      refine zw_push hm_145 dX11_changeRoot_24 (v := .inr (.inr v2)) rfl ?_
      exact zw_aret hm_145 dX11_changeRoot_26 h
    · intro x S9 hx
      exact hx.elim
  · intro x S9 hx
    exact ⟨by decide, hx⟩
theorem sp_145_64_87_s {X : Nat × (Nat → Int32)} {d w : Nat} {f : Nat → Nat → Int32} {r : Nat → Nat → Option Nat} {C Z N : Nat} {Q : Option ma_V ⊕ Nat → ma_S → Prop} {ab : Nat→Nat→Int32} {R : zRT} {y : Int32} {S : ma_S} (i : Int32) (x : Option Nat) (hd : 5 ≤ d) (hw : 110 ≤ w) (hI : zJ87 f r C Z N S) (hq_x : ∀ c, x = some c → 126 ≤ c ∧ c < N) (hpre0 : xB S R) (hpre1 : aS 88 S = ab) (hpre2 : x = zTa R y) (hpre3 : 0 ≤ i.toInt) (hpre4 : i.toInt ≤ 15) (K : ∀ v S₉, zJ87 f r C Z N S₉ → (∀ c, v = some c → 126 ≤ c ∧ c < N) → (xB S₉ R) → (aS 88 S₉ = aRt ab i y) → (v = zTa R (ab 72 i.toNatClampNeg)) → Q (.inl (some (.inr (.inr v)))) S₉) : ma_wp X d w 145 0 [(0, .inr (.inr (some 64))), (1, .inr (.inr (some 87))), (2, .inl i), (3, .inr (.inr x))] [] S Q := by
  refine g_145_64_87_s_0 i x (by omega) (by omega) (zG_T hI) ?_
  have b1 := i_bd i
  refine sp_92_69_s (ab := (aS 88 S)) (R := R) (W := 88) (y := (y)) (i) (x) (by omega) (by omega) (zJ87_dn hI) hq_x (show xB S R from by first | (exact (xC_o (W := 75) hpre0).2)) (show aS 88 S = (aS 88 S) from by first | (exact rfl)) (show xW 88 from by first | (exact xW88)) (show x = zTa R (y) from by first | (exact hpre2)) (by omega) (by omega) (fun v2 S1 hL_S1 hq_v2 rp0_S1 rp1_S1 rp2_S1 => zo_n ⟨zG_T hL_S1, ?_⟩)
  have hI_S1 := zJ87_up hI hL_S1
  have rp0_S1 : xB S1 R := by
    have z := rp0_S1
    (try rw [show mI S 65 = f 65 from funext (fun k => zG_z hI rfl)] at z)
    (try rw [show mI S 64 1 = f 64 1 from zG_z hI rfl] at z)
    exact z
  have rp1_S1 : aS 88 S1 = ma_u (aS 88 S) 72 i.toNatClampNeg (aNm (aS 88 S) (y)) := by
    have z := rp1_S1
    (try rw [show mI S 65 = f 65 from funext (fun k => zG_z hI rfl)] at z)
    (try rw [show mI S 64 1 = f 64 1 from zG_z hI rfl] at z)
    exact z
  have rp2_S1 : v2 = zTa R ((aS 88 S) 72 i.toNatClampNeg) := by
    have z := rp2_S1
    (try rw [show mI S 65 = f 65 from funext (fun k => zG_z hI rfl)] at z)
    (try rw [show mI S 64 1 = f 64 1 from zG_z hI rfl] at z)
    exact z
  refine sp_74_87_s (ab := (aS 88 S1)) (R := R) (y1 := (((aS 88 S) 72 i.toNatClampNeg))) (y2 := (y)) (v2) (x) (by omega) (by omega) hI_S1 hq_v2 hq_x (show xB S1 R from by first | (exact (xC_o (W := 75) rp0_S1).2)) (show aS 88 S1 = (aS 88 S1) from by first | (exact rfl)) (show v2 = zTa R (((aS 88 S) 72 i.toNatClampNeg)) from by first | (exact rp2_S1)) (show x = zTa R (y) from by first | (exact hpre2)) (fun S3 hI_S3 rp0_S3 rp1_S3 => zv_n ⟨zG_T hI_S3, ?_⟩)
  have rp0_S3 : xB S3 R := rp0_S3
  have rp1_S3 : aS 88 S3 = aNc (aS 88 S1) (((aS 88 S) 72 i.toNatClampNeg)) (y) := rp1_S3
  exact K (v2) _ hI_S3 hq_v2 (show xB S3 R from by first | (exact (xC_o (W := 75) rp0_S3).2)) (show aS 88 S3 = aRt ab i y from by first | (rw [rp1_S3, rp1_S1, hpre1]; rfl)) (show v2 = zTa R (ab 72 i.toNatClampNeg) from by first | (rw [← hpre1]; exact rp2_S1))
/-! REACHED -/
def aRA (a : Nat → Nat → Int32) : Nat → Nat → Int32 := aSp 512 (aRo (aWh a 0) 0)
def zRq (a : Nat → Nat → Int32) (n : Int32) : Prop := 0 ≤ n.toInt ∧ n.toInt < 512 ∧ a 126 n.toNatClampNeg ≠ 0 ∧ aRA a 77 n.toNatClampNeg ≠ 0
section B7
variable {a : Nat → Nat → Int32} {y n : Int32} {m k : Nat}
theorem aCm_5 : aCm a y 75 5 = a 75 5 := by
  unfold aCm
  split
  · show (if 75 = 75 ∧ 5 = 4 then _ else if 75 = 76 ∧ 5 = _ then _ else if 75 = 77 ∧ 5 = _ then _ else a 75 5) = a 75 5
    rw [if_neg (by decide), if_neg (by omega), if_neg (by omega)]
  · rfl
theorem aCwf_5 : ∀ (f : Nat) (i : Int32) (a : Nat → Nat → Int32), aCwf m f i a 75 5 = a 75 5 := by
  intro f
  induction f with
  | zero => intro i a; rfl
  | succ f ih =>
    intro i a
    show aCwf m f (i + 1) (aCm a (aRef a m i)) 75 5 = a 75 5
    rw [ih, aCm_5]
theorem aPop_5 : aPop a 75 5 = a 75 5 := by
  unfold aPop
  split
  · unfold aCw
    rw [aCwf_5]
    show (if 75 = 77 ∧ 5 = _ then _ else if 75 = 75 ∧ 5 = 3 then _ else a 75 5) = a 75 5
    rw [if_neg (by omega), if_neg (by decide)]
  · show (if 75 = 75 ∧ 5 = 3 then _ else a 75 5) = a 75 5
    rw [if_neg (by decide)]
theorem aSp_5 : ∀ (f : Nat) (a : Nat → Nat → Int32), aSp f a 75 5 = a 75 5 := by
  intro f
  induction f with
  | zero => intro a; rfl
  | succ f ih =>
    intro a
    show (if (a 75 3).toInt < (a 75 4).toInt then aSp f (aPop a) else a) 75 5 = a 75 5
    split
    · rw [ih, aPop_5]
    · rfl
theorem aHf_5 : ∀ (f : Nat) (n : Int32) (a : Nat → Nat → Int32), aHf f n a 75 5 = a 75 5 := by
  intro f
  induction f with
  | zero => intro n a; rfl
  | succ f ih =>
    intro n a
    show aHf f (n + 1) (if _ then aCm a n else a) 75 5 = a 75 5
    rw [ih]
    split
    · exact aCm_5
    · rfl
theorem aWf_5 : ∀ (f : Nat) (n : Int32) (a : Nat → Nat → Int32), aWf f n a 75 5 = a 75 5 := by
  intro f
  induction f with
  | zero => intro n a; exact aHf_5 _ _ _
  | succ f ih =>
    intro n a
    show aWf f (n + 1) (aCm a _) 75 5 = a 75 5
    rw [ih]
    exact aCm_5
theorem aRf_5 : ∀ (f : Nat) (n : Int32) (a : Nat → Nat → Int32), aRf f n a 75 5 = a 75 5 := by
  intro f
  induction f with
  | zero => intro n a; exact aWf_5 _ _ _
  | succ f ih =>
    intro n a
    show aRf f (n + 1) (aCm a _) 75 5 = a 75 5
    rw [ih]
    exact aCm_5
theorem aRA_5 : aRA a 75 5 = 0 := by
  unfold aRA
  rw [aSp_5]
  exact aRf_5 _ _ _
theorem aRA_o {c : Nat} (h : c ≠ 75 ∧ c ≠ 76 ∧ c ≠ 77) : aRA a c k = a c k := by
  unfold aRA
  rw [aSp_o h, aRo_o h]
  show (if c = 75 ∧ k = 5 then _ else if c = 75 ∧ k = 4 then _ else if c = 75 ∧ k = 3 then _ else if c = 77 ∧ _ then _ else a c k) = _
  rw [if_neg (fun w => h.1 w.1), if_neg (fun w => h.1 w.1), if_neg (fun w => h.1 w.1), if_neg (fun w => h.2.2 w.1)]
end B7

