/-! from 95.g16 -/
/-! the heap by numbers, the class (written by wip/tools/gen18.py) -/
/-! FREE BLOCKS -/
/-- who begins at that place, -1: nobody -/
def zOb (a : Nat → Nat → Int32) (p : Int) : Int32 := if 0 ≤ p ∧ p < 4500 ∧ 0 ≤ (a 71 p.toNat).toInt ∧ (a 71 p.toNat).toInt < 512 ∧ a 126 (a 71 p.toNat).toNatClampNeg ≠ 0 then a 71 p.toNat else -1
def zSz (a : Nat → Nat → Int32) : Prop := ∀ p, 0 ≤ (zOb a p).toInt → 1 ≤ (a 128 (zOb a p).toNatClampNeg).toInt
/-- the first free place from p on -/
def aNf (a : Nat → Nat → Int32) : Nat → Int → Int
  | 0, _ => (a 87 0).toInt
  | f + 1, p => if p < (a 87 0).toInt then (if (zOb a p).toInt < 0 then p else aNf a f (p + (a 128 (zOb a p).toNatClampNeg).toInt)) else (a 87 0).toInt
def aN (a : Nat → Nat → Int32) (p : Int) : Int := aNf a ((a 87 0).toInt - p).toNat p
/-- where the free block ends -/
def aEf (a : Nat → Nat → Int32) : Nat → Int → Int
  | 0, p => p
  | f + 1, p => if p < (a 87 0).toInt ∧ (zOb a p).toInt < 0 then aEf a f (p + 1) else p
def aE (a : Nat → Nat → Int32) (p : Int) : Int := aEf a ((a 87 0).toInt - p).toNat p
/-- the first block that is long enough, from a free place p, before b -/
def aFf (a : Nat → Nat → Int32) (z b : Int) : Nat → Int → Int
  | 0, _ => -1
  | f + 1, p => if p < b then (if z ≤ aE a p - p then p else aFf a z b f (aN a (aE a p))) else -1
/-- the shortest (s not 0) or the longest that is long enough; q the best so far, l its length -/
def aFl (a : Nat → Nat → Int32) (z : Int) (s : Int32) : Nat → Int → Int → Int → Int
  | 0, _, q, _ => q
  | f + 1, p, q, l => if p < (a 87 0).toInt then (if z ≤ aE a p - p ∧ (q = -1 ∨ (if s = 0 then l < aE a p - p else aE a p - p < l)) then aFl a z s f (aN a (aE a p)) p (aE a p - p) else aFl a z s f (aN a (aE a p)) q l) else q
def aFx (a : Nat → Nat → Int32) (z : Int) : Int := if aFf a z (a 87 0).toInt 4500 (aN a (a 87 2).toInt) = -1 then aFf a z (a 87 2).toInt 4500 (aN a 0) else aFf a z (a 87 0).toInt 4500 (aN a (a 87 2).toInt)
def aFt (a : Nat → Nat → Int32) (z : Int) : Int := if a 87 1 = 0 then aFf a z (a 87 0).toInt 4500 (aN a 0) else if a 87 1 = 1 then aFx a z else if a 87 1 = 2 then aFl a z 1 4500 (aN a 0) (-1) 0 else aFl a z 0 4500 (aN a 0) (-1) 0
section FB
variable {a : Nat → Nat → Int32} {p z b q l : Int} {x s : Int32} {W c k : Nat} {S : ma_S} {R : zRT}
theorem aNf_fu (h : zSz a) : ∀ (f g : Nat) (p : Int), ((a 87 0).toInt - p).toNat ≤ f → ((a 87 0).toInt - p).toNat ≤ g → aNf a f p = aNf a g p := by
  intro f
  induction f with
  | zero =>
    intro g p hf hg
    cases g with
    | zero => rfl
    | succ g =>
      show (a 87 0).toInt = if p < (a 87 0).toInt then _ else (a 87 0).toInt
      rw [if_neg (by omega)]
  | succ f ih =>
    intro g p hf hg
    by_cases c : p < (a 87 0).toInt
    · cases g with
      | zero => omega
      | succ g =>
        show (if p < (a 87 0).toInt then (if (zOb a p).toInt < 0 then p else aNf a f (p + (a 128 (zOb a p).toNatClampNeg).toInt)) else (a 87 0).toInt) = (if p < (a 87 0).toInt then (if (zOb a p).toInt < 0 then p else aNf a g (p + (a 128 (zOb a p).toNatClampNeg).toInt)) else (a 87 0).toInt)
        rw [if_pos c, if_pos c]
        by_cases d : (zOb a p).toInt < 0
        · rw [if_pos d, if_pos d]
        · rw [if_neg d, if_neg d]
          have s0 := h p (by omega)
          exact ih g _ (by omega) (by omega)
    · show (if p < (a 87 0).toInt then _ else (a 87 0).toInt) = _
      rw [if_neg c]
      cases g with
      | zero => rfl
      | succ g =>
        show _ = if p < (a 87 0).toInt then _ else (a 87 0).toInt
        rw [if_neg c]
theorem aN_fr (h1 : p < (a 87 0).toInt) (h2 : (zOb a p).toInt < 0) : aN a p = p := by
  unfold aN
  have e : ((a 87 0).toInt - p).toNat = ((a 87 0).toInt - (p + 1)).toNat + 1 := by omega
  rw [e]
  show (if p < (a 87 0).toInt then (if (zOb a p).toInt < 0 then p else _) else _) = p
  rw [if_pos h1, if_pos h2]
theorem aN_ob (h : zSz a) (h1 : p < (a 87 0).toInt) (h2 : 0 ≤ (zOb a p).toInt) : aN a p = aN a (p + (a 128 (zOb a p).toNatClampNeg).toInt) := by
  have s0 := h p h2
  unfold aN
  have e : ((a 87 0).toInt - p).toNat = ((a 87 0).toInt - (p + 1)).toNat + 1 := by omega
  rw [e]
  show (if p < (a 87 0).toInt then (if (zOb a p).toInt < 0 then p else aNf a _ (p + (a 128 (zOb a p).toNatClampNeg).toInt)) else _) = _
  rw [if_pos h1, if_neg (by omega)]
  exact aNf_fu h _ _ _ (by omega) (by omega)
theorem aN_ro (h1 : (a 87 0).toInt ≤ p) : aN a p = (a 87 0).toInt := by
  unfold aN
  have e : ((a 87 0).toInt - p).toNat = 0 := by omega
  rw [e]
  rfl
theorem aE_go (h1 : p < (a 87 0).toInt) (h2 : (zOb a p).toInt < 0) : aE a p = aE a (p + 1) := by
  unfold aE
  have e : ((a 87 0).toInt - p).toNat = ((a 87 0).toInt - (p + 1)).toNat + 1 := by omega
  rw [e]
  show (if p < (a 87 0).toInt ∧ (zOb a p).toInt < 0 then aEf a _ (p + 1) else p) = _
  rw [if_pos ⟨h1, h2⟩]
theorem aE_st (h : ¬ (p < (a 87 0).toInt ∧ (zOb a p).toInt < 0)) : aE a p = p := by
  unfold aE
  cases e : ((a 87 0).toInt - p).toNat with
  | zero => rfl
  | succ k =>
    show (if p < (a 87 0).toInt ∧ (zOb a p).toInt < 0 then aEf a k (p + 1) else p) = p
    rw [if_neg h]
theorem ob_y (hC : xB S R) (rg : zTa R (mI S 71 x.toNatClampNeg) = some c) (h0 : 0 ≤ x.toInt) (h1 : x.toInt < 4500) : zOb (aS W S) x.toInt = mI S 71 x.toNatClampNeg ∧ aS W S 128 (mI S 71 x.toNatClampNeg).toNatClampNeg = mI S c 2 := by
  have t := xB_th (W := W) hC rg
  refine ⟨?_, t.2.2.2.2.1.symm⟩
  have e : aS W S 71 x.toInt.toNat = mI S 71 x.toNatClampNeg := aS_I rfl (zcw_s (by decide))
  unfold zOb
  rw [e, if_pos ⟨h0, h1, t.1, t.2.1, by rw [t.2.2.2.2.2.2.2.2]; decide⟩]
theorem ob_n1 (h : p < 0 ∨ 4500 ≤ p) : zOb a p = -1 := if_neg (by omega)
theorem ob_n2 (h : (mI S 71 x.toNatClampNeg).toInt < 0 ∨ 512 ≤ (mI S 71 x.toNatClampNeg).toInt) : zOb (aS W S) x.toInt = -1 := by
  have e : aS W S 71 x.toInt.toNat = mI S 71 x.toNatClampNeg := aS_I rfl (zcw_s (by decide))
  unfold zOb
  rw [e, if_neg (by omega)]
theorem ob_n3 (hC : xB S R) (rn : zTa R (mI S 71 x.toNatClampNeg) = none) : zOb (aS W S) x.toInt = -1 := by
  have e : aS W S 71 x.toInt.toNat = mI S 71 x.toNatClampNeg := aS_I rfl (zcw_s (by decide))
  unfold zOb
  rw [e, if_neg (fun z => xB_nt (W := W) hC rn ⟨z.2.2.1, z.2.2.2.1, z.2.2.2.2⟩)]
theorem ob_neg (h : zOb a p = -1) : (zOb a p).toInt < 0 := by
  rw [h]
  decide
theorem sz_of {fz : Nat → Nat → Bool} {sc sa : List (Nat × Nat × Int × Int)} {rf : List Nat} {ex : (Nat → Nat → Int32) → Prop} {f : Nat → Nat → Int32} {r : Nat → Nat → Option Nat} {C Z N : Nat} (hI : zG fz sc sa rf ex f r C Z N S) (h7 : 70 ∈ rf) : zSz (aS W S) := by
  intro p hp
  unfold zOb at hp ⊢
  by_cases h : 0 ≤ p ∧ p < 4500 ∧ 0 ≤ (aS W S 71 p.toNat).toInt ∧ (aS W S 71 p.toNat).toInt < 512 ∧ aS W S 126 (aS W S 71 p.toNat).toNatClampNeg ≠ 0
  · rw [if_pos h]
    have hn : (aS W S 71 p.toNat).toNatClampNeg < 512 := by
      have := tn_cast h.2.2.1
      omega
    cases e : mR S 70 (aS W S 71 p.toNat).toNatClampNeg with
    | none =>
      refine absurd ?_ h.2.2.2.2
      show aTn (mR S 70) _ = 0
      unfold aTn
      rw [e, if_pos hn]
    | some c =>
      have q := zG_th hI (zG_70 hI h7 e)
      have e2 : aS W S 128 (aS W S 71 p.toNat).toNatClampNeg = mI S c 2 := aTf_c hn e
      rw [e2]
      exact q.2.1.1
  · rw [if_neg h] at hp
    exact absurd hp (by decide)
theorem aFf_y (h : p < b) (h1 : z ≤ aE a p - p) : aFf a z b (k + 1) p = p := by
  show (if p < b then (if z ≤ aE a p - p then p else _) else -1) = p
  rw [if_pos h, if_pos h1]
theorem aFf_n (h : p < b) (h1 : ¬ z ≤ aE a p - p) : aFf a z b (k + 1) p = aFf a z b k (aN a (aE a p)) := by
  show (if p < b then (if z ≤ aE a p - p then p else _) else -1) = _
  rw [if_pos h, if_neg h1]
theorem aFf_st (h : k = 0 ∨ ¬ p < b) : aFf a z b k p = -1 := by
  cases k with
  | zero => rfl
  | succ k => exact if_neg (by omega)
theorem aFl_y (h : p < (a 87 0).toInt) (h1 : z ≤ aE a p - p) (h2 : q = -1 ∨ (s = 0 ∧ l < aE a p - p) ∨ (s ≠ 0 ∧ aE a p - p < l)) : aFl a z s (k + 1) p q l = aFl a z s k (aN a (aE a p)) p (aE a p - p) := by
  show (if p < (a 87 0).toInt then _ else q) = _
  rw [if_pos h, if_pos ⟨h1, by
    rcases h2 with h2 | h2 | h2
    · exact Or.inl h2
    · exact Or.inr (by rw [if_pos h2.1]; exact h2.2)
    · exact Or.inr (by rw [if_neg h2.1]; exact h2.2)⟩]
theorem aFl_n (h : p < (a 87 0).toInt) (h1 : ¬ z ≤ aE a p - p ∨ (q ≠ -1 ∧ ((s = 0 ∧ ¬ l < aE a p - p) ∨ (s ≠ 0 ∧ ¬ aE a p - p < l)))) : aFl a z s (k + 1) p q l = aFl a z s k (aN a (aE a p)) q l := by
  show (if p < (a 87 0).toInt then _ else q) = _
  rw [if_pos h, if_neg (fun w => by
    rcases h1 with h1 | h1
    · exact h1 w.1
    · rcases w.2 with w2 | w2
      · exact h1.1 w2
      · rcases h1.2 with h3 | h3
        · rw [if_pos h3.1] at w2
          exact h3.2 w2
        · rw [if_neg h3.1] at w2
          exact h3.2 w2)]
theorem aFl_st (h : k = 0 ∨ ¬ p < (a 87 0).toInt) : aFl a z s k p q l = q := by
  cases k with
  | zero => rfl
  | succ k => exact if_neg (by omega)
end FB
theorem g_105_87_s_0 {X : Nat × (Nat → Int32)} {d w : Nat} {S : ma_S} {Q : Option ma_V ⊕ Nat → ma_S → Prop} (p : Int32) (hd : 1 ≤ d) (hw : 22 ≤ w) (hS : zT S) (h : ma_wp X d w 105 2 [(0, .inr (.inr (some 87))), (2, .inl p)] [] S Q) : ma_wp X d w 105 0 [(0, .inr (.inr (some 87))), (1, .inl p)] [] S Q := by
  refine zw_push hm_105 dX8_freeFrom_0 (v := .inl p) rfl ?_
  refine zw_sto hm_105 dX8_freeFrom_1 [(2, .inl p), (0, .inr (.inr (some 87))), (1, .inl p)] rfl rfl rfl ?_
  exact zw_sub (ma_nd_of (ks := [0, 2]) rfl (by decide)) (ma_nd_of (ks := [2, 0, 1]) rfl (by decide)) (ma_le_cons rfl (ma_le_cons rfl (ma_le_nil _))) h
theorem g_105_87_s_2 {X : Nat × (Nat → Int32)} {d w : Nat} {S : ma_S} {Q : Option ma_V ⊕ Nat → ma_S → Prop} (l2 : Int32) (hd : 1 ≤ d) (hw : 22 ≤ w) (hS : zT S) (h : if (mI S 87 0) ≤ l2 then (Q (.inl (some (.inl (mI S 87 0)))) S) else (if l2 < 0 then (Q (.inl (some (.inl l2))) S) else (if (4500 : Int32) ≤ l2 then (Q (.inl (some (.inl l2))) S) else ((0 ≤ l2 ∧ l2.toNatClampNeg < 4500) ∧ (if (mI S 71 l2.toNatClampNeg) < 0 then (Q (.inl (some (.inl l2))) S) else (if (512 : Int32) ≤ (mI S 71 l2.toNatClampNeg) then (Q (.inl (some (.inl l2))) S) else ((0 ≤ (mI S 71 l2.toNatClampNeg) ∧ (mI S 71 l2.toNatClampNeg).toNatClampNeg < 512) ∧ (((mR S 70 (mI S 71 l2.toNatClampNeg).toNatClampNeg) = none → Q (.inl (some (.inl l2))) S) ∧ (∀ c1, (mR S 70 (mI S 71 l2.toNatClampNeg).toNatClampNeg) = some c1 → (126 ≤ c1 ∧ c1 < mN S) ∧ (ma_wp X d w 105 2 [(0, .inr (.inr (some 87))), (2, .inl (l2 + (mI S c1 2)))] [] S Q)))))))))) : ma_wp X d w 105 2 [(0, .inr (.inr (some 87))), (2, .inl l2)] [] S Q := by
  refine zw_push hm_105 dX8_freeFrom_2 (v := .inl l2) rfl ?_
  refine zw_push hm_105 dX8_freeFrom_3 (v := .inr (.inr (some 87))) rfl ?_
  refine zw_gf hm_105 dX8_freeFrom_4 (v := .inl (mI S 87 0)) (zT_is hS s_87) (zT_t hS s_87) rfl f_8_9_6 rfl ?_
  refine zw_if2 hm_105 dX8_freeFrom_7 (t := 35) rfl zc2_ge ?_ ?_
  · intro hc
    rw [if_pos hc] at h
    refine zw_push hm_105 dX8_freeFrom_35 (v := .inr (.inr (some 87))) rfl ?_
    refine zw_gf hm_105 dX8_freeFrom_36 (v := .inl (mI S 87 0)) (zT_is hS s_87) (zT_t hS s_87) rfl f_8_9_6 rfl ?_
    exact zw_iret hm_105 dX8_freeFrom_39 h
  · intro hc
    rw [if_neg hc] at h
    refine zw_push hm_105 dX8_freeFrom_10 (v := .inr (.inr (some 87))) rfl ?_
    refine zw_gf hm_105 dX8_freeFrom_11 (v := .inr (.inr (some 69))) (zT_is hS s_87) (zT_t hS s_87) rfl f_8_46_6 (zT_f hS r_87_3) ?_
    refine zw_push hm_105 dX8_freeFrom_14 (v := .inl l2) rfl ?_
    refine zw_cv hm_105 dX8_freeFrom_15 v_8_50_7 hm_89 [.inl l2] [] rfl (zT_rt hS s_69 rfl) ⟨by omega, by omega⟩ rfl ?_
    show ma_wp X (d - 1) (w - 22) 89 0 [(0, .inr (.inr (some 69))), (1, .inl l2)] [] S _
    refine zw_push hm_89 dX7_thingFrom_0 (v := .inl l2) rfl ?_
    refine zw_if0 hm_89 dX7_thingFrom_1 (t := 20) rfl zc0_lt ?_ ?_
    · intro hc
      rw [if_pos hc] at h
      refine zw_push hm_89 dX7_thingFrom_20 (v := .inl (-1 : Int32)) rfl ?_
      refine zw_sto hm_89 dX7_thingFrom_21 [(2, .inl (-1 : Int32)), (0, .inr (.inr (some 69))), (1, .inl l2)] rfl rfl rfl ?_
      refine zw_push hm_89 dX7_thingFrom_22 (v := .inl (-1 : Int32)) rfl ?_
      refine zw_if0 hm_89 dX7_thingFrom_23 (t := 42) rfl zc0_lt (fun _ => ?_) (fun hc => absurd (by decide) hc)
      refine zw_push hm_89 dX7_thingFrom_42 (v := .inr (.inr none)) rfl ?_
      refine zw_aret hm_89 dX7_thingFrom_43 ?_
      show ma_wp X d w 105 18 [(0, .inr (.inr (some 87))), (2, .inl l2)] [.inr (.inr none)] S _
      refine zw_sto hm_105 dX8_freeFrom_18 [(3, .inr (.inr none)), (0, .inr (.inr (some 87))), (2, .inl l2)] rfl rfl rfl ?_
      refine zw_push hm_105 dX8_freeFrom_19 (v := .inr (.inr none)) rfl ?_
      refine zw_ifnonnull hm_105 dX8_freeFrom_20 (t := 25) rfl (fun _ => ?_) (fun _ z => by cases z)
      refine zw_push hm_105 dX8_freeFrom_23 (v := .inl l2) rfl ?_
      exact zw_iret hm_105 dX8_freeFrom_24 h
    · intro hc
      rw [if_neg hc] at h
      refine zw_push hm_89 dX7_thingFrom_4 (v := .inl l2) rfl ?_
      refine zw_push hm_89 dX7_thingFrom_5 (v := .inl (4500 : Int32)) rfl ?_
      refine zw_if2 hm_89 dX7_thingFrom_8 (t := 20) rfl zc2_ge ?_ ?_
      · intro hc
        rw [if_pos hc] at h
        refine zw_push hm_89 dX7_thingFrom_20 (v := .inl (-1 : Int32)) rfl ?_
        refine zw_sto hm_89 dX7_thingFrom_21 [(2, .inl (-1 : Int32)), (0, .inr (.inr (some 69))), (1, .inl l2)] rfl rfl rfl ?_
        refine zw_push hm_89 dX7_thingFrom_22 (v := .inl (-1 : Int32)) rfl ?_
        refine zw_if0 hm_89 dX7_thingFrom_23 (t := 42) rfl zc0_lt (fun _ => ?_) (fun hc => absurd (by decide) hc)
        refine zw_push hm_89 dX7_thingFrom_42 (v := .inr (.inr none)) rfl ?_
        refine zw_aret hm_89 dX7_thingFrom_43 ?_
        show ma_wp X d w 105 18 [(0, .inr (.inr (some 87))), (2, .inl l2)] [.inr (.inr none)] S _
        refine zw_sto hm_105 dX8_freeFrom_18 [(3, .inr (.inr none)), (0, .inr (.inr (some 87))), (2, .inl l2)] rfl rfl rfl ?_
        refine zw_push hm_105 dX8_freeFrom_19 (v := .inr (.inr none)) rfl ?_
        refine zw_ifnonnull hm_105 dX8_freeFrom_20 (t := 25) rfl (fun _ => ?_) (fun _ z => by cases z)
        refine zw_push hm_105 dX8_freeFrom_23 (v := .inl l2) rfl ?_
        exact zw_iret hm_105 dX8_freeFrom_24 h
      · intro hc
        rw [if_neg hc] at h
        refine zw_push hm_89 dX7_thingFrom_11 (v := .inr (.inr (some 69))) rfl ?_
        refine zw_gf hm_89 dX7_thingFrom_12 (v := .inr (.inr (some 71))) (zT_is hS s_69) (zT_t hS s_69) rfl f_7_17_7 (zT_f hS r_69_1) ?_
        refine zw_push hm_89 dX7_thingFrom_15 (v := .inl l2) rfl ?_
        obtain ⟨hg, h⟩ := h
        refine zw_ia hm_89 dX7_thingFrom_16 (zT_is hS s_71) (zT_h hS s_71) rfl hg ?_
        show ma_wp X (d - 1) (w - 22) 89 17 [(0, .inr (.inr (some 69))), (1, .inl l2)] [.inl (mI S 71 l2.toNatClampNeg)] S _
        refine zw_goto hm_89 dX7_thingFrom_17 (t := 21) rfl ?_
        refine zw_sto hm_89 dX7_thingFrom_21 [(2, .inl (mI S 71 l2.toNatClampNeg)), (0, .inr (.inr (some 69))), (1, .inl l2)] rfl rfl rfl ?_
        refine zw_push hm_89 dX7_thingFrom_22 (v := .inl (mI S 71 l2.toNatClampNeg)) rfl ?_
        refine zw_if0 hm_89 dX7_thingFrom_23 (t := 42) rfl zc0_lt ?_ ?_
        · intro hc
          rw [if_pos hc] at h
          refine zw_push hm_89 dX7_thingFrom_42 (v := .inr (.inr none)) rfl ?_
          refine zw_aret hm_89 dX7_thingFrom_43 ?_
          show ma_wp X d w 105 18 [(0, .inr (.inr (some 87))), (2, .inl l2)] [.inr (.inr none)] S _
          refine zw_sto hm_105 dX8_freeFrom_18 [(3, .inr (.inr none)), (0, .inr (.inr (some 87))), (2, .inl l2)] rfl rfl rfl ?_
          refine zw_push hm_105 dX8_freeFrom_19 (v := .inr (.inr none)) rfl ?_
          refine zw_ifnonnull hm_105 dX8_freeFrom_20 (t := 25) rfl (fun _ => ?_) (fun _ z => by cases z)
          refine zw_push hm_105 dX8_freeFrom_23 (v := .inl l2) rfl ?_
          exact zw_iret hm_105 dX8_freeFrom_24 h
        · intro hc
          rw [if_neg hc] at h
          refine zw_push hm_89 dX7_thingFrom_26 (v := .inl (mI S 71 l2.toNatClampNeg)) rfl ?_
          refine zw_push hm_89 dX7_thingFrom_27 (v := .inl (512 : Int32)) rfl ?_
          refine zw_if2 hm_89 dX7_thingFrom_30 (t := 42) rfl zc2_ge ?_ ?_
          · intro hc
            rw [if_pos hc] at h
            refine zw_push hm_89 dX7_thingFrom_42 (v := .inr (.inr none)) rfl ?_
            refine zw_aret hm_89 dX7_thingFrom_43 ?_
            show ma_wp X d w 105 18 [(0, .inr (.inr (some 87))), (2, .inl l2)] [.inr (.inr none)] S _
            refine zw_sto hm_105 dX8_freeFrom_18 [(3, .inr (.inr none)), (0, .inr (.inr (some 87))), (2, .inl l2)] rfl rfl rfl ?_
            refine zw_push hm_105 dX8_freeFrom_19 (v := .inr (.inr none)) rfl ?_
            refine zw_ifnonnull hm_105 dX8_freeFrom_20 (t := 25) rfl (fun _ => ?_) (fun _ z => by cases z)
            refine zw_push hm_105 dX8_freeFrom_23 (v := .inl l2) rfl ?_
            exact zw_iret hm_105 dX8_freeFrom_24 h
          · intro hc
            rw [if_neg hc] at h
            refine zw_push hm_89 dX7_thingFrom_33 (v := .inr (.inr (some 69))) rfl ?_
            refine zw_gf hm_89 dX7_thingFrom_34 (v := .inr (.inr (some 70))) (zT_is hS s_69) (zT_t hS s_69) rfl f_7_11_7 (zT_f hS r_69_0) ?_
            refine zw_push hm_89 dX7_thingFrom_37 (v := .inl (mI S 71 l2.toNatClampNeg)) rfl ?_
            obtain ⟨hg, h⟩ := h
            refine zw_aa hm_89 dX7_thingFrom_38 (zT_is hS s_70) (zT_h hS s_70) rfl rfl hg rfl ?_
            show ma_wp X (d - 1) (w - 22) 89 39 [(2, .inl (mI S 71 l2.toNatClampNeg)), (0, .inr (.inr (some 69))), (1, .inl l2)] [.inr (.inr (mR S 70 (mI S 71 l2.toNatClampNeg).toNatClampNeg))] S _
            refine zw_goto hm_89 dX7_thingFrom_39 (t := 43) rfl ?_
            refine zw_aret hm_89 dX7_thingFrom_43 ?_
            show ma_wp X d w 105 18 [(0, .inr (.inr (some 87))), (2, .inl l2)] [.inr (.inr (mR S 70 (mI S 71 l2.toNatClampNeg).toNatClampNeg))] S _
            refine zw_sto hm_105 dX8_freeFrom_18 [(3, .inr (.inr (mR S 70 (mI S 71 l2.toNatClampNeg).toNatClampNeg))), (0, .inr (.inr (some 87))), (2, .inl l2)] rfl rfl rfl ?_
            refine zw_push hm_105 dX8_freeFrom_19 (v := .inr (.inr (mR S 70 (mI S 71 l2.toNatClampNeg).toNatClampNeg))) rfl ?_
            refine zw_ifnonnull hm_105 dX8_freeFrom_20 (t := 25) rfl ?_ ?_
            · intro hc
              have h := h.1 hc
              (try rw [hc])
              show ma_wp X d w 105 23 [(3, .inr (.inr none)), (0, .inr (.inr (some 87))), (2, .inl l2)] [] S _
              refine zw_push hm_105 dX8_freeFrom_23 (v := .inl l2) rfl ?_
              exact zw_iret hm_105 dX8_freeFrom_24 h
            · intro c1 hc
              have h := h.2 c1 hc
              (try rw [hc])
              show ma_wp X d w 105 25 [(3, .inr (.inr (some c1))), (0, .inr (.inr (some 87))), (2, .inl l2)] [] S _
              refine zw_push hm_105 dX8_freeFrom_25 (v := .inl l2) rfl ?_
              refine zw_push hm_105 dX8_freeFrom_26 (v := .inr (.inr (some c1))) rfl ?_
              obtain ⟨hg, h⟩ := h
              refine zw_gf hm_105 dX8_freeFrom_27 (v := .inl (mI S c1 2)) (zT_tis hS hg) (zT_tt hS hg) rfl f_8_34_9 rfl ?_
              refine zw_stk hm_105 dX8_freeFrom_30 (st₉ := [.inl (l2 + (mI S c1 2))]) rfl rfl ?_
              refine zw_sto hm_105 dX8_freeFrom_31 [(2, .inl (l2 + (mI S c1 2))), (3, .inr (.inr (some c1))), (0, .inr (.inr (some 87)))] rfl rfl rfl ?_
              refine zw_goto hm_105 dX8_freeFrom_32 (t := 2) rfl ?_
              exact zw_sub (ma_nd_of (ks := [0, 2]) rfl (by decide)) (ma_nd_of (ks := [2, 3, 0]) rfl (by decide)) (ma_le_cons rfl (ma_le_cons rfl (ma_le_nil _))) h
theorem lp_105_87_s_2 {X : Nat × (Nat → Int32)} {d w : Nat} {f : Nat → Nat → Int32} {r : Nat → Nat → Option Nat} {C Z N : Nat} {Q : Option ma_V ⊕ Nat → ma_S → Prop} {ab : Nat→Nat→Int32} {p : Int32} {S : ma_S} (hd : 1 ≤ d) (hw : 22 ≤ w) (K : ∀ v S₉, S₉ = S → (0 ≤ v.toInt ∧ v.toInt ≤ 1500) → (v.toInt = aN ab p.toInt) → Q (.inl (some (.inl v))) S₉) : ∀ (n : Nat) (l2 : Int32), (1500 - l2.toInt).toNat = n → zJ87 f r C Z N S → (0 ≤ l2.toInt) → (xB S (mR S 70)) → (aS 88 S = ab) → (aN ab l2.toInt = aN ab p.toInt) → ma_wp X d w 105 2 [(0, .inr (.inr (some 87))), (2, .inl l2)] [] S Q := by
  intro n
  induction n using Nat.strongRecOn with
  | _ n IH =>
    intro l2 hmu hI  hi0 hi1 hi2 hi3
    refine g_105_87_s_2 l2 (by omega) (by omega) (zG_T hI) ?_
    have f1 := zG_s hI (0) (1500) (c := 87) (k := 0) (by decide)
    have b2 := i_bd l2
    refine zd (fun h3 => ?_) (fun h3 => ?_)
    · skip
      have g4 := i_le h3
      exact K ((mI S 87 0)) _ rfl (by omega) (show (mI S 87 0).toInt = aN ab p.toInt from by first | (have nf := hi3; have r0 := (congrArg Int32.toInt (aS_I (W := 88) (S := S) (c := 87) (c₉ := 87) (k := 0) rfl rfl)); have z := aN_ro (a := aS 88 S) (p := l2.toInt) (by omega); rw [hi2] at z r0; omega) | (have nf := hi3; have r0 := (congrArg Int32.toInt (aS_I (W := 88) (S := S) (c := 87) (c₉ := 87) (k := 0) rfl rfl)); have o := ob_n1 (a := aS 88 S) (p := l2.toInt) (by omega); have z := aN_fr (a := aS 88 S) (p := l2.toInt) (by omega) (ob_neg o); rw [hi2] at z; omega) | (have nf := hi3; have r0 := (congrArg Int32.toInt (aS_I (W := 88) (S := S) (c := 87) (c₉ := 87) (k := 0) rfl rfl)); have o := ob_n2 (W := 88) (S := S) (x := l2) (by omega); have z := aN_fr (a := aS 88 S) (p := l2.toInt) (by omega) (ob_neg o); rw [hi2] at z; omega))
    · skip
      have g5 := i_nle h3
      have li6 : (0 : Int32).toInt = 0 := rfl
      refine zd (fun h7 => ?_) (fun h7 => ?_)
      · skip
        have g8 := i_lt h7
        exact K (l2) _ rfl (by omega) (show l2.toInt = aN ab p.toInt from by first | (have nf := hi3; have r0 := (congrArg Int32.toInt (aS_I (W := 88) (S := S) (c := 87) (c₉ := 87) (k := 0) rfl rfl)); have z := aN_ro (a := aS 88 S) (p := l2.toInt) (by omega); rw [hi2] at z r0; omega) | (have nf := hi3; have r0 := (congrArg Int32.toInt (aS_I (W := 88) (S := S) (c := 87) (c₉ := 87) (k := 0) rfl rfl)); have o := ob_n1 (a := aS 88 S) (p := l2.toInt) (by omega); have z := aN_fr (a := aS 88 S) (p := l2.toInt) (by omega) (ob_neg o); rw [hi2] at z; omega) | (have nf := hi3; have r0 := (congrArg Int32.toInt (aS_I (W := 88) (S := S) (c := 87) (c₉ := 87) (k := 0) rfl rfl)); have o := ob_n2 (W := 88) (S := S) (x := l2) (by omega); have z := aN_fr (a := aS 88 S) (p := l2.toInt) (by omega) (ob_neg o); rw [hi2] at z; omega))
      · skip
        have g9 := i_nlt h7
        have li10 : (4500 : Int32).toInt = 4500 := rfl
        refine zd (fun h11 => ?_) (fun h11 => ?_)
        · skip
          have g12 := i_le h11
          exact K (l2) _ rfl (by omega) (show l2.toInt = aN ab p.toInt from by first | (have nf := hi3; have r0 := (congrArg Int32.toInt (aS_I (W := 88) (S := S) (c := 87) (c₉ := 87) (k := 0) rfl rfl)); have z := aN_ro (a := aS 88 S) (p := l2.toInt) (by omega); rw [hi2] at z r0; omega) | (have nf := hi3; have r0 := (congrArg Int32.toInt (aS_I (W := 88) (S := S) (c := 87) (c₉ := 87) (k := 0) rfl rfl)); have o := ob_n1 (a := aS 88 S) (p := l2.toInt) (by omega); have z := aN_fr (a := aS 88 S) (p := l2.toInt) (by omega) (ob_neg o); rw [hi2] at z; omega) | (have nf := hi3; have r0 := (congrArg Int32.toInt (aS_I (W := 88) (S := S) (c := 87) (c₉ := 87) (k := 0) rfl rfl)); have o := ob_n2 (W := 88) (S := S) (x := l2) (by omega); have z := aN_fr (a := aS 88 S) (p := l2.toInt) (by omega) (ob_neg o); rw [hi2] at z; omega))
        · skip
          have g13 := i_nle h11
          refine ⟨i_ix (by omega) (by omega), ?_⟩
          have b14 := i_bd (mI S 71 l2.toNatClampNeg)
          refine zd (fun h15 => ?_) (fun h15 => ?_)
          · skip
            have g16 := i_lt h15
            exact K (l2) _ rfl (by omega) (show l2.toInt = aN ab p.toInt from by first | (have nf := hi3; have r0 := (congrArg Int32.toInt (aS_I (W := 88) (S := S) (c := 87) (c₉ := 87) (k := 0) rfl rfl)); have z := aN_ro (a := aS 88 S) (p := l2.toInt) (by omega); rw [hi2] at z r0; omega) | (have nf := hi3; have r0 := (congrArg Int32.toInt (aS_I (W := 88) (S := S) (c := 87) (c₉ := 87) (k := 0) rfl rfl)); have o := ob_n1 (a := aS 88 S) (p := l2.toInt) (by omega); have z := aN_fr (a := aS 88 S) (p := l2.toInt) (by omega) (ob_neg o); rw [hi2] at z; omega) | (have nf := hi3; have r0 := (congrArg Int32.toInt (aS_I (W := 88) (S := S) (c := 87) (c₉ := 87) (k := 0) rfl rfl)); have o := ob_n2 (W := 88) (S := S) (x := l2) (by omega); have z := aN_fr (a := aS 88 S) (p := l2.toInt) (by omega) (ob_neg o); rw [hi2] at z; omega))
          · skip
            have g17 := i_nlt h15
            have li18 : (512 : Int32).toInt = 512 := rfl
            refine zd (fun h19 => ?_) (fun h19 => ?_)
            · skip
              have g20 := i_le h19
              exact K (l2) _ rfl (by omega) (show l2.toInt = aN ab p.toInt from by first | (have nf := hi3; have r0 := (congrArg Int32.toInt (aS_I (W := 88) (S := S) (c := 87) (c₉ := 87) (k := 0) rfl rfl)); have z := aN_ro (a := aS 88 S) (p := l2.toInt) (by omega); rw [hi2] at z r0; omega) | (have nf := hi3; have r0 := (congrArg Int32.toInt (aS_I (W := 88) (S := S) (c := 87) (c₉ := 87) (k := 0) rfl rfl)); have o := ob_n1 (a := aS 88 S) (p := l2.toInt) (by omega); have z := aN_fr (a := aS 88 S) (p := l2.toInt) (by omega) (ob_neg o); rw [hi2] at z; omega) | (have nf := hi3; have r0 := (congrArg Int32.toInt (aS_I (W := 88) (S := S) (c := 87) (c₉ := 87) (k := 0) rfl rfl)); have o := ob_n2 (W := 88) (S := S) (x := l2) (by omega); have z := aN_fr (a := aS 88 S) (p := l2.toInt) (by omega) (ob_neg o); rw [hi2] at z; omega))
            · skip
              have g21 := i_nle h19
              refine ⟨i_ix (by omega) (by omega), ?_⟩
              refine ⟨fun hc => ?_, fun c1 hc => ?_⟩
              · skip
                have rn_c1 : zTa (mR S 70) (mI S 71 l2.toNatClampNeg) = none := (ta_rd (y := (mI S 71 l2.toNatClampNeg)) hi1 (by omega) (by omega)).symm.trans hc
                exact K (l2) _ rfl (by omega) (show l2.toInt = aN ab p.toInt from by first | (have nf := hi3; have r0 := (congrArg Int32.toInt (aS_I (W := 88) (S := S) (c := 87) (c₉ := 87) (k := 0) rfl rfl)); have z := aN_ro (a := aS 88 S) (p := l2.toInt) (by omega); rw [hi2] at z r0; omega) | (have nf := hi3; have r0 := (congrArg Int32.toInt (aS_I (W := 88) (S := S) (c := 87) (c₉ := 87) (k := 0) rfl rfl)); have o := ob_n3 (W := 88) (x := l2) hi1 rn_c1; have z := aN_fr (a := aS 88 S) (p := l2.toInt) (by omega) (ob_neg o); rw [hi2] at z; omega))
              · skip
                have th_c1 := (fun _ z => zG_70 hI (c := 70) (by decide) z) c1 hc
                have rg_c1 : zTa (mR S 70) (mI S 71 l2.toNatClampNeg) = some c1 := (ta_rd (y := (mI S 71 l2.toNatClampNeg)) hi1 (by omega) (by omega)).symm.trans hc
                refine ⟨zG_n hI th_c1, ?_⟩
                have f22 := zG_th hI th_c1
                first | have e23 : (l2 + (mI S c1 2)).toInt = l2.toInt + (mI S c1 2).toInt := i_add (by omega) (by omega) | have b24 := i_bd (l2 + (mI S c1 2))
                exact IH _ (by omega) ((l2 + (mI S c1 2))) rfl hI (by omega) (show xB S (mR S 70) from by first | (exact xB_x (xC_o (W := 75) hi1).2)) (show aS 88 S = ab from by first | (exact hi2)) (show aN ab ((l2 + (mI S c1 2))).toInt = aN ab p.toInt from by first | (have r0 := (congrArg Int32.toInt (aS_I (W := 88) (S := S) (c := 87) (c₉ := 87) (k := 0) rfl rfl)); have o := ob_y (W := 88) (x := l2) hi1 rg_c1 (by omega) (by omega); have z := aN_ob (a := aS 88 S) (p := l2.toInt) (sz_of hI (by decide)) (by omega) (by rw [o.1]; omega); rw [o.1, o.2] at z; rw [hi2] at z; refine Eq.trans ?_ (z.symm.trans hi3); congr 1))
theorem sp_105_87_s {X : Nat × (Nat → Int32)} {d w : Nat} {f : Nat → Nat → Int32} {r : Nat → Nat → Option Nat} {C Z N : Nat} {Q : Option ma_V ⊕ Nat → ma_S → Prop} {ab : Nat→Nat→Int32} {S : ma_S} (p : Int32) (hd : 1 ≤ d) (hw : 22 ≤ w) (hI : zJ87 f r C Z N S) (hpre0 : xB S (mR S 70)) (hpre1 : aS 88 S = ab) (hpre2 : 0 ≤ p.toInt) (K : ∀ v S₉, S₉ = S → (0 ≤ v.toInt ∧ v.toInt ≤ 1500) → (v.toInt = aN ab p.toInt) → Q (.inl (some (.inl v))) S₉) : ma_wp X d w 105 0 [(0, .inr (.inr (some 87))), (1, .inl p)] [] S Q := by
  refine g_105_87_s_0 p (by omega) (by omega) (zG_T hI) ?_
  have b1 := i_bd p
  exact lp_105_87_s_2 (by omega) (by omega) K _ (p) rfl hI (by omega) (show xB S (mR S 70) from by first | (exact xB_x (xC_o (W := 75) hpre0).2)) (show aS 88 S = ab from by first | (exact hpre1)) (show aN ab (p).toInt = aN ab p.toInt from by first | (exact rfl))

/-! from 95.g17 -/
/-! the heap by numbers, the class (written by wip/tools/gen18.py) -/
theorem g_106_87_s_0 {X : Nat × (Nat → Int32)} {d w : Nat} {S : ma_S} {Q : Option ma_V ⊕ Nat → ma_S → Prop} (p : Int32) (hd : 1 ≤ d) (hw : 22 ≤ w) (hS : zT S) (h : ma_wp X d w 106 2 [(0, .inr (.inr (some 87))), (2, .inl p)] [] S Q) : ma_wp X d w 106 0 [(0, .inr (.inr (some 87))), (1, .inl p)] [] S Q := by
  refine zw_push hm_106 dX8_freeEnd_0 (v := .inl p) rfl ?_
  refine zw_sto hm_106 dX8_freeEnd_1 [(2, .inl p), (0, .inr (.inr (some 87))), (1, .inl p)] rfl rfl rfl ?_
  exact zw_sub (ma_nd_of (ks := [0, 2]) rfl (by decide)) (ma_nd_of (ks := [2, 0, 1]) rfl (by decide)) (ma_le_cons rfl (ma_le_cons rfl (ma_le_nil _))) h
theorem g_106_87_s_2 {X : Nat × (Nat → Int32)} {d w : Nat} {S : ma_S} {Q : Option ma_V ⊕ Nat → ma_S → Prop} (l2 : Int32) (hd : 1 ≤ d) (hw : 22 ≤ w) (hS : zT S) (h : if (mI S 87 0) ≤ l2 then (Q (.inl (some (.inl l2))) S) else (if l2 < 0 then (ma_wp X d w 106 2 [(0, .inr (.inr (some 87))), (2, .inl (l2 + (1 : Int32)))] [] S Q) else (if (4500 : Int32) ≤ l2 then (ma_wp X d w 106 2 [(0, .inr (.inr (some 87))), (2, .inl (l2 + (1 : Int32)))] [] S Q) else ((0 ≤ l2 ∧ l2.toNatClampNeg < 4500) ∧ (if (mI S 71 l2.toNatClampNeg) < 0 then (ma_wp X d w 106 2 [(0, .inr (.inr (some 87))), (2, .inl (l2 + (1 : Int32)))] [] S Q) else (if (512 : Int32) ≤ (mI S 71 l2.toNatClampNeg) then (ma_wp X d w 106 2 [(0, .inr (.inr (some 87))), (2, .inl (l2 + (1 : Int32)))] [] S Q) else ((0 ≤ (mI S 71 l2.toNatClampNeg) ∧ (mI S 71 l2.toNatClampNeg).toNatClampNeg < 512) ∧ (((mR S 70 (mI S 71 l2.toNatClampNeg).toNatClampNeg) = none → ma_wp X d w 106 2 [(0, .inr (.inr (some 87))), (2, .inl (l2 + (1 : Int32)))] [] S Q) ∧ (∀ c1, (mR S 70 (mI S 71 l2.toNatClampNeg).toNatClampNeg) = some c1 → Q (.inl (some (.inl l2))) S))))))))) : ma_wp X d w 106 2 [(0, .inr (.inr (some 87))), (2, .inl l2)] [] S Q := by
  refine zw_push hm_106 dX8_freeEnd_2 (v := .inl l2) rfl ?_
  refine zw_push hm_106 dX8_freeEnd_3 (v := .inr (.inr (some 87))) rfl ?_
  refine zw_gf hm_106 dX8_freeEnd_4 (v := .inl (mI S 87 0)) (zT_is hS s_87) (zT_t hS s_87) rfl f_8_9_6 rfl ?_
  refine zw_if2 hm_106 dX8_freeEnd_7 (t := 27) rfl zc2_ge ?_ ?_
  · intro hc
    rw [if_pos hc] at h
    refine zw_push hm_106 dX8_freeEnd_27 (v := .inl l2) rfl ?_
    exact zw_iret hm_106 dX8_freeEnd_28 h
  · intro hc
    rw [if_neg hc] at h
    refine zw_push hm_106 dX8_freeEnd_10 (v := .inr (.inr (some 87))) rfl ?_
    refine zw_gf hm_106 dX8_freeEnd_11 (v := .inr (.inr (some 69))) (zT_is hS s_87) (zT_t hS s_87) rfl f_8_46_6 (zT_f hS r_87_3) ?_
    refine zw_push hm_106 dX8_freeEnd_14 (v := .inl l2) rfl ?_
    refine zw_cv hm_106 dX8_freeEnd_15 v_8_50_7 hm_89 [.inl l2] [] rfl (zT_rt hS s_69 rfl) ⟨by omega, by omega⟩ rfl ?_
    show ma_wp X (d - 1) (w - 22) 89 0 [(0, .inr (.inr (some 69))), (1, .inl l2)] [] S _
    refine zw_push hm_89 dX7_thingFrom_0 (v := .inl l2) rfl ?_
    refine zw_if0 hm_89 dX7_thingFrom_1 (t := 20) rfl zc0_lt ?_ ?_
    · intro hc
      rw [if_pos hc] at h
      refine zw_push hm_89 dX7_thingFrom_20 (v := .inl (-1 : Int32)) rfl ?_
      refine zw_sto hm_89 dX7_thingFrom_21 [(2, .inl (-1 : Int32)), (0, .inr (.inr (some 69))), (1, .inl l2)] rfl rfl rfl ?_
      refine zw_push hm_89 dX7_thingFrom_22 (v := .inl (-1 : Int32)) rfl ?_
      refine zw_if0 hm_89 dX7_thingFrom_23 (t := 42) rfl zc0_lt (fun _ => ?_) (fun hc => absurd (by decide) hc)
      refine zw_push hm_89 dX7_thingFrom_42 (v := .inr (.inr none)) rfl ?_
      refine zw_aret hm_89 dX7_thingFrom_43 ?_
      show ma_wp X d w 106 18 [(0, .inr (.inr (some 87))), (2, .inl l2)] [.inr (.inr none)] S _
      refine zw_ifnonnull hm_106 dX8_freeEnd_18 (t := 27) rfl (fun _ => ?_) (fun _ z => by cases z)
      refine zw_sto hm_106 dX8_freeEnd_21 [(2, .inl (l2 + (1 : Int32))), (0, .inr (.inr (some 87)))] rfl rfl rfl ?_
      refine zw_goto hm_106 dX8_freeEnd_24 (t := 2) rfl ?_
      exact zw_sub (ma_nd_of (ks := [0, 2]) rfl (by decide)) (ma_nd_of (ks := [2, 0]) rfl (by decide)) (ma_le_cons rfl (ma_le_cons rfl (ma_le_nil _))) h
    · intro hc
      rw [if_neg hc] at h
      refine zw_push hm_89 dX7_thingFrom_4 (v := .inl l2) rfl ?_
      refine zw_push hm_89 dX7_thingFrom_5 (v := .inl (4500 : Int32)) rfl ?_
      refine zw_if2 hm_89 dX7_thingFrom_8 (t := 20) rfl zc2_ge ?_ ?_
      · intro hc
        rw [if_pos hc] at h
        refine zw_push hm_89 dX7_thingFrom_20 (v := .inl (-1 : Int32)) rfl ?_
        refine zw_sto hm_89 dX7_thingFrom_21 [(2, .inl (-1 : Int32)), (0, .inr (.inr (some 69))), (1, .inl l2)] rfl rfl rfl ?_
        refine zw_push hm_89 dX7_thingFrom_22 (v := .inl (-1 : Int32)) rfl ?_
        refine zw_if0 hm_89 dX7_thingFrom_23 (t := 42) rfl zc0_lt (fun _ => ?_) (fun hc => absurd (by decide) hc)
        refine zw_push hm_89 dX7_thingFrom_42 (v := .inr (.inr none)) rfl ?_
        refine zw_aret hm_89 dX7_thingFrom_43 ?_
        show ma_wp X d w 106 18 [(0, .inr (.inr (some 87))), (2, .inl l2)] [.inr (.inr none)] S _
        refine zw_ifnonnull hm_106 dX8_freeEnd_18 (t := 27) rfl (fun _ => ?_) (fun _ z => by cases z)
        refine zw_sto hm_106 dX8_freeEnd_21 [(2, .inl (l2 + (1 : Int32))), (0, .inr (.inr (some 87)))] rfl rfl rfl ?_
        refine zw_goto hm_106 dX8_freeEnd_24 (t := 2) rfl ?_
        exact zw_sub (ma_nd_of (ks := [0, 2]) rfl (by decide)) (ma_nd_of (ks := [2, 0]) rfl (by decide)) (ma_le_cons rfl (ma_le_cons rfl (ma_le_nil _))) h
      · intro hc
        rw [if_neg hc] at h
        refine zw_push hm_89 dX7_thingFrom_11 (v := .inr (.inr (some 69))) rfl ?_
        refine zw_gf hm_89 dX7_thingFrom_12 (v := .inr (.inr (some 71))) (zT_is hS s_69) (zT_t hS s_69) rfl f_7_17_7 (zT_f hS r_69_1) ?_
        refine zw_push hm_89 dX7_thingFrom_15 (v := .inl l2) rfl ?_
        obtain ⟨hg, h⟩ := h
        refine zw_ia hm_89 dX7_thingFrom_16 (zT_is hS s_71) (zT_h hS s_71) rfl hg ?_
        show ma_wp X (d - 1) (w - 22) 89 17 [(0, .inr (.inr (some 69))), (1, .inl l2)] [.inl (mI S 71 l2.toNatClampNeg)] S _
        refine zw_goto hm_89 dX7_thingFrom_17 (t := 21) rfl ?_
        refine zw_sto hm_89 dX7_thingFrom_21 [(2, .inl (mI S 71 l2.toNatClampNeg)), (0, .inr (.inr (some 69))), (1, .inl l2)] rfl rfl rfl ?_
        refine zw_push hm_89 dX7_thingFrom_22 (v := .inl (mI S 71 l2.toNatClampNeg)) rfl ?_
        refine zw_if0 hm_89 dX7_thingFrom_23 (t := 42) rfl zc0_lt ?_ ?_
        · intro hc
          rw [if_pos hc] at h
          refine zw_push hm_89 dX7_thingFrom_42 (v := .inr (.inr none)) rfl ?_
          refine zw_aret hm_89 dX7_thingFrom_43 ?_
          show ma_wp X d w 106 18 [(0, .inr (.inr (some 87))), (2, .inl l2)] [.inr (.inr none)] S _
          refine zw_ifnonnull hm_106 dX8_freeEnd_18 (t := 27) rfl (fun _ => ?_) (fun _ z => by cases z)
          refine zw_sto hm_106 dX8_freeEnd_21 [(2, .inl (l2 + (1 : Int32))), (0, .inr (.inr (some 87)))] rfl rfl rfl ?_
          refine zw_goto hm_106 dX8_freeEnd_24 (t := 2) rfl ?_
          exact zw_sub (ma_nd_of (ks := [0, 2]) rfl (by decide)) (ma_nd_of (ks := [2, 0]) rfl (by decide)) (ma_le_cons rfl (ma_le_cons rfl (ma_le_nil _))) h
        · intro hc
          rw [if_neg hc] at h
          refine zw_push hm_89 dX7_thingFrom_26 (v := .inl (mI S 71 l2.toNatClampNeg)) rfl ?_
          refine zw_push hm_89 dX7_thingFrom_27 (v := .inl (512 : Int32)) rfl ?_
          refine zw_if2 hm_89 dX7_thingFrom_30 (t := 42) rfl zc2_ge ?_ ?_
          · intro hc
            rw [if_pos hc] at h
            refine zw_push hm_89 dX7_thingFrom_42 (v := .inr (.inr none)) rfl ?_
            refine zw_aret hm_89 dX7_thingFrom_43 ?_
            show ma_wp X d w 106 18 [(0, .inr (.inr (some 87))), (2, .inl l2)] [.inr (.inr none)] S _
            refine zw_ifnonnull hm_106 dX8_freeEnd_18 (t := 27) rfl (fun _ => ?_) (fun _ z => by cases z)
            refine zw_sto hm_106 dX8_freeEnd_21 [(2, .inl (l2 + (1 : Int32))), (0, .inr (.inr (some 87)))] rfl rfl rfl ?_
            refine zw_goto hm_106 dX8_freeEnd_24 (t := 2) rfl ?_
            exact zw_sub (ma_nd_of (ks := [0, 2]) rfl (by decide)) (ma_nd_of (ks := [2, 0]) rfl (by decide)) (ma_le_cons rfl (ma_le_cons rfl (ma_le_nil _))) h
          · intro hc
            rw [if_neg hc] at h
            refine zw_push hm_89 dX7_thingFrom_33 (v := .inr (.inr (some 69))) rfl ?_
            refine zw_gf hm_89 dX7_thingFrom_34 (v := .inr (.inr (some 70))) (zT_is hS s_69) (zT_t hS s_69) rfl f_7_11_7 (zT_f hS r_69_0) ?_
            refine zw_push hm_89 dX7_thingFrom_37 (v := .inl (mI S 71 l2.toNatClampNeg)) rfl ?_
            obtain ⟨hg, h⟩ := h
            refine zw_aa hm_89 dX7_thingFrom_38 (zT_is hS s_70) (zT_h hS s_70) rfl rfl hg rfl ?_
            show ma_wp X (d - 1) (w - 22) 89 39 [(2, .inl (mI S 71 l2.toNatClampNeg)), (0, .inr (.inr (some 69))), (1, .inl l2)] [.inr (.inr (mR S 70 (mI S 71 l2.toNatClampNeg).toNatClampNeg))] S _
            refine zw_goto hm_89 dX7_thingFrom_39 (t := 43) rfl ?_
            refine zw_aret hm_89 dX7_thingFrom_43 ?_
            show ma_wp X d w 106 18 [(0, .inr (.inr (some 87))), (2, .inl l2)] [.inr (.inr (mR S 70 (mI S 71 l2.toNatClampNeg).toNatClampNeg))] S _
            refine zw_ifnonnull hm_106 dX8_freeEnd_18 (t := 27) rfl ?_ ?_
            · intro hc
              have h := h.1 hc
              (try rw [hc])
              show ma_wp X d w 106 21 [(0, .inr (.inr (some 87))), (2, .inl l2)] [] S _
              refine zw_sto hm_106 dX8_freeEnd_21 [(2, .inl (l2 + (1 : Int32))), (0, .inr (.inr (some 87)))] rfl rfl rfl ?_
              refine zw_goto hm_106 dX8_freeEnd_24 (t := 2) rfl ?_
              exact zw_sub (ma_nd_of (ks := [0, 2]) rfl (by decide)) (ma_nd_of (ks := [2, 0]) rfl (by decide)) (ma_le_cons rfl (ma_le_cons rfl (ma_le_nil _))) h
            · intro c1 hc
              have h := h.2 c1 hc
              (try rw [hc])
              show ma_wp X d w 106 27 [(0, .inr (.inr (some 87))), (2, .inl l2)] [] S _
              refine zw_push hm_106 dX8_freeEnd_27 (v := .inl l2) rfl ?_
              exact zw_iret hm_106 dX8_freeEnd_28 h
theorem lp_106_87_s_2 {X : Nat × (Nat → Int32)} {d w : Nat} {f : Nat → Nat → Int32} {r : Nat → Nat → Option Nat} {C Z N : Nat} {Q : Option ma_V ⊕ Nat → ma_S → Prop} {ab : Nat→Nat→Int32} {p : Int32} {S : ma_S} (hd : 1 ≤ d) (hw : 22 ≤ w) (K : ∀ v S₉, S₉ = S → (0 ≤ v.toInt ∧ v.toInt ≤ 300000) → (v.toInt = aE ab p.toInt) → Q (.inl (some (.inl v))) S₉) : ∀ (n : Nat) (l2 : Int32), (1500 - l2.toInt).toNat = n → zJ87 f r C Z N S → (0 ≤ l2.toInt) → (l2.toInt ≤ 300000) → (xB S (mR S 70)) → (aS 88 S = ab) → (aE ab l2.toInt = aE ab p.toInt) → ma_wp X d w 106 2 [(0, .inr (.inr (some 87))), (2, .inl l2)] [] S Q := by
  intro n
  induction n using Nat.strongRecOn with
  | _ n IH =>
    intro l2 hmu hI  hi0 hi1 hi2 hi3 hi4
    refine g_106_87_s_2 l2 (by omega) (by omega) (zG_T hI) ?_
    have f1 := zG_s hI (0) (1500) (c := 87) (k := 0) (by decide)
    have b2 := i_bd l2
    refine zd (fun h3 => ?_) (fun h3 => ?_)
    · skip
      have g4 := i_le h3
      exact K (l2) _ rfl (by omega) (show l2.toInt = aE ab p.toInt from by first | (have ef := hi4; have r0 := (congrArg Int32.toInt (aS_I (W := 88) (S := S) (c := 87) (c₉ := 87) (k := 0) rfl rfl)); have z := aE_st (a := aS 88 S) (p := l2.toInt) (by omega); rw [hi3] at z; omega))
    · skip
      have g5 := i_nle h3
      have li6 : (0 : Int32).toInt = 0 := rfl
      refine zd (fun h7 => ?_) (fun h7 => ?_)
      · skip
        have g8 := i_lt h7
        first | have e9 : (l2 + (1 : Int32)).toInt = l2.toInt + (1) := i_addk rfl (by omega) (by omega) | have b10 := i_bd (l2 + (1 : Int32))
        exact IH _ (by omega) ((l2 + (1 : Int32))) rfl hI (by omega) (by omega) (show xB S (mR S 70) from by first | (exact xB_x (xC_o (W := 75) hi2).2)) (show aS 88 S = ab from by first | (exact hi3)) (show aE ab ((l2 + (1 : Int32))).toInt = aE ab p.toInt from by first | (have r0 := (congrArg Int32.toInt (aS_I (W := 88) (S := S) (c := 87) (c₉ := 87) (k := 0) rfl rfl)); have o := ob_n1 (a := aS 88 S) (p := l2.toInt) (by omega); have z := aE_go (a := aS 88 S) (p := l2.toInt) (by omega) (ob_neg o); rw [hi3] at z; rw [show (l2 + (1 : Int32)).toInt = l2.toInt + 1 from by omega]; exact z.symm.trans hi4) | (have r0 := (congrArg Int32.toInt (aS_I (W := 88) (S := S) (c := 87) (c₉ := 87) (k := 0) rfl rfl)); have o := ob_n2 (W := 88) (S := S) (x := l2) (by omega); have z := aE_go (a := aS 88 S) (p := l2.toInt) (by omega) (ob_neg o); rw [hi3] at z; rw [show (l2 + (1 : Int32)).toInt = l2.toInt + 1 from by omega]; exact z.symm.trans hi4))
      · skip
        have g11 := i_nlt h7
        have li12 : (4500 : Int32).toInt = 4500 := rfl
        refine zd (fun h13 => ?_) (fun h13 => ?_)
        · skip
          have g14 := i_le h13
          first | have e15 : (l2 + (1 : Int32)).toInt = l2.toInt + (1) := i_addk rfl (by omega) (by omega) | have b16 := i_bd (l2 + (1 : Int32))
          exact IH _ (by omega) ((l2 + (1 : Int32))) rfl hI (by omega) (by omega) (show xB S (mR S 70) from by first | (exact xB_x (xC_o (W := 75) hi2).2)) (show aS 88 S = ab from by first | (exact hi3)) (show aE ab ((l2 + (1 : Int32))).toInt = aE ab p.toInt from by first | (have r0 := (congrArg Int32.toInt (aS_I (W := 88) (S := S) (c := 87) (c₉ := 87) (k := 0) rfl rfl)); have o := ob_n1 (a := aS 88 S) (p := l2.toInt) (by omega); have z := aE_go (a := aS 88 S) (p := l2.toInt) (by omega) (ob_neg o); rw [hi3] at z; rw [show (l2 + (1 : Int32)).toInt = l2.toInt + 1 from by omega]; exact z.symm.trans hi4) | (have r0 := (congrArg Int32.toInt (aS_I (W := 88) (S := S) (c := 87) (c₉ := 87) (k := 0) rfl rfl)); have o := ob_n2 (W := 88) (S := S) (x := l2) (by omega); have z := aE_go (a := aS 88 S) (p := l2.toInt) (by omega) (ob_neg o); rw [hi3] at z; rw [show (l2 + (1 : Int32)).toInt = l2.toInt + 1 from by omega]; exact z.symm.trans hi4))
        · skip
          have g17 := i_nle h13
          refine ⟨i_ix (by omega) (by omega), ?_⟩
          have b18 := i_bd (mI S 71 l2.toNatClampNeg)
          refine zd (fun h19 => ?_) (fun h19 => ?_)
          · skip
            have g20 := i_lt h19
            first | have e21 : (l2 + (1 : Int32)).toInt = l2.toInt + (1) := i_addk rfl (by omega) (by omega) | have b22 := i_bd (l2 + (1 : Int32))
            exact IH _ (by omega) ((l2 + (1 : Int32))) rfl hI (by omega) (by omega) (show xB S (mR S 70) from by first | (exact xB_x (xC_o (W := 75) hi2).2)) (show aS 88 S = ab from by first | (exact hi3)) (show aE ab ((l2 + (1 : Int32))).toInt = aE ab p.toInt from by first | (have r0 := (congrArg Int32.toInt (aS_I (W := 88) (S := S) (c := 87) (c₉ := 87) (k := 0) rfl rfl)); have o := ob_n1 (a := aS 88 S) (p := l2.toInt) (by omega); have z := aE_go (a := aS 88 S) (p := l2.toInt) (by omega) (ob_neg o); rw [hi3] at z; rw [show (l2 + (1 : Int32)).toInt = l2.toInt + 1 from by omega]; exact z.symm.trans hi4) | (have r0 := (congrArg Int32.toInt (aS_I (W := 88) (S := S) (c := 87) (c₉ := 87) (k := 0) rfl rfl)); have o := ob_n2 (W := 88) (S := S) (x := l2) (by omega); have z := aE_go (a := aS 88 S) (p := l2.toInt) (by omega) (ob_neg o); rw [hi3] at z; rw [show (l2 + (1 : Int32)).toInt = l2.toInt + 1 from by omega]; exact z.symm.trans hi4))
          · skip
            have g23 := i_nlt h19
            have li24 : (512 : Int32).toInt = 512 := rfl
            refine zd (fun h25 => ?_) (fun h25 => ?_)
            · skip
              have g26 := i_le h25
              first | have e27 : (l2 + (1 : Int32)).toInt = l2.toInt + (1) := i_addk rfl (by omega) (by omega) | have b28 := i_bd (l2 + (1 : Int32))
              exact IH _ (by omega) ((l2 + (1 : Int32))) rfl hI (by omega) (by omega) (show xB S (mR S 70) from by first | (exact xB_x (xC_o (W := 75) hi2).2)) (show aS 88 S = ab from by first | (exact hi3)) (show aE ab ((l2 + (1 : Int32))).toInt = aE ab p.toInt from by first | (have r0 := (congrArg Int32.toInt (aS_I (W := 88) (S := S) (c := 87) (c₉ := 87) (k := 0) rfl rfl)); have o := ob_n1 (a := aS 88 S) (p := l2.toInt) (by omega); have z := aE_go (a := aS 88 S) (p := l2.toInt) (by omega) (ob_neg o); rw [hi3] at z; rw [show (l2 + (1 : Int32)).toInt = l2.toInt + 1 from by omega]; exact z.symm.trans hi4) | (have r0 := (congrArg Int32.toInt (aS_I (W := 88) (S := S) (c := 87) (c₉ := 87) (k := 0) rfl rfl)); have o := ob_n2 (W := 88) (S := S) (x := l2) (by omega); have z := aE_go (a := aS 88 S) (p := l2.toInt) (by omega) (ob_neg o); rw [hi3] at z; rw [show (l2 + (1 : Int32)).toInt = l2.toInt + 1 from by omega]; exact z.symm.trans hi4))
            · skip
              have g29 := i_nle h25
              refine ⟨i_ix (by omega) (by omega), ?_⟩
              refine ⟨fun hc => ?_, fun c1 hc => ?_⟩
              · skip
                have rn_c1 : zTa (mR S 70) (mI S 71 l2.toNatClampNeg) = none := (ta_rd (y := (mI S 71 l2.toNatClampNeg)) hi2 (by omega) (by omega)).symm.trans hc
                first | have e30 : (l2 + (1 : Int32)).toInt = l2.toInt + (1) := i_addk rfl (by omega) (by omega) | have b31 := i_bd (l2 + (1 : Int32))
                exact IH _ (by omega) ((l2 + (1 : Int32))) rfl hI (by omega) (by omega) (show xB S (mR S 70) from by first | (exact xB_x (xC_o (W := 75) hi2).2)) (show aS 88 S = ab from by first | (exact hi3)) (show aE ab ((l2 + (1 : Int32))).toInt = aE ab p.toInt from by first | (have r0 := (congrArg Int32.toInt (aS_I (W := 88) (S := S) (c := 87) (c₉ := 87) (k := 0) rfl rfl)); have o := ob_n3 (W := 88) (x := l2) hi2 rn_c1; have z := aE_go (a := aS 88 S) (p := l2.toInt) (by omega) (ob_neg o); rw [hi3] at z; rw [show (l2 + (1 : Int32)).toInt = l2.toInt + 1 from by omega]; exact z.symm.trans hi4))
              · skip
                have th_c1 := (fun _ z => zG_70 hI (c := 70) (by decide) z) c1 hc
                have rg_c1 : zTa (mR S 70) (mI S 71 l2.toNatClampNeg) = some c1 := (ta_rd (y := (mI S 71 l2.toNatClampNeg)) hi2 (by omega) (by omega)).symm.trans hc
                exact K (l2) _ rfl (by omega) (show l2.toInt = aE ab p.toInt from by first | (have ef := hi4; have r0 := (congrArg Int32.toInt (aS_I (W := 88) (S := S) (c := 87) (c₉ := 87) (k := 0) rfl rfl)); have o := ob_y (W := 88) (x := l2) hi2 rg_c1 (by omega) (by omega); have z := aE_st (a := aS 88 S) (p := l2.toInt) (fun w => by rw [o.1] at w; omega); rw [hi3] at z; omega))
theorem sp_106_87_s {X : Nat × (Nat → Int32)} {d w : Nat} {f : Nat → Nat → Int32} {r : Nat → Nat → Option Nat} {C Z N : Nat} {Q : Option ma_V ⊕ Nat → ma_S → Prop} {ab : Nat→Nat→Int32} {S : ma_S} (p : Int32) (hd : 1 ≤ d) (hw : 22 ≤ w) (hI : zJ87 f r C Z N S) (hpre0 : xB S (mR S 70)) (hpre1 : aS 88 S = ab) (hpre2 : 0 ≤ p.toInt) (hpre3 : p.toInt ≤ 300000) (K : ∀ v S₉, S₉ = S → (0 ≤ v.toInt ∧ v.toInt ≤ 300000) → (v.toInt = aE ab p.toInt) → Q (.inl (some (.inl v))) S₉) : ma_wp X d w 106 0 [(0, .inr (.inr (some 87))), (1, .inl p)] [] S Q := by
  refine g_106_87_s_0 p (by omega) (by omega) (zG_T hI) ?_
  have b1 := i_bd p
  exact lp_106_87_s_2 (by omega) (by omega) K _ (p) rfl hI (by omega) (by omega) (show xB S (mR S 70) from by first | (exact xB_x (xC_o (W := 75) hpre0).2)) (show aS 88 S = ab from by first | (exact hpre1)) (show aE ab (p).toInt = aE ab p.toInt from by first | (exact rfl))

