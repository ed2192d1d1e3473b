/-! THE CLASS'S HEAP BY NUMBERS: cells below 126 as they are (a walk's at 75 to 77), things by their numbers from 126 on (126 there, 127 kind, 128 size, 130 place, 133 holds, 134 wish), from 1000 on which words refer -/
def zrl (c k : Nat) : Bool := (decide (71 ≤ c) && decide (c ≤ 74)) || decide (c = 76) || decide (c = 77) || decide (c = 87) || (decide (c = 69) && (decide (k = 5) || decide (k = 6) || decide (k = 8) || decide (k = 11))) || (decide (c = 75) && (decide (3 ≤ k) && decide (k ≤ 5)))
def zcw (W c : Nat) : Nat := if 75 ≤ c ∧ c ≤ 77 then c - 75 + W else c
def zfd (f : Nat) : Bool := decide (f = 1) || decide (f = 2) || decide (f = 4) || decide (f = 5) || decide (f = 7) || decide (f = 8)
def zbit (x : Int64) (i : Int32) : Int32 := if lg_cmp ((x.toUInt64 >>> (i.toInt64.toUInt64 &&& Int64.toUInt64 63)).toInt64 &&& (1 : Int64)) (0 : Int64) = 0 then 0 else 1
def aTf (I : Nat → Nat → Int32) (R : Nat → Option Nat) (f n : Nat) : Int32 := if n < 512 then (match R n with | some c => I c f | none => 0) else 0
def aTn (R : Nat → Option Nat) (n : Nat) : Int32 := if n < 512 then (match R n with | some _ => 1 | none => 0) else 0
def aTr (L : Nat → Nat → Int64) (R : Nat → Option Nat) (n i : Nat) : Int32 := if n < 512 then (match R n with | some c => zbit (L c 3) (Int32.ofNat i) | none => 0) else 0
def aF (W : Nat) (I : Nat → Nat → Int32) (R : Nat → Option Nat) (L : Nat → Nat → Int64) : Nat → Nat → Int32 := fun c k => if c < 126 then (if zrl c k = true then I (zcw W c) k else 0) else if c = 126 then aTn R k else if c < 1000 then (if zfd (c - 126) = true then aTf I R (c - 126) k else 0) else aTr L R (c - 1000) k
def aS (W : Nat) (S : ma_S) : Nat → Nat → Int32 := aF W (mI S) (mR S 70) (mL S)
def zNm (I : Nat → Nat → Int32) (R : Nat → Option Nat) : Prop := ∀ n c, n < 512 → R n = some c → 126 ≤ c ∧ I c 0 = Int32.ofNat n
def xB (S : ma_S) (R : Nat → Option Nat) : Prop := mR S 70 = R ∧ zNm (mI S) R
def xC (W : Nat) (S : ma_S) (ab : Nat → Nat → Int32) (R : Nat → Option Nat) : Prop := aS W S = ab ∧ xB S R
def xW (W : Nat) : Prop := W = 75 ∨ W = 88
def zRu (R : Nat → Option Nat) (n : Nat) (q : Option Nat) : Nat → Option Nat := fun k => if k = n then q else R k
/-- nobody of that number -/
def zNo (a : Nat → Nat → Int32) (n : Nat) : Nat → Nat → Int32 := fun c k => if (126 ≤ c ∧ c < 1000 ∧ k = n) ∨ c = 1000 + n then 0 else a c k
/-- the thing of that number, if it is there -/
def zTa (R : Nat → Option Nat) (y : Int32) : Option Nat := if 0 ≤ y.toInt ∧ y.toInt < 512 then R y.toNatClampNeg else none
abbrev zRT : Type := Nat → Option Nat
theorem xW75 : xW 75 := Or.inl rfl
theorem xW88 : xW 88 := Or.inr rfl
theorem zp_e {S : ma_S} {c k c' k' : Nat} {x : Int32} (hc : 126 ≤ c) (h : c' < 126) : mI (ma_put S c' k' (.inl x)) c k = mI S c k := if_neg (fun z => by omega)
theorem zp_i {S : ma_S} {c k c' k' : Nat} {x : Int32} (hc : 126 ≤ c') (h : c < 126) : mI (ma_put S c' k' (.inl x)) c k = mI S c k := if_neg (fun z => by omega)
theorem zp_f {S : ma_S} {c k c' k' : Nat} {x : Int32} (h : k ≠ k') : mI (ma_put S c' k' (.inl x)) c k = mI S c k := if_neg (fun z => h z.2)
theorem zp_r {S : ma_S} {c k c' k' : Nat} {q : Option Nat} : mI (ma_put S c' k' (.inr (.inr q))) c k = mI S c k := rfl
section AF
variable {W c k c0 n f t : Nat} {I : Nat → Nat → Int32} {R : Nat → Option Nat} {L : Nat → Nat → Int64} {x y : Int32} {S : ma_S} {ab : Nat → Nat → Int32}
theorem zrl_p (h : zrl c k = true) : (71 ≤ c ∧ c ≤ 74) ∨ c = 76 ∨ c = 77 ∨ c = 87 ∨ c = 69 ∨ c = 75 := by
  unfold zrl at h
  simp only [Bool.or_eq_true, Bool.and_eq_true, decide_eq_true_eq] at h
  omega
theorem zfd_p (h : zfd f = true) : 1 ≤ f ∧ f ≤ 8 := by
  unfold zfd at h
  simp only [Bool.or_eq_true, decide_eq_true_eq] at h
  omega
theorem zcw_lt (hW : xW W) (h : zrl c k = true) : zcw W c < 126 := by
  have p := zrl_p h
  unfold xW at hW
  unfold zcw
  split <;> omega
theorem zcw_inj (hW : xW W) (h1 : zrl c k = true) (h2 : zrl c0 n = true) (e : zcw W c = zcw W c0) : c = c0 := by
  have p := zrl_p h1
  have q := zrl_p h2
  unfold xW at hW
  unfold zcw at e
  split at e <;> split at e <;> omega
theorem zcw_s (h : c < 75 ∨ 77 < c) : zcw W c = c := by
  unfold zcw
  rw [if_neg (by omega)]
theorem aF_I (h : zrl c k = true) : aF W I R L c k = I (zcw W c) k := by
  have p := zrl_p h
  unfold aF
  rw [if_pos (by omega), if_pos h]
theorem aTf_o (hR : ∀ n t, n < 512 → R n = some t → 126 ≤ t) (hc : c < 126) : aTf (ma_u I c k x) R f n = aTf I R f n := by
  unfold aTf
  by_cases h : n < 512
  · rw [if_pos h, if_pos h]
    cases e : R n with
    | none => rfl
    | some t =>
      show (if t = c ∧ f = k then x else I t f) = I t f
      rw [if_neg (fun y => by have := hR n t h e; omega)]
  · rw [if_neg h, if_neg h]
theorem aF_put (hW : xW W) (h : zrl c0 k = true) (hR : ∀ n t, n < 512 → R n = some t → 126 ≤ t) : aF W (ma_u I (zcw W c0) k x) R L = ma_u (aF W I R L) c0 k x := by
  funext c k'
  show aF W _ R L c k' = if c = c0 ∧ k' = k then x else aF W I R L c k'
  by_cases z : c = c0 ∧ k' = k
  · rw [if_pos z, z.1, z.2, aF_I h]
    show (if zcw W c0 = zcw W c0 ∧ k = k then x else _) = x
    rw [if_pos ⟨rfl, rfl⟩]
  · rw [if_neg z]
    by_cases b : zrl c k' = true
    · rw [aF_I b, aF_I b]
      show (if zcw W c = zcw W c0 ∧ k' = k then x else I (zcw W c) k') = _
      rw [if_neg (fun y => z ⟨zcw_inj hW b h y.1, y.2⟩)]
    · unfold aF
      rw [if_neg b, if_neg b, aTf_o hR (zcw_lt hW h)]
def zir (W c k : Nat) : Prop := c < 126 ∧ ((W = 75 ∧ zrl c k = false) ∨ (W = 88 ∧ ((75 ≤ c ∧ c ≤ 77) ∨ (zrl c k = false ∧ (c < 88 ∨ 90 < c)))))
theorem zir_W (hW : xW W) (h : zrl c k = false) (hc : c < 88 ∨ (90 < c ∧ c < 126)) : zir W c k := by
  refine ⟨by omega, ?_⟩
  rcases hW with e | e
  · exact Or.inl ⟨e, h⟩
  · exact Or.inr ⟨e, Or.inr ⟨h, by omega⟩⟩
theorem zir_n (h : zir W c k) (hr : zrl c0 k = true) : zcw W c0 ≠ c := by
  have p := zrl_p hr
  intro e
  unfold zcw at e
  obtain ⟨h0, h1 | h1⟩ := h
  · have e2 : c0 = c := by
      split at e <;> omega
    rw [← e2, hr] at h1
    exact absurd h1.2 (by decide)
  · rcases h1.2 with h2 | h2
    · split at e <;> omega
    · have e2 : c0 = c := by
        split at e <;> omega
      rw [← e2, hr] at h2
      exact absurd h2.1 (by decide)
theorem aF_no (h : zir W c k) (hR : ∀ n t, n < 512 → R n = some t → 126 ≤ t) : aF W (ma_u I c k x) R L = aF W I R L := by
  funext c1 k1
  by_cases b : zrl c1 k1 = true
  · rw [aF_I b, aF_I b]
    show (if zcw W c1 = c ∧ k1 = k then x else I (zcw W c1) k1) = _
    rw [if_neg (fun y => zir_n h (y.2 ▸ b) y.1)]
  · unfold aF
    rw [if_neg b, if_neg b, aTf_o hR h.1]
theorem aF_t (hW : xW W) (hn : n < 512) (hc : R n = some c) (hi : ∀ n', n' < 512 → R n' = some c → n' = n) (hf : zfd f = true) (h126 : 126 ≤ c) : aF W (ma_u I c f x) R L = ma_u (aF W I R L) (126 + f) n x := by
  have pf := zfd_p hf
  funext c1 k1
  show aF W _ R L c1 k1 = if c1 = 126 + f ∧ k1 = n then x else aF W I R L c1 k1
  by_cases b : zrl c1 k1 = true
  · have p := zrl_p b
    rw [aF_I b, aF_I b, if_neg (by omega)]
    show (if zcw W c1 = c ∧ k1 = f then x else I (zcw W c1) k1) = _
    rw [if_neg (fun y => by have := zcw_lt hW b; omega)]
  · by_cases g : c1 = 126 + f ∧ k1 = n
    · rw [if_pos g, g.1, g.2]
      unfold aF aTf
      rw [if_neg (by omega), if_neg (by omega), if_pos (by omega), Nat.add_sub_cancel_left, if_pos hf, if_pos hn, hc]
      show (if c = c ∧ f = f then x else _) = x
      rw [if_pos ⟨rfl, rfl⟩]
    · rw [if_neg g]
      unfold aF
      rw [if_neg b, if_neg b]
      have e : c1 ≠ 126 → c1 < 1000 → ¬ c1 < 126 → zfd (c1 - 126) = true → aTf (ma_u I c f x) R (c1 - 126) k1 = aTf I R (c1 - 126) k1 := by
        intro g1 g2 g3 g4
        unfold aTf
        by_cases hk : k1 < 512
        · rw [if_pos hk, if_pos hk]
          cases q : R k1 with
          | none => rfl
          | some t =>
            show (if t = c ∧ c1 - 126 = f then x else I t (c1 - 126)) = I t (c1 - 126)
            rw [if_neg (fun y => g ⟨by omega, hi k1 hk (by rw [q, y.1])⟩)]
        · rw [if_neg hk, if_neg hk]
      by_cases a1 : c1 < 126
      · rw [if_pos a1, if_pos a1]
      · by_cases a2 : c1 = 126
        · rw [if_neg a1, if_neg a1, if_pos a2, if_pos a2]
        · by_cases a3 : c1 < 1000
          · by_cases a4 : zfd (c1 - 126) = true
            · rw [e a2 a3 a1 a4]
            · rw [if_neg a4, if_neg a4]
          · rw [if_neg a1, if_neg a1, if_neg a2, if_neg a2, if_neg a3, if_neg a3]
theorem aF_6 (hW : xW W) (h126 : 126 ≤ c) (hf : zfd f = false) : aF W (ma_u I c f x) R L = aF W I R L := by
  funext c1 k1
  by_cases b : zrl c1 k1 = true
  · rw [aF_I b, aF_I b]
    show (if zcw W c1 = c ∧ k1 = f then x else I (zcw W c1) k1) = _
    rw [if_neg (fun y => by have := zcw_lt hW b; omega)]
  · unfold aF
    rw [if_neg b, if_neg b]
    by_cases a4 : zfd (c1 - 126) = true
    · have e : aTf (ma_u I c f x) R (c1 - 126) k1 = aTf I R (c1 - 126) k1 := by
        unfold aTf
        by_cases hk : k1 < 512
        · rw [if_pos hk, if_pos hk]
          cases q : R k1 with
          | none => rfl
          | some t =>
            show (if t = c ∧ c1 - 126 = f then x else I t (c1 - 126)) = I t (c1 - 126)
            rw [if_neg (fun y => by rw [y.2, hf] at a4; cases a4)]
        · rw [if_neg hk, if_neg hk]
      rw [e]
    · rw [if_neg a4, if_neg a4]
theorem aF_R : aF W I (zRu R n none) L = zNo (aF W I R L) n := by
  funext c1 k1
  unfold zNo
  by_cases b : c1 < 126
  · rw [if_neg (by omega)]
    unfold aF
    rw [if_pos b, if_pos b]
  · by_cases a2 : c1 < 1000
    · by_cases a3 : k1 = n
      · rw [if_pos (Or.inl ⟨by omega, a2, a3⟩)]
        unfold aF aTn aTf zRu
        rw [if_neg b, if_pos a2]
        simp only [if_pos a3, ite_self]
      · rw [if_neg (by omega)]
        unfold aF aTn aTf zRu
        rw [if_neg b, if_neg b, if_pos a2, if_pos a2]
        simp only [if_neg a3]
    · have a4 : ¬ c1 = 126 := by omega
      by_cases a3 : c1 = 1000 + n
      · rw [if_pos (Or.inr a3)]
        unfold aF aTr zRu
        rw [if_neg b, if_neg a4, if_neg a2, if_pos (show c1 - 1000 = n by omega)]
        simp only [ite_self]
      · rw [if_neg (by omega)]
        unfold aF aTr zRu
        rw [if_neg b, if_neg a4, if_neg a2, if_neg b, if_neg a4, if_neg a2, if_neg (show ¬ c1 - 1000 = n by omega)]
theorem ofN_tn (h : 0 ≤ y.toInt) : Int32.ofNat y.toNatClampNeg = y := by
  have b := i_bd y
  have e := tn_cast h
  apply Int32.toInt_inj.mp
  rw [Int32.toInt_ofNat_of_lt (by omega)]
  exact e
theorem xB_hR (h : xB S R) : ∀ n t, n < 512 → mR S 70 n = some t → 126 ≤ t := fun n t hn e => (h.2 n t hn (by rw [← h.1]; exact e)).1
theorem xB_pi (h : xB S R) (hk : c < 126 ∨ k ≠ 0) : xB (ma_put S c k (.inl x)) R := by
  refine ⟨h.1, fun n t hn e => ?_⟩
  have q := h.2 n t hn e
  refine ⟨q.1, ?_⟩
  show (if t = c ∧ 0 = k then x else mI S t 0) = _
  rw [if_neg (fun y => by omega)]
  exact q.2
theorem xC_o (h : xB S R) : xC W S (aS W S) R := ⟨rfl, h⟩
theorem xC_p (h : xC W S ab R) (c0 : Nat) (hW : xW W) (hr : zrl c0 k = true) (hw : zcw W c0 = c) : xC W (ma_put S c k (.inl x)) (ma_u ab c0 k x) R := by
  have hl := zcw_lt hW hr
  refine ⟨?_, xB_pi h.2 (Or.inl (by omega))⟩
  rw [← h.1, ← hw]
  have q := aF_put (I := mI S) (R := mR S 70) (L := mL S) (x := x) hW hr (xB_hR h.2)
  exact q
theorem xC_n (h : xC W S ab R) (hz : zir W c k) : xC W (ma_put S c k (.inl x)) ab R := by
  refine ⟨?_, xB_pi h.2 (Or.inl hz.1)⟩
  rw [← h.1]
  have q := aF_no (I := mI S) (R := mR S 70) (L := mL S) (x := x) hz (xB_hR h.2)
  exact q
theorem zTa_p (e : zTa R y = some c) : 0 ≤ y.toInt ∧ y.toInt < 512 ∧ R y.toNatClampNeg = some c := by
  unfold zTa at e
  split at e
  · next z => exact ⟨z.1, z.2, e⟩
  · cases e
theorem zTa_n (e : zTa R y = some c) : y.toNatClampNeg < 512 := by
  have p := zTa_p e
  have q := tn_cast p.1
  omega
theorem xB_inj (h : xB S R) (e : zTa R y = some c) : ∀ n', n' < 512 → R n' = some c → n' = y.toNatClampNeg := by
  intro n' hn q
  have p := zTa_p e
  have z1 := (h.2 n' c hn q).2
  have z2 := (h.2 _ c (zTa_n e) p.2.2).2
  rw [z1] at z2
  have z3 := congrArg Int32.toInt z2
  rw [Int32.toInt_ofNat_of_lt (by omega), Int32.toInt_ofNat_of_lt (by have := zTa_n e; omega)] at z3
  omega
theorem xC_t (h : xC W S ab R) (hW : xW W) (e : zTa R y = some c) (hf : zfd k = true) : xC W (ma_put S c k (.inl x)) (ma_u ab (126 + k) y.toNatClampNeg x) R := by
  have p := zTa_p e
  have q := h.2.2 _ c (zTa_n e) p.2.2
  have pf := zfd_p hf
  refine ⟨?_, xB_pi h.2 (Or.inr (by omega))⟩
  rw [← h.1]
  have z := aF_t (I := mI S) (L := mL S) (x := x) hW (zTa_n e) p.2.2 (xB_inj h.2 e) hf q.1
  rw [← h.2.1] at z
  exact z
theorem xC_6 (h : xC W S ab R) (hW : xW W) (hc : 126 ≤ c) (hf : zfd k = false) (hk : k ≠ 0) : xC W (ma_put S c k (.inl x)) ab R := by
  refine ⟨?_, xB_pi h.2 (Or.inr hk)⟩
  rw [← h.1]
  have q := aF_6 (I := mI S) (R := mR S 70) (L := mL S) (x := x) hW hc hf
  exact q
theorem xC_0 (h : xC W S ab R) : xC W (ma_put S 70 n (.inr (.inr none))) (zNo ab n) (zRu R n none) := by
  have e : mR (ma_put S 70 n (.inr (.inr none))) 70 = zRu R n none := by
    funext k'
    show (if 70 = 70 ∧ k' = n then none else mR S 70 k') = if k' = n then none else R k'
    rw [← h.2.1]
    by_cases z : k' = n
    · rw [if_pos ⟨rfl, z⟩, if_pos z]
    · rw [if_neg (fun q => z q.2), if_neg z]
  refine ⟨?_, e, fun n' t hn q => ?_⟩
  · unfold aS
    rw [e]
    have z := aF_R (W := W) (I := mI S) (R := R) (L := mL S) (n := n)
    rw [← h.1]
    unfold aS
    rw [h.2.1]
    exact z
  · unfold zRu at q
    split at q
    · cases q
    · exact h.2.2 n' t hn q
/-- what a thing is, by its number -/
def zTp (W : Nat) (S : ma_S) (y : Int32) (c : Nat) : Prop := 0 ≤ y.toInt ∧ y.toInt < 512 ∧ mI S c 0 = y ∧ mI S c 1 = aS W S 127 y.toNatClampNeg ∧ mI S c 2 = aS W S 128 y.toNatClampNeg ∧ mI S c 4 = aS W S 130 y.toNatClampNeg ∧ mI S c 7 = aS W S 133 y.toNatClampNeg ∧ mI S c 8 = aS W S 134 y.toNatClampNeg ∧ aS W S 126 y.toNatClampNeg = 1
theorem aTf_c (hn : n < 512) (e : R n = some c) : aTf I R f n = I c f := by
  unfold aTf
  rw [if_pos hn, e]
theorem xB_th (h : xB S R) (e : zTa R y = some c) : zTp W S y c := by
  have p := zTa_p e
  have hn := zTa_n e
  have hR : mR S 70 y.toNatClampNeg = some c := by rw [h.1]; exact p.2.2
  have f1 : ∀ f, aTf (mI S) (mR S 70) f y.toNatClampNeg = mI S c f := fun f => aTf_c hn hR
  refine ⟨p.1, p.2.1, ?_, (f1 1).symm, (f1 2).symm, (f1 4).symm, (f1 7).symm, (f1 8).symm, ?_⟩
  · rw [(h.2 _ c hn p.2.2).2]
    exact ofN_tn p.1
  · show aTn (mR S 70) y.toNatClampNeg = 1
    unfold aTn
    rw [if_pos hn, hR]
theorem xB_nt (h : xB S R) (e : zTa R y = none) : ¬ (0 ≤ y.toInt ∧ y.toInt < 512 ∧ aS W S 126 y.toNatClampNeg ≠ 0) := by
  intro z
  unfold zTa at e
  rw [if_pos ⟨z.1, z.2.1⟩, ← h.1] at e
  apply z.2.2
  show aTn (mR S 70) y.toNatClampNeg = 0
  unfold aTn
  rw [e]
  simp only [ite_self]
theorem xB_rf (h : xB S R) (e : zTa R y = some c) : aS W S (1000 + y.toNatClampNeg) k = zbit (mL S c 3) (Int32.ofNat k) := by
  have p := zTa_p e
  have hR : mR S 70 y.toNatClampNeg = some c := by rw [h.1]; exact p.2.2
  unfold aS aF
  rw [if_neg (by omega), if_neg (by omega), if_neg (by omega), Nat.add_sub_cancel_left]
  unfold aTr
  rw [if_pos (zTa_n e), hR]
theorem ta_rd (h : xB S R) (h0 : 0 ≤ y.toInt) (h1 : y.toInt < 512) : mR S 70 y.toNatClampNeg = zTa R y := by
  unfold zTa
  rw [if_pos ⟨h0, h1⟩, h.1]
theorem ta_no (h : y.toInt < 0 ∨ 512 ≤ y.toInt) : none = zTa R y := by
  unfold zTa
  rw [if_neg (by omega)]
theorem rg_up (h : xB S R) (e : zTa R y = some c) : zTa R (mI S c 0) = some c := by
  rw [(xB_th (W := 75) h e).2.2.1]
  exact e
theorem aS_I {c' : Nat} (h : zrl c k = true) (hw : zcw W c = c') : aS W S c k = mI S c' k := by
  rw [← hw]
  exact aF_I h
theorem xB_x (h : xB S R) : xB S (mR S 70) := ⟨rfl, by rw [h.1]; exact h.2⟩
theorem aS_W (h : c ≠ 75 ∧ c ≠ 76 ∧ c ≠ 77) : aS 75 S c k = aS 88 S c k := by
  unfold aS aF
  have e : ∀ W, zcw W c = c := by
    intro W
    unfold zcw
    rw [if_neg (by omega)]
  rw [e, e]
end AF
