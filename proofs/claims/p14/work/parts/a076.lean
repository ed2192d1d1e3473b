/-! from 95.f0 -/
/-! THE CLASS'S HEAP BY NUMBERS: cells below 126 as they are (a walk's at 75 to 77), things by their numbers from 126 on (126 there, 127 kind, 128 size, 130 place, 133 holds, 134 wish), from 1000 on which words refer -/
def zrl (c k : Nat) : Bool := (decide (71 ≤ c) && decide (c ≤ 74)) || decide (c = 76) || decide (c = 77) || decide (c = 87) || (decide (c = 69) && (decide (k = 5) || decide (k = 6) || decide (k = 8) || decide (k = 11))) || (decide (c = 75) && (decide (3 ≤ k) && decide (k ≤ 5)))
def zcw (W c : Nat) : Nat := if 75 ≤ c ∧ c ≤ 77 then c - 75 + W else c
def zfd (f : Nat) : Bool := decide (f = 1) || decide (f = 2) || decide (f = 4) || decide (f = 5) || decide (f = 7) || decide (f = 8)
def zbit (x : Int64) (i : Int32) : Int32 := if lg_cmp ((x.toUInt64 >>> (i.toInt64.toUInt64 &&& Int64.toUInt64 63)).toInt64 &&& (1 : Int64)) (0 : Int64) = 0 then 0 else 1
def aTf (I : Nat → Nat → Int32) (R : Nat → Option Nat) (f n : Nat) : Int32 := if n < 512 then (match R n with | some c => I c f | none => 0) else 0
def aTn (R : Nat → Option Nat) (n : Nat) : Int32 := if n < 512 then (match R n with | some _ => 1 | none => 0) else 0
def aTr (L : Nat → Nat → Int64) (R : Nat → Option Nat) (n i : Nat) : Int32 := if n < 512 then (match R n with | some c => zbit (L c 3) (Int32.ofNat i) | none => 0) else 0
def aF (W : Nat) (I : Nat → Nat → Int32) (R : Nat → Option Nat) (L : Nat → Nat → Int64) : Nat → Nat → Int32 := fun c k => if c < 126 then (if zrl c k = true then I (zcw W c) k else 0) else if c = 126 then aTn R k else if c < 1000 then (if zfd (c - 126) = true then aTf I R (c - 126) k else 0) else aTr L R (c - 1000) k
def aS (W : Nat) (S : ma_S) : Nat → Nat → Int32 := aF W (mI S) (mR S 70) (mL S)
def zNm (I : Nat → Nat → Int32) (R : Nat → Option Nat) : Prop := ∀ n c, n < 512 → R n = some c → 126 ≤ c ∧ I c 0 = Int32.ofNat n
def xB (S : ma_S) (R : Nat → Option Nat) : Prop := mR S 70 = R ∧ zNm (mI S) R
def xC (W : Nat) (S : ma_S) (ab : Nat → Nat → Int32) (R : Nat → Option Nat) : Prop := aS W S = ab ∧ xB S R
def xW (W : Nat) : Prop := W = 75 ∨ W = 88
def zRu (R : Nat → Option Nat) (n : Nat) (q : Option Nat) : Nat → Option Nat := fun k => if k = n then q else R k
/-- nobody of that number -/
def zNo (a : Nat → Nat → Int32) (n : Nat) : Nat → Nat → Int32 := fun c k => if (126 ≤ c ∧ c < 1000 ∧ k = n) ∨ c = 1000 + n then 0 else a c k
/-- the thing of that number, if it is there -/
def zTa (R : Nat → Option Nat) (y : Int32) : Option Nat := if 0 ≤ y.toInt ∧ y.toInt < 512 then R y.toNatClampNeg else none
abbrev zRT : Type := Nat → Option Nat
theorem xW75 : xW 75 := Or.inl rfl
theorem xW88 : xW 88 := Or.inr rfl
theorem zp_e {S : ma_S} {c k c₉ k₉ : Nat} {x : Int32} (hc : 126 ≤ c) (h : c₉ < 126) : mI (ma_put S c₉ k₉ (.inl x)) c k = mI S c k := if_neg (fun z => by omega)
theorem zp_i {S : ma_S} {c k c₉ k₉ : Nat} {x : Int32} (hc : 126 ≤ c₉) (h : c < 126) : mI (ma_put S c₉ k₉ (.inl x)) c k = mI S c k := if_neg (fun z => by omega)
theorem zp_f {S : ma_S} {c k c₉ k₉ : Nat} {x : Int32} (h : k ≠ k₉) : mI (ma_put S c₉ k₉ (.inl x)) c k = mI S c k := if_neg (fun z => h z.2)
theorem zp_r {S : ma_S} {c k c₉ k₉ : Nat} {q : Option Nat} : mI (ma_put S c₉ k₉ (.inr (.inr q))) c k = mI S c k := rfl
section AF
variable {W c k c0 n f t : Nat} {I : Nat → Nat → Int32} {R : Nat → Option Nat} {L : Nat → Nat → Int64} {x y : Int32} {S : ma_S} {ab : Nat → Nat → Int32}
theorem zrl_p (h : zrl c k = true) : (71 ≤ c ∧ c ≤ 74) ∨ c = 76 ∨ c = 77 ∨ c = 87 ∨ c = 69 ∨ c = 75 := by
  unfold zrl at h
  simp only [Bool.or_eq_true, Bool.and_eq_true, decide_eq_true_eq] at h
  omega
theorem zfd_p (h : zfd f = true) : 1 ≤ f ∧ f ≤ 8 := by
  unfold zfd at h
  simp only [Bool.or_eq_true, decide_eq_true_eq] at h
  omega
theorem zcw_lt (hW : xW W) (h : zrl c k = true) : zcw W c < 126 := by
  have p := zrl_p h
  unfold xW at hW
  unfold zcw
  split <;> omega
theorem zcw_inj (hW : xW W) (h1 : zrl c k = true) (h2 : zrl c0 n = true) (e : zcw W c = zcw W c0) : c = c0 := by
  have p := zrl_p h1
  have q := zrl_p h2
  unfold xW at hW
  unfold zcw at e
  split at e <;> split at e <;> omega
theorem zcw_s (h : c < 75 ∨ 77 < c) : zcw W c = c := by
  unfold zcw
  rw [if_neg (by omega)]
theorem aF_I (h : zrl c k = true) : aF W I R L c k = I (zcw W c) k := by
  have p := zrl_p h
  unfold aF
  rw [if_pos (by omega), if_pos h]
theorem aTf_o (hR : ∀ n t, n < 512 → R n = some t → 126 ≤ t) (hc : c < 126) : aTf (ma_u I c k x) R f n = aTf I R f n := by
  unfold aTf
  by_cases h : n < 512
  · rw [if_pos h, if_pos h]
    cases e : R n with
    | none => rfl
    | some t =>
      show (if t = c ∧ f = k then x else I t f) = I t f
      rw [if_neg (fun y => by have := hR n t h e; omega)]
  · rw [if_neg h, if_neg h]
theorem aF_put (hW : xW W) (h : zrl c0 k = true) (hR : ∀ n t, n < 512 → R n = some t → 126 ≤ t) : aF W (ma_u I (zcw W c0) k x) R L = ma_u (aF W I R L) c0 k x := by
  funext c k₉
  show aF W _ R L c k₉ = if c = c0 ∧ k₉ = k then x else aF W I R L c k₉
  by_cases z : c = c0 ∧ k₉ = k
  · rw [if_pos z, z.1, z.2, aF_I h]
    show (if zcw W c0 = zcw W c0 ∧ k = k then x else _) = x
    rw [if_pos ⟨rfl, rfl⟩]
  · rw [if_neg z]
    by_cases b : zrl c k₉ = true
    · rw [aF_I b, aF_I b]
      show (if zcw W c = zcw W c0 ∧ k₉ = k then x else I (zcw W c) k₉) = _
      rw [if_neg (fun y => z ⟨zcw_inj hW b h y.1, y.2⟩)]
    · unfold aF
      rw [if_neg b, if_neg b, aTf_o hR (zcw_lt hW h)]
def zir (W c k : Nat) : Prop := c < 126 ∧ ((W = 75 ∧ zrl c k = false) ∨ (W = 88 ∧ ((75 ≤ c ∧ c ≤ 77) ∨ (zrl c k = false ∧ (c < 88 ∨ 90 < c)))))
theorem zir_W (hW : xW W) (h : zrl c k = false) (hc : c < 88 ∨ (90 < c ∧ c < 126)) : zir W c k := by
  refine ⟨by omega, ?_⟩
  rcases hW with e | e
  · exact Or.inl ⟨e, h⟩
  · exact Or.inr ⟨e, Or.inr ⟨h, by omega⟩⟩
theorem zir_n (h : zir W c k) (hr : zrl c0 k = true) : zcw W c0 ≠ c := by
  have p := zrl_p hr
  intro e
  unfold zcw at e
  obtain ⟨h0, h1 | h1⟩ := h
  · have e2 : c0 = c := by
      split at e <;> omega
    rw [← e2, hr] at h1
    exact absurd h1.2 (by decide)
  · rcases h1.2 with h2 | h2
    · split at e <;> omega
    · have e2 : c0 = c := by
        split at e <;> omega
      rw [← e2, hr] at h2
      exact absurd h2.1 (by decide)
theorem aF_no (h : zir W c k) (hR : ∀ n t, n < 512 → R n = some t → 126 ≤ t) : aF W (ma_u I c k x) R L = aF W I R L := by
  funext c1 k1
  by_cases b : zrl c1 k1 = true
  · rw [aF_I b, aF_I b]
    show (if zcw W c1 = c ∧ k1 = k then x else I (zcw W c1) k1) = _
    rw [if_neg (fun y => zir_n h (y.2 ▸ b) y.1)]
  · unfold aF
    rw [if_neg b, if_neg b, aTf_o hR h.1]
theorem aF_t (hW : xW W) (hn : n < 512) (hc : R n = some c) (hi : ∀ n₉, n₉ < 512 → R n₉ = some c → n₉ = n) (hf : zfd f = true) (h126 : 126 ≤ c) : aF W (ma_u I c f x) R L = ma_u (aF W I R L) (126 + f) n x := by
  have pf := zfd_p hf
  funext c1 k1
  show aF W _ R L c1 k1 = if c1 = 126 + f ∧ k1 = n then x else aF W I R L c1 k1
  by_cases b : zrl c1 k1 = true
  · have p := zrl_p b
    rw [aF_I b, aF_I b, if_neg (by omega)]
    show (if zcw W c1 = c ∧ k1 = f then x else I (zcw W c1) k1) = _
    rw [if_neg (fun y => by have := zcw_lt hW b; omega)]
  · by_cases g : c1 = 126 + f ∧ k1 = n
    · rw [if_pos g, g.1, g.2]
      unfold aF aTf
      rw [if_neg (by omega), if_neg (by omega), if_pos (by omega), Nat.add_sub_cancel_left, if_pos hf, if_pos hn, hc]
      show (if c = c ∧ f = f then x else _) = x
      rw [if_pos ⟨rfl, rfl⟩]
    · rw [if_neg g]
      unfold aF
      rw [if_neg b, if_neg b]
      have e : c1 ≠ 126 → c1 < 1000 → ¬ c1 < 126 → zfd (c1 - 126) = true → aTf (ma_u I c f x) R (c1 - 126) k1 = aTf I R (c1 - 126) k1 := by
        intro g1 g2 g3 g4
        unfold aTf
        by_cases hk : k1 < 512
        · rw [if_pos hk, if_pos hk]
          cases q : R k1 with
          | none => rfl
          | some t =>
            show (if t = c ∧ c1 - 126 = f then x else I t (c1 - 126)) = I t (c1 - 126)
            rw [if_neg (fun y => g ⟨by omega, hi k1 hk (by rw [q, y.1])⟩)]
        · rw [if_neg hk, if_neg hk]
      by_cases a1 : c1 < 126
      · rw [if_pos a1, if_pos a1]
      · by_cases a2 : c1 = 126
        · rw [if_neg a1, if_neg a1, if_pos a2, if_pos a2]
        · by_cases a3 : c1 < 1000
          · by_cases a4 : zfd (c1 - 126) = true
            · rw [e a2 a3 a1 a4]
            · rw [if_neg a4, if_neg a4]
          · rw [if_neg a1, if_neg a1, if_neg a2, if_neg a2, if_neg a3, if_neg a3]
theorem aF_6 (hW : xW W) (h126 : 126 ≤ c) (hf : zfd f = false) : aF W (ma_u I c f x) R L = aF W I R L := by
  funext c1 k1
  by_cases b : zrl c1 k1 = true
  · rw [aF_I b, aF_I b]
    show (if zcw W c1 = c ∧ k1 = f then x else I (zcw W c1) k1) = _
    rw [if_neg (fun y => by have := zcw_lt hW b; omega)]
  · unfold aF
    rw [if_neg b, if_neg b]
    by_cases a4 : zfd (c1 - 126) = true
    · have e : aTf (ma_u I c f x) R (c1 - 126) k1 = aTf I R (c1 - 126) k1 := by
        unfold aTf
        by_cases hk : k1 < 512
        · rw [if_pos hk, if_pos hk]
          cases q : R k1 with
          | none => rfl
          | some t =>
            show (if t = c ∧ c1 - 126 = f then x else I t (c1 - 126)) = I t (c1 - 126)
            rw [if_neg (fun y => by rw [y.2, hf] at a4; cases a4)]
        · rw [if_neg hk, if_neg hk]
      rw [e]
    · rw [if_neg a4, if_neg a4]
theorem aF_R : aF W I (zRu R n none) L = zNo (aF W I R L) n := by
  funext c1 k1
  unfold zNo
  by_cases b : c1 < 126
  · rw [if_neg (by omega)]
    unfold aF
    rw [if_pos b, if_pos b]
  · by_cases a2 : c1 < 1000
    · by_cases a3 : k1 = n
      · rw [if_pos (Or.inl ⟨by omega, a2, a3⟩)]
        unfold aF aTn aTf zRu
        rw [if_neg b, if_pos a2]
        simp only [if_pos a3, ite_self]
      · rw [if_neg (by omega)]
        unfold aF aTn aTf zRu
        rw [if_neg b, if_neg b, if_pos a2, if_pos a2]
        simp only [if_neg a3]
    · have a4 : ¬ c1 = 126 := by omega
      by_cases a3 : c1 = 1000 + n
      · rw [if_pos (Or.inr a3)]
        unfold aF aTr zRu
        rw [if_neg b, if_neg a4, if_neg a2, if_pos (show c1 - 1000 = n by omega)]
        simp only [ite_self]
      · rw [if_neg (by omega)]
        unfold aF aTr zRu
        rw [if_neg b, if_neg a4, if_neg a2, if_neg b, if_neg a4, if_neg a2, if_neg (show ¬ c1 - 1000 = n by omega)]
theorem ofN_tn (h : 0 ≤ y.toInt) : Int32.ofNat y.toNatClampNeg = y := by
  have b := i_bd y
  have e := tn_cast h
  apply Int32.toInt_inj.mp
  rw [Int32.toInt_ofNat_of_lt (by omega)]
  exact e
theorem xB_hR (h : xB S R) : ∀ n t, n < 512 → mR S 70 n = some t → 126 ≤ t := fun n t hn e => (h.2 n t hn (by rw [← h.1]; exact e)).1
theorem xB_pi (h : xB S R) (hk : c < 126 ∨ k ≠ 0) : xB (ma_put S c k (.inl x)) R := by
  refine ⟨h.1, fun n t hn e => ?_⟩
  have q := h.2 n t hn e
  refine ⟨q.1, ?_⟩
  show (if t = c ∧ 0 = k then x else mI S t 0) = _
  rw [if_neg (fun y => by omega)]
  exact q.2
theorem xC_o (h : xB S R) : xC W S (aS W S) R := ⟨rfl, h⟩
theorem xC_p (h : xC W S ab R) (c0 : Nat) (hW : xW W) (hr : zrl c0 k = true) (hw : zcw W c0 = c) : xC W (ma_put S c k (.inl x)) (ma_u ab c0 k x) R := by
  have hl := zcw_lt hW hr
  refine ⟨?_, xB_pi h.2 (Or.inl (by omega))⟩
  rw [← h.1, ← hw]
  have q := aF_put (I := mI S) (R := mR S 70) (L := mL S) (x := x) hW hr (xB_hR h.2)
  exact q
theorem xC_n (h : xC W S ab R) (hz : zir W c k) : xC W (ma_put S c k (.inl x)) ab R := by
  refine ⟨?_, xB_pi h.2 (Or.inl hz.1)⟩
  rw [← h.1]
  have q := aF_no (I := mI S) (R := mR S 70) (L := mL S) (x := x) hz (xB_hR h.2)
  exact q
theorem zTa_p (e : zTa R y = some c) : 0 ≤ y.toInt ∧ y.toInt < 512 ∧ R y.toNatClampNeg = some c := by
  unfold zTa at e
  split at e
  · next z => exact ⟨z.1, z.2, e⟩
  · cases e
theorem zTa_n (e : zTa R y = some c) : y.toNatClampNeg < 512 := by
  have p := zTa_p e
  have q := tn_cast p.1
  omega
theorem xB_inj (h : xB S R) (e : zTa R y = some c) : ∀ n₉, n₉ < 512 → R n₉ = some c → n₉ = y.toNatClampNeg := by
  intro n₉ hn q
  have p := zTa_p e
  have z1 := (h.2 n₉ c hn q).2
  have z2 := (h.2 _ c (zTa_n e) p.2.2).2
  rw [z1] at z2
  have z3 := congrArg Int32.toInt z2
  rw [Int32.toInt_ofNat_of_lt (by omega), Int32.toInt_ofNat_of_lt (by have := zTa_n e; omega)] at z3
  omega
theorem xC_t (h : xC W S ab R) (hW : xW W) (e : zTa R y = some c) (hf : zfd k = true) : xC W (ma_put S c k (.inl x)) (ma_u ab (126 + k) y.toNatClampNeg x) R := by
  have p := zTa_p e
  have q := h.2.2 _ c (zTa_n e) p.2.2
  have pf := zfd_p hf
  refine ⟨?_, xB_pi h.2 (Or.inr (by omega))⟩
  rw [← h.1]
  have z := aF_t (I := mI S) (L := mL S) (x := x) hW (zTa_n e) p.2.2 (xB_inj h.2 e) hf q.1
  rw [← h.2.1] at z
  exact z
theorem xC_6 (h : xC W S ab R) (hW : xW W) (hc : 126 ≤ c) (hf : zfd k = false) (hk : k ≠ 0) : xC W (ma_put S c k (.inl x)) ab R := by
  refine ⟨?_, xB_pi h.2 (Or.inr hk)⟩
  rw [← h.1]
  have q := aF_6 (I := mI S) (R := mR S 70) (L := mL S) (x := x) hW hc hf
  exact q
theorem xC_0 (h : xC W S ab R) : xC W (ma_put S 70 n (.inr (.inr none))) (zNo ab n) (zRu R n none) := by
  have e : mR (ma_put S 70 n (.inr (.inr none))) 70 = zRu R n none := by
    funext k₉
    show (if 70 = 70 ∧ k₉ = n then none else mR S 70 k₉) = if k₉ = n then none else R k₉
    rw [← h.2.1]
    by_cases z : k₉ = n
    · rw [if_pos ⟨rfl, z⟩, if_pos z]
    · rw [if_neg (fun q => z q.2), if_neg z]
  refine ⟨?_, e, fun n₉ t hn q => ?_⟩
  · unfold aS
    rw [e]
    have z := aF_R (W := W) (I := mI S) (R := R) (L := mL S) (n := n)
    rw [← h.1]
    unfold aS
    rw [h.2.1]
    exact z
  · unfold zRu at q
    split at q
    · cases q
    · exact h.2.2 n₉ t hn q
/-- what a thing is, by its number -/
def zTp (W : Nat) (S : ma_S) (y : Int32) (c : Nat) : Prop := 0 ≤ y.toInt ∧ y.toInt < 512 ∧ mI S c 0 = y ∧ mI S c 1 = aS W S 127 y.toNatClampNeg ∧ mI S c 2 = aS W S 128 y.toNatClampNeg ∧ mI S c 4 = aS W S 130 y.toNatClampNeg ∧ mI S c 7 = aS W S 133 y.toNatClampNeg ∧ mI S c 8 = aS W S 134 y.toNatClampNeg ∧ aS W S 126 y.toNatClampNeg = 1
theorem aTf_c (hn : n < 512) (e : R n = some c) : aTf I R f n = I c f := by
  unfold aTf
  rw [if_pos hn, e]
theorem xB_th (h : xB S R) (e : zTa R y = some c) : zTp W S y c := by
  have p := zTa_p e
  have hn := zTa_n e
  have hR : mR S 70 y.toNatClampNeg = some c := by rw [h.1]; exact p.2.2
  have f1 : ∀ f, aTf (mI S) (mR S 70) f y.toNatClampNeg = mI S c f := fun f => aTf_c hn hR
  refine ⟨p.1, p.2.1, ?_, (f1 1).symm, (f1 2).symm, (f1 4).symm, (f1 7).symm, (f1 8).symm, ?_⟩
  · rw [(h.2 _ c hn p.2.2).2]
    exact ofN_tn p.1
  · show aTn (mR S 70) y.toNatClampNeg = 1
    unfold aTn
    rw [if_pos hn, hR]
theorem xB_nt (h : xB S R) (e : zTa R y = none) : ¬ (0 ≤ y.toInt ∧ y.toInt < 512 ∧ aS W S 126 y.toNatClampNeg ≠ 0) := by
  intro z
  unfold zTa at e
  rw [if_pos ⟨z.1, z.2.1⟩, ← h.1] at e
  apply z.2.2
  show aTn (mR S 70) y.toNatClampNeg = 0
  unfold aTn
  rw [e]
  simp only [ite_self]
theorem xB_rf (h : xB S R) (e : zTa R y = some c) : aS W S (1000 + y.toNatClampNeg) k = zbit (mL S c 3) (Int32.ofNat k) := by
  have p := zTa_p e
  have hR : mR S 70 y.toNatClampNeg = some c := by rw [h.1]; exact p.2.2
  unfold aS aF
  rw [if_neg (by omega), if_neg (by omega), if_neg (by omega), Nat.add_sub_cancel_left]
  unfold aTr
  rw [if_pos (zTa_n e), hR]
theorem ta_rd (h : xB S R) (h0 : 0 ≤ y.toInt) (h1 : y.toInt < 512) : mR S 70 y.toNatClampNeg = zTa R y := by
  unfold zTa
  rw [if_pos ⟨h0, h1⟩, h.1]
theorem ta_no (h : y.toInt < 0 ∨ 512 ≤ y.toInt) : none = zTa R y := by
  unfold zTa
  rw [if_neg (by omega)]
theorem rg_up (h : xB S R) (e : zTa R y = some c) : zTa R (mI S c 0) = some c := by
  rw [(xB_th (W := 75) h e).2.2.1]
  exact e
theorem aS_I {c₉ : Nat} (h : zrl c k = true) (hw : zcw W c = c₉) : aS W S c k = mI S c₉ k := by
  rw [← hw]
  exact aF_I h
theorem xB_x (h : xB S R) : xB S (mR S 70) := ⟨rfl, by rw [h.1]; exact h.2⟩
theorem aS_W (h : c ≠ 75 ∧ c ≠ 76 ∧ c ≠ 77) : aS 75 S c k = aS 88 S c k := by
  unfold aS aF
  have e : ∀ W, zcw W c = c := by
    intro W
    unfold zcw
    rw [if_neg (by omega)]
  rw [e, e]
end AF

/-! from 95.f1 -/
/-! WHAT THE CLASS DOES TO ITS HEAP, as functions of the heap by numbers -/
/-- it comes: a WHITE one goes GREY, to the end of the queue -/
def aCc (a : Nat → Nat → Int32) (y : Int32) : Prop := 0 ≤ y.toInt ∧ y.toInt < 512 ∧ a 126 y.toNatClampNeg ≠ 0 ∧ (a 75 5).toInt ≤ (a 130 y.toNatClampNeg).toInt ∧ (a 75 4).toInt < 512 ∧ a 77 y.toNatClampNeg = 0
def aCm (a : Nat → Nat → Int32) (y : Int32) : Nat → Nat → Int32 := if 0 ≤ y.toInt ∧ y.toInt < 512 ∧ a 126 y.toNatClampNeg ≠ 0 ∧ (a 75 5).toInt ≤ (a 130 y.toNatClampNeg).toInt ∧ (a 75 4).toInt < 512 ∧ a 77 y.toNatClampNeg = 0 then ma_u (ma_u (ma_u a 77 y.toNatClampNeg 1) 76 (a 75 4).toNatClampNeg y) 75 4 (a 75 4 + 1) else a
/-- what word i of n refers to; -1: nothing, or an int -/
def aRef (a : Nat → Nat → Int32) (n : Nat) (i : Int32) : Int32 := if a (1000 + n) i.toNatClampNeg ≠ 0 ∧ 0 ≤ (a 130 n + 1 + i).toInt ∧ (a 130 n + 1 + i).toInt < 4500 then a 71 (a 130 n + 1 + i).toNatClampNeg else -1
/-- what its words from i on refer to comes -/
def aCwf (n : Nat) : Nat → Int32 → (Nat → Nat → Int32) → Nat → Nat → Int32
  | 0, _, a => a
  | f + 1, i, a => aCwf n f (i + 1) (aCm a (aRef a n i))
def aCw (a : Nat → Nat → Int32) (n : Nat) (i : Int32) : Nat → Nat → Int32 := aCwf n ((a 128 n).toInt - 1 - i.toInt).toNat i a
/-- a step: the first GREY one is BLACK, what it refers to comes -/
def aPop (a : Nat → Nat → Int32) : Nat → Nat → Int32 := if 0 ≤ (a 76 (a 75 3).toNatClampNeg).toInt ∧ (a 76 (a 75 3).toNatClampNeg).toInt < 512 ∧ a 126 (a 76 (a 75 3).toNatClampNeg).toNatClampNeg ≠ 0 then aCw (ma_u (ma_u a 75 3 (a 75 3 + 1)) 77 (a 76 (a 75 3).toNatClampNeg).toNatClampNeg 2) (a 76 (a 75 3).toNatClampNeg).toNatClampNeg 0 else ma_u a 75 3 (a 75 3 + 1)
/-- at most so many steps; how many -/
def aSp : Nat → (Nat → Nat → Int32) → Nat → Nat → Int32
  | 0, a => a
  | k + 1, a => if (a 75 3).toInt < (a 75 4).toInt then aSp k (aPop a) else a
def aSn : Nat → (Nat → Nat → Int32) → Nat
  | 0, _ => 0
  | k + 1, a => if (a 75 3).toInt < (a 75 4).toInt then aSn k (aPop a) + 1 else 0
/-- held ones from n on come -/
def aHf : Nat → Int32 → (Nat → Nat → Int32) → Nat → Nat → Int32
  | 0, _, a => a
  | f + 1, n, a => aHf f (n + 1) (if 0 ≤ n.toInt ∧ n.toInt < 512 ∧ a 126 n.toNatClampNeg ≠ 0 ∧ 0 < (a 133 n.toNatClampNeg).toInt then aCm a n else a)
def aHo (a : Nat → Nat → Int32) (n : Int32) : Nat → Nat → Int32 := aHf ((a 69 6).toInt - n.toInt).toNat n a
/-- WISHES from i on come, then the held ones -/
def aWf : Nat → Int32 → (Nat → Nat → Int32) → Nat → Nat → Int32
  | 0, _, a => aHo a 0
  | f + 1, i, a => aWf f (i + 1) (aCm a (a 74 i.toNatClampNeg))
def aWi (a : Nat → Nat → Int32) (i : Int32) : Nat → Nat → Int32 := aWf ((a 69 5).toInt - i.toInt).toNat i a
/-- ROOTS from i on come, then WISHES, then the held ones -/
def aRf : Nat → Int32 → (Nat → Nat → Int32) → Nat → Nat → Int32
  | 0, _, a => aWi a 0
  | f + 1, i, a => aRf f (i + 1) (aCm a (a 72 i.toNatClampNeg))
def aRo (a : Nat → Nat → Int32) (i : Int32) : Nat → Nat → Int32 := aRf (16 - i.toInt).toNat i a
/-- a row's words below n are x -/
def zFl (a : Nat → Nat → Int32) (c : Nat) (x : Int32) (n : Int) : Nat → Nat → Int32 := fun c₉ k => if c₉ = c ∧ (k : Int) < n then x else a c₉ k
/-- all WHITE, the queue empty -/
def aWh (a : Nat → Nat → Int32) (p : Int32) : Nat → Nat → Int32 := ma_u (ma_u (ma_u (zFl a 77 0 512) 75 3 0) 75 4 0) 75 5 p
def zSr (k : Nat) (a : Nat → Nat → Int32) (d : Int) (m : Nat) (b : Nat → Nat → Int32) : Prop := aSp k a = aSp m b ∧ d + (aSn k a : Int) = (aSn m b : Int)
section AB1
variable {a : Nat → Nat → Int32} {y i n : Int32} {c k m : Nat}
theorem aCm_y (h : aCc a y) : aCm a y = ma_u (ma_u (ma_u a 77 y.toNatClampNeg 1) 76 (a 75 4).toNatClampNeg y) 75 4 (a 75 4 + 1) := if_pos h
theorem aCm_n (h : ¬ aCc a y) : aCm a y = a := if_neg h
theorem aCm_o (h : c ≠ 75 ∧ c ≠ 76 ∧ c ≠ 77) : aCm a y c k = a c k := by
  unfold aCm
  split
  · show (if c = 75 ∧ k = 4 then _ else if c = 76 ∧ k = _ then _ else if c = 77 ∧ k = _ then _ else a c k) = a c k
    rw [if_neg (fun z => h.1 z.1), if_neg (fun z => h.2.1 z.1), if_neg (fun z => h.2.2 z.1)]
  · rfl
theorem i_p1 (h : i.toInt < 2147483647) : (i + 1).toInt = i.toInt + 1 := by
  have b := i_bd i
  exact i_addk rfl (by omega) (by omega)
theorem aCw_go (h : i.toInt < (a 128 m).toInt - 1) : aCw a m i = aCw (aCm a (aRef a m i)) m (i + 1) := by
  have b := i_bd (a 128 m)
  have e : (i + 1).toInt = i.toInt + 1 := i_p1 (by omega)
  unfold aCw
  rw [aCm_o ⟨by decide, by decide, by decide⟩, e]
  have e2 : ((a 128 m).toInt - 1 - i.toInt).toNat = ((a 128 m).toInt - 1 - (i.toInt + 1)).toNat + 1 := by omega
  rw [e2]
  rfl
theorem aCw_st (h : ¬ i.toInt < (a 128 m).toInt - 1) : aCw a m i = a := by
  unfold aCw
  rw [show ((a 128 m).toInt - 1 - i.toInt).toNat = 0 by omega]
  rfl
theorem aSp_go (h : (a 75 3).toInt < (a 75 4).toInt) : aSp (k + 1) a = aSp k (aPop a) := if_pos h
theorem aSp_st (h : k = 0 ∨ ¬ (a 75 3).toInt < (a 75 4).toInt) : aSp k a = a := by
  cases k with
  | zero => rfl
  | succ k => exact if_neg (by omega)
theorem aSn_go (h : (a 75 3).toInt < (a 75 4).toInt) : aSn (k + 1) a = aSn k (aPop a) + 1 := if_pos h
theorem aSn_st (h : k = 0 ∨ ¬ (a 75 3).toInt < (a 75 4).toInt) : aSn k a = 0 := by
  cases k with
  | zero => rfl
  | succ k => exact if_neg (by omega)
theorem aPop_y (e : a 76 (a 75 3).toNatClampNeg = y) (h0 : 0 ≤ y.toInt) (h1 : y.toInt < 512) (h : a 126 y.toNatClampNeg ≠ 0) : aPop a = aCw (ma_u (ma_u a 75 3 (a 75 3 + 1)) 77 y.toNatClampNeg 2) y.toNatClampNeg 0 := by
  unfold aPop
  rw [e]
  exact if_pos ⟨h0, h1, h⟩
theorem aPop_n (e : a 76 (a 75 3).toNatClampNeg = y) (h : ¬ (0 ≤ y.toInt ∧ y.toInt < 512 ∧ a 126 y.toNatClampNeg ≠ 0)) : aPop a = ma_u a 75 3 (a 75 3 + 1) := by
  unfold aPop
  rw [e]
  exact if_neg h
theorem aHo_y (h : n.toInt < (a 69 6).toInt) (z : 0 ≤ n.toInt ∧ n.toInt < 512 ∧ a 126 n.toNatClampNeg ≠ 0 ∧ 0 < (a 133 n.toNatClampNeg).toInt) : aHo a n = aHo (aCm a n) (n + 1) := by
  have b := i_bd (a 69 6)
  have e : (n + 1).toInt = n.toInt + 1 := i_p1 (by omega)
  unfold aHo
  rw [aCm_o ⟨by decide, by decide, by decide⟩, e]
  have e2 : ((a 69 6).toInt - n.toInt).toNat = ((a 69 6).toInt - (n.toInt + 1)).toNat + 1 := by omega
  rw [e2]
  show aHf _ (n + 1) (if _ then aCm a n else a) = _
  rw [if_pos z]
theorem aHo_n (h : n.toInt < (a 69 6).toInt) (z : ¬ (0 ≤ n.toInt ∧ n.toInt < 512 ∧ a 126 n.toNatClampNeg ≠ 0 ∧ 0 < (a 133 n.toNatClampNeg).toInt)) : aHo a n = aHo a (n + 1) := by
  have b := i_bd (a 69 6)
  have e : (n + 1).toInt = n.toInt + 1 := i_p1 (by omega)
  unfold aHo
  rw [e]
  have e2 : ((a 69 6).toInt - n.toInt).toNat = ((a 69 6).toInt - (n.toInt + 1)).toNat + 1 := by omega
  rw [e2]
  show aHf _ (n + 1) (if _ then aCm a n else a) = _
  rw [if_neg z]
theorem aHo_st (h : ¬ n.toInt < (a 69 6).toInt) : aHo a n = a := by
  unfold aHo
  rw [show ((a 69 6).toInt - n.toInt).toNat = 0 by omega]
  rfl
theorem aWi_go (h : i.toInt < (a 69 5).toInt) : aWi a i = aWi (aCm a (a 74 i.toNatClampNeg)) (i + 1) := by
  have b := i_bd (a 69 5)
  have e : (i + 1).toInt = i.toInt + 1 := i_p1 (by omega)
  unfold aWi
  rw [aCm_o ⟨by decide, by decide, by decide⟩, e]
  have e2 : ((a 69 5).toInt - i.toInt).toNat = ((a 69 5).toInt - (i.toInt + 1)).toNat + 1 := by omega
  rw [e2]
  rfl
theorem aWi_st (h : ¬ i.toInt < (a 69 5).toInt) : aWi a i = aHo a 0 := by
  unfold aWi
  rw [show ((a 69 5).toInt - i.toInt).toNat = 0 by omega]
  rfl
theorem aRo_go (h : i.toInt < 16) : aRo a i = aRo (aCm a (a 72 i.toNatClampNeg)) (i + 1) := by
  have e : (i + 1).toInt = i.toInt + 1 := i_p1 (by omega)
  unfold aRo
  rw [e]
  have e2 : (16 - i.toInt).toNat = (16 - (i.toInt + 1)).toNat + 1 := by omega
  rw [e2]
  rfl
theorem aRo_st (h : ¬ i.toInt < 16) : aRo a i = aWi a 0 := by
  unfold aRo
  rw [show (16 - i.toInt).toNat = 0 by omega]
  rfl
theorem zFl_0 {x : Int32} : zFl a c x 0 = a := by
  funext c₉ k₉
  exact if_neg (by omega)
theorem zFl_s {x j : Int32} (h0 : 0 ≤ j.toInt) (h1 : j.toInt < 2147483647) : ma_u (zFl a c x j.toInt) c j.toNatClampNeg x = zFl a c x (j + 1).toInt := by
  have e := i_p1 h1
  have e2 := tn_cast h0
  funext c₉ k₉
  show (if c₉ = c ∧ k₉ = j.toNatClampNeg then x else if c₉ = c ∧ (k₉ : Int) < j.toInt then x else a c₉ k₉) = if c₉ = c ∧ (k₉ : Int) < (j + 1).toInt then x else a c₉ k₉
  by_cases h : c₉ = c ∧ (k₉ : Int) < (j + 1).toInt
  · rw [if_pos h]
    by_cases h2 : k₉ = j.toNatClampNeg
    · rw [if_pos ⟨h.1, h2⟩]
    · rw [if_neg (fun z => h2 z.2), if_pos ⟨h.1, by omega⟩]
  · rw [if_neg h, if_neg (fun z => h ⟨z.1, by omega⟩), if_neg (fun z => h ⟨z.1, by omega⟩)]
theorem zSr_go {b : Nat → Nat → Int32} {d : Int} {k₉ : Nat} (h : zSr k a d m b) (e : k = k₉ + 1) (hl : (a 75 3).toInt < (a 75 4).toInt) : zSr k₉ (aPop a) (d + 1) m b := by
  subst e
  have h1 := h.1
  have h2 := h.2
  rw [aSp_go hl] at h1
  rw [aSn_go hl] at h2
  exact ⟨h1, by omega⟩
theorem zSr_st {b : Nat → Nat → Int32} {d : Int} (h : zSr k a d m b) (hl : k = 0 ∨ ¬ (a 75 3).toInt < (a 75 4).toInt) : a = aSp m b ∧ d = (aSn m b : Int) := by
  have h1 := h.1
  have h2 := h.2
  rw [aSp_st hl] at h1
  rw [aSn_st hl] at h2
  exact ⟨h1, by omega⟩
theorem zSr_k {b : Nat → Nat → Int32} {d d₉ : Int} {k₉ : Nat} (h : zSr k a d m b) (e : k = k₉) (e2 : d = d₉) : zSr k₉ a d₉ m b := by
  rw [← e, ← e2]
  exact h
theorem aRef_in (h : a (1000 + m) i.toNatClampNeg ≠ 0) (h1 : 0 ≤ (a 130 m + 1 + i).toInt) (h2 : (a 130 m + 1 + i).toInt < 4500) : aRef a m i = a 71 (a 130 m + 1 + i).toNatClampNeg := if_pos ⟨h, h1, h2⟩
theorem aRef_no (h : ¬ (a (1000 + m) i.toNatClampNeg ≠ 0 ∧ 0 ≤ (a 130 m + 1 + i).toInt ∧ (a 130 m + 1 + i).toInt < 4500)) : aRef a m i = -1 := if_neg h
theorem rf_bit {W : Nat} {S : ma_S} {R : zRT} (hC : xB S R) (rg : zTa R y = some c) (hi : 0 ≤ i.toInt) : aS W S (1000 + y.toNatClampNeg) i.toNatClampNeg = zbit (mL S c 3) i := by
  rw [xB_rf hC rg, ofN_tn hi]
theorem rf_in {W : Nat} {S : ma_S} {R : zRT} (hC : xB S R) (rg : zTa R y = some c) (hi : 0 ≤ i.toInt) (hb : ¬ lg_cmp (((mL S c 3).toUInt64 >>> (i.toInt64.toUInt64 &&& Int64.toUInt64 63)).toInt64 &&& (1 : Int64)) (0 : Int64) = 0) (h1 : 0 ≤ (mI S c 4 + 1 + i).toInt) (h2 : (mI S c 4 + 1 + i).toInt < 4500) : aRef (aS W S) y.toNatClampNeg i = mI S 71 (mI S c 4 + 1 + i).toNatClampNeg := by
  have t := xB_th (W := W) hC rg
  have e := t.2.2.2.2.2.1
  rw [e] at h1 h2 ⊢
  refine aRef_in ?_ h1 h2
  rw [rf_bit hC rg hi]
  unfold zbit
  rw [if_neg hb]
  decide
theorem rf_b0 {W : Nat} {S : ma_S} {R : zRT} (hC : xB S R) (rg : zTa R y = some c) (hi : 0 ≤ i.toInt) (hb : lg_cmp (((mL S c 3).toUInt64 >>> (i.toInt64.toUInt64 &&& Int64.toUInt64 63)).toInt64 &&& (1 : Int64)) (0 : Int64) = 0) : aRef (aS W S) y.toNatClampNeg i = -1 := by
  refine aRef_no (fun z => z.1 ?_)
  rw [rf_bit hC rg hi]
  unfold zbit
  rw [if_pos hb]
theorem rf_no {W : Nat} {S : ma_S} {R : zRT} (hC : xB S R) (rg : zTa R y = some c) (h : (mI S c 4 + 1 + i).toInt < 0 ∨ 4500 ≤ (mI S c 4 + 1 + i).toInt) : aRef (aS W S) y.toNatClampNeg i = -1 := by
  have t := xB_th (W := W) hC rg
  have e := t.2.2.2.2.2.1
  rw [e] at h
  exact aRef_no (fun z => by omega)
theorem ta_m1 {R : zRT} : none = zTa R (-1) := rfl
end AB1

/-! from 95.f2 -/
/-! cells that a walk leaves, and what the store does -/
section AB2
variable {a b : Nat → Nat → Int32} {y i n : Int32} {c k m : Nat}
theorem aCw_o (h : c ≠ 75 ∧ c ≠ 76 ∧ c ≠ 77) : ∀ (f : Nat) (i : Int32) (a : Nat → Nat → Int32), aCwf m f i a c k = a c k := by
  intro f
  induction f with
  | zero => intro i a; rfl
  | succ f ih =>
    intro i a
    show aCwf m f (i + 1) (aCm a (aRef a m i)) c k = a c k
    rw [ih, aCm_o h]
theorem aPop_o (h : c ≠ 75 ∧ c ≠ 76 ∧ c ≠ 77) : aPop a c k = a c k := by
  unfold aPop
  split
  · unfold aCw
    rw [aCw_o h]
    show (if c = 77 ∧ k = _ then _ else if c = 75 ∧ k = 3 then _ else a c k) = a c k
    rw [if_neg (fun z => h.2.2 z.1), if_neg (fun z => h.1 z.1)]
  · show (if c = 75 ∧ k = 3 then _ else a c k) = a c k
    rw [if_neg (fun z => h.1 z.1)]
theorem aSp_o (h : c ≠ 75 ∧ c ≠ 76 ∧ c ≠ 77) : ∀ (f : Nat) (a : Nat → Nat → Int32), aSp f a c k = a c k := by
  intro f
  induction f with
  | zero => intro a; rfl
  | succ f ih =>
    intro a
    show (if (a 75 3).toInt < (a 75 4).toInt then aSp f (aPop a) else a) c k = a c k
    split
    · rw [ih, aPop_o h]
    · rfl
/-- WEAK below n lose it -/
def zUw (a : Nat → Nat → Int32) (y : Int32) (n : Int) : Nat → Nat → Int32 := fun c k => if c = 73 ∧ (k : Int) < n ∧ a 73 k = y then -1 else a c k
theorem zUw_0 : zUw a y 0 = a := by
  funext c₉ k₉
  exact if_neg (by omega)
theorem zUw_r : zUw a y i.toInt 73 i.toNatClampNeg = a 73 i.toNatClampNeg := by
  unfold zUw
  have b := i_bd i
  by_cases h : 0 ≤ i.toInt
  · rw [if_neg (fun z => by have := tn_cast h; omega)]
  · rw [if_neg (fun z => by omega)]
theorem zUw_y (h0 : 0 ≤ i.toInt) (h1 : i.toInt < 2147483647) (e0 : a 73 i.toNatClampNeg = y) : ma_u (zUw a y i.toInt) 73 i.toNatClampNeg (-1) = zUw a y (i + 1).toInt := by
  have e := i_p1 h1
  have e2 := tn_cast h0
  funext c₉ k₉
  show (if c₉ = 73 ∧ k₉ = i.toNatClampNeg then -1 else if c₉ = 73 ∧ (k₉ : Int) < i.toInt ∧ a 73 k₉ = y then -1 else a c₉ k₉) = if c₉ = 73 ∧ (k₉ : Int) < (i + 1).toInt ∧ a 73 k₉ = y then -1 else a c₉ k₉
  by_cases h2 : c₉ = 73 ∧ k₉ = i.toNatClampNeg
  · rw [if_pos h2, if_pos ⟨h2.1, by omega, by rw [h2.2]; exact e0⟩]
  · rw [if_neg h2]
    by_cases h3 : c₉ = 73 ∧ (k₉ : Int) < i.toInt ∧ a 73 k₉ = y
    · rw [if_pos h3, if_pos ⟨h3.1, by omega, h3.2.2⟩]
    · rw [if_neg h3, if_neg (fun z => h3 ⟨z.1, by have := z.2.1; omega, z.2.2⟩)]
theorem zUw_n (h0 : 0 ≤ i.toInt) (h1 : i.toInt < 2147483647) (e0 : ¬ a 73 i.toNatClampNeg = y) : zUw a y i.toInt = zUw a y (i + 1).toInt := by
  have e := i_p1 h1
  have e2 := tn_cast h0
  funext c₉ k₉
  show (if c₉ = 73 ∧ (k₉ : Int) < i.toInt ∧ a 73 k₉ = y then -1 else a c₉ k₉) = if c₉ = 73 ∧ (k₉ : Int) < (i + 1).toInt ∧ a 73 k₉ = y then -1 else a c₉ k₉
  by_cases h3 : c₉ = 73 ∧ (k₉ : Int) < i.toInt ∧ a 73 k₉ = y
  · rw [if_pos h3, if_pos ⟨h3.1, by omega, h3.2.2⟩]
  · rw [if_neg h3, if_neg (fun z => h3 ⟨z.1, by
      have z1 := z.2.1
      by_cases q : k₉ = i.toNatClampNeg
      · exact absurd (by rw [← q]; exact z.2.2) e0
      · omega, z.2.2⟩)]
theorem zUw_o {n : Int} (h : c ≠ 73) : zUw a y n c k = a c k := if_neg (fun z => h z.1)
/-- a last wish is granted -/
def aGr (a : Nat → Nat → Int32) (y : Int32) : Nat → Nat → Int32 := if (a 69 5).toInt < 512 then ma_u (ma_u (ma_u (zUw a y 16) 134 y.toNatClampNeg 0) 74 (a 69 5).toNatClampNeg y) 69 5 (a 69 5 + 1) else ma_u (zUw a y 16) 134 y.toNatClampNeg 0
theorem aGr_o (h : c ≠ 73 ∧ c ≠ 134 ∧ c ≠ 74 ∧ ¬ (c = 69 ∧ k = 5)) : aGr a y c k = a c k := by
  unfold aGr
  split
  · show (if c = 69 ∧ k = 5 then _ else if c = 74 ∧ k = _ then _ else if c = 134 ∧ k = _ then _ else zUw a y 16 c k) = _
    rw [if_neg h.2.2.2, if_neg (fun z => h.2.2.1 z.1), if_neg (fun z => h.2.1 z.1), zUw_o h.1]
  · show (if c = 134 ∧ k = _ then _ else zUw a y 16 c k) = _
    rw [if_neg (fun z => h.2.1 z.1), zUw_o h.1]
/-- of those from n on: with a wish and WHITE: granted, and what they keep -/
def aGc (a : Nat → Nat → Int32) (n : Int32) : Prop := 0 ≤ n.toInt ∧ n.toInt < 512 ∧ a 126 n.toNatClampNeg ≠ 0 ∧ a 134 n.toNatClampNeg ≠ 0 ∧ (a 75 5).toInt ≤ (a 130 n.toNatClampNeg).toInt ∧ a 77 n.toNatClampNeg = 0
def aGf : Nat → Int32 → (Nat → Nat → Int32) → Nat → Nat → Int32
  | 0, _, a => a
  | f + 1, n, a => aGf f (n + 1) (if 0 ≤ n.toInt ∧ n.toInt < 512 ∧ a 126 n.toNatClampNeg ≠ 0 ∧ a 134 n.toNatClampNeg ≠ 0 ∧ (a 75 5).toInt ≤ (a 130 n.toNatClampNeg).toInt ∧ a 77 n.toNatClampNeg = 0 then aSp 512 (aCm (aGr a n) n) else a)
def aGw (a : Nat → Nat → Int32) (n : Int32) : Nat → Nat → Int32 := aGf ((a 69 6).toInt - n.toInt).toNat n a
theorem aGw_y (h : n.toInt < (a 69 6).toInt) (z : aGc a n) : aGw a n = aGw (aSp 512 (aCm (aGr a n) n)) (n + 1) := by
  have b := i_bd (a 69 6)
  have e : (n + 1).toInt = n.toInt + 1 := i_p1 (by omega)
  unfold aGw
  rw [aSp_o ⟨by decide, by decide, by decide⟩, aCm_o ⟨by decide, by decide, by decide⟩, aGr_o ⟨by decide, by decide, by decide, by decide⟩, e]
  have e2 : ((a 69 6).toInt - n.toInt).toNat = ((a 69 6).toInt - (n.toInt + 1)).toNat + 1 := by omega
  rw [e2]
  show aGf _ (n + 1) (if _ then aSp 512 (aCm (aGr a n) n) else a) = _
  unfold aGc at z
  rw [if_pos z]
theorem aGw_n (h : n.toInt < (a 69 6).toInt) (z : ¬ aGc a n) : aGw a n = aGw a (n + 1) := by
  have b := i_bd (a 69 6)
  have e : (n + 1).toInt = n.toInt + 1 := i_p1 (by omega)
  unfold aGw
  rw [e]
  have e2 : ((a 69 6).toInt - n.toInt).toNat = ((a 69 6).toInt - (n.toInt + 1)).toNat + 1 := by omega
  rw [e2]
  show aGf _ (n + 1) (if _ then aSp 512 (aCm (aGr a n) n) else a) = _
  unfold aGc at z
  rw [if_neg z]
theorem aGw_st (h : ¬ n.toInt < (a 69 6).toInt) : aGw a n = a := by
  unfold aGw
  rw [show ((a 69 6).toInt - n.toInt).toNat = 0 by omega]
  rfl
/-- words are free -/
def zFr (a : Nat → Nat → Int32) (p e : Int) : Nat → Nat → Int32 := fun c k => if c = 71 ∧ p ≤ (k : Int) ∧ (k : Int) < e then -1 else a c k
theorem zFr_0 {p e : Int} (h : e ≤ p) : zFr a p e = a := by
  funext c₉ k₉
  exact if_neg (by omega)
theorem zFr_s {p : Int} (h0 : 0 ≤ i.toInt) (hp : p ≤ i.toInt) (h1 : i.toInt < 2147483647) : ma_u (zFr a p i.toInt) 71 i.toNatClampNeg (-1) = zFr a p (i + 1).toInt := by
  have e := i_p1 h1
  have e2 := tn_cast h0
  funext c₉ k₉
  show (if c₉ = 71 ∧ k₉ = i.toNatClampNeg then -1 else if c₉ = 71 ∧ p ≤ (k₉ : Int) ∧ (k₉ : Int) < i.toInt then -1 else a c₉ k₉) = if c₉ = 71 ∧ p ≤ (k₉ : Int) ∧ (k₉ : Int) < (i + 1).toInt then -1 else a c₉ k₉
  by_cases h2 : c₉ = 71 ∧ k₉ = i.toNatClampNeg
  · rw [if_pos h2, if_pos ⟨h2.1, by omega, by omega⟩]
  · rw [if_neg h2]
    by_cases h3 : c₉ = 71 ∧ p ≤ (k₉ : Int) ∧ (k₉ : Int) < i.toInt
    · rw [if_pos h3, if_pos ⟨h3.1, h3.2.1, by omega⟩]
    · rw [if_neg h3, if_neg (fun z => h3 ⟨z.1, z.2.1, by
        have z1 := z.2.2
        by_cases q : k₉ = i.toNatClampNeg
        · exact absurd ⟨z.1, q⟩ h2
        · omega⟩)]
theorem zFr_e {p e e₉ : Int} (h : e = e₉ ∨ (e ≤ p ∧ e₉ ≤ p)) : zFr a p e = zFr a p e₉ := by
  rcases h with h | h
  · rw [h]
  · rw [zFr_0 h.1, zFr_0 h.2]
theorem zFr_o {p e : Int} (h : c ≠ 71) : zFr a p e c k = a c k := if_neg (fun z => h z.1)
/-- it is gone -/
def zMin (x : Int) : Int := if x < 4500 then x else 4500
def aRm (a : Nat → Nat → Int32) (y : Int32) : Nat → Nat → Int32 := ma_u (ma_u (zNo (zFr (zUw a y 16) (a 130 y.toNatClampNeg).toInt (zMin (a 130 y.toNatClampNeg + a 128 y.toNatClampNeg).toInt)) y.toNatClampNeg) 69 8 (a 69 8 - a 128 y.toNatClampNeg)) 69 11 (a 69 11 + a 128 y.toNatClampNeg)
theorem zNo_o (h : c < 126) : zNo a m c k = a c k := if_neg (by omega)
theorem aRm_o (h : c < 126) (h2 : c ≠ 73 ∧ c ≠ 71 ∧ ¬ (c = 69 ∧ k = 8) ∧ ¬ (c = 69 ∧ k = 11)) : aRm a y c k = a c k := by
  show (if c = 69 ∧ k = 11 then _ else if c = 69 ∧ k = 8 then _ else zNo _ _ c k) = _
  rw [if_neg h2.2.2.2, if_neg h2.2.2.1, zNo_o h, zFr_o h2.2.1, zUw_o h2.1]
def aMc (a : Nat → Nat → Int32) (n : Int32) : Prop := 0 ≤ n.toInt ∧ n.toInt < 512 ∧ a 126 n.toNatClampNeg ≠ 0 ∧ (a 75 5).toInt ≤ (a 130 n.toNatClampNeg).toInt ∧ a 77 n.toNatClampNeg = 0
def aMf : Nat → Int32 → (Nat → Nat → Int32) → Nat → Nat → Int32
  | 0, _, a => a
  | f + 1, n, a => aMf f (n + 1) (if 0 ≤ n.toInt ∧ n.toInt < 512 ∧ a 126 n.toNatClampNeg ≠ 0 ∧ (a 75 5).toInt ≤ (a 130 n.toNatClampNeg).toInt ∧ a 77 n.toNatClampNeg = 0 then aRm a n else a)
/-- those from n on that are WHITE are gone -/
def aMv (a : Nat → Nat → Int32) (n : Int32) : Nat → Nat → Int32 := aMf ((a 69 6).toInt - n.toInt).toNat n a
theorem aMv_y (h : n.toInt < (a 69 6).toInt) (z : aMc a n) : aMv a n = aMv (aRm a n) (n + 1) := by
  have b := i_bd (a 69 6)
  have e : (n + 1).toInt = n.toInt + 1 := i_p1 (by omega)
  unfold aMv
  rw [aRm_o (by decide) ⟨by decide, by decide, by decide, by decide⟩, e]
  have e2 : ((a 69 6).toInt - n.toInt).toNat = ((a 69 6).toInt - (n.toInt + 1)).toNat + 1 := by omega
  rw [e2]
  show aMf _ (n + 1) (if _ then aRm a n else a) = _
  unfold aMc at z
  rw [if_pos z]
theorem aMv_n (h : n.toInt < (a 69 6).toInt) (z : ¬ aMc a n) : aMv a n = aMv a (n + 1) := by
  have b := i_bd (a 69 6)
  have e : (n + 1).toInt = n.toInt + 1 := i_p1 (by omega)
  unfold aMv
  rw [e]
  have e2 : ((a 69 6).toInt - n.toInt).toNat = ((a 69 6).toInt - (n.toInt + 1)).toNat + 1 := by omega
  rw [e2]
  show aMf _ (n + 1) (if _ then aRm a n else a) = _
  unfold aMc at z
  rw [if_neg z]
theorem aMv_st (h : ¬ n.toInt < (a 69 6).toInt) : aMv a n = a := by
  unfold aMv
  rw [show ((a 69 6).toInt - n.toInt).toNat = 0 by omega]
  rfl
/-- the first of WISHES is taken -/
def zSh (a : Nat → Nat → Int32) (n : Int) : Nat → Nat → Int32 := fun c k => if c = 74 ∧ (k : Int) < n then a 74 (k + 1) else a c k
theorem zSh_0 : zSh a 0 = a := by
  funext c₉ k₉
  exact if_neg (by omega)
theorem zSh_r (h0 : 0 ≤ i.toInt) (h1 : i.toInt < 2147483647) : zSh a i.toInt 74 (i + 1).toNatClampNeg = a 74 (i.toNatClampNeg + 1) := by
  have e := i_p1 h1
  have e2 := tn_cast h0
  have e3 := tn_cast (x := i + 1) (by omega)
  have e4 : (i + 1).toNatClampNeg = i.toNatClampNeg + 1 := by omega
  rw [e4]
  exact if_neg (fun z => by have := z.2; omega)
theorem zSh_s (h0 : 0 ≤ i.toInt) (h1 : i.toInt < 2147483647) : ma_u (zSh a i.toInt) 74 i.toNatClampNeg (a 74 (i.toNatClampNeg + 1)) = zSh a (i + 1).toInt := by
  have e := i_p1 h1
  have e2 := tn_cast h0
  funext c₉ k₉
  show (if c₉ = 74 ∧ k₉ = i.toNatClampNeg then a 74 (i.toNatClampNeg + 1) else if c₉ = 74 ∧ (k₉ : Int) < i.toInt then a 74 (k₉ + 1) else a c₉ k₉) = if c₉ = 74 ∧ (k₉ : Int) < (i + 1).toInt then a 74 (k₉ + 1) else a c₉ k₉
  by_cases h2 : c₉ = 74 ∧ k₉ = i.toNatClampNeg
  · rw [if_pos h2, if_pos ⟨h2.1, by omega⟩, h2.2]
  · rw [if_neg h2]
    by_cases h3 : c₉ = 74 ∧ (k₉ : Int) < i.toInt
    · rw [if_pos h3, if_pos ⟨h3.1, by omega⟩]
    · rw [if_neg h3, if_neg (fun z => h3 ⟨z.1, by
        have z1 := z.2
        by_cases q : k₉ = i.toNatClampNeg
        · exact absurd ⟨z.1, q⟩ h2
        · omega⟩)]
end AB2
/-- the first of WISHES, and WISHES without it -/
def aTy (a : Nat → Nat → Int32) : Int32 := if 0 < (a 69 5).toInt then a 74 0 else -1
def aTw (a : Nat → Nat → Int32) : Nat → Nat → Int32 := if 0 < (a 69 5).toInt then zSh (ma_u a 69 5 (a 69 5 - 1)) ((a 69 5).toInt - 1) else a

