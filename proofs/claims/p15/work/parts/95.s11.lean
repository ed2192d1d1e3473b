/-! REGIONS, the class (written by wip/tools/gen15z.py) -/
/-! REGIONS: the class -/
def zfZ (I : Nat → Nat → Int32) (k : Nat) : Int32 := if k = 0 then I 91 3 * I 91 2 else if k = 3 then I 91 2 else if k = 4 then I 91 3 else if k = 5 then I 91 4 else if k = 9 then I 91 5 else 0
def aZ (S : ma_S) : Nat → Nat → Int32 := fun c k => if c = 92 ∨ c = 93 then mI S c k else aM (zfZ (mI S)) S c k
section F13
variable {a b ab : Nat → Nat → Int32} {S S' : ma_S} {R : Nat → Option Nat} {x y i : Int32} {c k n : Nat} {F : Nat → Int32} {L : Int64} {l l2 : Nat → Int}
theorem aZ_o (h : c ≠ 87) (h2 : c ≠ 92) (h3 : c ≠ 93) : aZ S c k = aS 75 S c k := (if_neg (by omega)).trans (aM_o h)
theorem aZ_7 : aZ S 87 k = zfZ (mI S) k := (if_neg (by decide)).trans aM_7
theorem aZ_9 (h : c = 92 ∨ c = 93) : aZ S c k = mI S c k := if_pos h
theorem Z_of (h : ∀ c k, c ≠ 87 → c ≠ 92 → c ≠ 93 → aS 75 S' c k = b c k) (h7 : ∀ k, b 87 k = zfZ (mI S') k) (h9 : ∀ c k, c = 92 ∨ c = 93 → b c k = mI S' c k) : aZ S' = b := by
  funext c k
  by_cases w : c = 87
  · rw [w, aZ_7, h7]
  · by_cases w2 : c = 92 ∨ c = 93
    · rw [aZ_9 w2, h9 c k w2]
    · rw [aZ_o w (by omega) (by omega)]
      exact h c k w (by omega) (by omega)
theorem Z_g {f : (Nat → Nat → Int32) → Nat → Nat → Int32} (h : ∀ c k, c ≠ 87 → c ≠ 92 → c ≠ 93 → aS 75 S' c k = f (aZ S) c k) (h7 : ∀ k, f (aZ S) 87 k = aZ S 87 k) (h9 : ∀ c k, c = 92 ∨ c = 93 → f (aZ S) c k = aZ S c k) (e1 : mI S' 91 = mI S 91) (e2 : mI S' 92 = mI S 92) (e3 : mI S' 93 = mI S 93) : aZ S' = f (aZ S) := by
  refine Z_of h (fun k => ?_) (fun c k hc => ?_)
  · rw [h7, aZ_7]
    unfold zfZ
    rw [e1]
  · rw [h9 c k hc, aZ_9 hc]
    rcases hc with w | w
    · rw [w, e2]
    · rw [w, e3]
theorem Z_p9 (hR : xB S R) (hc : c = 92 ∨ c = 93) : aZ (ma_put S c n (.inl x)) = ma_u (aZ S) c n x := by
  have e := (xC_n (W := 75) (c := c) (k := n) (x := x) (xC_o hR) (by rcases hc with w | w <;> rw [w] <;> exact ⟨by decide, Or.inl ⟨rfl, by first | rfl | (cases n <;> rfl)⟩⟩)).1
  refine Z_of (fun c' k w w2 w3 => ?_) (fun k => ?_) (fun c' k hc' => ?_)
  · rw [e, xu_o (fun z => by omega), aZ_o w w2 w3]
  · rw [xu_o (fun z => by omega), aZ_7]
    unfold zfZ
    have r : ∀ j, mI (ma_put S c n (.inl x)) 91 j = mI S 91 j := fun j => if_neg (fun z => by omega)
    simp only [r]
  · show (if c' = c ∧ k = n then x else aZ S c' k) = (if c' = c ∧ k = n then x else mI S c' k)
    rw [aZ_9 hc']
theorem Z_p5 (hR : xB S R) : aZ (ma_put S 91 5 (.inl x)) = ma_u (aZ S) 87 9 x := by
  have e := (xC_n (W := 75) (c := 91) (k := 5) (x := x) (xC_o hR) ⟨by decide, Or.inl ⟨rfl, rfl⟩⟩).1
  refine Z_of (fun c' k' w w2 w3 => ?_) (fun k' => ?_) (fun c' k' hc' => ?_)
  · rw [e, xu_o (fun z => by omega), aZ_o w w2 w3]
  · by_cases z : k' = 9
    · rw [z, xu_s]
      rfl
    · rw [xu_o (fun q => z q.2), aZ_7]
      unfold zfZ
      rw [if_neg z, if_neg z]
      rfl
  · rw [xu_o (fun z => by omega), aZ_9 hc']
    exact (if_neg (fun z => by omega)).symm
theorem Z_p6 (hR : xB S R) : aZ (ma_put S 91 6 (.inl x)) = aZ S := by
  have e := (xC_n (W := 75) (c := 91) (k := 6) (x := x) (xC_o hR) ⟨by decide, Or.inl ⟨rfl, rfl⟩⟩).1
  refine Z_of (fun c' k' w w2 w3 => ?_) (fun k' => ?_) (fun c' k' hc' => ?_)
  · rw [e, aZ_o w w2 w3]
  · rw [aZ_7]
    rfl
  · rw [aZ_9 hc']
    exact (if_neg (fun z => by omega)).symm
theorem zb_e : zOb (aZ S) = zOb (aS 75 S) := by
  funext p
  unfold zOb
  rw [aZ_o (c := 71) (by decide) (by decide) (by decide), aZ_o (c := 126) (by decide) (by decide) (by decide)]
/-! the fold of the fewest -/
theorem Fg_s : rFg l (n + 1) = if 0 < l n ∧ (rFg l n = -1 ∨ l n < l (rFg l n).toNat) then (n : Int) else rFg l n := rfl
theorem Fg_b : ∀ n, -1 ≤ rFg l n ∧ rFg l n < (n : Int) ∧ (rFg l n ≠ -1 → 0 < l (rFg l n).toNat) := by
  intro n
  induction n with
  | zero => exact ⟨by show (-1 : Int) ≤ -1; decide, by show (-1 : Int) < 0; decide, fun z => absurd rfl z⟩
  | succ n ih =>
    rw [Fg_s]
    split
    · next w => exact ⟨by omega, by omega, fun _ => by rw [Int.toNat_natCast]; exact w.1⟩
    · exact ⟨ih.1, by omega, ih.2.2⟩
theorem Fg_cg (h : ∀ k, k < n → l k = l2 k) : rFg l n = rFg l2 n := by
  induction n with
  | zero => rfl
  | succ n ih =>
    have q := ih (fun k hk => h k (by omega))
    have b := Fg_b (l := l2) n
    rw [Fg_s, Fg_s, q, h n (by omega)]
    by_cases w : rFg l2 n = -1
    · rw [w]
      simp only [true_or, and_true]
    · rw [h (rFg l2 n).toNat (by omega)]
theorem Ef_s : rEf a (n + 1) = rEf a n + (if (n : Int) < (a 87 4).toInt ∧ (a 92 n).toInt = 0 then 1 else 0) := rfl
theorem Kf_s {r : Int} : rKf a r (n + 1) = rKf a r n + (if a 126 n ≠ 0 ∧ (a 130 n).toInt / (a 87 3).toInt = r then (a 128 n).toInt else 0) := rfl
/-- beyond those given nobody is there -/
theorem Kf_g {r : Int} (hI : qI a) : ∀ n m : Nat, (a 69 6).toInt ≤ (n : Int) → n ≤ m → m ≤ 512 → rKf a r m = rKf a r n := by
  intro n m hn hm h5
  induction m with
  | zero =>
    rw [show n = 0 by omega]
  | succ m ih =>
    by_cases w : n = m + 1
    · rw [w]
    · rw [Kf_s, ih (by omega) (by omega), if_neg (fun z => ?_), Int.add_zero]
      have q := (hI.1 m ⟨by omega, z.1⟩).1.1
      omega
/-! rows that are counted -/
theorem Sk_0 (h : ∀ k, k < 93 → b 93 k = 0) (h2 : ∀ c k, ¬ (c = 93 ∧ k < 93) → b c k = a c k) : b = rSk a 0 := by
  funext c k
  unfold rSk
  by_cases w : c = 93 ∧ k < 93
  · rw [if_pos w, w.1, h k w.2]
    rfl
  · rw [if_neg w, h2 c k w]
theorem Kf_b {r : Int} (hI : qI a) : ∀ n, n ≤ 512 → 0 ≤ rKf a r n ∧ rKf a r n ≤ 61 * (n : Int) := by
  intro n
  induction n with
  | zero => intro _; exact ⟨by show (0 : Int) ≤ 0; decide, by show (0 : Int) ≤ 61 * 0; decide⟩
  | succ n ih =>
    intro hn
    have q := ih (by omega)
    rw [Kf_s]
    split
    · next w =>
      have i := (hI.1 n ⟨by omega, w.1⟩).2.1
      omega
    · omega
theorem Sk_n (h : a 126 n = 0) : rSk a (n + 1) = rSk a n := by
  funext c k
  have e : rKf a (k : Int) (n + 1) = rKf a (k : Int) n := by
    rw [Kf_s, if_neg (c := a 126 n ≠ 0 ∧ _) (fun w => w.1 h), Int.add_zero]
  unfold rSk
  rw [e]
theorem Sk_y {r : Int} (hI : qI a) (hn : n < 512) (h : a 126 n ≠ 0) (hr : (a 130 n).toInt / (a 87 3).toInt = r) (h0 : 0 ≤ r) (h9 : r < 93) : ma_u (rSk a n) 93 r.toNat (rSk a n 93 r.toNat + a 128 n) = rSk a (n + 1) := by
  have e0 : ((r.toNat : Nat) : Int) = r := by omega
  have b := Kf_b (r := r) hI n (by omega)
  have i := (hI.1 n ⟨hn, h⟩).2.1
  funext c k
  show (if c = 93 ∧ k = r.toNat then _ else rSk a n c k) = rSk a (n + 1) c k
  unfold rSk
  by_cases w : c = 93 ∧ k = r.toNat
  · rw [if_pos w, if_pos ⟨rfl, by omega⟩, if_pos ⟨w.1, by omega⟩, w.2, e0, Kf_s, if_pos ⟨h, hr⟩]
    apply Int32.toInt_inj.mp
    have e1 : (Int32.ofInt (rKf a r n)).toInt = rKf a r n := Int32.toInt_ofInt_of_le (by omega) (by omega)
    rw [i_add (by rw [e1]; omega) (by rw [e1]; omega), e1, Int32.toInt_ofInt_of_le (by omega) (by omega)]
  · rw [if_neg w]
    by_cases z : c = 93 ∧ k < 93
    · rw [if_pos z, if_pos z, Kf_s, if_neg (fun q => w ⟨z.1, by omega⟩), Int.add_zero]
    · rw [if_neg z, if_neg z]
theorem Sk_g (hI : qI a) (h : (a 69 6).toInt ≤ (n : Int)) (hn : n ≤ 512) : rSk a n = rSk a 512 := by
  funext c k
  unfold rSk
  rw [Kf_g hI n 512 h hn (by omega)]
theorem Em_s (h : (a 93 n).toInt = 0) : ma_u (rEm a n) 92 n 0 = rEm a (n + 1) := by
  funext c k
  show (if c = 92 ∧ k = n then 0 else rEm a n c k) = rEm a (n + 1) c k
  unfold rEm
  by_cases w : c = 92 ∧ k = n
  · rw [if_pos w, if_pos ⟨w.1, by omega, by rw [w.2]; exact h⟩]
  · rw [if_neg w]
    by_cases z : c = 92 ∧ k < n ∧ (a 93 k).toInt = 0
    · rw [if_pos z, if_pos ⟨z.1, by omega, z.2.2⟩]
    · rw [if_neg z, if_neg (fun q => z ⟨q.1, by have := q.2.1; omega, q.2.2⟩)]
theorem Em_n (h : (a 93 n).toInt ≠ 0) : rEm a (n + 1) = rEm a n := by
  funext c k
  unfold rEm
  by_cases z : c = 92 ∧ k < n ∧ (a 93 k).toInt = 0
  · rw [if_pos z, if_pos ⟨z.1, by omega, z.2.2⟩]
  · rw [if_neg z, if_neg (fun q => ?_)]
    by_cases w : k = n
    · rw [w] at q
      exact h q.2.2
    · exact z ⟨q.1, by have := q.2.1; omega, q.2.2⟩
theorem Em_0 : rEm a 0 = a := by
  funext c k
  unfold rEm
  exact if_neg (fun w => by omega)
def rCc (a : Nat → Nat → Int32) (n : Nat) : Prop := (n : Int) = (a 87 9).toInt ∨ (a 87 5).toInt * (a 87 3).toInt < (a 93 n).toInt * 100
theorem Ca_0 : rCa a 0 = a := by
  funext c k
  unfold rCa
  exact if_neg (fun w => by omega)
theorem Ca_s (h : rCc a n) : ma_u (rCa a n) 93 n 0 = rCa a (n + 1) := by
  funext c k
  show (if c = 93 ∧ k = n then 0 else rCa a n c k) = rCa a (n + 1) c k
  unfold rCa
  by_cases w : c = 93 ∧ k = n
  · rw [if_pos w, if_pos ⟨w.1, by omega, by rw [w.2]; exact h⟩]
  · rw [if_neg w]
    by_cases z : c = 93 ∧ k < n ∧ ((k : Int) = (a 87 9).toInt ∨ (a 87 5).toInt * (a 87 3).toInt < (a 93 k).toInt * 100)
    · rw [if_pos z, if_pos ⟨z.1, by omega, z.2.2⟩]
    · rw [if_neg z, if_neg (fun q => z ⟨q.1, by have := q.2.1; omega, q.2.2⟩)]
theorem Ca_n (h : ¬ rCc a n) : rCa a (n + 1) = rCa a n := by
  funext c k
  unfold rCa
  by_cases z : c = 93 ∧ k < n ∧ ((k : Int) = (a 87 9).toInt ∨ (a 87 5).toInt * (a 87 3).toInt < (a 93 k).toInt * 100)
  · rw [if_pos z, if_pos ⟨z.1, by omega, z.2.2⟩]
  · rw [if_neg z, if_neg (fun q => ?_)]
    by_cases w : k = n
    · rw [w] at q
      exact h q.2.2
    · exact z ⟨q.1, by have := q.2.1; omega, q.2.2⟩
theorem Cb_o (h : c ≠ 93) : ∀ n, rCb a n c k = a c k
  | 0 => rfl
  | n + 1 => by
    show (if _ then ma_u (rCb a n) 93 _ 0 else rCb a n) c k = _
    split
    · rw [xu_o (fun w => h w.1), Cb_o h n]
    · exact Cb_o h n
/-! the class's loops -/
theorem rg_ix {p s : Int32} (h0 : 0 ≤ p.toInt) (hs : 1 ≤ s.toInt) (h : p.toInt / s.toInt < 93) : (if (92 : Int32) < p / s then (92 : Int32) else p / s).toNatClampNeg = (p.toInt / s.toInt).toNat := by
  have e := (i_div h0 hs).2.2.1
  have l : (92 : Int32).toInt = 92 := rfl
  rw [if_neg (fun w => by have w2 := Int32.lt_iff_toInt_lt.mp w; omega)]
  show (p / s).toInt.toNat = _
  rw [e]
theorem Sk_r (h : aZ S = rSk ab n) (h2 : c ≠ 87) (h3 : c ≠ 92) (h4 : c ≠ 93) : aS 75 S c k = ab c k := by
  rw [← aZ_o h2 h3 h4, h]
  unfold rSk
  exact if_neg (fun w => h4 w.1)
theorem Sk_no (h : aZ S = rSk ab x.toNatClampNeg) (hC : xB S R) (rn : zTa R x = none) (h0 : 0 ≤ x.toInt) (h5 : x.toInt < 512) (hx : y.toInt = x.toInt + 1) : aZ S = rSk ab y.toNatClampNeg := by
  have t := tn_cast h0
  have t2 := tn_cast (x := y) (by omega)
  have z : ab 126 x.toNatClampNeg = 0 := by
    by_cases w : ab 126 x.toNatClampNeg = 0
    · exact w
    · exact absurd ⟨h0, h5, by rw [Sk_r h (by decide) (by decide) (by decide)]; exact w⟩ (xB_nt (W := 75) hC rn)
  rw [show y.toNatClampNeg = x.toNatClampNeg + 1 from by omega, Sk_n z]
  exact h
theorem Sk_go (h : aZ S = rSk ab x.toNatClampNeg) (hv : qRv ab) (hC : xB S R) (rg : zTa R x = some c) (hx : y.toInt = x.toInt + 1) : ma_u (aZ S) 93 (if (92 : Int32) < mI S c 4 / mI S 91 2 then (92 : Int32) else mI S c 4 / mI S 91 2).toNatClampNeg (mI S 93 (if (92 : Int32) < mI S c 4 / mI S 91 2 then (92 : Int32) else mI S c 4 / mI S 91 2).toNatClampNeg + mI S c 2) = rSk ab y.toNatClampNeg := by
  have ty := xB_th (W := 75) hC rg
  have t := tn_cast ty.1
  have t2 := tn_cast (x := y) (by omega)
  have e2 := ty.2.2.2.2.1
  have e4 := ty.2.2.2.2.2.1
  rw [Sk_r h (by decide) (by decide) (by decide)] at e2 e4
  have es : mI S 91 2 = ab 87 3 := by
    have g : aZ S 87 3 = ab 87 3 := by
      rw [h]
      unfold rSk
      exact if_neg (by decide)
    exact g
  have al : ab 126 x.toNatClampNeg ≠ 0 := by
    rw [← Sk_r h (by decide) (by decide) (by decide), ty.2.2.2.2.2.2.2.2]
    decide
  have n5 : x.toNatClampNeg < 512 := by
    have := ty.2.1
    omega
  have g := hv.2.2.2.2 _ ⟨n5, al⟩
  have s := hv.2.2.1
  have i := hv.1.1 _ ⟨n5, al⟩
  rw [rg_ix (by rw [e4]; exact i.1.2) (by rw [es]; omega) (by rw [e4, es]; omega), ← aZ_9 (S := S) (Or.inr rfl), h, e4, es, e2, show y.toNatClampNeg = x.toNatClampNeg + 1 from by omega]
  exact Sk_y hv.1 n5 al rfl (Int.ediv_nonneg i.1.2 (by omega)) (by omega)
theorem Em_go (h : aZ S = rEm ab x.toNatClampNeg) (h0 : 0 ≤ x.toInt) (hz : (mI S 93 x.toNatClampNeg).toInt = 0) (hx : y.toInt = x.toInt + 1) : ma_u (aZ S) 92 x.toNatClampNeg 0 = rEm ab y.toNatClampNeg := by
  have t := tn_cast h0
  have t2 := tn_cast (x := y) (by omega)
  have e : mI S 93 x.toNatClampNeg = ab 93 x.toNatClampNeg := by
    rw [← aZ_9 (S := S) (Or.inr rfl), h]
    exact if_neg (fun w => absurd w.1 (by decide))
  rw [h, show y.toNatClampNeg = x.toNatClampNeg + 1 from by omega]
  exact Em_s (by rw [← e]; exact hz)
theorem Em_no (h : aZ S = rEm ab x.toNatClampNeg) (h0 : 0 ≤ x.toInt) (hz : (mI S 93 x.toNatClampNeg).toInt ≠ 0) (hx : y.toInt = x.toInt + 1) : aZ S = rEm ab y.toNatClampNeg := by
  have t := tn_cast h0
  have t2 := tn_cast (x := y) (by omega)
  have e : mI S 93 x.toNatClampNeg = ab 93 x.toNatClampNeg := by
    rw [← aZ_9 (S := S) (Or.inr rfl), h]
    exact if_neg (fun w => absurd w.1 (by decide))
  rw [show y.toNatClampNeg = x.toNatClampNeg + 1 from by omega, Em_n (by rw [← e]; exact hz)]
  exact h
theorem Fw_s {v w : Int32} (h : v.toInt = rFg (fun k => (aZ S 93 k).toInt) x.toNatClampNeg) (h0 : 0 ≤ x.toInt) (hx : y.toInt = x.toInt + 1) (hw : (0 < (mI S 93 x.toNatClampNeg).toInt ∧ (v.toInt = -1 ∨ (mI S 93 x.toNatClampNeg).toInt < (mI S 93 v.toNatClampNeg).toInt) ∧ w = x) ∨ (¬ (0 < (mI S 93 x.toNatClampNeg).toInt ∧ (v.toInt = -1 ∨ (mI S 93 x.toNatClampNeg).toInt < (mI S 93 v.toNatClampNeg).toInt)) ∧ w = v)) : w.toInt = rFg (fun k => (aZ S 93 k).toInt) y.toNatClampNeg := by
  have t := tn_cast h0
  have t2 := tn_cast (x := y) (by omega)
  have vn : v.toNatClampNeg = v.toInt.toNat := rfl
  rw [show y.toNatClampNeg = x.toNatClampNeg + 1 from by omega, Fg_s, ← h, aZ_9 (Or.inr rfl), aZ_9 (Or.inr rfl), ← vn]
  rcases hw with ⟨w1, w2, w3⟩ | ⟨w1, w2⟩
  · rw [if_pos ⟨w1, w2⟩, w3]
    omega
  · rw [if_neg w1, w2]
/-! choosing -/
def qLb (a : Nat → Nat → Int32) : Prop := ∀ k, k < 93 → 0 ≤ (a 93 k).toInt ∧ (a 93 k).toInt ≤ 31232
theorem Lb_sk (hI : qI a) : qLb (rSk a 512) := fun k hk => by
  have b := Kf_b (r := (k : Int)) hI 512 (by omega)
  unfold rSk
  rw [if_pos ⟨rfl, hk⟩, Int32.toInt_ofInt_of_le (by omega) (by omega)]
  omega
theorem Lb_em (h : qLb a) : qLb (rEm a n) := fun k hk => by
  unfold rEm
  rw [if_neg (fun w => absurd w.1 (by decide))]
  exact h k hk
theorem Ca_r (h : aZ S = rCa ab n) (hk : n ≤ k) : mI S 93 k = ab 93 k := by
  rw [← aZ_9 (S := S) (Or.inr rfl), h]
  exact if_neg (fun w => by omega)
theorem Ca_7 (h : aZ S = rCa ab n) : aZ S 87 k = ab 87 k := by
  rw [h]
  exact if_neg (fun w => absurd w.1 (by decide))
theorem Ca_go (h : aZ S = rCa ab x.toNatClampNeg) (hb : qLb ab) (h0 : 0 ≤ x.toInt) (h9 : x.toInt < 93) (hs : 0 ≤ (mI S 91 4).toInt ∧ (mI S 91 4).toInt ≤ 100) (hs2 : 0 ≤ (mI S 91 2).toInt ∧ (mI S 91 2).toInt ≤ 1500) (hc : x.toInt = (mI S 91 5).toInt ∨ (mI S 91 4 * mI S 91 2).toInt < (mI S 93 x.toNatClampNeg * 100).toInt) (hx : y.toInt = x.toInt + 1) : ma_u (aZ S) 93 x.toNatClampNeg 0 = rCa ab y.toNatClampNeg := by
  have t := tn_cast h0
  have t2 := tn_cast (x := y) (by omega)
  have e := Ca_r h (k := x.toNatClampNeg) (Nat.le_refl _)
  have b := hb x.toNatClampNeg (by omega)
  rw [← e] at b
  have e9 : ab 87 9 = mI S 91 5 := (Ca_7 h).symm
  have e5 : ab 87 5 = mI S 91 4 := (Ca_7 h).symm
  have e3 : ab 87 3 = mI S 91 2 := (Ca_7 h).symm
  have m1 := (i_muln (x := mI S 91 4) (y := mI S 91 2) (by omega) (by omega) (by omega) (by omega)).2.2
  have m2 : (mI S 93 x.toNatClampNeg * 100).toInt = (mI S 93 x.toNatClampNeg).toInt * 100 := i_mulk rfl (by omega) (by omega)
  rw [h, show y.toNatClampNeg = x.toNatClampNeg + 1 from by omega]
  refine Ca_s ?_
  unfold rCc
  rw [e9, e5, e3, ← e, ← m1, ← m2]
  rcases hc with w | w
  · exact Or.inl (by omega)
  · exact Or.inr w
theorem Ca_no (h : aZ S = rCa ab x.toNatClampNeg) (hb : qLb ab) (h0 : 0 ≤ x.toInt) (h9 : x.toInt < 93) (hs : 0 ≤ (mI S 91 4).toInt ∧ (mI S 91 4).toInt ≤ 100) (hs2 : 0 ≤ (mI S 91 2).toInt ∧ (mI S 91 2).toInt ≤ 1500) (hc : ¬ (x.toInt = (mI S 91 5).toInt ∨ (mI S 91 4 * mI S 91 2).toInt < (mI S 93 x.toNatClampNeg * 100).toInt)) (hx : y.toInt = x.toInt + 1) : aZ S = rCa ab y.toNatClampNeg := by
  have t := tn_cast h0
  have t2 := tn_cast (x := y) (by omega)
  have e := Ca_r h (k := x.toNatClampNeg) (Nat.le_refl _)
  have b := hb x.toNatClampNeg (by omega)
  rw [← e] at b
  have e9 : ab 87 9 = mI S 91 5 := (Ca_7 h).symm
  have e5 : ab 87 5 = mI S 91 4 := (Ca_7 h).symm
  have e3 : ab 87 3 = mI S 91 2 := (Ca_7 h).symm
  have m1 := (i_muln (x := mI S 91 4) (y := mI S 91 2) (by omega) (by omega) (by omega) (by omega)).2.2
  have m2 : (mI S 93 x.toNatClampNeg * 100).toInt = (mI S 93 x.toNatClampNeg).toInt * 100 := i_mulk rfl (by omega) (by omega)
  rw [show y.toNatClampNeg = x.toNatClampNeg + 1 from by omega, Ca_n ?_]
  · exact h
  · unfold rCc
    rw [e9, e5, e3, ← e, ← m1, ← m2]
    rintro (w | w)
    · exact hc (Or.inl (by omega))
    · exact hc (Or.inr w)
theorem Cb_r (h : aZ S = rCb ab n) (h2 : c ≠ 87) (h3 : c ≠ 92) (h4 : c ≠ 93) : aS 75 S c k = ab c k := by
  rw [← aZ_o h2 h3 h4, h]
  exact Cb_o h4 _
theorem Cb_y (h : a 126 n ≠ 0 ∧ 0 < (a 133 n).toInt) : rCb a (n + 1) = ma_u (rCb a n) 93 ((a 130 n).toInt / (a 87 3).toInt).toNat 0 := if_pos h
theorem Cb_n (h : ¬ (a 126 n ≠ 0 ∧ 0 < (a 133 n).toInt)) : rCb a (n + 1) = rCb a n := if_neg h
theorem Cb_go (h : aZ S = rCb ab x.toNatClampNeg) (hv : ∀ n, xAl ab n → (ab 130 n).toInt / (ab 87 3).toInt < 93) (hI : qI ab) (hs : 1 ≤ (ab 87 3).toInt) (hC : xB S R) (rg : zTa R x = some c) (hh : 0 < (mI S c 7).toInt) (hx : y.toInt = x.toInt + 1) : ma_u (aZ S) 93 (if (92 : Int32) < mI S c 4 / mI S 91 2 then (92 : Int32) else mI S c 4 / mI S 91 2).toNatClampNeg 0 = rCb ab y.toNatClampNeg := by
  have ty := xB_th (W := 75) hC rg
  have t := tn_cast ty.1
  have t2 := tn_cast (x := y) (by omega)
  have e4 := ty.2.2.2.2.2.1
  have e7 := ty.2.2.2.2.2.2.1
  rw [Cb_r h (by decide) (by decide) (by decide)] at e4 e7
  have es : mI S 91 2 = ab 87 3 := by
    have g : aZ S 87 3 = ab 87 3 := by
      rw [h]
      exact Cb_o (by decide) _
    exact g
  have al : ab 126 x.toNatClampNeg ≠ 0 := by
    rw [← Cb_r h (by decide) (by decide) (by decide), ty.2.2.2.2.2.2.2.2]
    decide
  have n5 : x.toNatClampNeg < 512 := by
    have := ty.2.1
    omega
  have i := hI.1 _ ⟨n5, al⟩
  rw [rg_ix (by rw [e4]; exact i.1.2) (by rw [es]; exact hs) (by rw [e4, es]; exact hv _ ⟨n5, al⟩), h, e4, es, show y.toNatClampNeg = x.toNatClampNeg + 1 from by omega, Cb_y ⟨al, by rw [← e7]; exact hh⟩]
theorem Cb_no (h : aZ S = rCb ab x.toNatClampNeg) (hC : xB S R) (rn : zTa R x = none) (h0 : 0 ≤ x.toInt) (h5 : x.toInt < 512) (hx : y.toInt = x.toInt + 1) : aZ S = rCb ab y.toNatClampNeg := by
  have t := tn_cast h0
  have t2 := tn_cast (x := y) (by omega)
  rw [show y.toNatClampNeg = x.toNatClampNeg + 1 from by omega, Cb_n (fun w => xB_nt (W := 75) hC rn ⟨h0, h5, by rw [Cb_r h (by decide) (by decide) (by decide)]; exact w.1⟩)]
  exact h
theorem Cb_n0 (h : aZ S = rCb ab x.toNatClampNeg) (hC : xB S R) (rg : zTa R x = some c) (hh : ¬ 0 < (mI S c 7).toInt) (hx : y.toInt = x.toInt + 1) : aZ S = rCb ab y.toNatClampNeg := by
  have ty := xB_th (W := 75) hC rg
  have t := tn_cast ty.1
  have t2 := tn_cast (x := y) (by omega)
  have e7 := ty.2.2.2.2.2.2.1
  rw [Cb_r h (by decide) (by decide) (by decide)] at e7
  rw [show y.toNatClampNeg = x.toNatClampNeg + 1 from by omega, Cb_n (fun w => hh (by rw [e7]; exact w.2))]
  exact h
theorem Cb_g (hI : qI a) : ∀ n m : Nat, (a 69 6).toInt ≤ (n : Int) → n ≤ m → m ≤ 512 → rCb a m = rCb a n := by
  intro n m hn hm h5
  induction m with
  | zero => rw [show n = 0 by omega]
  | succ m ih =>
    by_cases w : n = m + 1
    · rw [w]
    · rw [Cb_n (fun z => ?_), ih (by omega) (by omega)]
      have q := (hI.1 m ⟨by omega, z.1⟩).1.1
      omega
theorem Ca_o (h : c ≠ 93) : rCa a n c k = a c k := if_neg (fun w => h w.1)
theorem Ca_I (h : qI a) : qI (rCa a n) := I_cg h (funext (fun _ => Ca_o (by decide))) (funext (fun _ => Ca_o (by decide))) (funext (fun _ => Ca_o (by decide))) (funext (fun _ => Ca_o (by decide))) (funext (fun _ => Ca_o (by decide))) (funext (fun _ => Ca_o (by decide))) (fun j => funext (fun _ => Ca_o (by omega)))
theorem Ca_1 (h : 1 ≤ (a 87 3).toInt) : 1 ≤ (rCa a n 87 3).toInt := by
  rw [Ca_o (by decide)]
  exact h
theorem Ca_hv (h : (0 ≤ (a 87 5).toInt ∧ (a 87 5).toInt ≤ 100) ∧ (1 ≤ (a 87 3).toInt ∧ (a 87 3).toInt ≤ 256) ∧ (∀ n, xAl a n → (a 130 n).toInt / (a 87 3).toInt < 93) ∧ qI a) : ∀ m, xAl (rCa a n) m → (rCa a n 130 m).toInt / (rCa a n 87 3).toInt < 93 := fun m hm => by
  unfold xAl at hm
  rw [Ca_o (by decide)] at hm
  rw [Ca_o (by decide), Ca_o (by decide)]
  exact h.2.2.1 m hm
/-! one goes -/
def qMo (a : Nat → Nat → Int32) (q p t : Int) (y : Int32) : Prop := qJr a q p t ∧ p < q * (a 87 3).toInt + (a 92 q.toNat).toInt ∧ zOb a p = y ∧ 0 ≤ y.toInt
theorem Mo_z {to : Int32} (h : aS 75 S' = aMo (aS 75 S) n to) (e1 : mI S' 91 = mI S 91) (e2 : mI S' 92 = mI S 92) (e3 : mI S' 93 = mI S 93) : aZ S' = aMo (aZ S) n to := by
  refine Z_g (f := fun a => aMo a n to) (fun c k h1 h2 h3 => ?_) (fun k => Mo_r (by decide) (by decide)) (fun c k hc => Mo_r (by omega) (by omega)) e1 e2 e3
  rw [h]
  unfold aMo
  rw [aZ_o (c := 128) (by decide) (by decide) (by decide), aZ_o (c := 130) (by decide) (by decide) (by decide), aZ_o (c := 71) (by decide) (by decide) (by decide), aZ_o (c := 71) (by decide) (by decide) (by decide), aZ_o h1 h2 h3]
theorem Mq_to {q p t : Int} {to : Int32} (h : qMo a q p t y) (hn : rTo a t (a 128 y.toNatClampNeg).toInt ≠ -1) (he : to.toInt = rTo a t (a 128 y.toNatClampNeg).toInt * (a 87 3).toInt + (a 92 (rTo a t (a 128 y.toNatClampNeg).toInt).toNat).toInt) : qMv a y.toNatClampNeg to ∧ (0 ≤ rTo a t (a 128 y.toNatClampNeg).toInt ∧ rTo a t (a 128 y.toNatClampNeg).toInt < (a 87 4).toInt) := by
  obtain ⟨hJ, hp, rfl, h0⟩ := h
  exact ⟨(Jr_fq hJ hp h0 hn he).2.1, (Jr_to hJ hp h0 hn).2.2.2.2.1.1, (Jr_to hJ hp h0 hn).2.2.2.2.1.2.1⟩
theorem Mq_s {q p t : Int} (h : qMo a q p t y) : (16 ≤ (a 87 3).toInt ∧ (a 87 3).toInt ≤ 256) ∧ (a 87 4).toInt ≤ 93 ∧ (∀ r : Nat, r < 93 → 0 ≤ (a 92 r).toInt ∧ (a 92 r).toInt ≤ (a 87 3).toInt) ∧ 1 ≤ (a 128 y.toNatClampNeg).toInt ∧ (a 128 y.toNatClampNeg).toInt ≤ 61 ∧ (t = -1 ∨ (0 ≤ t ∧ t < (a 87 4).toInt)) := by
  obtain ⟨hJ, hp, rfl, h0⟩ := h
  obtain ⟨n, al, e1, e2, e3⟩ := OB_al hJ.1.1 hJ.2.2.2.1 h0
  have i := hJ.1.1.1 n al
  rw [e3]
  exact ⟨hJ.1.2.2.1.1, hJ.1.2.2.1.2.1.2, fun r hr => (hJ.1.2.2.2.1 r hr).1, i.2.1.1, i.2.1.2, hJ.2.2.2.2.2.1.imp id (fun z => ⟨z.1, z.2.1⟩)⟩
theorem To_t {t sz : Int} (h : 0 ≤ t ∧ t < 93 ∧ (a 92 t.toNat).toInt + sz ≤ (a 87 3).toInt) : rTo a t sz = t := if_pos h
theorem To_l {t sz : Int} (h : ¬ (0 ≤ t ∧ t < 93 ∧ (a 92 t.toNat).toInt + sz ≤ (a 87 3).toInt)) : rTo a t sz = rLe a := if_neg h
theorem M1_e {u : Int} {to : Int32} (he : to.toInt = u * (a 87 3).toInt + (a 92 u.toNat).toInt) : ma_u (aMo a n to) 92 u.toNat (a 92 u.toNat + a 128 n) = rM1 a n u := by
  unfold rM1
  rw [← he, Int32.ofInt_toInt]
theorem Mv_Z {to : Int32} (h : qMv (aZ S) n to) : qMv (aS 75 S) n to := by
  unfold qMv at h ⊢
  rw [aZ_o (c := 130) (by decide) (by decide) (by decide), aZ_o (c := 128) (by decide) (by decide) (by decide)] at h
  exact h
end F13
