/-! counting, and what the reference keeps -/
def cnt (r : Nat → Int32) : Nat → Nat
  | 0 => 0
  | n + 1 => cnt r n + (if r n = 0 then 0 else 1)
section CN1
variable {r : Nat → Int32} {n k : Nat} {m : Nat → Nat → Int32} {c : Nat} {x : Int32}
theorem cnt_le : cnt r n ≤ n := by
  induction n with
  | zero => exact Nat.le_refl _
  | succ n ih => unfold cnt; split <;> omega
theorem cnt_congr {r' : Nat → Int32} (h : ∀ j, j < n → (r j = 0 ↔ r' j = 0)) : cnt r n = cnt r' n := by
  induction n with
  | zero => rfl
  | succ n ih =>
    unfold cnt
    rw [ih (fun j hj => h j (by omega))]
    have := h n (by omega)
    by_cases e : r n = 0
    · rw [if_pos e, if_pos (this.mp e)]
    · rw [if_neg e, if_neg (fun z => e (this.mpr z))]
theorem cnt_mono {r' : Nat → Int32} (h : ∀ j, j < n → r j ≠ 0 → r' j ≠ 0) : cnt r n ≤ cnt r' n := by
  induction n with
  | zero => exact Nat.le_refl _
  | succ n ih =>
    unfold cnt
    have i := ih (fun j hj => h j (by omega))
    have := h n (by omega)
    by_cases e : r n = 0
    · rw [if_pos e]; omega
    · rw [if_neg e, if_neg (this e)]; omega
theorem mu_at (j : Nat) : ma_u m c k x c j = if j = k then x else m c j := ma_u_at m c k x j
theorem mu_self : ma_u m c k x c k = x := by rw [mu_at, if_pos rfl]
theorem mu_ne {j : Nat} (h : j ≠ k) : ma_u m c k x c j = m c j := by rw [mu_at, if_neg h]
/-- one more -/
theorem cnt_up (hk : k < n) (h0 : m c k = 0) (hx : x ≠ 0) : cnt (ma_u m c k x c) n = cnt (m c) n + 1 := by
  induction n with
  | zero => omega
  | succ n ih =>
    unfold cnt
    by_cases e : n = k
    · subst e
      rw [mu_self, if_neg hx, if_pos h0]
      have : cnt (ma_u m c n x c) n = cnt (m c) n := cnt_congr (fun j hj => by rw [mu_ne (by omega)])
      omega
    · rw [mu_ne e, ih (by omega)]
      omega
/-- one less -/
theorem cnt_dn (hk : k < n) (h0 : m c k ≠ 0) : cnt (ma_u m c k 0 c) n + 1 = cnt (m c) n := by
  induction n with
  | zero => omega
  | succ n ih =>
    unfold cnt
    by_cases e : n = k
    · subst e
      rw [mu_self, if_pos rfl, if_neg h0]
      have : cnt (ma_u m c n 0 c) n = cnt (m c) n := cnt_congr (fun j hj => by rw [mu_ne (by omega)])
      omega
    · rw [mu_ne e]
      have := ih (by omega)
      omega
theorem cnt_u1 (hx : x ≠ 0) : cnt (m c) n ≤ cnt (ma_u m c k x c) n := by
  refine cnt_mono (fun j _ h => ?_)
  rw [mu_at]
  split
  · exact hx
  · exact h
theorem cnt_u0 : cnt (ma_u m c k 0 c) n ≤ cnt (m c) n := by
  refine cnt_mono (fun j _ h => ?_)
  rw [mu_at] at h
  split at h
  · exact absurd rfl h
  · exact h
theorem cnt_ub : cnt (ma_u m c k x c) n ≤ cnt (m c) n + 1 := by
  by_cases hk : k < n
  · by_cases hx : x = 0
    · rw [hx]; have := cnt_u0 (m := m) (c := c) (k := k) (n := n); omega
    · by_cases h0 : m c k = 0
      · rw [cnt_up hk h0 hx]; exact Nat.le_refl _
      · have : cnt (ma_u m c k x c) n = cnt (m c) n := cnt_congr (fun j hj => by
          rw [mu_at]
          split
          · next e => subst e; exact ⟨fun z => absurd z hx, fun z => absurd z h0⟩
          · exact Iff.rfl)
        omega
  · have : cnt (ma_u m c k x c) n = cnt (m c) n := cnt_congr (fun j hj => by rw [mu_ne (by omega)])
    omega
theorem cnt_lt (hk : k < n) (h0 : r k = 0) : cnt r n < n := by
  induction n with
  | zero => omega
  | succ n ih =>
    unfold cnt
    by_cases e : n = k
    · subst e
      rw [if_pos h0]
      have := cnt_le (r := r) (n := n)
      omega
    · have := ih (by omega)
      split <;> omega
theorem cnt_pos (hk : k < n) (h0 : r k ≠ 0) : 0 < cnt r n := by
  induction n with
  | zero => omega
  | succ n ih =>
    unfold cnt
    by_cases e : n = k
    · subst e
      rw [if_neg h0]
      omega
    · have := ih (by omega)
      omega
theorem cnt_all (h : ∀ j, j < n → r j ≠ 0) : cnt r n = n := by
  induction n with
  | zero => rfl
  | succ n ih =>
    unfold cnt
    rw [ih (fun j hj => h j (by omega)), if_neg (h n (by omega))]
end CN1
/-- what a word of that slot refers to -/
def zrf (kr kd wd : Nat → Int32) (s i : Nat) : Int32 := if kd s = 16 then wd (60 * s + i) else if kd s < 16 ∧ ((kr (kd s).toNatClampNeg >>> (Int32.ofNat i &&& 31)) &&& 1) = 1 then wd (60 * s + i) else -1
/-- words that refer, refer to slots; kinds are there -/
def zW (ks : Int32) (kr kd ws wd : Nat → Int32) : Prop := ∀ s, s < 3100 → (∀ i : Nat, (i : Int) < (ws s).toInt → -1 ≤ (zrf kr kd wd s i).toInt ∧ (zrf kr kd wd s i).toInt ≤ 3099) ∧ ((ws s).toInt = 0 ∨ 16 ≤ (kd s).toInt ∨ (kd s).toInt < ks.toInt)
/-- no more on the stack than are kept -/
def zKS (kp : Nat → Int32) (z : Int32) : Prop := z.toInt ≤ (cnt kp 3100 : Int)
def zMu (kp : Nat → Int32) (z : Int32) : Nat := 2 * (3100 - cnt kp 3100) + z.toInt.toNat
theorem KS_push {m : Nat → Nat → Int32} {c k : Nat} {z x y : Int32} (h : zKS (m c) z) (h0 : m c k = 0) (hk : k < 3100) (hx : x ≠ 0) (hy : y.toInt = z.toInt + 1) : zKS (ma_u m c k x c) y := by
  unfold zKS at h ⊢
  rw [cnt_up hk h0 hx]
  omega
theorem KS_room {r : Nat → Int32} {k : Nat} {z : Int32} (h : zKS r z) (h0 : r k = 0) (hk : k < 3100) : z.toInt < 3100 := by
  unfold zKS at h
  have := cnt_lt hk h0
  omega
theorem KS_dec {r : Nat → Int32} {z y : Int32} (h : zKS r z) (hy : y.toInt ≤ z.toInt) : zKS r y := by
  unfold zKS at h ⊢
  omega
theorem KS_0 {r : Nat → Int32} {y : Int32} (hy : y.toInt ≤ 0) : zKS r y := by
  unfold zKS
  omega
theorem Mu_push {m : Nat → Nat → Int32} {c k : Nat} {z x y : Int32} (hz : 0 ≤ z.toInt) (h0 : m c k = 0) (hk : k < 3100) (hx : x ≠ 0) (hy : y.toInt = z.toInt + 1) : zMu (ma_u m c k x c) y + 1 = zMu (m c) z := by
  unfold zMu
  rw [cnt_up hk h0 hx]
  have := cnt_lt hk h0
  omega
theorem Mu_pop {r : Nat → Int32} {z y : Int32} (hz : 0 < z.toInt) (hy : y.toInt = z.toInt - 1) : zMu r y + 1 = zMu r z := by
  unfold zMu
  omega
theorem tn_eq {x : Int32} : x.toNatClampNeg = x.toInt.toNat := rfl
theorem ix_word {s i : Int32} (h1 : 0 ≤ s.toInt) (h2 : s.toInt ≤ 3099) (h3 : 0 ≤ i.toInt) (h4 : i.toInt ≤ 60) : (s * (60 : Int32) + i).toNatClampNeg = 60 * s.toNatClampNeg + i.toNatClampNeg := by
  have e1 : (s * (60 : Int32)).toInt = s.toInt * 60 := i_mulk rfl (by omega) (by omega)
  have e2 : (s * (60 : Int32) + i).toInt = (s * (60 : Int32)).toInt + i.toInt := i_add (by omega) (by omega)
  rw [tn_eq, tn_eq, tn_eq]
  omega
theorem ofNat_tn {i : Int32} (h : 0 ≤ i.toInt) : Int32.ofNat i.toNatClampNeg = i := by
  apply Int32.toInt_inj.mp
  have := i_bd i
  rw [Int32.toInt_ofNat_of_lt (by rw [tn_eq]; omega), tn_eq]
  omega
theorem zrf_eq {kr kd wd : Nat → Int32} {s i : Int32} (h1 : 0 ≤ s.toInt) (h2 : s.toInt ≤ 3099) (h3 : 0 ≤ i.toInt) (h4 : i.toInt ≤ 60) : zrf kr kd wd s.toNatClampNeg i.toNatClampNeg = if kd s.toNatClampNeg = 16 then wd (s * (60 : Int32) + i).toNatClampNeg else if kd s.toNatClampNeg < 16 ∧ ((kr (kd s.toNatClampNeg).toNatClampNeg >>> (i &&& 31)) &&& 1) = 1 then wd (s * (60 : Int32) + i).toNatClampNeg else -1 := by
  unfold zrf
  rw [ix_word h1 h2 h3 h4, ofNat_tn h3]
theorem W_ref {ks : Int32} {kr kd ws wd : Nat → Int32} (h : zW ks kr kd ws wd) {s i : Int32} {v : Int32} (h1 : 0 ≤ s.toInt) (h2 : s.toInt ≤ 3099) (h3 : 0 ≤ i.toInt) (h4 : i.toInt < (ws s.toNatClampNeg).toInt) (e : v = zrf kr kd wd s.toNatClampNeg i.toNatClampNeg) : -1 ≤ v.toInt ∧ v.toInt ≤ 3099 := by
  rw [e]
  exact (h s.toNatClampNeg (by rw [tn_eq]; omega)).1 i.toNatClampNeg (by rw [tn_eq]; omega)
/-- wishes: those in WISHES and those to come are no more than T -/
def zGW (T : Nat) (z : Int32) (wi : Nat → Int32) : Prop := z.toInt + (cnt wi 3100 : Int) ≤ (T : Int) ∧ T ≤ 3000
theorem GW_take {T : Nat} {m : Nat → Nat → Int32} {c k : Nat} {z y : Int32} (h : zGW T z (m c)) (h0 : m c k ≠ 0) (hk : k < 3100) (hy : y.toInt = z.toInt + 1) : zGW T y (ma_u m c k 0 c) := by
  have := cnt_dn hk h0
  refine ⟨?_, h.2⟩
  have := h.1
  omega
theorem GW_room {T : Nat} {r : Nat → Int32} {z : Int32} (h : zGW T z r) : z.toInt ≤ 3000 := by
  have := h.1
  have := h.2
  omega
theorem GW_le {T : Nat} {r : Nat → Int32} {z y : Int32} (h : zGW T z r) (hy : y.toInt ≤ z.toInt) : zGW T y r := ⟨by have := h.1; omega, h.2⟩
theorem GW_0 {T : Nat} {m : Nat → Nat → Int32} {c k : Nat} {z : Int32} (h : zGW T z (m c)) : zGW T z (ma_u m c k 0 c) := by
  have := cnt_u0 (m := m) (c := c) (k := k) (n := 3100)
  exact ⟨by have := h.1; omega, h.2⟩
/-- slots in use are no more than were made, and those no more than T -/
def zGU (T : Nat) (nu : Int32) (us : Nat → Int32) : Prop := (cnt us 3100 : Int) ≤ nu.toInt ∧ nu.toInt ≤ (T : Int) ∧ T ≤ 3000
theorem GU_0 {T : Nat} {m : Nat → Nat → Int32} {c k : Nat} {z : Int32} (h : zGU T z (m c)) : zGU T z (ma_u m c k 0 c) := by
  have := cnt_u0 (m := m) (c := c) (k := k) (n := 3100)
  exact ⟨by have := h.1; omega, h.2⟩
/-- who begins at a place is there, and is in use -/
def zOw (us at' ow : Nat → Int32) : Prop := ∀ p, p < 4600 → 0 ≤ (ow p).toInt → us (ow p).toNatClampNeg ≠ 0 ∧ (at' (ow p).toNatClampNeg).toInt = (p : Int)
/-- who might be granted -/
def zWS (nr us kp wi : Nat → Int32) (a v : Int32) : Prop := v.toInt = -1 ∨ (0 ≤ v.toInt ∧ v.toInt ≤ 3099 ∧ us v.toNatClampNeg ≠ 0 ∧ kp v.toNatClampNeg = 0 ∧ wi v.toNatClampNeg ≠ 0 ∧ a.toInt < (nr v.toNatClampNeg).toInt)
def zmg (nr : Nat → Int32) (s : Int32) : Nat := if s.toInt < 0 then 0 else 100001 - (nr s.toNatClampNeg).toInt.toNat
theorem zmg_lt {nr us kp wi : Nat → Int32} {s a v : Int32} (hs : 0 ≤ s.toInt) (h : zWS nr us kp wi a v) (ha : a = nr s.toNatClampNeg) (h0 : 0 ≤ (nr s.toNatClampNeg).toInt) (h1 : (nr s.toNatClampNeg).toInt ≤ 100000) : zmg nr v < zmg nr s := by
  unfold zmg
  rcases h with e | ⟨e1, e2, e3, e4, e5, e6⟩
  · split <;> split <;> omega
  · rw [ha] at e6
    split <;> split <;> omega
theorem tn_cast {x : Int32} (h : 0 ≤ x.toInt) : ((x.toNatClampNeg : Nat) : Int) = x.toInt := by
  rw [tn_eq]
  omega
theorem tn_succ {x y : Int32} (h : 0 ≤ x.toInt) (e : y.toInt = x.toInt + 1) : y.toNatClampNeg = x.toNatClampNeg + 1 := by
  rw [tn_eq, tn_eq]
  omega
theorem z0_step {m : Nat → Nat → Int32} {c : Nat} {i j : Int32} (h : ∀ s : Nat, (s : Int) < i.toInt → m c s = 0) (h0 : 0 ≤ i.toInt) (e : j.toInt = i.toInt + 1) : ∀ s : Nat, (s : Int) < j.toInt → ma_u m c i.toNatClampNeg 0 c s = 0 := by
  intro s hs
  rw [mu_at]
  split
  · rfl
  · next q => exact h s (by rw [tn_eq] at q; omega)
theorem z0_all {r : Nat → Int32} {i : Int32} (h : ∀ s : Nat, (s : Int) < i.toInt → r s = 0) (e : 3100 ≤ i.toInt) : ∀ s : Nat, s < 3100 → r s = 0 := fun s hs => h s (by omega)
