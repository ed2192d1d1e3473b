/-! REGIONS, the class (written by wip/tools/gen15z.py) -/
/-! REGIONS by numbers (87: 0 all words, 3 the SIZE, 4 how many, 5 the SHARE, 9 the present one; 92 the tops) -/
/-- the least EMPTY one from r on; -1: none -/
def rLf (a : Nat → Nat → Int32) : Nat → Nat → Int
  | 0, _ => -1
  | f + 1, r => if (r : Int) < (a 87 4).toInt then (if (a 92 r).toInt = 0 then (r : Int) else rLf a f (r + 1)) else -1
def rLe (a : Nat → Nat → Int32) : Int := rLf a 93 0
/-- how many are EMPTY -/
def rEf (a : Nat → Nat → Int32) : Nat → Int
  | 0 => 0
  | r + 1 => rEf a r + (if (r : Int) < (a 87 4).toInt ∧ (a 92 r).toInt = 0 then 1 else 0)
/-- words kept in region r, of the first n -/
def rKf (a : Nat → Nat → Int32) (r : Int) : Nat → Int
  | 0 => 0
  | n + 1 => rKf a r n + (if a 126 n ≠ 0 ∧ (a 130 n).toInt / (a 87 3).toInt = r then (a 128 n).toInt else 0)
/-- words kept, region by region, to row 93 -/
def rSk (a : Nat → Nat → Int32) (n : Nat) : Nat → Nat → Int32 := fun c k => if c = 93 ∧ k < 93 then Int32.ofInt (rKf a (k : Int) n) else a c k
/-- where nothing is left it is EMPTY (the first n) -/
def rEm (a : Nat → Nat → Int32) (n : Nat) : Nat → Nat → Int32 := fun c k => if c = 92 ∧ k < n ∧ (a 93 k).toInt = 0 then 0 else a c k
/-- the present one and the fuller ones (of the first n) stay -/
def rCa (a : Nat → Nat → Int32) (n : Nat) : Nat → Nat → Int32 := fun c k => if c = 93 ∧ k < n ∧ ((k : Int) = (a 87 9).toInt ∨ (a 87 5).toInt * (a 87 3).toInt < (a 93 k).toInt * 100) then 0 else a c k
/-- where one (of the first n) is held it stays -/
def rCb (a : Nat → Nat → Int32) : Nat → Nat → Nat → Int32
  | 0 => a
  | n + 1 => if a 126 n ≠ 0 ∧ 0 < (a 133 n).toInt then ma_u (rCb a n) 93 ((a 130 n).toInt / (a 87 3).toInt).toNat 0 else rCb a n
/-- the first of the fewest that are not 0 -/
def rFg (l : Nat → Int) : Nat → Int
  | 0 => -1
  | r + 1 => if 0 < l r ∧ (rFg l r = -1 ∨ l r < l (rFg l r).toNat) then (r : Int) else rFg l r
/-- it fits -/
def rOk (a : Nat → Nat → Int32) (t sz : Int) : Prop := 0 ≤ t ∧ t < 93 ∧ (a 92 t.toNat).toInt + sz ≤ (a 87 3).toInt
def rTo (a : Nat → Nat → Int32) (t sz : Int) : Int := if 0 ≤ t ∧ t < 93 ∧ (a 92 t.toNat).toInt + sz ≤ (a 87 3).toInt then t else rLe a
/-- one goes to the end of region t -/
def rM1 (a : Nat → Nat → Int32) (n : Nat) (t : Int) : Nat → Nat → Int32 := ma_u (aMo a n (Int32.ofInt (t * (a 87 3).toInt + (a 92 t.toNat).toInt))) 92 t.toNat (a 92 t.toNat + a 128 n)
/-- all between p and e go; where to last; whether all found a place -/
def rMf (e : Int) : Nat → (Nat → Nat → Int32) → Int → Int → (Nat → Nat → Int32) × Int × Bool
  | 0, a, _, t => (a, t, true)
  | f + 1, a, p, t => if p < e then (if (zOb a p).toInt < 0 then rMf e f a (p + 1) t
      else if rTo a t (a 128 (zOb a p).toNatClampNeg).toInt = -1 then (a, t, false)
      else rMf e f (rM1 a (zOb a p).toNatClampNeg (rTo a t (a 128 (zOb a p).toNatClampNeg).toInt)) (p + (a 128 (zOb a p).toNatClampNeg).toInt) (rTo a t (a 128 (zOb a p).toNatClampNeg).toInt)) else (a, t, true)
def rMv (a : Nat → Nat → Int32) (e p t : Int) : (Nat → Nat → Int32) × Int × Bool := rMf e (e - p).toNat a p t
/-- one sparse region behind another is emptied -/
def rFw (a : Nat → Nat → Int32) : Int := rFg (fun k => (a 93 k).toInt) 93
def rM2 (a : Nat → Nat → Int32) (r t : Int) : (Nat → Nat → Int32) × Int × Bool := rMv a (r * (a 87 3).toInt + (a 92 r.toNat).toInt) (r * (a 87 3).toInt) t
def rOf : Nat → (Nat → Nat → Int32) → Int → (Nat → Nat → Int32) × Int
  | 0, a, t => (a, t)
  | f + 1, a, t => if rFw a = -1 then (a, t)
      else if (rM2 a (rFw a) t).2.2 = true then rOf f (ma_u (ma_u (rM2 a (rFw a) t).1 93 (rFw a).toNat 0) 92 (rFw a).toNat 0) (rM2 a (rFw a) t).2.1
      else ((rM2 a (rFw a) t).1, (rM2 a (rFw a) t).2.1)
/-- a cleaning: what leaves, where to last -/
def rB0 (a : Nat → Nat → Int32) : Nat → Nat → Int32 := rCb (rCa (rEm (rSk (aSw a) 512) 93) 93) 512
def rC0 (a : Nat → Nat → Int32) : (Nat → Nat → Int32) × Int := rOf 93 (rB0 a) (-1)
def rPr (a : Nat → Nat → Int32) (t : Int) : Int32 := if t ≠ -1 then Int32.ofInt t else if (a 92 (a 87 9).toNatClampNeg).toInt = 0 ∧ rLe a ≠ -1 then Int32.ofInt (rLe a) else a 87 9
def rCl (a : Nat → Nat → Int32) : Nat → Nat → Int32 := ma_u (rC0 a).1 87 9 (rPr (rC0 a).1 (rC0 a).2)
/-- what holds of a heap of regions -/
def qRv (a : Nat → Nat → Int32) : Prop := qI a ∧ a 87 2 = 0 ∧ ((16 ≤ (a 87 3).toInt ∧ (a 87 3).toInt ≤ 256) ∧ (1 ≤ (a 87 4).toInt ∧ (a 87 4).toInt ≤ 93) ∧ (0 ≤ (a 87 9).toInt ∧ (a 87 9).toInt < (a 87 4).toInt) ∧ (0 ≤ (a 87 5).toInt ∧ (a 87 5).toInt ≤ 100) ∧ (a 87 0).toInt = (a 87 4).toInt * (a 87 3).toInt ∧ (a 87 0).toInt ≤ 1500) ∧ (∀ r : Nat, r < 93 → (0 ≤ (a 92 r).toInt ∧ (a 92 r).toInt ≤ (a 87 3).toInt) ∧ ((a 87 4).toInt ≤ (r : Int) → a 92 r = 0)) ∧ ∀ n, xAl a n → (a 130 n).toInt / (a 87 3).toInt < (a 87 4).toInt ∧ (a 130 n).toInt + (a 128 n).toInt ≤ (a 130 n).toInt / (a 87 3).toInt * (a 87 3).toInt + (a 92 ((a 130 n).toInt / (a 87 3).toInt).toNat).toInt
section F12
variable {a b : Nat → Nat → Int32} {l l2 : Nat → Int} {p e t s q x sz : Int} {n k r f : Nat} {to : Int32}
theorem dv_e (hs : 0 < s) (h0 : 0 ≤ x) (h1 : x < s) : (t * s + x) / s = t := by
  rw [Int.add_comm, Int.add_mul_ediv_right _ _ (by omega), Int.ediv_eq_zero_of_lt h0 h1, Int.zero_add]
theorem dv_b (hs : 0 < s) : p / s * s ≤ p ∧ p < p / s * s + s := by
  refine ⟨Int.ediv_mul_le p (by omega), ?_⟩
  have h := Int.lt_ediv_add_one_mul_self p hs
  rw [Int.add_mul, Int.one_mul] at h
  exact h
theorem ml_le (h : q < t) (hs : 0 ≤ s) : q * s + s ≤ t * s := by
  have g := Int.mul_le_mul_of_nonneg_right (show q + 1 ≤ t by omega) hs
  rw [Int.add_mul, Int.one_mul] at g
  exact g
theorem Lf_e (h : ¬ (r : Int) < (a 87 4).toInt) : rLf a f r = -1 := by
  cases f with
  | zero => rfl
  | succ f => exact if_neg h
theorem Lf_y (h : (r : Int) < (a 87 4).toInt) (h0 : (a 92 r).toInt = 0) : rLf a (f + 1) r = (r : Int) := by
  show (if (r : Int) < (a 87 4).toInt then _ else _) = _
  rw [if_pos h, if_pos h0]
theorem Lf_n (h : (r : Int) < (a 87 4).toInt) (h0 : (a 92 r).toInt ≠ 0) : rLf a (f + 1) r = rLf a f (r + 1) := by
  show (if (r : Int) < (a 87 4).toInt then _ else _) = _
  rw [if_pos h, if_neg h0]
theorem Lf_all : ∀ (f r : Nat), (rLf a f r = -1 ∧ ∀ j : Nat, r ≤ j → j < r + f → (j : Int) < (a 87 4).toInt → (a 92 j).toInt ≠ 0) ∨ ((r : Int) ≤ rLf a f r ∧ rLf a f r < (r : Int) + f ∧ rLf a f r < (a 87 4).toInt ∧ (a 92 (rLf a f r).toNat).toInt = 0) := by
  intro f
  induction f with
  | zero => intro r; exact Or.inl ⟨rfl, fun j h1 h2 => by omega⟩
  | succ f ih =>
    intro r
    by_cases c : (r : Int) < (a 87 4).toInt
    · by_cases d : (a 92 r).toInt = 0
      · rw [Lf_y c d]
        exact Or.inr ⟨by omega, by omega, c, by rw [Int.toNat_natCast]; exact d⟩
      · rw [Lf_n c d]
        rcases ih (r + 1) with w | w
        · refine Or.inl ⟨w.1, fun j h1 h2 h3 => ?_⟩
          by_cases z : j = r
          · rw [z]
            exact d
          · exact w.2 j (by omega) (by omega) h3
        · exact Or.inr ⟨by omega, by omega, w.2.2.1, w.2.2.2⟩
    · rw [Lf_e c]
      exact Or.inl ⟨rfl, fun j h1 h2 h3 => by omega⟩
theorem Le_y (h : rLe a ≠ -1) : 0 ≤ rLe a ∧ rLe a < 93 ∧ rLe a < (a 87 4).toInt ∧ (a 92 (rLe a).toNat).toInt = 0 := by
  rcases Lf_all (a := a) 93 0 with w | w
  · exact absurd w.1 h
  · exact ⟨by unfold rLe; omega, by unfold rLe; omega, w.2.2.1, w.2.2.2⟩
theorem Le_lo (h : -1 ≤ (-1 : Int)) : -1 ≤ rLe a := by
  by_cases w : rLe a = -1
  · omega
  · have := (Le_y w).1
    omega
/-- where it goes to -/
theorem To_y (h : rTo a t sz ≠ -1) (hs : sz ≤ (a 87 3).toInt) : 0 ≤ rTo a t sz ∧ rTo a t sz < 93 ∧ (a 92 (rTo a t sz).toNat).toInt + sz ≤ (a 87 3).toInt ∧ (rTo a t sz = t ∨ (rTo a t sz < (a 87 4).toInt ∧ (a 92 (rTo a t sz).toNat).toInt = 0)) := by
  unfold rTo at h ⊢
  split
  · next w => exact ⟨w.1, w.2.1, w.2.2, Or.inl rfl⟩
  · next w =>
    rw [if_neg w] at h
    have q := Le_y h
    exact ⟨q.1, q.2.1, by omega, Or.inr ⟨q.2.2.1, q.2.2.2⟩⟩
/-! all of a region -/
theorem M1_r {c k : Nat} (h1 : c ≠ 71) (h2 : c ≠ 130) (h3 : c ≠ 92) : rM1 a n t c k = a c k := by
  unfold rM1
  rw [xu_o (fun w => h3 w.1), Mo_r h1 h2]
theorem M1_al : xAl (rM1 a n t) k ↔ xAl a k := by
  unfold xAl
  rw [M1_r (by decide) (by decide) (by decide)]
theorem S1_m1 (h : zS1 a) : zS1 (rM1 a n t) := fun m hm => by
  rw [M1_r (c := 128) (by decide) (by decide) (by decide)]
  exact h m (M1_al.1 hm)
theorem rMf_e (h : ¬ p < e) : rMf e f a p t = (a, t, true) := by
  cases f with
  | zero => rfl
  | succ f => exact if_neg h
theorem rMf_fr (h : p < e) (hf : (zOb a p).toInt < 0) : rMf e (f + 1) a p t = rMf e f a (p + 1) t := by
  show (if p < e then _ else _) = _
  rw [if_pos h, if_pos hf]
theorem rMf_no (h : p < e) (hf : 0 ≤ (zOb a p).toInt) (hn : rTo a t (a 128 (zOb a p).toNatClampNeg).toInt = -1) : rMf e (f + 1) a p t = (a, t, false) := by
  show (if p < e then _ else _) = _
  rw [if_pos h, if_neg (by omega), if_pos hn]
theorem rMf_go (h : p < e) (hf : 0 ≤ (zOb a p).toInt) (hn : rTo a t (a 128 (zOb a p).toNatClampNeg).toInt ≠ -1) : rMf e (f + 1) a p t = rMf e f (rM1 a (zOb a p).toNatClampNeg (rTo a t (a 128 (zOb a p).toNatClampNeg).toInt)) (p + (a 128 (zOb a p).toNatClampNeg).toInt) (rTo a t (a 128 (zOb a p).toNatClampNeg).toInt) := by
  show (if p < e then _ else _) = _
  rw [if_pos h, if_neg (by omega), if_neg hn]
theorem rMf_fu : ∀ (f g : Nat) (a : Nat → Nat → Int32) (p t : Int), zS1 a → (e - p).toNat ≤ f → (e - p).toNat ≤ g → rMf e f a p t = rMf e g a p t := by
  intro f
  induction f with
  | zero =>
    intro g a p t h hf hg
    rw [rMf_e (by omega), rMf_e (by omega)]
  | succ f ih =>
    intro g a p t h hf hg
    by_cases c : p < e
    · cases g with
      | zero => omega
      | succ g =>
        by_cases d : (zOb a p).toInt < 0
        · rw [rMf_fr c d, rMf_fr c d]
          exact ih g _ _ _ h (by omega) (by omega)
        · have s := h _ (Ob_xl (a := a) (p := p) (by omega))
          by_cases w : rTo a t (a 128 (zOb a p).toNatClampNeg).toInt = -1
          · rw [rMf_no c (by omega) w, rMf_no c (by omega) w]
          · rw [rMf_go c (by omega) w, rMf_go c (by omega) w]
            exact ih g _ _ _ (S1_m1 h) (by omega) (by omega)
    · rw [rMf_e c, rMf_e c]
theorem Mv_e (h : ¬ p < e) : rMv a e p t = (a, t, true) := rMf_e h
theorem Mv_fr (h1 : zS1 a) (h : p < e) (hf : (zOb a p).toInt < 0) : rMv a e p t = rMv a e (p + 1) t := by
  unfold rMv
  rw [show (e - p).toNat = (e - (p + 1)).toNat + 1 from by omega]
  exact rMf_fr h hf
theorem Mv_no (h : p < e) (hf : 0 ≤ (zOb a p).toInt) (hn : rTo a t (a 128 (zOb a p).toNatClampNeg).toInt = -1) : rMv a e p t = (a, t, false) := by
  unfold rMv
  rw [show (e - p).toNat = (e - (p + 1)).toNat + 1 from by omega]
  exact rMf_no h hf hn
theorem Mv_go (h1 : zS1 a) (h : p < e) (hf : 0 ≤ (zOb a p).toInt) (hn : rTo a t (a 128 (zOb a p).toNatClampNeg).toInt ≠ -1) : rMv a e p t = rMv (rM1 a (zOb a p).toNatClampNeg (rTo a t (a 128 (zOb a p).toNatClampNeg).toInt)) e (p + (a 128 (zOb a p).toNatClampNeg).toInt) (rTo a t (a 128 (zOb a p).toNatClampNeg).toInt) := by
  have s := h1 _ (Ob_xl (a := a) (p := p) hf)
  unfold rMv
  rw [show (e - p).toNat = (e - (p + 1)).toNat + 1 from by omega, rMf_go h hf hn]
  exact rMf_fu _ _ _ _ _ (S1_m1 h1) (by omega) (by omega)
/-- while region r is emptied: up to p it is -/
def qJr (a : Nat → Nat → Int32) (r : Int) (p t : Int) : Prop := qRv a ∧ (0 ≤ r ∧ r < (a 87 4).toInt) ∧ (r * (a 87 3).toInt ≤ p ∧ p ≤ r * (a 87 3).toInt + (a 92 r.toNat).toInt) ∧ qGd a p ∧ (∀ n, xAl a n → (a 130 n).toInt / (a 87 3).toInt = r → p ≤ (a 130 n).toInt) ∧ (t = -1 ∨ (0 ≤ t ∧ t < (a 87 4).toInt ∧ t ≠ r)) ∧ ∀ n, xAl a n → 0 < (a 133 n).toInt → (a 130 n).toInt / (a 87 3).toInt ≠ r
theorem Rg_p (h : qRv a) (hr : 0 ≤ q) (h0 : q * (a 87 3).toInt ≤ p) (h1 : p < q * (a 87 3).toInt + (a 87 3).toInt) : p / (a 87 3).toInt = q := by
  have s := h.2.2.1.1.1
  have e : p = q * (a 87 3).toInt + (p - q * (a 87 3).toInt) := by omega
  rw [e]
  exact dv_e (by omega) (by omega) (by omega)
theorem Jr_fr (h : qJr a q p t) (hp : p < q * (a 87 3).toInt + (a 92 q.toNat).toInt) (hf : (zOb a p).toInt < 0) : qJr a q (p + 1) t := by
  obtain ⟨hv, hr, hb, hg, hm, ht, hh⟩ := h
  have s := hv.2.2.1
  have tp := (hv.2.2.2.1 q.toNat (by omega)).1
  have m0 : 0 ≤ q * (a 87 3).toInt := Int.mul_nonneg hr.1 (by omega)
  have m1 := ml_le hr.2 (show 0 ≤ (a 87 3).toInt by omega)
  have b4 := hv.1.2.2.2.1.2.2.1
  refine ⟨hv, hr, ⟨by omega, by omega⟩, Gd_s hv.1 hg hf (by omega) (by omega), fun n hn w => ?_, ht, hh⟩
  have g := hm n hn w
  by_cases z : (a 130 n).toInt = p
  · have o := Ob_pl hv.1 hn z
    have n5 := hn.1
    rw [o, Int32.toInt_ofNat_of_lt (by omega)] at hf
    omega
  · omega
/-- where the next of region q goes -/
theorem Jr_to (h : qJr a q p t) (hp : p < q * (a 87 3).toInt + (a 92 q.toNat).toInt) (hf : 0 ≤ (zOb a p).toInt) (hn : rTo a t (a 128 (zOb a p).toNatClampNeg).toInt ≠ -1) : xAl a (zOb a p).toNatClampNeg ∧ (a 130 (zOb a p).toNatClampNeg).toInt = p ∧ (∀ m, xAl a m → m ≠ (zOb a p).toNatClampNeg → (a 130 m).toInt + (a 128 m).toInt ≤ p ∨ p + (a 128 (zOb a p).toNatClampNeg).toInt ≤ (a 130 m).toInt) ∧ p + (a 128 (zOb a p).toNatClampNeg).toInt ≤ q * (a 87 3).toInt + (a 92 q.toNat).toInt ∧ (0 ≤ rTo a t (a 128 (zOb a p).toNatClampNeg).toInt ∧ rTo a t (a 128 (zOb a p).toNatClampNeg).toInt < (a 87 4).toInt ∧ rTo a t (a 128 (zOb a p).toNatClampNeg).toInt ≠ q) ∧ (a 92 (rTo a t (a 128 (zOb a p).toNatClampNeg).toInt).toNat).toInt + (a 128 (zOb a p).toNatClampNeg).toInt ≤ (a 87 3).toInt ∧ 1 ≤ (a 128 (zOb a p).toNatClampNeg).toInt := by
  obtain ⟨hv, hr, hb, hg, hm, ht, hh⟩ := h
  obtain ⟨n, al, e1, e2, e3⟩ := OB_al hv.1 hg hf
  rw [e3] at hn ⊢
  have s := hv.2.2.1
  have tp := (hv.2.2.2.1 q.toNat (by omega)).1
  have i := hv.1.1 n al
  have rg : (a 130 n).toInt / (a 87 3).toInt = q := Rg_p hv hr.1 (by omega) (by omega)
  have en := (hv.2.2.2.2 n al).2
  rw [rg, e2] at en
  have sz : (a 128 n).toInt ≤ (a 87 3).toInt := by omega
  have to := To_y hn sz
  have ne : rTo a t (a 128 n).toInt ≠ q := fun w => by
    rcases to.2.2.2 with z | z
    · rw [w] at z
      omega
    · have z2 := z.2
      rw [w] at z2
      omega
  refine ⟨al, e2, fun m hm2 hne => ?_, en, ⟨to.1, ?_, ne⟩, to.2.2.1, i.2.1.1⟩
  · have d := hv.1.2.1 m n hm2 al hne
    omega
  · rcases to.2.2.2 with z | z
    · rw [z] at to ⊢
      omega
    · exact z.1
theorem Jr_fq (h : qJr a q p t) (hp : p < q * (a 87 3).toInt + (a 92 q.toNat).toInt) (hf : 0 ≤ (zOb a p).toInt) (hn : rTo a t (a 128 (zOb a p).toNatClampNeg).toInt ≠ -1) (he : to.toInt = rTo a t (a 128 (zOb a p).toNatClampNeg).toInt * (a 87 3).toInt + (a 92 (rTo a t (a 128 (zOb a p).toNatClampNeg).toInt).toNat).toInt) : qFr a (zOb a p).toNatClampNeg to ∧ qMv a (zOb a p).toNatClampNeg to ∧ (0 ≤ to.toInt ∧ to.toInt + (a 128 (zOb a p).toNatClampNeg).toInt ≤ (a 87 0).toInt) := by
  have j := Jr_to h hp hf hn
  obtain ⟨hv, hr, hb, hg, hm, ht, hh⟩ := h
  obtain ⟨al, e2, dis, en, ⟨t0, t1, t2⟩, fit, sz1⟩ := j
  generalize (zOb a p).toNatClampNeg = n at *
  generalize rTo a t (a 128 n).toInt = u at *
  have s := hv.2.2.1
  have tu := (hv.2.2.2.1 u.toNat (by omega)).1
  have m0 : 0 ≤ u * (a 87 3).toInt := Int.mul_nonneg t0 (by omega)
  have m1 := ml_le t1 (show 0 ≤ (a 87 3).toInt by omega)
  have q0 : 0 ≤ q * (a 87 3).toInt := Int.mul_nonneg hr.1 (by omega)
  have q1 := ml_le hr.2 (show 0 ≤ (a 87 3).toInt by omega)
  have tq := (hv.2.2.2.1 q.toNat (by omega)).1
  have i := hv.1.1 n al
  have sep : u * (a 87 3).toInt + (a 87 3).toInt ≤ q * (a 87 3).toInt ∨ q * (a 87 3).toInt + (a 87 3).toInt ≤ u * (a 87 3).toInt := by
    by_cases w : u < q
    · exact Or.inl (ml_le w (by omega))
    · exact Or.inr (ml_le (by omega) (by omega))
  refine ⟨fun m hm2 hne => ?_, ⟨by omega, by omega, by omega, by omega, by omega, by omega⟩, by omega, by omega⟩
  have g := hv.2.2.2.2 m hm2
  have im := hv.1.1 m hm2
  have db := dv_b (p := (a 130 m).toInt) (s := (a 87 3).toInt) (by omega)
  by_cases w : (a 130 m).toInt / (a 87 3).toInt = u
  · rw [w] at g
    exact Or.inr (by omega)
  · have g2 := g.2
    have dn : 0 ≤ (a 130 m).toInt / (a 87 3).toInt := Int.ediv_nonneg (by omega) (by omega)
    have tm := (hv.2.2.2.1 ((a 130 m).toInt / (a 87 3).toInt).toNat (by omega)).1
    generalize (a 130 m).toInt / (a 87 3).toInt = v at *
    by_cases w2 : v < u
    · have z := ml_le (s := (a 87 3).toInt) w2 (by omega)
      exact Or.inr (by omega)
    · have z := ml_le (s := (a 87 3).toInt) (show u < v by omega) (by omega)
      exact Or.inl (by omega)
theorem Jr_go (h : qJr a q p t) (hp : p < q * (a 87 3).toInt + (a 92 q.toNat).toInt) (hf : 0 ≤ (zOb a p).toInt) (hn : rTo a t (a 128 (zOb a p).toNatClampNeg).toInt ≠ -1) : qJr (rM1 a (zOb a p).toNatClampNeg (rTo a t (a 128 (zOb a p).toNatClampNeg).toInt)) q (p + (a 128 (zOb a p).toNatClampNeg).toInt) (rTo a t (a 128 (zOb a p).toNatClampNeg).toInt) := by
  have j := Jr_to h hp hf hn
  have he : (Int32.ofInt (rTo a t (a 128 (zOb a p).toNatClampNeg).toInt * (a 87 3).toInt + (a 92 (rTo a t (a 128 (zOb a p).toNatClampNeg).toInt).toNat).toInt)).toInt = rTo a t (a 128 (zOb a p).toNatClampNeg).toInt * (a 87 3).toInt + (a 92 (rTo a t (a 128 (zOb a p).toNatClampNeg).toInt).toNat).toInt := by
    have s := h.1.2.2.1
    have tu := (h.1.2.2.2.1 (rTo a t (a 128 (zOb a p).toNatClampNeg).toInt).toNat (by omega)).1
    have m0 : 0 ≤ rTo a t (a 128 (zOb a p).toNatClampNeg).toInt * (a 87 3).toInt := Int.mul_nonneg j.2.2.2.2.1.1 (by omega)
    have m1 := ml_le j.2.2.2.2.1.2.1 (show 0 ≤ (a 87 3).toInt by omega)
    exact Int32.toInt_ofInt_of_le (by omega) (by omega)
  have fq := Jr_fq h hp hf hn he
  obtain ⟨hv, hr, hb, hg, hm, ht, hh⟩ := h
  obtain ⟨al, e2, dis, en, ⟨t0, t1, t2⟩, fit, sz1⟩ := j
  generalize hz : (zOb a p).toNatClampNeg = n at *
  generalize rTo a t (a 128 n).toInt = u at *
  have s := hv.2.2.1
  have tu := (hv.2.2.2.1 u.toNat (by omega)).1
  have I := I_mo hv.1 al fq.2.2.1 fq.2.2.2 fq.1 (by rw [hv.2.1]; rfl)
  have r7 : ∀ k, rM1 a n u 87 k = a 87 k := fun k => M1_r (by decide) (by decide) (by decide)
  have r28 : ∀ k, rM1 a n u 128 k = a 128 k := fun k => M1_r (by decide) (by decide) (by decide)
  have r33 : ∀ k, rM1 a n u 133 k = a 133 k := fun k => M1_r (by decide) (by decide) (by decide)
  have pn : (rM1 a n u 130 n).toInt = u * (a 87 3).toInt + (a 92 u.toNat).toInt := by
    unfold rM1
    rw [xu_o (by omega), Mo_pn, he]
  have po : ∀ m, m ≠ n → rM1 a n u 130 m = a 130 m := fun m w => by
    unfold rM1
    rw [xu_o (by omega), Mo_po w]
  have tun : (rM1 a n u 92 u.toNat).toInt = (a 92 u.toNat).toInt + (a 128 n).toInt := by
    unfold rM1
    rw [xu_s]
    exact i_add (by omega) (by omega)
  have tuo : ∀ k, k ≠ u.toNat → rM1 a n u 92 k = a 92 k := fun k w => by
    unfold rM1
    rw [xu_o (fun z => w z.2), Mo_r (by decide) (by decide)]
  have dn : (rM1 a n u 130 n).toInt / (a 87 3).toInt = u := by
    rw [pn]
    exact dv_e (by omega) (by omega) (by omega)
  have ut : ∀ k : Nat, (k : Int) = u → k = u.toNat := fun k w => by omega
  have un0 : ((u.toNat : Nat) : Int) = u := by omega
  have qn : q.toNat ≠ u.toNat := by omega
  refine ⟨⟨?_, ?_, ⟨?_, ?_, ?_, ?_, ?_, ?_⟩, fun k hk => ?_, fun m hm2 => ?_⟩, ⟨hr.1, by rw [r7]; exact hr.2⟩, ⟨by rw [r7]; omega, by rw [r7, tuo _ qn]; exact en⟩, fun m hm2 w => ?_, fun m hm2 w => ?_, Or.inr ⟨t0, by rw [r7]; exact t1, t2⟩, fun m hm2 w => ?_⟩
  · unfold rM1
    exact I_cg I (un (by decide)) (un (by decide)) (un (by decide)) (un (by decide)) (un (by decide)) (un (by decide)) (fun j => un (by omega))
  · rw [r7]
    exact hv.2.1
  · rw [r7]
    exact s.1
  · rw [r7]
    exact s.2.1
  · rw [r7, r7]
    exact s.2.2.1
  · rw [r7]
    exact s.2.2.2.1
  · rw [r7, r7, r7]
    exact s.2.2.2.2.1
  · rw [r7]
    exact s.2.2.2.2.2
  · have g := hv.2.2.2.1 k hk
    rw [r7, r7]
    by_cases w : k = u.toNat
    · rw [w, tun]
      exact ⟨by omega, fun z => by omega⟩
    · rw [tuo k w]
      exact g
  · have hm' := M1_al.1 hm2
    rw [r7, r7, r28]
    by_cases w : m = n
    · rw [w, dn, tun, pn]
      exact ⟨t1, by omega⟩
    · have g := hv.2.2.2.2 m hm'
      rw [po m w]
      refine ⟨g.1, ?_⟩
      by_cases z : ((a 130 m).toInt / (a 87 3).toInt).toNat = u.toNat
      · rw [z, tun]
        rw [z] at g
        omega
      · rw [tuo _ z]
        exact g.2
  · have hm' := M1_al.1 hm2
    rw [r28] at w
    by_cases z : m = n
    · rw [z, pn] at w
      have sep : u * (a 87 3).toInt + (a 87 3).toInt ≤ q * (a 87 3).toInt ∨ q * (a 87 3).toInt + (a 87 3).toInt ≤ u * (a 87 3).toInt := by
        by_cases w2 : u < q
        · exact Or.inl (ml_le w2 (by omega))
        · exact Or.inr (ml_le (by omega) (by omega))
      have tq := (hv.2.2.2.1 q.toNat (by omega)).1
      omega
    · rw [po m z] at w
      have d := dis m hm' z
      omega
  · have hm' := M1_al.1 hm2
    rw [r7] at w
    by_cases z : m = n
    · rw [z, dn] at w
      exact absurd w t2
    · rw [po m z] at w ⊢
      have g := hm m hm' w
      have d := dis m hm' z
      have im := (hv.1.1 m hm').2.1.1
      omega
  · have hm' := M1_al.1 hm2
    rw [r33] at w
    rw [r7]
    by_cases z : m = n
    · rw [z, dn]
      exact t2
    · rw [po m z]
      exact hh m hm' w
theorem Jr_end (h : qJr a q p t) (hp : ¬ p < q * (a 87 3).toInt + (a 92 q.toNat).toInt) : qRv (ma_u a 92 q.toNat 0) := by
  obtain ⟨hv, hr, hb, hg, hm, ht, hh⟩ := h
  have r : ∀ c, c ≠ 92 → ma_u a 92 q.toNat 0 c = a c := fun c hc => ma_u_ne _ _ _ hc
  have s := hv.2.2.1
  refine ⟨I_cg hv.1 (un (by decide)) (un (by decide)) (un (by decide)) (un (by decide)) (un (by decide)) (un (by decide)) (fun j => un (by omega)), by rw [r 87 (by decide)]; exact hv.2.1, by rw [r 87 (by decide)]; exact s, fun k hk => ?_, fun n hn => ?_⟩
  · rw [r 87 (by decide)]
    by_cases w : k = q.toNat
    · rw [w, xu_s]
      exact ⟨⟨by decide, by have : (0 : Int32).toInt = 0 := rfl; omega⟩, fun _ => rfl⟩
    · rw [xu_o (fun z => w z.2)]
      exact hv.2.2.2.1 k hk
  · unfold xAl at hn
    rw [r 126 (by decide)] at hn
    have g := hv.2.2.2.2 n hn
    rw [r 87 (by decide), r 130 (by decide), r 128 (by decide)]
    refine ⟨g.1, ?_⟩
    have dn : 0 ≤ (a 130 n).toInt / (a 87 3).toInt := Int.ediv_nonneg (hv.1.1 n hn).1.2 (by omega)
    by_cases w : (a 130 n).toInt / (a 87 3).toInt = q
    · have g2 := hm n hn w
      rw [w] at g
      have := (hv.1.1 n hn).2.1.1
      omega
    · rw [xu_o (fun z => w (by omega))]
      exact g.2
end F12
