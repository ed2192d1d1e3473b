/-! from 95.s10 -/
/-! REGIONS, the class (written by wip/tools/gen15z.py) -/
/-! REGIONS by numbers (87: 0 all words, 3 the SIZE, 4 how many, 5 the SHARE, 9 the present one; 92 the tops) -/
/-- the least EMPTY one from r on; -1: none -/
def rLf (a : Nat → Nat → Int32) : Nat → Nat → Int
  | 0, _ => -1
  | f + 1, r => if (r : Int) < (a 87 4).toInt then (if (a 92 r).toInt = 0 then (r : Int) else rLf a f (r + 1)) else -1
def rLe (a : Nat → Nat → Int32) : Int := rLf a 93 0
/-- how many are EMPTY -/
def rEf (a : Nat → Nat → Int32) : Nat → Int
  | 0 => 0
  | r + 1 => rEf a r + (if (r : Int) < (a 87 4).toInt ∧ (a 92 r).toInt = 0 then 1 else 0)
/-- words kept in region r, of the first n -/
def rKf (a : Nat → Nat → Int32) (r : Int) : Nat → Int
  | 0 => 0
  | n + 1 => rKf a r n + (if a 126 n ≠ 0 ∧ (a 130 n).toInt / (a 87 3).toInt = r then (a 128 n).toInt else 0)
/-- words kept, region by region, to row 93 -/
def rSk (a : Nat → Nat → Int32) (n : Nat) : Nat → Nat → Int32 := fun c k => if c = 93 ∧ k < 93 then Int32.ofInt (rKf a (k : Int) n) else a c k
/-- where nothing is left it is EMPTY (the first n) -/
def rEm (a : Nat → Nat → Int32) (n : Nat) : Nat → Nat → Int32 := fun c k => if c = 92 ∧ k < n ∧ (a 93 k).toInt = 0 then 0 else a c k
/-- the present one and the fuller ones (of the first n) stay -/
def rCa (a : Nat → Nat → Int32) (n : Nat) : Nat → Nat → Int32 := fun c k => if c = 93 ∧ k < n ∧ ((k : Int) = (a 87 9).toInt ∨ (a 87 5).toInt * (a 87 3).toInt < (a 93 k).toInt * 100) then 0 else a c k
/-- where one (of the first n) is held it stays -/
def rCb (a : Nat → Nat → Int32) : Nat → Nat → Nat → Int32
  | 0 => a
  | n + 1 => if a 126 n ≠ 0 ∧ 0 < (a 133 n).toInt then ma_u (rCb a n) 93 ((a 130 n).toInt / (a 87 3).toInt).toNat 0 else rCb a n
/-- the first of the fewest that are not 0 -/
def rFg (l : Nat → Int) : Nat → Int
  | 0 => -1
  | r + 1 => if 0 < l r ∧ (rFg l r = -1 ∨ l r < l (rFg l r).toNat) then (r : Int) else rFg l r
def rTo (a : Nat → Nat → Int32) (t sz : Int) : Int := if 0 ≤ t ∧ t < 93 ∧ (a 92 t.toNat).toInt + sz ≤ (a 87 3).toInt then t else rLe a
/-- one goes to the end of region t -/
def rM1 (a : Nat → Nat → Int32) (n : Nat) (t : Int) : Nat → Nat → Int32 := ma_u (aMo a n (Int32.ofInt (t * (a 87 3).toInt + (a 92 t.toNat).toInt))) 92 t.toNat (a 92 t.toNat + a 128 n)
/-- all between p and e go; where to last; whether all found a place -/
def rMf (e : Int) : Nat → (Nat → Nat → Int32) → Int → Int → (Nat → Nat → Int32) × Int × Bool
  | 0, a, _, t => (a, t, true)
  | f + 1, a, p, t => if p < e then (if (zOb a p).toInt < 0 then rMf e f a (p + 1) t
      else if rTo a t (a 128 (zOb a p).toNatClampNeg).toInt = -1 then (a, t, false)
      else rMf e f (rM1 a (zOb a p).toNatClampNeg (rTo a t (a 128 (zOb a p).toNatClampNeg).toInt)) (p + (a 128 (zOb a p).toNatClampNeg).toInt) (rTo a t (a 128 (zOb a p).toNatClampNeg).toInt)) else (a, t, true)
def rMv (a : Nat → Nat → Int32) (e p t : Int) : (Nat → Nat → Int32) × Int × Bool := rMf e (e - p).toNat a p t
/-- one sparse region behind another is emptied -/
def rFw (a : Nat → Nat → Int32) : Int := rFg (fun k => (a 93 k).toInt) 93
def rM2 (a : Nat → Nat → Int32) (r t : Int) : (Nat → Nat → Int32) × Int × Bool := rMv a (r * (a 87 3).toInt + (a 92 r.toNat).toInt) (r * (a 87 3).toInt) t
def rOf : Nat → (Nat → Nat → Int32) → Int → (Nat → Nat → Int32) × Int
  | 0, a, t => (a, t)
  | f + 1, a, t => if rFw a = -1 then (a, t)
      else if (rM2 a (rFw a) t).2.2 = true then rOf f (ma_u (ma_u (rM2 a (rFw a) t).1 93 (rFw a).toNat 0) 92 (rFw a).toNat 0) (rM2 a (rFw a) t).2.1
      else ((rM2 a (rFw a) t).1, (rM2 a (rFw a) t).2.1)
/-- a cleaning: what leaves, where to last -/
def rB0 (a : Nat → Nat → Int32) : Nat → Nat → Int32 := rCb (rCa (rEm (rSk (aSw a) 512) 93) 93) 512
def rC0 (a : Nat → Nat → Int32) : (Nat → Nat → Int32) × Int := rOf 93 (rB0 a) (-1)
def rPr (a : Nat → Nat → Int32) (t : Int) : Int32 := if t ≠ -1 then Int32.ofInt t else if (a 92 (a 87 9).toNatClampNeg).toInt = 0 ∧ rLe a ≠ -1 then Int32.ofInt (rLe a) else a 87 9
def rCl (a : Nat → Nat → Int32) : Nat → Nat → Int32 := ma_u (rC0 a).1 87 9 (rPr (rC0 a).1 (rC0 a).2)
/-- what holds of a heap of regions -/
def qRv (a : Nat → Nat → Int32) : Prop := qI a ∧ a 87 2 = 0 ∧ ((16 ≤ (a 87 3).toInt ∧ (a 87 3).toInt ≤ 256) ∧ (1 ≤ (a 87 4).toInt ∧ (a 87 4).toInt ≤ 93) ∧ (0 ≤ (a 87 9).toInt ∧ (a 87 9).toInt < (a 87 4).toInt) ∧ (0 ≤ (a 87 5).toInt ∧ (a 87 5).toInt ≤ 100) ∧ (a 87 0).toInt = (a 87 4).toInt * (a 87 3).toInt ∧ (a 87 0).toInt ≤ 1500) ∧ (∀ r : Nat, r < 93 → (0 ≤ (a 92 r).toInt ∧ (a 92 r).toInt ≤ (a 87 3).toInt) ∧ ((a 87 4).toInt ≤ (r : Int) → a 92 r = 0)) ∧ ∀ n, xAl a n → (a 130 n).toInt / (a 87 3).toInt < (a 87 4).toInt ∧ (a 130 n).toInt + (a 128 n).toInt ≤ (a 130 n).toInt / (a 87 3).toInt * (a 87 3).toInt + (a 92 ((a 130 n).toInt / (a 87 3).toInt).toNat).toInt
section F12
variable {a b : Nat → Nat → Int32} {l l2 : Nat → Int} {p e t s q x sz : Int} {n k r f : Nat} {to : Int32}
theorem dv_e (hs : 0 < s) (h0 : 0 ≤ x) (h1 : x < s) : (t * s + x) / s = t := by
  rw [Int.add_comm, Int.add_mul_ediv_right _ _ (by omega), Int.ediv_eq_zero_of_lt h0 h1, Int.zero_add]
theorem dv_b (hs : 0 < s) : p / s * s ≤ p ∧ p < p / s * s + s := by
  refine ⟨Int.ediv_mul_le p (by omega), ?_⟩
  have h := Int.lt_ediv_add_one_mul_self p hs
  rw [Int.add_mul, Int.one_mul] at h
  exact h
theorem ml_le (h : q < t) (hs : 0 ≤ s) : q * s + s ≤ t * s := by
  have g := Int.mul_le_mul_of_nonneg_right (show q + 1 ≤ t by omega) hs
  rw [Int.add_mul, Int.one_mul] at g
  exact g
theorem Lf_e (h : ¬ (r : Int) < (a 87 4).toInt) : rLf a f r = -1 := by
  cases f with
  | zero => rfl
  | succ f => exact if_neg h
theorem Lf_y (h : (r : Int) < (a 87 4).toInt) (h0 : (a 92 r).toInt = 0) : rLf a (f + 1) r = (r : Int) := by
  show (if (r : Int) < (a 87 4).toInt then _ else _) = _
  rw [if_pos h, if_pos h0]
theorem Lf_n (h : (r : Int) < (a 87 4).toInt) (h0 : (a 92 r).toInt ≠ 0) : rLf a (f + 1) r = rLf a f (r + 1) := by
  show (if (r : Int) < (a 87 4).toInt then _ else _) = _
  rw [if_pos h, if_neg h0]
theorem Lf_all : ∀ (f r : Nat), (rLf a f r = -1 ∧ ∀ j : Nat, r ≤ j → j < r + f → (j : Int) < (a 87 4).toInt → (a 92 j).toInt ≠ 0) ∨ ((r : Int) ≤ rLf a f r ∧ rLf a f r < (r : Int) + f ∧ rLf a f r < (a 87 4).toInt ∧ (a 92 (rLf a f r).toNat).toInt = 0) := by
  intro f
  induction f with
  | zero => intro r; exact Or.inl ⟨rfl, fun j h1 h2 => by omega⟩
  | succ f ih =>
    intro r
    by_cases c : (r : Int) < (a 87 4).toInt
    · by_cases d : (a 92 r).toInt = 0
      · rw [Lf_y c d]
        exact Or.inr ⟨by omega, by omega, c, by rw [Int.toNat_natCast]; exact d⟩
      · rw [Lf_n c d]
        rcases ih (r + 1) with w | w
        · refine Or.inl ⟨w.1, fun j h1 h2 h3 => ?_⟩
          by_cases z : j = r
          · rw [z]
            exact d
          · exact w.2 j (by omega) (by omega) h3
        · exact Or.inr ⟨by omega, by omega, w.2.2.1, w.2.2.2⟩
    · rw [Lf_e c]
      exact Or.inl ⟨rfl, fun j h1 h2 h3 => by omega⟩
theorem Le_y (h : rLe a ≠ -1) : 0 ≤ rLe a ∧ rLe a < 93 ∧ rLe a < (a 87 4).toInt ∧ (a 92 (rLe a).toNat).toInt = 0 := by
  rcases Lf_all (a := a) 93 0 with w | w
  · exact absurd w.1 h
  · exact ⟨by unfold rLe; omega, by unfold rLe; omega, w.2.2.1, w.2.2.2⟩
/-- where it goes to -/
theorem To_y (h : rTo a t sz ≠ -1) (hs : sz ≤ (a 87 3).toInt) : 0 ≤ rTo a t sz ∧ rTo a t sz < 93 ∧ (a 92 (rTo a t sz).toNat).toInt + sz ≤ (a 87 3).toInt ∧ (rTo a t sz = t ∨ (rTo a t sz < (a 87 4).toInt ∧ (a 92 (rTo a t sz).toNat).toInt = 0)) := by
  unfold rTo at h ⊢
  split
  · next w => exact ⟨w.1, w.2.1, w.2.2, Or.inl rfl⟩
  · next w =>
    rw [if_neg w] at h
    have q := Le_y h
    exact ⟨q.1, q.2.1, by omega, Or.inr ⟨q.2.2.1, q.2.2.2⟩⟩
/-! all of a region -/
theorem M1_r {c k : Nat} (h1 : c ≠ 71) (h2 : c ≠ 130) (h3 : c ≠ 92) : rM1 a n t c k = a c k := by
  unfold rM1
  rw [xu_o (fun w => h3 w.1), Mo_r h1 h2]
theorem M1_al : xAl (rM1 a n t) k ↔ xAl a k := by
  unfold xAl
  rw [M1_r (by decide) (by decide) (by decide)]
theorem S1_m1 (h : zS1 a) : zS1 (rM1 a n t) := fun m hm => by
  rw [M1_r (c := 128) (by decide) (by decide) (by decide)]
  exact h m (M1_al.1 hm)
theorem rMf_e (h : ¬ p < e) : rMf e f a p t = (a, t, true) := by
  cases f with
  | zero => rfl
  | succ f => exact if_neg h
theorem rMf_fr (h : p < e) (hf : (zOb a p).toInt < 0) : rMf e (f + 1) a p t = rMf e f a (p + 1) t := by
  show (if p < e then _ else _) = _
  rw [if_pos h, if_pos hf]
theorem rMf_no (h : p < e) (hf : 0 ≤ (zOb a p).toInt) (hn : rTo a t (a 128 (zOb a p).toNatClampNeg).toInt = -1) : rMf e (f + 1) a p t = (a, t, false) := by
  show (if p < e then _ else _) = _
  rw [if_pos h, if_neg (by omega), if_pos hn]
theorem rMf_go (h : p < e) (hf : 0 ≤ (zOb a p).toInt) (hn : rTo a t (a 128 (zOb a p).toNatClampNeg).toInt ≠ -1) : rMf e (f + 1) a p t = rMf e f (rM1 a (zOb a p).toNatClampNeg (rTo a t (a 128 (zOb a p).toNatClampNeg).toInt)) (p + (a 128 (zOb a p).toNatClampNeg).toInt) (rTo a t (a 128 (zOb a p).toNatClampNeg).toInt) := by
  show (if p < e then _ else _) = _
  rw [if_pos h, if_neg (by omega), if_neg hn]
theorem rMf_fu : ∀ (f g : Nat) (a : Nat → Nat → Int32) (p t : Int), zS1 a → (e - p).toNat ≤ f → (e - p).toNat ≤ g → rMf e f a p t = rMf e g a p t := by
  intro f
  induction f with
  | zero =>
    intro g a p t h hf hg
    rw [rMf_e (by omega), rMf_e (by omega)]
  | succ f ih =>
    intro g a p t h hf hg
    by_cases c : p < e
    · cases g with
      | zero => omega
      | succ g =>
        by_cases d : (zOb a p).toInt < 0
        · rw [rMf_fr c d, rMf_fr c d]
          exact ih g _ _ _ h (by omega) (by omega)
        · have s := h _ (Ob_xl (a := a) (p := p) (by omega))
          by_cases w : rTo a t (a 128 (zOb a p).toNatClampNeg).toInt = -1
          · rw [rMf_no c (by omega) w, rMf_no c (by omega) w]
          · rw [rMf_go c (by omega) w, rMf_go c (by omega) w]
            exact ih g _ _ _ (S1_m1 h) (by omega) (by omega)
    · rw [rMf_e c, rMf_e c]
theorem Mv_e (h : ¬ p < e) : rMv a e p t = (a, t, true) := rMf_e h
theorem Mv_fr (h1 : zS1 a) (h : p < e) (hf : (zOb a p).toInt < 0) : rMv a e p t = rMv a e (p + 1) t := by
  unfold rMv
  rw [show (e - p).toNat = (e - (p + 1)).toNat + 1 from by omega]
  exact rMf_fr h hf
theorem Mv_no (h : p < e) (hf : 0 ≤ (zOb a p).toInt) (hn : rTo a t (a 128 (zOb a p).toNatClampNeg).toInt = -1) : rMv a e p t = (a, t, false) := by
  unfold rMv
  rw [show (e - p).toNat = (e - (p + 1)).toNat + 1 from by omega]
  exact rMf_no h hf hn
theorem Mv_go (h1 : zS1 a) (h : p < e) (hf : 0 ≤ (zOb a p).toInt) (hn : rTo a t (a 128 (zOb a p).toNatClampNeg).toInt ≠ -1) : rMv a e p t = rMv (rM1 a (zOb a p).toNatClampNeg (rTo a t (a 128 (zOb a p).toNatClampNeg).toInt)) e (p + (a 128 (zOb a p).toNatClampNeg).toInt) (rTo a t (a 128 (zOb a p).toNatClampNeg).toInt) := by
  have s := h1 _ (Ob_xl (a := a) (p := p) hf)
  unfold rMv
  rw [show (e - p).toNat = (e - (p + 1)).toNat + 1 from by omega, rMf_go h hf hn]
  exact rMf_fu _ _ _ _ _ (S1_m1 h1) (by omega) (by omega)
/-- while region r is emptied: up to p it is -/
def qJr (a : Nat → Nat → Int32) (r : Int) (p t : Int) : Prop := qRv a ∧ (0 ≤ r ∧ r < (a 87 4).toInt) ∧ (r * (a 87 3).toInt ≤ p ∧ p ≤ r * (a 87 3).toInt + (a 92 r.toNat).toInt) ∧ qGd a p ∧ (∀ n, xAl a n → (a 130 n).toInt / (a 87 3).toInt = r → p ≤ (a 130 n).toInt) ∧ (t = -1 ∨ (0 ≤ t ∧ t < (a 87 4).toInt ∧ t ≠ r)) ∧ ∀ n, xAl a n → 0 < (a 133 n).toInt → (a 130 n).toInt / (a 87 3).toInt ≠ r
theorem Rg_p (h : qRv a) (hr : 0 ≤ q) (h0 : q * (a 87 3).toInt ≤ p) (h1 : p < q * (a 87 3).toInt + (a 87 3).toInt) : p / (a 87 3).toInt = q := by
  have s := h.2.2.1.1.1
  have e : p = q * (a 87 3).toInt + (p - q * (a 87 3).toInt) := by omega
  rw [e]
  exact dv_e (by omega) (by omega) (by omega)
theorem Jr_fr (h : qJr a q p t) (hp : p < q * (a 87 3).toInt + (a 92 q.toNat).toInt) (hf : (zOb a p).toInt < 0) : qJr a q (p + 1) t := by
  obtain ⟨hv, hr, hb, hg, hm, ht, hh⟩ := h
  have s := hv.2.2.1
  have tp := (hv.2.2.2.1 q.toNat (by omega)).1
  have m0 : 0 ≤ q * (a 87 3).toInt := Int.mul_nonneg hr.1 (by omega)
  have m1 := ml_le hr.2 (show 0 ≤ (a 87 3).toInt by omega)
  have b4 := hv.1.2.2.2.1.2.2.1
  refine ⟨hv, hr, ⟨by omega, by omega⟩, Gd_s hv.1 hg hf (by omega) (by omega), fun n hn w => ?_, ht, hh⟩
  have g := hm n hn w
  by_cases z : (a 130 n).toInt = p
  · have o := Ob_pl hv.1 hn z
    have n5 := hn.1
    rw [o, Int32.toInt_ofNat_of_lt (by omega)] at hf
    omega
  · omega
/-- where the next of region q goes -/
theorem Jr_to (h : qJr a q p t) (hp : p < q * (a 87 3).toInt + (a 92 q.toNat).toInt) (hf : 0 ≤ (zOb a p).toInt) (hn : rTo a t (a 128 (zOb a p).toNatClampNeg).toInt ≠ -1) : xAl a (zOb a p).toNatClampNeg ∧ (a 130 (zOb a p).toNatClampNeg).toInt = p ∧ (∀ m, xAl a m → m ≠ (zOb a p).toNatClampNeg → (a 130 m).toInt + (a 128 m).toInt ≤ p ∨ p + (a 128 (zOb a p).toNatClampNeg).toInt ≤ (a 130 m).toInt) ∧ p + (a 128 (zOb a p).toNatClampNeg).toInt ≤ q * (a 87 3).toInt + (a 92 q.toNat).toInt ∧ (0 ≤ rTo a t (a 128 (zOb a p).toNatClampNeg).toInt ∧ rTo a t (a 128 (zOb a p).toNatClampNeg).toInt < (a 87 4).toInt ∧ rTo a t (a 128 (zOb a p).toNatClampNeg).toInt ≠ q) ∧ (a 92 (rTo a t (a 128 (zOb a p).toNatClampNeg).toInt).toNat).toInt + (a 128 (zOb a p).toNatClampNeg).toInt ≤ (a 87 3).toInt ∧ 1 ≤ (a 128 (zOb a p).toNatClampNeg).toInt := by
  obtain ⟨hv, hr, hb, hg, hm, ht, hh⟩ := h
  obtain ⟨n, al, e1, e2, e3⟩ := OB_al hv.1 hg hf
  rw [e3] at hn ⊢
  have s := hv.2.2.1
  have tp := (hv.2.2.2.1 q.toNat (by omega)).1
  have i := hv.1.1 n al
  have rg : (a 130 n).toInt / (a 87 3).toInt = q := Rg_p hv hr.1 (by omega) (by omega)
  have en := (hv.2.2.2.2 n al).2
  rw [rg, e2] at en
  have sz : (a 128 n).toInt ≤ (a 87 3).toInt := by omega
  have to := To_y hn sz
  have ne : rTo a t (a 128 n).toInt ≠ q := fun w => by
    rcases to.2.2.2 with z | z
    · rw [w] at z
      omega
    · have z2 := z.2
      rw [w] at z2
      omega
  refine ⟨al, e2, fun m hm2 hne => ?_, en, ⟨to.1, ?_, ne⟩, to.2.2.1, i.2.1.1⟩
  · have d := hv.1.2.1 m n hm2 al hne
    omega
  · rcases to.2.2.2 with z | z
    · rw [z] at to ⊢
      omega
    · exact z.1
theorem Jr_fq (h : qJr a q p t) (hp : p < q * (a 87 3).toInt + (a 92 q.toNat).toInt) (hf : 0 ≤ (zOb a p).toInt) (hn : rTo a t (a 128 (zOb a p).toNatClampNeg).toInt ≠ -1) (he : to.toInt = rTo a t (a 128 (zOb a p).toNatClampNeg).toInt * (a 87 3).toInt + (a 92 (rTo a t (a 128 (zOb a p).toNatClampNeg).toInt).toNat).toInt) : qFr a (zOb a p).toNatClampNeg to ∧ qMv a (zOb a p).toNatClampNeg to ∧ (0 ≤ to.toInt ∧ to.toInt + (a 128 (zOb a p).toNatClampNeg).toInt ≤ (a 87 0).toInt) := by
  have j := Jr_to h hp hf hn
  obtain ⟨hv, hr, hb, hg, hm, ht, hh⟩ := h
  obtain ⟨al, e2, dis, en, ⟨t0, t1, t2⟩, fit, sz1⟩ := j
  generalize (zOb a p).toNatClampNeg = n at *
  generalize rTo a t (a 128 n).toInt = u at *
  have s := hv.2.2.1
  have tu := (hv.2.2.2.1 u.toNat (by omega)).1
  have m0 : 0 ≤ u * (a 87 3).toInt := Int.mul_nonneg t0 (by omega)
  have m1 := ml_le t1 (show 0 ≤ (a 87 3).toInt by omega)
  have q0 : 0 ≤ q * (a 87 3).toInt := Int.mul_nonneg hr.1 (by omega)
  have q1 := ml_le hr.2 (show 0 ≤ (a 87 3).toInt by omega)
  have tq := (hv.2.2.2.1 q.toNat (by omega)).1
  have i := hv.1.1 n al
  have sep : u * (a 87 3).toInt + (a 87 3).toInt ≤ q * (a 87 3).toInt ∨ q * (a 87 3).toInt + (a 87 3).toInt ≤ u * (a 87 3).toInt := by
    by_cases w : u < q
    · exact Or.inl (ml_le w (by omega))
    · exact Or.inr (ml_le (by omega) (by omega))
  refine ⟨fun m hm2 hne => ?_, ⟨by omega, by omega, by omega, by omega, by omega, by omega⟩, by omega, by omega⟩
  have g := hv.2.2.2.2 m hm2
  have im := hv.1.1 m hm2
  have db := dv_b (p := (a 130 m).toInt) (s := (a 87 3).toInt) (by omega)
  by_cases w : (a 130 m).toInt / (a 87 3).toInt = u
  · rw [w] at g
    exact Or.inr (by omega)
  · have g2 := g.2
    have dn : 0 ≤ (a 130 m).toInt / (a 87 3).toInt := Int.ediv_nonneg (by omega) (by omega)
    have tm := (hv.2.2.2.1 ((a 130 m).toInt / (a 87 3).toInt).toNat (by omega)).1
    generalize (a 130 m).toInt / (a 87 3).toInt = v at *
    by_cases w2 : v < u
    · have z := ml_le (s := (a 87 3).toInt) w2 (by omega)
      exact Or.inr (by omega)
    · have z := ml_le (s := (a 87 3).toInt) (show u < v by omega) (by omega)
      exact Or.inl (by omega)
theorem Jr_go (h : qJr a q p t) (hp : p < q * (a 87 3).toInt + (a 92 q.toNat).toInt) (hf : 0 ≤ (zOb a p).toInt) (hn : rTo a t (a 128 (zOb a p).toNatClampNeg).toInt ≠ -1) : qJr (rM1 a (zOb a p).toNatClampNeg (rTo a t (a 128 (zOb a p).toNatClampNeg).toInt)) q (p + (a 128 (zOb a p).toNatClampNeg).toInt) (rTo a t (a 128 (zOb a p).toNatClampNeg).toInt) := by
  have j := Jr_to h hp hf hn
  have he : (Int32.ofInt (rTo a t (a 128 (zOb a p).toNatClampNeg).toInt * (a 87 3).toInt + (a 92 (rTo a t (a 128 (zOb a p).toNatClampNeg).toInt).toNat).toInt)).toInt = rTo a t (a 128 (zOb a p).toNatClampNeg).toInt * (a 87 3).toInt + (a 92 (rTo a t (a 128 (zOb a p).toNatClampNeg).toInt).toNat).toInt := by
    have s := h.1.2.2.1
    have tu := (h.1.2.2.2.1 (rTo a t (a 128 (zOb a p).toNatClampNeg).toInt).toNat (by omega)).1
    have m0 : 0 ≤ rTo a t (a 128 (zOb a p).toNatClampNeg).toInt * (a 87 3).toInt := Int.mul_nonneg j.2.2.2.2.1.1 (by omega)
    have m1 := ml_le j.2.2.2.2.1.2.1 (show 0 ≤ (a 87 3).toInt by omega)
    exact Int32.toInt_ofInt_of_le (by omega) (by omega)
  have fq := Jr_fq h hp hf hn he
  obtain ⟨hv, hr, hb, hg, hm, ht, hh⟩ := h
  obtain ⟨al, e2, dis, en, ⟨t0, t1, t2⟩, fit, sz1⟩ := j
  generalize hz : (zOb a p).toNatClampNeg = n at *
  generalize rTo a t (a 128 n).toInt = u at *
  have s := hv.2.2.1
  have tu := (hv.2.2.2.1 u.toNat (by omega)).1
  have I := I_mo hv.1 al fq.2.2.1 fq.2.2.2 fq.1 (by rw [hv.2.1]; rfl)
  have r7 : ∀ k, rM1 a n u 87 k = a 87 k := fun k => M1_r (by decide) (by decide) (by decide)
  have r28 : ∀ k, rM1 a n u 128 k = a 128 k := fun k => M1_r (by decide) (by decide) (by decide)
  have r33 : ∀ k, rM1 a n u 133 k = a 133 k := fun k => M1_r (by decide) (by decide) (by decide)
  have pn : (rM1 a n u 130 n).toInt = u * (a 87 3).toInt + (a 92 u.toNat).toInt := by
    unfold rM1
    rw [xu_o (by omega), Mo_pn, he]
  have po : ∀ m, m ≠ n → rM1 a n u 130 m = a 130 m := fun m w => by
    unfold rM1
    rw [xu_o (by omega), Mo_po w]
  have tun : (rM1 a n u 92 u.toNat).toInt = (a 92 u.toNat).toInt + (a 128 n).toInt := by
    unfold rM1
    rw [xu_s]
    exact i_add (by omega) (by omega)
  have tuo : ∀ k, k ≠ u.toNat → rM1 a n u 92 k = a 92 k := fun k w => by
    unfold rM1
    rw [xu_o (fun z => w z.2), Mo_r (by decide) (by decide)]
  have dn : (rM1 a n u 130 n).toInt / (a 87 3).toInt = u := by
    rw [pn]
    exact dv_e (by omega) (by omega) (by omega)
  have ut : ∀ k : Nat, (k : Int) = u → k = u.toNat := fun k w => by omega
  have un0 : ((u.toNat : Nat) : Int) = u := by omega
  have qn : q.toNat ≠ u.toNat := by omega
  refine ⟨⟨?_, ?_, ⟨?_, ?_, ?_, ?_, ?_, ?_⟩, fun k hk => ?_, fun m hm2 => ?_⟩, ⟨hr.1, by rw [r7]; exact hr.2⟩, ⟨by rw [r7]; omega, by rw [r7, tuo _ qn]; exact en⟩, fun m hm2 w => ?_, fun m hm2 w => ?_, Or.inr ⟨t0, by rw [r7]; exact t1, t2⟩, fun m hm2 w => ?_⟩
  · unfold rM1
    exact I_cg I (un (by decide)) (un (by decide)) (un (by decide)) (un (by decide)) (un (by decide)) (un (by decide)) (fun j => un (by omega))
  · rw [r7]
    exact hv.2.1
  · rw [r7]
    exact s.1
  · rw [r7]
    exact s.2.1
  · rw [r7, r7]
    exact s.2.2.1
  · rw [r7]
    exact s.2.2.2.1
  · rw [r7, r7, r7]
    exact s.2.2.2.2.1
  · rw [r7]
    exact s.2.2.2.2.2
  · have g := hv.2.2.2.1 k hk
    rw [r7, r7]
    by_cases w : k = u.toNat
    · rw [w, tun]
      exact ⟨by omega, fun z => by omega⟩
    · rw [tuo k w]
      exact g
  · have hm₉ := M1_al.1 hm2
    rw [r7, r7, r28]
    by_cases w : m = n
    · rw [w, dn, tun, pn]
      exact ⟨t1, by omega⟩
    · have g := hv.2.2.2.2 m hm₉
      rw [po m w]
      refine ⟨g.1, ?_⟩
      by_cases z : ((a 130 m).toInt / (a 87 3).toInt).toNat = u.toNat
      · rw [z, tun]
        rw [z] at g
        omega
      · rw [tuo _ z]
        exact g.2
  · have hm₉ := M1_al.1 hm2
    rw [r28] at w
    by_cases z : m = n
    · rw [z, pn] at w
      have sep : u * (a 87 3).toInt + (a 87 3).toInt ≤ q * (a 87 3).toInt ∨ q * (a 87 3).toInt + (a 87 3).toInt ≤ u * (a 87 3).toInt := by
        by_cases w2 : u < q
        · exact Or.inl (ml_le w2 (by omega))
        · exact Or.inr (ml_le (by omega) (by omega))
      have tq := (hv.2.2.2.1 q.toNat (by omega)).1
      omega
    · rw [po m z] at w
      have d := dis m hm₉ z
      omega
  · have hm₉ := M1_al.1 hm2
    rw [r7] at w
    by_cases z : m = n
    · rw [z, dn] at w
      exact absurd w t2
    · rw [po m z] at w ⊢
      have g := hm m hm₉ w
      have d := dis m hm₉ z
      have im := (hv.1.1 m hm₉).2.1.1
      omega
  · have hm₉ := M1_al.1 hm2
    rw [r33] at w
    rw [r7]
    by_cases z : m = n
    · rw [z, dn]
      exact t2
    · rw [po m z]
      exact hh m hm₉ w
theorem Jr_end (h : qJr a q p t) (hp : ¬ p < q * (a 87 3).toInt + (a 92 q.toNat).toInt) : qRv (ma_u a 92 q.toNat 0) := by
  obtain ⟨hv, hr, hb, hg, hm, ht, hh⟩ := h
  have r : ∀ c, c ≠ 92 → ma_u a 92 q.toNat 0 c = a c := fun c hc => ma_u_ne _ _ _ hc
  have s := hv.2.2.1
  refine ⟨I_cg hv.1 (un (by decide)) (un (by decide)) (un (by decide)) (un (by decide)) (un (by decide)) (un (by decide)) (fun j => un (by omega)), by rw [r 87 (by decide)]; exact hv.2.1, by rw [r 87 (by decide)]; exact s, fun k hk => ?_, fun n hn => ?_⟩
  · rw [r 87 (by decide)]
    by_cases w : k = q.toNat
    · rw [w, xu_s]
      exact ⟨⟨by decide, by have : (0 : Int32).toInt = 0 := rfl; omega⟩, fun _ => rfl⟩
    · rw [xu_o (fun z => w z.2)]
      exact hv.2.2.2.1 k hk
  · unfold xAl at hn
    rw [r 126 (by decide)] at hn
    have g := hv.2.2.2.2 n hn
    rw [r 87 (by decide), r 130 (by decide), r 128 (by decide)]
    refine ⟨g.1, ?_⟩
    have dn : 0 ≤ (a 130 n).toInt / (a 87 3).toInt := Int.ediv_nonneg (hv.1.1 n hn).1.2 (by omega)
    by_cases w : (a 130 n).toInt / (a 87 3).toInt = q
    · have g2 := hm n hn w
      rw [w] at g
      have := (hv.1.1 n hn).2.1.1
      omega
    · rw [xu_o (fun z => w (by omega))]
      exact g.2
end F12

/-! from 95.s11 -/
/-! REGIONS, the class (written by wip/tools/gen15z.py) -/
/-! REGIONS: the class -/
def zfZ (I : Nat → Nat → Int32) (k : Nat) : Int32 := if k = 0 then I 91 3 * I 91 2 else if k = 3 then I 91 2 else if k = 4 then I 91 3 else if k = 5 then I 91 4 else if k = 9 then I 91 5 else 0
def aZ (S : ma_S) : Nat → Nat → Int32 := fun c k => if c = 92 ∨ c = 93 then mI S c k else aM (zfZ (mI S)) S c k
section F13
variable {a b ab : Nat → Nat → Int32} {S S₉ : ma_S} {R : Nat → Option Nat} {x y i : Int32} {c k n : Nat} {F : Nat → Int32} {L : Int64} {l l2 : Nat → Int}
theorem aZ_o (h : c ≠ 87) (h2 : c ≠ 92) (h3 : c ≠ 93) : aZ S c k = aS 75 S c k := (if_neg (by omega)).trans (aM_o h)
theorem aZ_7 : aZ S 87 k = zfZ (mI S) k := (if_neg (by decide)).trans aM_7
theorem aZ_9 (h : c = 92 ∨ c = 93) : aZ S c k = mI S c k := if_pos h
theorem Z_of (h : ∀ c k, c ≠ 87 → c ≠ 92 → c ≠ 93 → aS 75 S₉ c k = b c k) (h7 : ∀ k, b 87 k = zfZ (mI S₉) k) (h9 : ∀ c k, c = 92 ∨ c = 93 → b c k = mI S₉ c k) : aZ S₉ = b := by
  funext c k
  by_cases w : c = 87
  · rw [w, aZ_7, h7]
  · by_cases w2 : c = 92 ∨ c = 93
    · rw [aZ_9 w2, h9 c k w2]
    · rw [aZ_o w (by omega) (by omega)]
      exact h c k w (by omega) (by omega)
theorem Z_g {f : (Nat → Nat → Int32) → Nat → Nat → Int32} (h : ∀ c k, c ≠ 87 → c ≠ 92 → c ≠ 93 → aS 75 S₉ c k = f (aZ S) c k) (h7 : ∀ k, f (aZ S) 87 k = aZ S 87 k) (h9 : ∀ c k, c = 92 ∨ c = 93 → f (aZ S) c k = aZ S c k) (e1 : mI S₉ 91 = mI S 91) (e2 : mI S₉ 92 = mI S 92) (e3 : mI S₉ 93 = mI S 93) : aZ S₉ = f (aZ S) := by
  refine Z_of h (fun k => ?_) (fun c k hc => ?_)
  · rw [h7, aZ_7]
    unfold zfZ
    rw [e1]
  · rw [h9 c k hc, aZ_9 hc]
    rcases hc with w | w
    · rw [w, e2]
    · rw [w, e3]
theorem Z_p9 (hR : xB S R) (hc : c = 92 ∨ c = 93) : aZ (ma_put S c n (.inl x)) = ma_u (aZ S) c n x := by
  have e := (xC_n (W := 75) (c := c) (k := n) (x := x) (xC_o hR) (by rcases hc with w | w <;> rw [w] <;> exact ⟨by decide, Or.inl ⟨rfl, by first | rfl | (cases n <;> rfl)⟩⟩)).1
  refine Z_of (fun c₉ k w w2 w3 => ?_) (fun k => ?_) (fun c₉ k hc₉ => ?_)
  · rw [e, xu_o (fun z => by omega), aZ_o w w2 w3]
  · rw [xu_o (fun z => by omega), aZ_7]
    unfold zfZ
    have r : ∀ j, mI (ma_put S c n (.inl x)) 91 j = mI S 91 j := fun j => if_neg (fun z => by omega)
    simp only [r]
  · show (if c₉ = c ∧ k = n then x else aZ S c₉ k) = (if c₉ = c ∧ k = n then x else mI S c₉ k)
    rw [aZ_9 hc₉]
theorem Z_p5 (hR : xB S R) : aZ (ma_put S 91 5 (.inl x)) = ma_u (aZ S) 87 9 x := by
  have e := (xC_n (W := 75) (c := 91) (k := 5) (x := x) (xC_o hR) ⟨by decide, Or.inl ⟨rfl, rfl⟩⟩).1
  refine Z_of (fun c₉ k₉ w w2 w3 => ?_) (fun k₉ => ?_) (fun c₉ k₉ hc₉ => ?_)
  · rw [e, xu_o (fun z => by omega), aZ_o w w2 w3]
  · by_cases z : k₉ = 9
    · rw [z, xu_s]
      rfl
    · rw [xu_o (fun q => z q.2), aZ_7]
      unfold zfZ
      rw [if_neg z, if_neg z]
      rfl
  · rw [xu_o (fun z => by omega), aZ_9 hc₉]
    exact (if_neg (fun z => by omega)).symm
theorem Z_p6 (hR : xB S R) : aZ (ma_put S 91 6 (.inl x)) = aZ S := by
  have e := (xC_n (W := 75) (c := 91) (k := 6) (x := x) (xC_o hR) ⟨by decide, Or.inl ⟨rfl, rfl⟩⟩).1
  refine Z_of (fun c₉ k₉ w w2 w3 => ?_) (fun k₉ => ?_) (fun c₉ k₉ hc₉ => ?_)
  · rw [e, aZ_o w w2 w3]
  · rw [aZ_7]
    rfl
  · rw [aZ_9 hc₉]
    exact (if_neg (fun z => by omega)).symm
theorem zb_e : zOb (aZ S) = zOb (aS 75 S) := by
  funext p
  unfold zOb
  rw [aZ_o (c := 71) (by decide) (by decide) (by decide), aZ_o (c := 126) (by decide) (by decide) (by decide)]
/-! the fold of the fewest -/
theorem Fg_s : rFg l (n + 1) = if 0 < l n ∧ (rFg l n = -1 ∨ l n < l (rFg l n).toNat) then (n : Int) else rFg l n := rfl
theorem Fg_b : ∀ n, -1 ≤ rFg l n ∧ rFg l n < (n : Int) ∧ (rFg l n ≠ -1 → 0 < l (rFg l n).toNat) := by
  intro n
  induction n with
  | zero => exact ⟨by show (-1 : Int) ≤ -1; decide, by show (-1 : Int) < 0; decide, fun z => absurd rfl z⟩
  | succ n ih =>
    rw [Fg_s]
    split
    · next w => exact ⟨by omega, by omega, fun _ => by rw [Int.toNat_natCast]; exact w.1⟩
    · exact ⟨ih.1, by omega, ih.2.2⟩
theorem Kf_s {r : Int} : rKf a r (n + 1) = rKf a r n + (if a 126 n ≠ 0 ∧ (a 130 n).toInt / (a 87 3).toInt = r then (a 128 n).toInt else 0) := rfl
/-- beyond those given nobody is there -/
theorem Kf_g {r : Int} (hI : qI a) : ∀ n m : Nat, (a 69 6).toInt ≤ (n : Int) → n ≤ m → m ≤ 512 → rKf a r m = rKf a r n := by
  intro n m hn hm h5
  induction m with
  | zero =>
    rw [show n = 0 by omega]
  | succ m ih =>
    by_cases w : n = m + 1
    · rw [w]
    · rw [Kf_s, ih (by omega) (by omega), if_neg (fun z => ?_), Int.add_zero]
      have q := (hI.1 m ⟨by omega, z.1⟩).1.1
      omega
/-! rows that are counted -/
theorem Sk_0 (h : ∀ k, k < 93 → b 93 k = 0) (h2 : ∀ c k, ¬ (c = 93 ∧ k < 93) → b c k = a c k) : b = rSk a 0 := by
  funext c k
  unfold rSk
  by_cases w : c = 93 ∧ k < 93
  · rw [if_pos w, w.1, h k w.2]
    rfl
  · rw [if_neg w, h2 c k w]
theorem Kf_b {r : Int} (hI : qI a) : ∀ n, n ≤ 512 → 0 ≤ rKf a r n ∧ rKf a r n ≤ 61 * (n : Int) := by
  intro n
  induction n with
  | zero => intro _; exact ⟨by show (0 : Int) ≤ 0; decide, by show (0 : Int) ≤ 61 * 0; decide⟩
  | succ n ih =>
    intro hn
    have q := ih (by omega)
    rw [Kf_s]
    split
    · next w =>
      have i := (hI.1 n ⟨by omega, w.1⟩).2.1
      omega
    · omega
theorem Sk_n (h : a 126 n = 0) : rSk a (n + 1) = rSk a n := by
  funext c k
  have e : rKf a (k : Int) (n + 1) = rKf a (k : Int) n := by
    rw [Kf_s, if_neg (c := a 126 n ≠ 0 ∧ _) (fun w => w.1 h), Int.add_zero]
  unfold rSk
  rw [e]
theorem Sk_y {r : Int} (hI : qI a) (hn : n < 512) (h : a 126 n ≠ 0) (hr : (a 130 n).toInt / (a 87 3).toInt = r) (h0 : 0 ≤ r) (h9 : r < 93) : ma_u (rSk a n) 93 r.toNat (rSk a n 93 r.toNat + a 128 n) = rSk a (n + 1) := by
  have e0 : ((r.toNat : Nat) : Int) = r := by omega
  have b := Kf_b (r := r) hI n (by omega)
  have i := (hI.1 n ⟨hn, h⟩).2.1
  funext c k
  show (if c = 93 ∧ k = r.toNat then _ else rSk a n c k) = rSk a (n + 1) c k
  unfold rSk
  by_cases w : c = 93 ∧ k = r.toNat
  · rw [if_pos w, if_pos ⟨rfl, by omega⟩, if_pos ⟨w.1, by omega⟩, w.2, e0, Kf_s, if_pos ⟨h, hr⟩]
    apply Int32.toInt_inj.mp
    have e1 : (Int32.ofInt (rKf a r n)).toInt = rKf a r n := Int32.toInt_ofInt_of_le (by omega) (by omega)
    rw [i_add (by rw [e1]; omega) (by rw [e1]; omega), e1, Int32.toInt_ofInt_of_le (by omega) (by omega)]
  · rw [if_neg w]
    by_cases z : c = 93 ∧ k < 93
    · rw [if_pos z, if_pos z, Kf_s, if_neg (fun q => w ⟨z.1, by omega⟩), Int.add_zero]
    · rw [if_neg z, if_neg z]
theorem Sk_g (hI : qI a) (h : (a 69 6).toInt ≤ (n : Int)) (hn : n ≤ 512) : rSk a n = rSk a 512 := by
  funext c k
  unfold rSk
  rw [Kf_g hI n 512 h hn (by omega)]
theorem Em_s (h : (a 93 n).toInt = 0) : ma_u (rEm a n) 92 n 0 = rEm a (n + 1) := by
  funext c k
  show (if c = 92 ∧ k = n then 0 else rEm a n c k) = rEm a (n + 1) c k
  unfold rEm
  by_cases w : c = 92 ∧ k = n
  · rw [if_pos w, if_pos ⟨w.1, by omega, by rw [w.2]; exact h⟩]
  · rw [if_neg w]
    by_cases z : c = 92 ∧ k < n ∧ (a 93 k).toInt = 0
    · rw [if_pos z, if_pos ⟨z.1, by omega, z.2.2⟩]
    · rw [if_neg z, if_neg (fun q => z ⟨q.1, by have := q.2.1; omega, q.2.2⟩)]
theorem Em_n (h : (a 93 n).toInt ≠ 0) : rEm a (n + 1) = rEm a n := by
  funext c k
  unfold rEm
  by_cases z : c = 92 ∧ k < n ∧ (a 93 k).toInt = 0
  · rw [if_pos z, if_pos ⟨z.1, by omega, z.2.2⟩]
  · rw [if_neg z, if_neg (fun q => ?_)]
    by_cases w : k = n
    · rw [w] at q
      exact h q.2.2
    · exact z ⟨q.1, by have := q.2.1; omega, q.2.2⟩
theorem Em_0 : rEm a 0 = a := by
  funext c k
  unfold rEm
  exact if_neg (fun w => by omega)
def rCc (a : Nat → Nat → Int32) (n : Nat) : Prop := (n : Int) = (a 87 9).toInt ∨ (a 87 5).toInt * (a 87 3).toInt < (a 93 n).toInt * 100
theorem Ca_0 : rCa a 0 = a := by
  funext c k
  unfold rCa
  exact if_neg (fun w => by omega)
theorem Ca_s (h : rCc a n) : ma_u (rCa a n) 93 n 0 = rCa a (n + 1) := by
  funext c k
  show (if c = 93 ∧ k = n then 0 else rCa a n c k) = rCa a (n + 1) c k
  unfold rCa
  by_cases w : c = 93 ∧ k = n
  · rw [if_pos w, if_pos ⟨w.1, by omega, by rw [w.2]; exact h⟩]
  · rw [if_neg w]
    by_cases z : c = 93 ∧ k < n ∧ ((k : Int) = (a 87 9).toInt ∨ (a 87 5).toInt * (a 87 3).toInt < (a 93 k).toInt * 100)
    · rw [if_pos z, if_pos ⟨z.1, by omega, z.2.2⟩]
    · rw [if_neg z, if_neg (fun q => z ⟨q.1, by have := q.2.1; omega, q.2.2⟩)]
theorem Ca_n (h : ¬ rCc a n) : rCa a (n + 1) = rCa a n := by
  funext c k
  unfold rCa
  by_cases z : c = 93 ∧ k < n ∧ ((k : Int) = (a 87 9).toInt ∨ (a 87 5).toInt * (a 87 3).toInt < (a 93 k).toInt * 100)
  · rw [if_pos z, if_pos ⟨z.1, by omega, z.2.2⟩]
  · rw [if_neg z, if_neg (fun q => ?_)]
    by_cases w : k = n
    · rw [w] at q
      exact h q.2.2
    · exact z ⟨q.1, by have := q.2.1; omega, q.2.2⟩
theorem Cb_o (h : c ≠ 93) : ∀ n, rCb a n c k = a c k
  | 0 => rfl
  | n + 1 => by
    show (if _ then ma_u (rCb a n) 93 _ 0 else rCb a n) c k = _
    split
    · rw [xu_o (fun w => h w.1), Cb_o h n]
    · exact Cb_o h n
/-! the class's loops -/
theorem rg_ix {p s : Int32} (h0 : 0 ≤ p.toInt) (hs : 1 ≤ s.toInt) (h : p.toInt / s.toInt < 93) : (if (92 : Int32) < p / s then (92 : Int32) else p / s).toNatClampNeg = (p.toInt / s.toInt).toNat := by
  have e := (i_div h0 hs).2.2.1
  have l : (92 : Int32).toInt = 92 := rfl
  rw [if_neg (fun w => by have w2 := Int32.lt_iff_toInt_lt.mp w; omega)]
  show (p / s).toInt.toNat = _
  rw [e]
theorem Sk_r (h : aZ S = rSk ab n) (h2 : c ≠ 87) (h3 : c ≠ 92) (h4 : c ≠ 93) : aS 75 S c k = ab c k := by
  rw [← aZ_o h2 h3 h4, h]
  unfold rSk
  exact if_neg (fun w => h4 w.1)
theorem Sk_no (h : aZ S = rSk ab x.toNatClampNeg) (hC : xB S R) (rn : zTa R x = none) (h0 : 0 ≤ x.toInt) (h5 : x.toInt < 512) (hx : y.toInt = x.toInt + 1) : aZ S = rSk ab y.toNatClampNeg := by
  have t := tn_cast h0
  have t2 := tn_cast (x := y) (by omega)
  have z : ab 126 x.toNatClampNeg = 0 := by
    by_cases w : ab 126 x.toNatClampNeg = 0
    · exact w
    · exact absurd ⟨h0, h5, by rw [Sk_r h (by decide) (by decide) (by decide)]; exact w⟩ (xB_nt (W := 75) hC rn)
  rw [show y.toNatClampNeg = x.toNatClampNeg + 1 from by omega, Sk_n z]
  exact h
theorem Sk_go (h : aZ S = rSk ab x.toNatClampNeg) (hv : qRv ab) (hC : xB S R) (rg : zTa R x = some c) (hx : y.toInt = x.toInt + 1) : ma_u (aZ S) 93 (if (92 : Int32) < mI S c 4 / mI S 91 2 then (92 : Int32) else mI S c 4 / mI S 91 2).toNatClampNeg (mI S 93 (if (92 : Int32) < mI S c 4 / mI S 91 2 then (92 : Int32) else mI S c 4 / mI S 91 2).toNatClampNeg + mI S c 2) = rSk ab y.toNatClampNeg := by
  have ty := xB_th (W := 75) hC rg
  have t := tn_cast ty.1
  have t2 := tn_cast (x := y) (by omega)
  have e2 := ty.2.2.2.2.1
  have e4 := ty.2.2.2.2.2.1
  rw [Sk_r h (by decide) (by decide) (by decide)] at e2 e4
  have es : mI S 91 2 = ab 87 3 := by
    have g : aZ S 87 3 = ab 87 3 := by
      rw [h]
      unfold rSk
      exact if_neg (by decide)
    exact g
  have al : ab 126 x.toNatClampNeg ≠ 0 := by
    rw [← Sk_r h (by decide) (by decide) (by decide), ty.2.2.2.2.2.2.2.2]
    decide
  have n5 : x.toNatClampNeg < 512 := by
    have := ty.2.1
    omega
  have g := hv.2.2.2.2 _ ⟨n5, al⟩
  have s := hv.2.2.1
  have i := hv.1.1 _ ⟨n5, al⟩
  rw [rg_ix (by rw [e4]; exact i.1.2) (by rw [es]; omega) (by rw [e4, es]; omega), ← aZ_9 (S := S) (Or.inr rfl), h, e4, es, e2, show y.toNatClampNeg = x.toNatClampNeg + 1 from by omega]
  exact Sk_y hv.1 n5 al rfl (Int.ediv_nonneg i.1.2 (by omega)) (by omega)
theorem Em_go (h : aZ S = rEm ab x.toNatClampNeg) (h0 : 0 ≤ x.toInt) (hz : (mI S 93 x.toNatClampNeg).toInt = 0) (hx : y.toInt = x.toInt + 1) : ma_u (aZ S) 92 x.toNatClampNeg 0 = rEm ab y.toNatClampNeg := by
  have t := tn_cast h0
  have t2 := tn_cast (x := y) (by omega)
  have e : mI S 93 x.toNatClampNeg = ab 93 x.toNatClampNeg := by
    rw [← aZ_9 (S := S) (Or.inr rfl), h]
    exact if_neg (fun w => absurd w.1 (by decide))
  rw [h, show y.toNatClampNeg = x.toNatClampNeg + 1 from by omega]
  exact Em_s (by rw [← e]; exact hz)
theorem Em_no (h : aZ S = rEm ab x.toNatClampNeg) (h0 : 0 ≤ x.toInt) (hz : (mI S 93 x.toNatClampNeg).toInt ≠ 0) (hx : y.toInt = x.toInt + 1) : aZ S = rEm ab y.toNatClampNeg := by
  have t := tn_cast h0
  have t2 := tn_cast (x := y) (by omega)
  have e : mI S 93 x.toNatClampNeg = ab 93 x.toNatClampNeg := by
    rw [← aZ_9 (S := S) (Or.inr rfl), h]
    exact if_neg (fun w => absurd w.1 (by decide))
  rw [show y.toNatClampNeg = x.toNatClampNeg + 1 from by omega, Em_n (by rw [← e]; exact hz)]
  exact h
theorem Fw_s {v w : Int32} (h : v.toInt = rFg (fun k => (aZ S 93 k).toInt) x.toNatClampNeg) (h0 : 0 ≤ x.toInt) (hx : y.toInt = x.toInt + 1) (hw : (0 < (mI S 93 x.toNatClampNeg).toInt ∧ (v.toInt = -1 ∨ (mI S 93 x.toNatClampNeg).toInt < (mI S 93 v.toNatClampNeg).toInt) ∧ w = x) ∨ (¬ (0 < (mI S 93 x.toNatClampNeg).toInt ∧ (v.toInt = -1 ∨ (mI S 93 x.toNatClampNeg).toInt < (mI S 93 v.toNatClampNeg).toInt)) ∧ w = v)) : w.toInt = rFg (fun k => (aZ S 93 k).toInt) y.toNatClampNeg := by
  have t := tn_cast h0
  have t2 := tn_cast (x := y) (by omega)
  have vn : v.toNatClampNeg = v.toInt.toNat := rfl
  rw [show y.toNatClampNeg = x.toNatClampNeg + 1 from by omega, Fg_s, ← h, aZ_9 (Or.inr rfl), aZ_9 (Or.inr rfl), ← vn]
  rcases hw with ⟨w1, w2, w3⟩ | ⟨w1, w2⟩
  · rw [if_pos ⟨w1, w2⟩, w3]
    omega
  · rw [if_neg w1, w2]
/-! choosing -/
def qLb (a : Nat → Nat → Int32) : Prop := ∀ k, k < 93 → 0 ≤ (a 93 k).toInt ∧ (a 93 k).toInt ≤ 31232
theorem Lb_sk (hI : qI a) : qLb (rSk a 512) := fun k hk => by
  have b := Kf_b (r := (k : Int)) hI 512 (by omega)
  unfold rSk
  rw [if_pos ⟨rfl, hk⟩, Int32.toInt_ofInt_of_le (by omega) (by omega)]
  omega
theorem Lb_em (h : qLb a) : qLb (rEm a n) := fun k hk => by
  unfold rEm
  rw [if_neg (fun w => absurd w.1 (by decide))]
  exact h k hk
theorem Ca_r (h : aZ S = rCa ab n) (hk : n ≤ k) : mI S 93 k = ab 93 k := by
  rw [← aZ_9 (S := S) (Or.inr rfl), h]
  exact if_neg (fun w => by omega)
theorem Ca_7 (h : aZ S = rCa ab n) : aZ S 87 k = ab 87 k := by
  rw [h]
  exact if_neg (fun w => absurd w.1 (by decide))
theorem Ca_go (h : aZ S = rCa ab x.toNatClampNeg) (hb : qLb ab) (h0 : 0 ≤ x.toInt) (h9 : x.toInt < 93) (hs : 0 ≤ (mI S 91 4).toInt ∧ (mI S 91 4).toInt ≤ 100) (hs2 : 0 ≤ (mI S 91 2).toInt ∧ (mI S 91 2).toInt ≤ 1500) (hc : x.toInt = (mI S 91 5).toInt ∨ (mI S 91 4 * mI S 91 2).toInt < (mI S 93 x.toNatClampNeg * 100).toInt) (hx : y.toInt = x.toInt + 1) : ma_u (aZ S) 93 x.toNatClampNeg 0 = rCa ab y.toNatClampNeg := by
  have t := tn_cast h0
  have t2 := tn_cast (x := y) (by omega)
  have e := Ca_r h (k := x.toNatClampNeg) (Nat.le_refl _)
  have b := hb x.toNatClampNeg (by omega)
  rw [← e] at b
  have e9 : ab 87 9 = mI S 91 5 := (Ca_7 h).symm
  have e5 : ab 87 5 = mI S 91 4 := (Ca_7 h).symm
  have e3 : ab 87 3 = mI S 91 2 := (Ca_7 h).symm
  have m1 := (i_muln (x := mI S 91 4) (y := mI S 91 2) (by omega) (by omega) (by omega) (by omega)).2.2
  have m2 : (mI S 93 x.toNatClampNeg * 100).toInt = (mI S 93 x.toNatClampNeg).toInt * 100 := i_mulk rfl (by omega) (by omega)
  rw [h, show y.toNatClampNeg = x.toNatClampNeg + 1 from by omega]
  refine Ca_s ?_
  unfold rCc
  rw [e9, e5, e3, ← e, ← m1, ← m2]
  rcases hc with w | w
  · exact Or.inl (by omega)
  · exact Or.inr w
theorem Ca_no (h : aZ S = rCa ab x.toNatClampNeg) (hb : qLb ab) (h0 : 0 ≤ x.toInt) (h9 : x.toInt < 93) (hs : 0 ≤ (mI S 91 4).toInt ∧ (mI S 91 4).toInt ≤ 100) (hs2 : 0 ≤ (mI S 91 2).toInt ∧ (mI S 91 2).toInt ≤ 1500) (hc : ¬ (x.toInt = (mI S 91 5).toInt ∨ (mI S 91 4 * mI S 91 2).toInt < (mI S 93 x.toNatClampNeg * 100).toInt)) (hx : y.toInt = x.toInt + 1) : aZ S = rCa ab y.toNatClampNeg := by
  have t := tn_cast h0
  have t2 := tn_cast (x := y) (by omega)
  have e := Ca_r h (k := x.toNatClampNeg) (Nat.le_refl _)
  have b := hb x.toNatClampNeg (by omega)
  rw [← e] at b
  have e9 : ab 87 9 = mI S 91 5 := (Ca_7 h).symm
  have e5 : ab 87 5 = mI S 91 4 := (Ca_7 h).symm
  have e3 : ab 87 3 = mI S 91 2 := (Ca_7 h).symm
  have m1 := (i_muln (x := mI S 91 4) (y := mI S 91 2) (by omega) (by omega) (by omega) (by omega)).2.2
  have m2 : (mI S 93 x.toNatClampNeg * 100).toInt = (mI S 93 x.toNatClampNeg).toInt * 100 := i_mulk rfl (by omega) (by omega)
  rw [show y.toNatClampNeg = x.toNatClampNeg + 1 from by omega, Ca_n ?_]
  · exact h
  · unfold rCc
    rw [e9, e5, e3, ← e, ← m1, ← m2]
    rintro (w | w)
    · exact hc (Or.inl (by omega))
    · exact hc (Or.inr w)
theorem Cb_r (h : aZ S = rCb ab n) (h2 : c ≠ 87) (h3 : c ≠ 92) (h4 : c ≠ 93) : aS 75 S c k = ab c k := by
  rw [← aZ_o h2 h3 h4, h]
  exact Cb_o h4 _
theorem Cb_y (h : a 126 n ≠ 0 ∧ 0 < (a 133 n).toInt) : rCb a (n + 1) = ma_u (rCb a n) 93 ((a 130 n).toInt / (a 87 3).toInt).toNat 0 := if_pos h
theorem Cb_n (h : ¬ (a 126 n ≠ 0 ∧ 0 < (a 133 n).toInt)) : rCb a (n + 1) = rCb a n := if_neg h
theorem Cb_go (h : aZ S = rCb ab x.toNatClampNeg) (hv : ∀ n, xAl ab n → (ab 130 n).toInt / (ab 87 3).toInt < 93) (hI : qI ab) (hs : 1 ≤ (ab 87 3).toInt) (hC : xB S R) (rg : zTa R x = some c) (hh : 0 < (mI S c 7).toInt) (hx : y.toInt = x.toInt + 1) : ma_u (aZ S) 93 (if (92 : Int32) < mI S c 4 / mI S 91 2 then (92 : Int32) else mI S c 4 / mI S 91 2).toNatClampNeg 0 = rCb ab y.toNatClampNeg := by
  have ty := xB_th (W := 75) hC rg
  have t := tn_cast ty.1
  have t2 := tn_cast (x := y) (by omega)
  have e4 := ty.2.2.2.2.2.1
  have e7 := ty.2.2.2.2.2.2.1
  rw [Cb_r h (by decide) (by decide) (by decide)] at e4 e7
  have es : mI S 91 2 = ab 87 3 := by
    have g : aZ S 87 3 = ab 87 3 := by
      rw [h]
      exact Cb_o (by decide) _
    exact g
  have al : ab 126 x.toNatClampNeg ≠ 0 := by
    rw [← Cb_r h (by decide) (by decide) (by decide), ty.2.2.2.2.2.2.2.2]
    decide
  have n5 : x.toNatClampNeg < 512 := by
    have := ty.2.1
    omega
  have i := hI.1 _ ⟨n5, al⟩
  rw [rg_ix (by rw [e4]; exact i.1.2) (by rw [es]; exact hs) (by rw [e4, es]; exact hv _ ⟨n5, al⟩), h, e4, es, show y.toNatClampNeg = x.toNatClampNeg + 1 from by omega, Cb_y ⟨al, by rw [← e7]; exact hh⟩]
theorem Cb_no (h : aZ S = rCb ab x.toNatClampNeg) (hC : xB S R) (rn : zTa R x = none) (h0 : 0 ≤ x.toInt) (h5 : x.toInt < 512) (hx : y.toInt = x.toInt + 1) : aZ S = rCb ab y.toNatClampNeg := by
  have t := tn_cast h0
  have t2 := tn_cast (x := y) (by omega)
  rw [show y.toNatClampNeg = x.toNatClampNeg + 1 from by omega, Cb_n (fun w => xB_nt (W := 75) hC rn ⟨h0, h5, by rw [Cb_r h (by decide) (by decide) (by decide)]; exact w.1⟩)]
  exact h
theorem Cb_n0 (h : aZ S = rCb ab x.toNatClampNeg) (hC : xB S R) (rg : zTa R x = some c) (hh : ¬ 0 < (mI S c 7).toInt) (hx : y.toInt = x.toInt + 1) : aZ S = rCb ab y.toNatClampNeg := by
  have ty := xB_th (W := 75) hC rg
  have t := tn_cast ty.1
  have t2 := tn_cast (x := y) (by omega)
  have e7 := ty.2.2.2.2.2.2.1
  rw [Cb_r h (by decide) (by decide) (by decide)] at e7
  rw [show y.toNatClampNeg = x.toNatClampNeg + 1 from by omega, Cb_n (fun w => hh (by rw [e7]; exact w.2))]
  exact h
theorem Cb_g (hI : qI a) : ∀ n m : Nat, (a 69 6).toInt ≤ (n : Int) → n ≤ m → m ≤ 512 → rCb a m = rCb a n := by
  intro n m hn hm h5
  induction m with
  | zero => rw [show n = 0 by omega]
  | succ m ih =>
    by_cases w : n = m + 1
    · rw [w]
    · rw [Cb_n (fun z => ?_), ih (by omega) (by omega)]
      have q := (hI.1 m ⟨by omega, z.1⟩).1.1
      omega
theorem Ca_o (h : c ≠ 93) : rCa a n c k = a c k := if_neg (fun w => h w.1)
theorem Ca_I (h : qI a) : qI (rCa a n) := I_cg h (funext (fun _ => Ca_o (by decide))) (funext (fun _ => Ca_o (by decide))) (funext (fun _ => Ca_o (by decide))) (funext (fun _ => Ca_o (by decide))) (funext (fun _ => Ca_o (by decide))) (funext (fun _ => Ca_o (by decide))) (fun j => funext (fun _ => Ca_o (by omega)))
theorem Ca_1 (h : 1 ≤ (a 87 3).toInt) : 1 ≤ (rCa a n 87 3).toInt := by
  rw [Ca_o (by decide)]
  exact h
theorem Ca_hv (h : (0 ≤ (a 87 5).toInt ∧ (a 87 5).toInt ≤ 100) ∧ (1 ≤ (a 87 3).toInt ∧ (a 87 3).toInt ≤ 256) ∧ (∀ n, xAl a n → (a 130 n).toInt / (a 87 3).toInt < 93) ∧ qI a) : ∀ m, xAl (rCa a n) m → (rCa a n 130 m).toInt / (rCa a n 87 3).toInt < 93 := fun m hm => by
  unfold xAl at hm
  rw [Ca_o (by decide)] at hm
  rw [Ca_o (by decide), Ca_o (by decide)]
  exact h.2.2.1 m hm
/-! one goes -/
def qMo (a : Nat → Nat → Int32) (q p t : Int) (y : Int32) : Prop := qJr a q p t ∧ p < q * (a 87 3).toInt + (a 92 q.toNat).toInt ∧ zOb a p = y ∧ 0 ≤ y.toInt
theorem Mo_z {to : Int32} (h : aS 75 S₉ = aMo (aS 75 S) n to) (e1 : mI S₉ 91 = mI S 91) (e2 : mI S₉ 92 = mI S 92) (e3 : mI S₉ 93 = mI S 93) : aZ S₉ = aMo (aZ S) n to := by
  refine Z_g (f := fun a => aMo a n to) (fun c k h1 h2 h3 => ?_) (fun k => Mo_r (by decide) (by decide)) (fun c k hc => Mo_r (by omega) (by omega)) e1 e2 e3
  rw [h]
  unfold aMo
  rw [aZ_o (c := 128) (by decide) (by decide) (by decide), aZ_o (c := 130) (by decide) (by decide) (by decide), aZ_o (c := 71) (by decide) (by decide) (by decide), aZ_o (c := 71) (by decide) (by decide) (by decide), aZ_o h1 h2 h3]
theorem Mq_to {q p t : Int} {to : Int32} (h : qMo a q p t y) (hn : rTo a t (a 128 y.toNatClampNeg).toInt ≠ -1) (he : to.toInt = rTo a t (a 128 y.toNatClampNeg).toInt * (a 87 3).toInt + (a 92 (rTo a t (a 128 y.toNatClampNeg).toInt).toNat).toInt) : qMv a y.toNatClampNeg to ∧ (0 ≤ rTo a t (a 128 y.toNatClampNeg).toInt ∧ rTo a t (a 128 y.toNatClampNeg).toInt < (a 87 4).toInt) := by
  obtain ⟨hJ, hp, rfl, h0⟩ := h
  exact ⟨(Jr_fq hJ hp h0 hn he).2.1, (Jr_to hJ hp h0 hn).2.2.2.2.1.1, (Jr_to hJ hp h0 hn).2.2.2.2.1.2.1⟩
theorem Mq_s {q p t : Int} (h : qMo a q p t y) : (16 ≤ (a 87 3).toInt ∧ (a 87 3).toInt ≤ 256) ∧ (a 87 4).toInt ≤ 93 ∧ (∀ r : Nat, r < 93 → 0 ≤ (a 92 r).toInt ∧ (a 92 r).toInt ≤ (a 87 3).toInt) ∧ 1 ≤ (a 128 y.toNatClampNeg).toInt ∧ (a 128 y.toNatClampNeg).toInt ≤ 61 ∧ (t = -1 ∨ (0 ≤ t ∧ t < (a 87 4).toInt)) := by
  obtain ⟨hJ, hp, rfl, h0⟩ := h
  obtain ⟨n, al, e1, e2, e3⟩ := OB_al hJ.1.1 hJ.2.2.2.1 h0
  have i := hJ.1.1.1 n al
  rw [e3]
  exact ⟨hJ.1.2.2.1.1, hJ.1.2.2.1.2.1.2, fun r hr => (hJ.1.2.2.2.1 r hr).1, i.2.1.1, i.2.1.2, hJ.2.2.2.2.2.1.imp id (fun z => ⟨z.1, z.2.1⟩)⟩
theorem To_t {t sz : Int} (h : 0 ≤ t ∧ t < 93 ∧ (a 92 t.toNat).toInt + sz ≤ (a 87 3).toInt) : rTo a t sz = t := if_pos h
theorem To_l {t sz : Int} (h : ¬ (0 ≤ t ∧ t < 93 ∧ (a 92 t.toNat).toInt + sz ≤ (a 87 3).toInt)) : rTo a t sz = rLe a := if_neg h
theorem M1_e {u : Int} {to : Int32} (he : to.toInt = u * (a 87 3).toInt + (a 92 u.toNat).toInt) : ma_u (aMo a n to) 92 u.toNat (a 92 u.toNat + a 128 n) = rM1 a n u := by
  unfold rM1
  rw [← he, Int32.ofInt_toInt]
theorem Mv_Z {to : Int32} (h : qMv (aZ S) n to) : qMv (aS 75 S) n to := by
  unfold qMv at h ⊢
  rw [aZ_o (c := 130) (by decide) (by decide) (by decide), aZ_o (c := 128) (by decide) (by decide) (by decide)] at h
  exact h
end F13

