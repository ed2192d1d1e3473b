/-! from 95.c25 -/
/-! the class behind (written by wip/tools/gen95c.py) -/
theorem g_161_64_p0_0 {X : Nat × (Nat → Int32)} {d w : Nat} {S : ma_S} {Q : Option ma_V ⊕ Nat → ma_S → Prop} (o : Int32) (wh : Int32) (hd : 7 ≤ d) (hw : 111 ≤ w) (hS : zT S) (h : if wh < 0 then (Q (.inr 2) (ma_bump S)) else (if wh ≤ (7 : Int32) then (mR S 64 11 = none ∧ (Q (.inr 3) (ma_bump S))) else (Q (.inr 2) (ma_bump S)))) : ma_wp X d w 161 0 [(0, .inr (.inr (some 64))), (1, .inl o), (2, .inl wh)] [] S Q := by
  refine zw_push hm_161 dX11_about_0 (v := .inl wh) rfl ?_
  refine zw_if0 hm_161 dX11_about_1 (t := 10) rfl zc0_lt ?_ ?_
  · intro hc
    rw [if_pos hc] at h
    exact zw_thr hm_161 dX11_about_10 dX11_about_13 dX11_about_14 dX11_about_17 x_11_79_81 n_11_79 (by omega) (by show 0 + 81 ≤ w; omega) h
  · intro hc
    rw [if_neg hc] at h
    refine zw_push hm_161 dX11_about_4 (v := .inl wh) rfl ?_
    refine zw_push hm_161 dX11_about_5 (v := .inl (7 : Int32)) rfl ?_
    refine zw_if2 hm_161 dX11_about_7 (t := 18) rfl zc2_le ?_ ?_
    · intro hc
      rw [if_pos hc] at h
      refine zw_push hm_161 dX11_about_18 (v := .inr (.inr (some 64))) rfl ?_
      refine zw_cv hm_161 dX11_about_19 v_11_119_11 hm_144 [] [] rfl (zT_rt hS s_64 rfl) ⟨by omega, by omega⟩ rfl ?_
      show ma_wp X (d - 1) (w - 20) 144 0 [(0, .inr (.inr (some 64)))] [] S _
      refine zw_push hm_144 dX11_needCollector_0 (v := .inr (.inr (some 64))) rfl ?_
      obtain ⟨hg, h⟩ := h
      refine zw_gf hm_144 dX11_needCollector_1 (v := .inr (.inr none)) (zT_is hS s_64) (zT_t hS s_64) rfl f_11_98_11 (congrArg (fun z => Sum.inr (Sum.inr z)) hg) ?_
      refine zw_ifnonnull hm_144 dX11_needCollector_4 (t := 15) rfl (fun _ => ?_) (fun _ z => by cases z)
      exact zw_thr hm_144 dX11_needCollector_7 dX11_needCollector_10 dX11_needCollector_11 dX11_needCollector_14 x_11_85_87 n_11_85 (by omega) (by show 0 + 81 ≤ (w - 20); omega) ⟨by decide, h⟩
    · intro hc
      rw [if_neg hc] at h
      exact zw_thr hm_161 dX11_about_10 dX11_about_13 dX11_about_14 dX11_about_17 x_11_79_81 n_11_79 (by omega) (by show 0 + 81 ≤ w; omega) h
theorem sp_161_64_p0 {X : Nat × (Nat → Int32)} {d w : Nat} {f : Nat → Nat → Int32} {r : Nat → Nat → Option Nat} {C Z N : Nat} {Q : Option ma_V ⊕ Nat → ma_S → Prop} {S : ma_S} (o : Int32) (wh : Int32) (hd : 7 ≤ d) (hw : 111 ≤ w) (hI : zB f r C Z N S) (hr : r 64 11 = none)  (K : ∀ v S₉, zB f r C Z N S₉ → (True) → Q (.inl (some (.inl v))) S₉) (KX : ∀ x S₉, (x = 2 ∨ x = 3 ∨ x = 4) → zB f r C Z N S₉ → Q (.inr x) (ma_bump S₉)) : ma_wp X d w 161 0 [(0, .inr (.inr (some 64))), (1, .inl o), (2, .inl wh)] [] S Q := by
  refine g_161_64_p0_0 o wh (by omega) (by omega) (zG_T hI) ?_
  have b1 := i_bd wh
  have li2 : (0 : Int32).toInt = 0 := rfl
  refine zd (fun h3 => ?_) (fun h3 => ?_)
  · skip
    have g4 := i_lt h3
    exact KX 2 _ (by decide) hI
  · skip
    have g5 := i_nlt h3
    have li6 : (7 : Int32).toInt = 7 := rfl
    refine zd (fun h7 => ?_) (fun h7 => ?_)
    · skip
      have g8 := i_le h7
      refine ⟨((zG_r hI (by decide)).trans hr), ?_⟩
      exact KX 3 _ (by decide) hI
    · skip
      have g9 := i_nle h7
      exact KX 2 _ (by decide) hI
theorem g_163_64_p0_0 {X : Nat × (Nat → Int32)} {d w : Nat} {S : ma_S} {Q : Option ma_V ⊕ Nat → ma_S → Prop} (wh : Int32) (hd : 7 ≤ d) (hw : 109 ≤ w) (hS : zT S) (h : if wh < 0 then (Q (.inr 2) (ma_bump S)) else (if wh ≤ (13 : Int32) then (if wh = 0 then (Q (.inl (some (.inl (mI S 64 1)))) S) else (if wh = (1 : Int32) then (Q (.inl (some (.inl (mI S 64 7)))) S) else (mR S 64 11 = none ∧ (Q (.inr 3) (ma_bump S))))) else (Q (.inr 2) (ma_bump S)))) : ma_wp X d w 163 0 [(0, .inr (.inr (some 64))), (1, .inl wh)] [] S Q := by
  refine zw_push hm_163 dX11_count_0 (v := .inl wh) rfl ?_
  refine zw_if0 hm_163 dX11_count_1 (t := 10) rfl zc0_lt ?_ ?_
  · intro hc
    rw [if_pos hc] at h
    exact zw_thr hm_163 dX11_count_10 dX11_count_13 dX11_count_14 dX11_count_17 x_11_79_81 n_11_79 (by omega) (by show 0 + 81 ≤ w; omega) h
  · intro hc
    rw [if_neg hc] at h
    refine zw_push hm_163 dX11_count_4 (v := .inl wh) rfl ?_
    refine zw_push hm_163 dX11_count_5 (v := .inl (13 : Int32)) rfl ?_
    refine zw_if2 hm_163 dX11_count_7 (t := 18) rfl zc2_le ?_ ?_
    · intro hc
      rw [if_pos hc] at h
      refine zw_push hm_163 dX11_count_18 (v := .inl wh) rfl ?_
      refine zw_if0 hm_163 dX11_count_19 (t := 27) rfl zc0_ne ?_ ?_
      · intro hc
        rw [if_neg hc] at h
        refine zw_push hm_163 dX11_count_27 (v := .inl wh) rfl ?_
        refine zw_push hm_163 dX11_count_28 (v := .inl (1 : Int32)) rfl ?_
        refine zw_if2 hm_163 dX11_count_29 (t := 37) rfl zc2_ne ?_ ?_
        · intro hc
          rw [if_neg hc] at h
          refine zw_push hm_163 dX11_count_37 (v := .inr (.inr (some 64))) rfl ?_
          refine zw_cv hm_163 dX11_count_38 v_11_119_11 hm_144 [] [] rfl (zT_rt hS s_64 rfl) ⟨by omega, by omega⟩ rfl ?_
          show ma_wp X (d - 1) (w - 20) 144 0 [(0, .inr (.inr (some 64)))] [] S _
          refine zw_push hm_144 dX11_needCollector_0 (v := .inr (.inr (some 64))) rfl ?_
          obtain ⟨hg, h⟩ := h
          refine zw_gf hm_144 dX11_needCollector_1 (v := .inr (.inr none)) (zT_is hS s_64) (zT_t hS s_64) rfl f_11_98_11 (congrArg (fun z => Sum.inr (Sum.inr z)) hg) ?_
          refine zw_ifnonnull hm_144 dX11_needCollector_4 (t := 15) rfl (fun _ => ?_) (fun _ z => by cases z)
          exact zw_thr hm_144 dX11_needCollector_7 dX11_needCollector_10 dX11_needCollector_11 dX11_needCollector_14 x_11_85_87 n_11_85 (by omega) (by show 0 + 81 ≤ (w - 20); omega) ⟨by decide, h⟩
        · intro hc
          rw [if_pos (Classical.not_not.mp hc)] at h
          refine zw_push hm_163 dX11_count_32 (v := .inr (.inr (some 64))) rfl ?_
          refine zw_gf hm_163 dX11_count_33 (v := .inl (mI S 64 7)) (zT_is hS s_64) (zT_t hS s_64) rfl f_11_82_11 rfl ?_
          exact zw_iret hm_163 dX11_count_36 h
      · intro hc
        rw [if_pos (Classical.not_not.mp hc)] at h
        refine zw_push hm_163 dX11_count_22 (v := .inr (.inr (some 64))) rfl ?_
        refine zw_gf hm_163 dX11_count_23 (v := .inl (mI S 64 1)) (zT_is hS s_64) (zT_t hS s_64) rfl f_11_68_11 rfl ?_
        exact zw_iret hm_163 dX11_count_26 h
    · intro hc
      rw [if_neg hc] at h
      exact zw_thr hm_163 dX11_count_10 dX11_count_13 dX11_count_14 dX11_count_17 x_11_79_81 n_11_79 (by omega) (by show 0 + 81 ≤ w; omega) h
theorem sp_163_64_p0 {X : Nat × (Nat → Int32)} {d w : Nat} {f : Nat → Nat → Int32} {r : Nat → Nat → Option Nat} {C Z N : Nat} {Q : Option ma_V ⊕ Nat → ma_S → Prop} {S : ma_S} (wh : Int32) (hd : 7 ≤ d) (hw : 109 ≤ w) (hI : zB f r C Z N S) (hr : r 64 11 = none)  (K : ∀ v S₉, zB f r C Z N S₉ → (True) → Q (.inl (some (.inl v))) S₉) (KX : ∀ x S₉, (x = 2 ∨ x = 3) → zB f r C Z N S₉ → Q (.inr x) (ma_bump S₉)) : ma_wp X d w 163 0 [(0, .inr (.inr (some 64))), (1, .inl wh)] [] S Q := by
  refine g_163_64_p0_0 wh (by omega) (by omega) (zG_T hI) ?_
  have b1 := i_bd wh
  have li2 : (0 : Int32).toInt = 0 := rfl
  refine zd (fun h3 => ?_) (fun h3 => ?_)
  · skip
    have g4 := i_lt h3
    exact KX 2 _ (by decide) hI
  · skip
    have g5 := i_nlt h3
    have li6 : (13 : Int32).toInt = 13 := rfl
    refine zd (fun h7 => ?_) (fun h7 => ?_)
    · skip
      have g8 := i_le h7
      refine zd (fun h9 => ?_) (fun h9 => ?_)
      · skip
        have g10 := i_eq h9
        have f11 := zG_s hI (0) (100) (c := 64) (k := 1) (by decide)
        exact K ((mI S 64 1)) _ hI trivial
      · skip
        have g12 := i_ne h9
        have li13 : (1 : Int32).toInt = 1 := rfl
        refine zd (fun h14 => ?_) (fun h14 => ?_)
        · skip
          have g15 := i_eq h14
          have f16 := zG_s hI (0) (16) (c := 64) (k := 7) (by decide)
          exact K ((mI S 64 7)) _ hI trivial
        · skip
          have g17 := i_ne h14
          refine ⟨((zG_r hI (by decide)).trans hr), ?_⟩
          exact KX 3 _ (by decide) hI
    · skip
      have g18 := i_nle h7
      exact KX 2 _ (by decide) hI
/-! from 95.d0 -/
/-! READING THE POLICY: what a text says, apart from both programs -/
section TK
variable {b : Bool} {t t₉ : Nat → Int32} {n p : Int}
/-- where a row of blanks (true) or of others (false) from p on ends -/
def tkf (b : Bool) (t : Nat → Int32) (n : Int) : Nat → Int → Int
  | 0, p => p
  | f + 1, p => if p < n ∧ decide (t p.toNat = 32) = b then tkf b t n f (p + 1) else p
def tk (b : Bool) (t : Nat → Int32) (n p : Int) : Int := tkf b t n (n - p).toNat p
theorem tk_go (h : p < n) (h2 : decide (t p.toNat = 32) = b) : tk b t n p = tk b t n (p + 1) := by
  unfold tk
  have e : (n - p).toNat = (n - (p + 1)).toNat + 1 := by omega
  rw [e]
  show (if p < n ∧ decide (t p.toNat = 32) = b then tkf b t n (n - (p + 1)).toNat (p + 1) else p) = _
  rw [if_pos ⟨h, h2⟩]
theorem tk_st (h : ¬ (p < n ∧ decide (t p.toNat = 32) = b)) : tk b t n p = p := by
  unfold tk
  cases e : (n - p).toNat with
  | zero => rfl
  | succ k =>
    show (if p < n ∧ decide (t p.toNat = 32) = b then tkf b t n k (p + 1) else p) = p
    rw [if_neg h]
theorem tkf_lo : ∀ (f : Nat) (p : Int), p ≤ tkf b t n f p := by
  intro f
  induction f with
  | zero => intro p; exact Int.le_refl p
  | succ k ih =>
    intro p
    show p ≤ (if p < n ∧ decide (t p.toNat = 32) = b then tkf b t n k (p + 1) else p)
    split
    · have := ih (p + 1)
      omega
    · exact Int.le_refl p
theorem tkf_hi : ∀ (f : Nat) (p : Int), p ≤ n → tkf b t n f p ≤ n := by
  intro f
  induction f with
  | zero => intro p h; exact h
  | succ k ih =>
    intro p h
    show (if p < n ∧ decide (t p.toNat = 32) = b then tkf b t n k (p + 1) else p) ≤ n
    split
    · next z => exact ih (p + 1) (by omega)
    · exact h
theorem tkf_sp : ∀ (f : Nat) (p : Int), (n - p).toNat ≤ f → n ≤ tkf b t n f p ∨ decide (t (tkf b t n f p).toNat = 32) ≠ b := by
  intro f
  induction f with
  | zero => intro p h; exact Or.inl (show n ≤ p by omega)
  | succ k ih =>
    intro p h
    by_cases c : p < n ∧ decide (t p.toNat = 32) = b
    · have e : tkf b t n (k + 1) p = tkf b t n k (p + 1) := if_pos c
      rw [e]
      exact ih (p + 1) (by omega)
    · have e : tkf b t n (k + 1) p = p := if_neg c
      rw [e]
      by_cases c2 : p < n
      · exact Or.inr (fun z => c ⟨c2, z⟩)
      · exact Or.inl (by omega)
theorem tkf_cg (h : ∀ k : Nat, (k : Int) < n → t k = t₉ k) : ∀ (f : Nat) (p : Int), 0 ≤ p → tkf b t n f p = tkf b t₉ n f p := by
  intro f
  induction f with
  | zero => intro p _; rfl
  | succ k ih =>
    intro p h0
    show (if p < n ∧ decide (t p.toNat = 32) = b then tkf b t n k (p + 1) else p) = (if p < n ∧ decide (t₉ p.toNat = 32) = b then tkf b t₉ n k (p + 1) else p)
    by_cases c : p < n
    · rw [h p.toNat (by omega), ih (p + 1) (by omega)]
    · rw [if_neg (fun z => c z.1), if_neg (fun z => c z.1)]
theorem tk_lo : p ≤ tk b t n p := tkf_lo _ _
theorem tk_hi (h : p ≤ n) : tk b t n p ≤ n := tkf_hi _ _ h
theorem tk_cg (h : ∀ k : Nat, (k : Int) < n → t k = t₉ k) (h0 : 0 ≤ p) : tk b t n p = tk b t₉ n p := tkf_cg h _ _ h0
theorem tk_sp : n ≤ tk b t n p ∨ decide (t (tk b t n p).toNat = 32) ≠ b := tkf_sp _ _ (Nat.le_refl _)
theorem tk_end {s e : Int} (hp : p ≤ n) (hs : s = tk true t n p) (he : e = tk false t n s) (h : e ≤ s) : s = n := by
  have h1 : s ≤ n := by rw [hs]; exact tk_hi hp
  by_cases c : s < n
  · have q : n ≤ tk true t n p ∨ decide (t (tk true t n p).toNat = 32) ≠ true := tk_sp
    rw [← hs] at q
    rcases q with q | q
    · omega
    · have q2 : decide (t s.toNat = 32) = false := by
        cases z : decide (t s.toNat = 32) with
        | false => rfl
        | true => exact absurd z q
      have g := tk_go (n := n) c q2
      have g2 : s + 1 ≤ tk false t n (s + 1) := tk_lo
      omega
  · omega
/-- one step of the two loops, as the programs test it -/
theorem tk_b1 {x : Int32} {q : Int} (h : p < n) (hx : x = t p.toNat) (hb : x = 32) (hq : q = p + 1) : tk true t n p = tk true t n q := by
  rw [hq]
  exact tk_go h (decide_eq_true (by rw [← hx]; exact hb))
theorem tk_b0 {x : Int32} (hx : x = t p.toNat) (hb : ¬ x = 32) : tk true t n p = p := tk_st (fun z => by
  have y := of_decide_eq_true z.2
  rw [← hx] at y
  exact hb y)
theorem tk_e {b : Bool} (h : n ≤ p) : tk b t n p = p := tk_st (fun z => by omega)
theorem tk_w1 {x : Int32} {q : Int} (h : p < n) (hx : x = t p.toNat) (hb : ¬ x = 32) (hq : q = p + 1) : tk false t n p = tk false t n q := by
  rw [hq]
  exact tk_go h (decide_eq_false (by rw [← hx]; exact hb))
theorem tk_w0 {x : Int32} (hx : x = t p.toNat) (hb : x = 32) : tk false t n p = p := tk_st (fun z => by
  have y := of_decide_eq_false z.2
  rw [← hx] at y
  exact y hb)
end TK
/-- digits from p up to e, v behind them; -1 at another byte -/
def zff (t : Nat → Int32) (e : Int) : Nat → Int → Int → Int
  | 0, _, v => v
  | f + 1, p, v => if p < e then (if 48 ≤ (t p.toNat).toInt ∧ (t p.toNat).toInt ≤ 57 then zff t e f (p + 1) (v * 10 + ((t p.toNat).toInt - 48)) else -1) else v
def zfo (t : Nat → Int32) (e p v : Int) : Int := zff t e (e - p).toNat p v
section ZFO
variable {t t₉ : Nat → Int32} {e p v n s lo hi : Int}
theorem zfo_un (h : p < e) : zfo t e p v = if 48 ≤ (t p.toNat).toInt ∧ (t p.toNat).toInt ≤ 57 then zfo t e (p + 1) (v * 10 + ((t p.toNat).toInt - 48)) else -1 := by
  unfold zfo
  have q : (e - p).toNat = (e - (p + 1)).toNat + 1 := by omega
  rw [q]
  show (if p < e then _ else v) = _
  rw [if_pos h]
theorem zfo_go {x : Int32} {q w : Int} (h : p < e) (hx : x = t p.toNat) (h1 : 48 ≤ x.toInt) (h2 : x.toInt ≤ 57) (hq : q = p + 1) (hw : w = v * 10 + (x.toInt - 48)) : zfo t e p v = zfo t e q w := by
  rw [zfo_un h, ← hx, if_pos ⟨h1, h2⟩, hq, hw]
theorem zfo_bad {x : Int32} (h : p < e) (hx : x = t p.toNat) (hb : x.toInt < 48 ∨ 57 < x.toInt) : zfo t e p v = -1 := by
  rw [zfo_un h, ← hx, if_neg (fun z => by omega)]
theorem zfo_end (h : e ≤ p) : zfo t e p v = v := by
  unfold zfo
  have q : (e - p).toNat = 0 := by omega
  rw [q]
  rfl
theorem zff_cg (h : ∀ k : Nat, (k : Int) < n → t k = t₉ k) (he : e ≤ n) : ∀ (f : Nat) (p v : Int), 0 ≤ p → zff t e f p v = zff t₉ e f p v := by
  intro f
  induction f with
  | zero => intro p v _; rfl
  | succ k ih =>
    intro p v h0
    show (if p < e then _ else v) = (if p < e then _ else v)
    by_cases c : p < e
    · rw [if_pos c, if_pos c, h p.toNat (by omega), ih (p + 1) _ (by omega)]
    · rw [if_neg c, if_neg c]
/-- the number that a token is, -1 if it is none within the bounds -/
def zNum (t : Nat → Int32) (s e lo hi : Int) : Int := if e ≤ s ∨ 5 < e - s then -1 else if 0 ≤ zfo t e s 0 ∧ lo ≤ zfo t e s 0 ∧ zfo t e s 0 ≤ hi then zfo t e s 0 else -1
theorem zNum_cg (h : ∀ k : Nat, (k : Int) < n → t k = t₉ k) (he : e ≤ n) (h0 : 0 ≤ s) : zNum t s e lo hi = zNum t₉ s e lo hi := by
  have q : zfo t e s 0 = zfo t₉ e s 0 := zff_cg h he _ _ _ h0
  unfold zNum
  rw [q]
theorem zNum_no (h : e ≤ s ∨ 5 < e - s) : zNum t s e lo hi = -1 := if_pos h
theorem zNum_bad (h : zfo t e s 0 = -1) : zNum t s e lo hi = -1 := by
  unfold zNum
  rw [h]
  split
  · rfl
  · exact if_neg (fun z => by omega)
theorem zNum_in (h : ¬ (e ≤ s ∨ 5 < e - s)) (hv : zfo t e s 0 = v) (h0 : 0 ≤ v) (h1 : lo ≤ v) (h2 : v ≤ hi) : zNum t s e lo hi = v := by
  unfold zNum
  rw [if_neg h, hv, if_pos ⟨h0, h1, h2⟩]
theorem zNum_out (hv : zfo t e s 0 = v) (h1 : v < lo ∨ hi < v) : zNum t s e lo hi = -1 := by
  unfold zNum
  rw [hv]
  split
  · rfl
  · exact if_neg (fun z => by omega)
/-- the smaller of 256 and a fourth -/
def zmn (a : Int) : Int := if a / 4 < 256 then a / 4 else 256
theorem zmn_of {x a : Int} (h1 : x ≤ 256) (h2 : x ≤ a / 4) (h3 : x = 256 ∨ x = a / 4) : x = zmn a := by
  unfold zmn
  split <;> omega
theorem zNum_z0 {a : Int} (h : zNum t s e 16 256 = -1) : zNum t s e 16 (zmn a) = -1 := by
  unfold zNum at h ⊢
  split
  · rfl
  · next c =>
    rw [if_neg c] at h
    split
    · next z =>
      have y : zmn a ≤ 256 := by unfold zmn; split <;> omega
      rw [if_pos ⟨z.1, z.2.1, by omega⟩] at h
      exact h
    · rfl
theorem zNum_z1 {a : Int} (hv : zNum t s e 16 256 = v) (h0 : 16 ≤ v) (h : a < 4 * v) : zNum t s e 16 (zmn a) = -1 := by
  unfold zNum at hv ⊢
  split
  · rfl
  · next c =>
    rw [if_neg c] at hv
    split
    · next z =>
      have y : zmn a ≤ a / 4 ∧ zmn a ≤ 256 := by unfold zmn; split <;> omega
      rw [if_pos ⟨z.1, z.2.1, by omega⟩] at hv
      omega
    · rfl
theorem zNum_z2 {a : Int} (hv : zNum t s e 16 256 = v) (h0 : 16 ≤ v) (h1 : v ≤ 256) (h : 4 * v ≤ a) : zNum t s e 16 (zmn a) = v := by
  unfold zNum at hv ⊢
  split
  · next c =>
    rw [if_pos c] at hv
    omega
  · next c =>
    rw [if_neg c] at hv
    split at hv
    · next z =>
      have y : v ≤ zmn a := by unfold zmn; split <;> omega
      rw [if_pos ⟨z.1, z.2.1, by omega⟩]
      exact hv
    · omega
/-- how large a number of so many digits is at most -/
def zpw : Nat → Int
  | 0 => 1
  | k + 1 => 10 * zpw k
def zok (s p v : Int) : Prop := 0 ≤ v ∧ v < zpw (p - s).toNat
theorem zok_0 : zok s s 0 := by
  unfold zok
  have q : (s - s).toNat = 0 := by omega
  rw [q]
  exact ⟨Int.le_refl 0, by decide⟩
theorem zok_st {d q w : Int} (h : zok s p v) (hs : s ≤ p) (h0 : 0 ≤ d) (h1 : d ≤ 9) (hq : q = p + 1) (hw : w = v * 10 + d) : zok s q w := by
  unfold zok at h ⊢
  have z : (q - s).toNat = (p - s).toNat + 1 := by omega
  rw [z]
  show 0 ≤ w ∧ w < 10 * zpw (p - s).toNat
  omega
theorem zok_4 (h : zok s p v) (h2 : p - s ≤ 4) : 0 ≤ v ∧ v ≤ 9999 := by
  obtain ⟨h0, h1⟩ := h
  have q : (p - s).toNat = 0 ∨ (p - s).toNat = 1 ∨ (p - s).toNat = 2 ∨ (p - s).toNat = 3 ∨ (p - s).toNat = 4 := by omega
  have e0 : zpw 0 = 1 := rfl
  have e1 : zpw 1 = 10 := rfl
  have e2 : zpw 2 = 100 := rfl
  have e3 : zpw 3 = 1000 := rfl
  have e4 : zpw 4 = 10000 := rfl
  rcases q with q | q | q | q | q <;> rw [q] at h1 <;> omega
theorem zok_5 (h : zok s p v) (h2 : p - s ≤ 5) : 0 ≤ v ∧ v ≤ 99999 := by
  by_cases c : p - s ≤ 4
  · have := zok_4 h c
    omega
  · obtain ⟨h0, h1⟩ := h
    have q : (p - s).toNat = 5 := by omega
    have e5 : zpw 5 = 100000 := rfl
    rw [q, e5] at h1
    omega
end ZFO
theorem i_dig (x : Int32) : (0 ≤ (x - (48 : Int32)).toInt ∧ (x - (48 : Int32)).toInt ≤ 9 ∧ x.toInt = (x - (48 : Int32)).toInt + 48) ∨ (((x - (48 : Int32)).toInt < 0 ∨ 9 < (x - (48 : Int32)).toInt) ∧ (x.toInt < 48 ∨ 57 < x.toInt)) := by
  have b := i_bd x
  by_cases h : 48 ≤ x.toInt ∧ x.toInt ≤ 57
  · have e : (x - (48 : Int32)).toInt = x.toInt - 48 := i_subk rfl (by omega) (by omega)
    exact Or.inl ⟨by omega, by omega, by omega⟩
  · refine Or.inr ⟨?_, by omega⟩
    by_cases c : (x - (48 : Int32)).toInt < 0 ∨ 9 < (x - (48 : Int32)).toInt
    · exact c
    · have e : ((x - (48 : Int32)) + (48 : Int32)).toInt = (x - (48 : Int32)).toInt + 48 := i_addk rfl (by omega) (by omega)
      rw [Int32.sub_add_cancel] at e
      omega
/-- a token is that word (its last letters may be lacking: 0) -/
abbrev zwd (t : Nat → Int32) (s : Int32) (z : Int) (a b c d e f g : Int32) : Prop :=
  z = (if e = 0 then 4 else if f = 0 then 5 else if g = 0 then 6 else 7) ∧ t (s + 0).toNatClampNeg = a ∧ t (s + 1).toNatClampNeg = b ∧ t (s + 2).toNatClampNeg = c ∧ t (s + 3).toNatClampNeg = d ∧ (e = 0 ∨ t (s + 4).toNatClampNeg = e) ∧ (e = 0 ∨ f = 0 ∨ t (s + 5).toNatClampNeg = f) ∧ (e = 0 ∨ f = 0 ∨ g = 0 ∨ t (s + 6).toNatClampNeg = g)
section ZW
variable {t t₉ : Nat → Int32} {s : Int32} {n z : Int} {a b c d e f g : Int32}
theorem zwd_im (h : ∀ k : Nat, (k : Int) < n → t k = t₉ k) (h0 : 0 ≤ s.toInt) (h1 : s.toInt + z ≤ n) (h2 : n ≤ 100) (q : zwd t s z a b c d e f g) : zwd t₉ s z a b c d e f g := by
  obtain ⟨z1, z2, z3, z4, z5, z6, z7, z8⟩ := q
  have ix : ∀ j : Int32, 0 ≤ j.toInt → j.toInt < z → t (s + j).toNatClampNeg = t₉ (s + j).toNatClampNeg := by
    intro j j0 j1
    have e1 : (s + j).toInt = s.toInt + j.toInt := i_add (by omega) (by omega)
    refine h _ ?_
    have e2 : (((s + j).toNatClampNeg : Nat) : Int) = (s + j).toInt := tn_cast (by omega)
    omega
  have k4 : 4 ≤ z := by rw [z1]; split <;> (try split) <;> (try split) <;> omega
  refine ⟨z1, ?_, ?_, ?_, ?_, ?_, ?_, ?_⟩
  · rw [← ix 0 (by decide) (show (0 : Int) < z by omega)]; exact z2
  · rw [← ix 1 (by decide) (show (1 : Int) < z by omega)]; exact z3
  · rw [← ix 2 (by decide) (show (2 : Int) < z by omega)]; exact z4
  · rw [← ix 3 (by decide) (show (3 : Int) < z by omega)]; exact z5
  · by_cases ce : e = 0
    · exact Or.inl ce
    · have k5 : 5 ≤ z := by rw [z1, if_neg ce]; split <;> (try split) <;> omega
      rw [← ix 4 (by decide) (show (4 : Int) < z by omega)]; exact z6
  · by_cases ce : e = 0
    · exact Or.inl ce
    · by_cases cf : f = 0
      · exact Or.inr (Or.inl cf)
      · have k6 : 6 ≤ z := by rw [z1, if_neg ce, if_neg cf]; split <;> omega
        rw [← ix 5 (by decide) (show (5 : Int) < z by omega)]; exact z7
  · by_cases ce : e = 0
    · exact Or.inl ce
    · by_cases cf : f = 0
      · exact Or.inr (Or.inl cf)
      · by_cases cg : g = 0
        · exact Or.inr (Or.inr (Or.inl cg))
        · have k7 : 7 ≤ z := by rw [z1, if_neg ce, if_neg cf, if_neg cg]; omega
          rw [← ix 6 (by decide) (show (6 : Int) < z by omega)]; exact z8
theorem zwd_cg (h : ∀ k : Nat, (k : Int) < n → t k = t₉ k) (h0 : 0 ≤ s.toInt) (h1 : s.toInt + z ≤ n) (h2 : n ≤ 100) : zwd t s z a b c d e f g ↔ zwd t₉ s z a b c d e f g := ⟨zwd_im h h0 h1 h2, zwd_im (fun k hk => (h k hk).symm) h0 h1 h2⟩
theorem zwd_ge (q : zwd t s z a b c d e f g) : 4 ≤ z := by
  rw [q.1]
  split <;> (try split) <;> (try split) <;> omega
theorem zwd_no (h : z ≤ 0) : ¬ zwd t s z a b c d e f g := fun q => by
  have := zwd_ge q
  omega
end ZW
theorem zif_cg {b c : Prop} [Decidable b] [Decidable c] {x y z : Int} (h : b ↔ c) (_ : x = x) (h2 : y = z) : (if b then x else y) = (if c then x else z) := by
  by_cases q : b
  · rw [if_pos q, if_pos (h.mp q)]
  · rw [if_neg q, if_neg (fun w => q (h.mpr w)), h2]
/-- the policies, forms and barriers by their words -/
def zPol (t : Nat → Int32) (s : Int32) (z : Int) : Int :=
  if zwd t s z 115 119 101 101 112 0 0 then 0 else if zwd t s z 115 108 105 100 101 0 0 then 1 else if zwd t s z 104 97 108 118 101 115 0 then 2 else if zwd t s z 97 103 101 115 0 0 0 then 3 else if zwd t s z 99 111 117 110 116 115 0 then 4 else if zwd t s z 115 116 101 112 115 0 0 then 5 else if zwd t s z 114 101 103 105 111 110 115 then 6 else -1
def zForm (t : Nat → Int32) (s : Int32) (z : Int) : Int :=
  if zwd t s z 102 105 114 115 116 0 0 then 0 else if zwd t s z 110 101 120 116 0 0 0 then 1 else if zwd t s z 98 101 115 116 0 0 0 then 2 else if zwd t s z 119 111 114 115 116 0 0 then 3 else -1
def zBar (t : Nat → Int32) (s : Int32) (z : Int) : Int :=
  if zwd t s z 112 105 99 116 117 114 101 then 0 else if zwd t s z 110 101 119 115 0 0 0 then 1 else -1
section ZPOL
variable {t t₉ : Nat → Int32} {s : Int32} {n z : Int}
theorem zPol_cg (h : ∀ k : Nat, (k : Int) < n → t k = t₉ k) (h0 : 0 ≤ s.toInt) (h1 : s.toInt + z ≤ n) (h2 : n ≤ 100) : zPol t s z = zPol t₉ s z := by
  unfold zPol
  exact (zif_cg (zwd_cg h h0 h1 h2) rfl (zif_cg (zwd_cg h h0 h1 h2) rfl (zif_cg (zwd_cg h h0 h1 h2) rfl (zif_cg (zwd_cg h h0 h1 h2) rfl (zif_cg (zwd_cg h h0 h1 h2) rfl (zif_cg (zwd_cg h h0 h1 h2) rfl (zif_cg (zwd_cg h h0 h1 h2) rfl rfl)))))))
theorem zForm_cg (h : ∀ k : Nat, (k : Int) < n → t k = t₉ k) (h0 : 0 ≤ s.toInt) (h1 : s.toInt + z ≤ n) (h2 : n ≤ 100) : zForm t s z = zForm t₉ s z := by
  unfold zForm
  exact (zif_cg (zwd_cg h h0 h1 h2) rfl (zif_cg (zwd_cg h h0 h1 h2) rfl (zif_cg (zwd_cg h h0 h1 h2) rfl (zif_cg (zwd_cg h h0 h1 h2) rfl rfl))))
theorem zBar_cg (h : ∀ k : Nat, (k : Int) < n → t k = t₉ k) (h0 : 0 ≤ s.toInt) (h1 : s.toInt + z ≤ n) (h2 : n ≤ 100) : zBar t s z = zBar t₉ s z := by
  unfold zBar
  exact (zif_cg (zwd_cg h h0 h1 h2) rfl (zif_cg (zwd_cg h h0 h1 h2) rfl rfl))
theorem zPol_0 (h : z ≤ 0) : zPol t s z = -1 := by
  unfold zPol
  rw [if_neg (zwd_no h), if_neg (zwd_no h), if_neg (zwd_no h), if_neg (zwd_no h), if_neg (zwd_no h), if_neg (zwd_no h), if_neg (zwd_no h)]
theorem zForm_0 (h : z ≤ 0) : zForm t s z = -1 := by
  unfold zForm
  rw [if_neg (zwd_no h), if_neg (zwd_no h), if_neg (zwd_no h), if_neg (zwd_no h)]
theorem zBar_0 (h : z ≤ 0) : zBar t s z = -1 := by
  unfold zBar
  rw [if_neg (zwd_no h), if_neg (zwd_no h)]
end ZPOL
/-- the parts behind the policy's name: 0 a room, 1 an age, 2 a card, 3 a rate, 4 a region's size, 5 a share, 6 a form, 7 a barrier -/
def zPart (c : Nat) (t : Nat → Int32) (s e a : Int) : Int := match c with
  | 0 => zNum t s e 16 1500
  | 1 => zNum t s e 1 7
  | 2 => zNum t s e 4 64
  | 3 => zNum t s e 1 50
  | 4 => zNum t s e 16 (zmn a)
  | 5 => zNum t s e 0 100
  | 6 => zForm t (Int32.ofInt s) (e - s)
  | _ => zBar t (Int32.ofInt s) (e - s)
def zPts (k : Int) : List Nat := if k = 0 then [0, 6] else if k = 1 then [0] else if k = 2 then [0] else if k = 3 then [0, 0, 1, 2] else if k = 4 then [0, 6] else if k = 5 then [0, 6, 3, 7] else [0, 4, 5]
/-- the words that the heap has in all -/
def zFin (k a b : Int) : Int := if k = 2 then 2 * a else if k = 3 then b + 2 * a else if k = 6 then a / b * b else a
def zEnd (t : Nat → Int32) (n k p a b : Int) : Int := if tk true t n p < tk false t n (tk true t n p) then -1 - tk true t n p else zFin k a b
def zRun (t : Nat → Int32) (n k : Int) : List Nat → Nat → Int → Int → Int → Int
  | [], _, p, a, b => zEnd t n k p a b
  | c :: cs, i, p, a, b => if zPart c t (tk true t n p) (tk false t n (tk true t n p)) a = -1 then -1 - tk true t n p else zRun t n k cs (i + 1) (tk false t n (tk true t n p)) (if i = 0 then zPart c t (tk true t n p) (tk false t n (tk true t n p)) a else a) (if i = 1 ∧ (k = 3 ∨ k = 6) then zPart c t (tk true t n p) (tk false t n (tk true t n p)) a else b)
/-- what heap answers to a text -/
def zAns (t : Nat → Int32) (n : Int) : Int := if zPol t (Int32.ofInt (tk true t n 0)) (tk false t n (tk true t n 0) - tk true t n 0) = -1 then -1 - tk true t n 0 else zRun t n (zPol t (Int32.ofInt (tk true t n 0)) (tk false t n (tk true t n 0) - tk true t n 0)) (zPts (zPol t (Int32.ofInt (tk true t n 0)) (tk false t n (tk true t n 0) - tk true t n 0))) 0 (tk false t n (tk true t n 0)) 0 0
section ZANS
variable {t t₉ : Nat → Int32} {n p k a b e x : Int} {s : Int32} {c i : Nat} {cs : List Nat}
theorem zAns_bad (hs : s.toInt = tk true t n 0) (he : e = tk false t n s.toInt) (hk : k = zPol t s (e - s.toInt)) (h : k = -1) : zAns t n = -1 - s.toInt := by
  unfold zAns
  rw [← hs, ← he, Int32.ofInt_toInt, ← hk, if_pos h]
theorem zAns_go (hs : s.toInt = tk true t n 0) (he : e = tk false t n s.toInt) (hk : k = zPol t s (e - s.toInt)) (h : k ≠ -1) : zAns t n = zRun t n k (zPts k) 0 e 0 0 := by
  unfold zAns
  rw [← hs, ← he, Int32.ofInt_toInt, ← hk, if_neg h]
theorem zRun_bad (hs : s.toInt = tk true t n p) (he : e = tk false t n s.toInt) (hx : x = zPart c t s.toInt e a) (h : x = -1) : zRun t n k (c :: cs) i p a b = -1 - s.toInt := by
  show (if zPart c t (tk true t n p) (tk false t n (tk true t n p)) a = -1 then -1 - tk true t n p else _) = _
  rw [← hs, ← he, ← hx, if_pos h]
theorem zRun_ok (hs : s.toInt = tk true t n p) (he : e = tk false t n s.toInt) (hx : x = zPart c t s.toInt e a) (h : x ≠ -1) : zRun t n k (c :: cs) i p a b = zRun t n k cs (i + 1) e (if i = 0 then x else a) (if i = 1 ∧ (k = 3 ∨ k = 6) then x else b) := by
  show (if zPart c t (tk true t n p) (tk false t n (tk true t n p)) a = -1 then -1 - tk true t n p else zRun t n k cs (i + 1) (tk false t n (tk true t n p)) (if i = 0 then zPart c t (tk true t n p) (tk false t n (tk true t n p)) a else a) (if i = 1 ∧ (k = 3 ∨ k = 6) then zPart c t (tk true t n p) (tk false t n (tk true t n p)) a else b)) = _
  rw [← hs, ← he, ← hx, if_neg h]
theorem zEnd_bad (hs : s.toInt = tk true t n p) (he : e = tk false t n s.toInt) (h : s.toInt < e) : zEnd t n k p a b = -1 - s.toInt := by
  unfold zEnd
  rw [← hs, ← he, if_pos h]
theorem zEnd_ok (hs : s.toInt = tk true t n p) (he : e = tk false t n s.toInt) (h : e ≤ s.toInt) : zEnd t n k p a b = zFin k a b := by
  unfold zEnd
  rw [← hs, ← he, if_neg (by omega)]
theorem zPart_f (h : x = zForm t s (e - s.toInt)) : x = zPart 6 t s.toInt e a := by
  show x = zForm t (Int32.ofInt s.toInt) (e - s.toInt)
  rw [Int32.ofInt_toInt]
  exact h
theorem zPart_b (h : x = zBar t s (e - s.toInt)) : x = zPart 7 t s.toInt e a := by
  show x = zBar t (Int32.ofInt s.toInt) (e - s.toInt)
  rw [Int32.ofInt_toInt]
  exact h
theorem zPart_cg {s : Int} (h : ∀ k : Nat, (k : Int) < n → t k = t₉ k) (h0 : 0 ≤ s) (h1 : s ≤ e) (h2 : e ≤ n) (h3 : n ≤ 100) : zPart c t s e a = zPart c t₉ s e a := by
  have q : (Int32.ofInt s).toInt = s := Int32.toInt_ofInt_of_le (by omega) (by omega)
  match c with
  | 0 => exact (zNum_cg h h2 h0 : zNum t s e 16 1500 = zNum t₉ s e 16 1500)
  | 1 => exact (zNum_cg h h2 h0 : zNum t s e 1 7 = zNum t₉ s e 1 7)
  | 2 => exact (zNum_cg h h2 h0 : zNum t s e 4 64 = zNum t₉ s e 4 64)
  | 3 => exact (zNum_cg h h2 h0 : zNum t s e 1 50 = zNum t₉ s e 1 50)
  | 4 => exact (zNum_cg h h2 h0 : zNum t s e 16 (zmn a) = zNum t₉ s e 16 (zmn a))
  | 5 => exact (zNum_cg h h2 h0 : zNum t s e 0 100 = zNum t₉ s e 0 100)
  | 6 => exact (zForm_cg h (by omega) (by omega) h3 : zForm t (Int32.ofInt s) (e - s) = zForm t₉ (Int32.ofInt s) (e - s))
  | j + 7 => exact (zBar_cg h (by omega) (by omega) h3 : zBar t (Int32.ofInt s) (e - s) = zBar t₉ (Int32.ofInt s) (e - s))
theorem zRun_cg (h : ∀ k : Nat, (k : Int) < n → t k = t₉ k) (h3 : n ≤ 100) : ∀ (cs : List Nat) (i : Nat) (p a b : Int), 0 ≤ p → p ≤ n → zRun t n k cs i p a b = zRun t₉ n k cs i p a b := by
  intro cs
  induction cs with
  | nil =>
    intro i p a b h0 h1
    show zEnd t n k p a b = zEnd t₉ n k p a b
    unfold zEnd
    have q1 : tk true t n p = tk true t₉ n p := tk_cg h h0
    have q0 : p ≤ tk true t₉ n p := tk_lo
    rw [q1, tk_cg (b := false) h (by omega)]
  | cons c cs ih =>
    intro i p a b h0 h1
    have q1 : tk true t n p = tk true t₉ n p := tk_cg h h0
    have q0 : p ≤ tk true t₉ n p := tk_lo
    have q2 : tk false t n (tk true t₉ n p) = tk false t₉ n (tk true t₉ n p) := tk_cg h (by omega)
    have q3 : tk true t₉ n p ≤ n := tk_hi h1
    have q4 : tk true t₉ n p ≤ tk false t₉ n (tk true t₉ n p) := tk_lo
    have q5 : tk false t₉ n (tk true t₉ n p) ≤ n := tk_hi q3
    have q6 : zPart c t (tk true t₉ n p) (tk false t₉ n (tk true t₉ n p)) a = zPart c t₉ (tk true t₉ n p) (tk false t₉ n (tk true t₉ n p)) a := zPart_cg h (by omega) q4 q5 h3
    show (if zPart c t (tk true t n p) (tk false t n (tk true t n p)) a = -1 then -1 - tk true t n p else zRun t n k cs (i + 1) (tk false t n (tk true t n p)) (if i = 0 then zPart c t (tk true t n p) (tk false t n (tk true t n p)) a else a) (if i = 1 ∧ (k = 3 ∨ k = 6) then zPart c t (tk true t n p) (tk false t n (tk true t n p)) a else b)) = (if zPart c t₉ (tk true t₉ n p) (tk false t₉ n (tk true t₉ n p)) a = -1 then -1 - tk true t₉ n p else zRun t₉ n k cs (i + 1) (tk false t₉ n (tk true t₉ n p)) (if i = 0 then zPart c t₉ (tk true t₉ n p) (tk false t₉ n (tk true t₉ n p)) a else a) (if i = 1 ∧ (k = 3 ∨ k = 6) then zPart c t₉ (tk true t₉ n p) (tk false t₉ n (tk true t₉ n p)) a else b))
    rw [q1, q2, q6, ih _ _ _ _ (by omega) q5]
theorem zAns_cg (h : ∀ k : Nat, (k : Int) < n → t k = t₉ k) (hn : 0 ≤ n) (h3 : n ≤ 100) : zAns t n = zAns t₉ n := by
  have q1 : tk true t n 0 = tk true t₉ n 0 := tk_cg h (by omega)
  have q0 : 0 ≤ tk true t₉ n 0 := tk_lo
  have q2 : tk false t n (tk true t₉ n 0) = tk false t₉ n (tk true t₉ n 0) := tk_cg h (by omega)
  have q3 : tk true t₉ n 0 ≤ n := tk_hi hn
  have q4 : tk true t₉ n 0 ≤ tk false t₉ n (tk true t₉ n 0) := tk_lo
  have q5 : tk false t₉ n (tk true t₉ n 0) ≤ n := tk_hi q3
  have q : (Int32.ofInt (tk true t₉ n 0)).toInt = tk true t₉ n 0 := Int32.toInt_ofInt_of_le (by omega) (by omega)
  have q6 : zPol t (Int32.ofInt (tk true t₉ n 0)) (tk false t₉ n (tk true t₉ n 0) - tk true t₉ n 0) = zPol t₉ (Int32.ofInt (tk true t₉ n 0)) (tk false t₉ n (tk true t₉ n 0) - tk true t₉ n 0) := zPol_cg h (by omega) (by omega) h3
  unfold zAns
  rw [q1, q2, q6, zRun_cg h h3 _ _ _ _ _ (by omega) q5]
end ZANS
/-- what a test answered -/
theorem zyes {v : Int32} {P : Prop} (h : (v = 1 ∧ P) ∨ (v = 0 ∧ ¬ P)) (h0 : ¬ v = 0) : P := h.elim (fun z => z.2) (fun z => absurd z.1 h0)
theorem zno {v : Int32} {P : Prop} (h : (v = 1 ∧ P) ∨ (v = 0 ∧ ¬ P)) (h0 : v = 0) : ¬ P := h.elim (fun z => absurd (z.1.symm.trans h0) (by decide)) (fun z => z.2)

/-! from 95.d1 -/
section ZRUN
variable {t : Nat → Int32} {n p p₉ k a a₉ b b₉ e x : Int} {s : Int32} {c i : Nat} {cs : List Nat}
theorem zRun_badp (hs : s.toInt = tk true t n p₉) (hp : p = p₉) (he : e = tk false t n s.toInt) (hx : x = zPart c t s.toInt e a) (h : x = -1) : zRun t n k (c :: cs) i p a b = -1 - s.toInt := by
  rw [hp]
  exact zRun_bad hs he hx h
theorem zRun_ok0 (hs : s.toInt = tk true t n p₉) (hp : p = p₉) (he : e = tk false t n s.toInt) (hx : x = zPart c t s.toInt e a) (h : x ≠ -1) : zRun t n k (c :: cs) 0 p a b = zRun t n k cs 1 e x b := by
  rw [hp, zRun_ok hs he hx h, if_pos rfl, if_neg (fun z => by omega)]
theorem zRun_ok1 (hs : s.toInt = tk true t n p₉) (hp : p = p₉) (he : e = tk false t n s.toInt) (hx : x = zPart c t s.toInt e a) (h : x ≠ -1) (hk : k = 3 ∨ k = 6) : zRun t n k (c :: cs) 1 p a b = zRun t n k cs 2 e a x := by
  rw [hp, zRun_ok hs he hx h, if_neg (by decide), if_pos ⟨rfl, hk⟩]
theorem zRun_okn (hs : s.toInt = tk true t n p₉) (hp : p = p₉) (he : e = tk false t n s.toInt) (hx : x = zPart c t s.toInt e a) (h : x ≠ -1) (hk : 2 ≤ i + 1 ∧ (2 ≤ i ∨ (k ≠ 3 ∧ k ≠ 6))) : zRun t n k (c :: cs) i p a b = zRun t n k cs (i + 1) e a b := by
  rw [hp, zRun_ok hs he hx h, if_neg (by omega), if_neg (fun z => by omega)]
theorem zEnd_badp (hs : s.toInt = tk true t n p₉) (hp : p = p₉) (he : e = tk false t n s.toInt) (h : s.toInt < e) : zEnd t n k p a b = -1 - s.toInt := by
  rw [hp]
  exact zEnd_bad hs he h
theorem zEnd_okp (hs : s.toInt = tk true t n p₉) (hp : p = p₉) (he : e = tk false t n s.toInt) (h : e ≤ s.toInt) : zEnd t n k p a b = zFin k a b := by
  rw [hp]
  exact zEnd_ok hs he h
theorem zFin_eq (ha : a = a₉) (hb : b = b₉ ∨ (k ≠ 3 ∧ k ≠ 6)) : zFin k a b = zFin k a₉ b₉ := by
  unfold zFin
  rw [ha]
  rcases hb with hb | hb
  · rw [hb]
  · by_cases c : k = 2
    · rw [if_pos c, if_pos c]
    · rw [if_neg c, if_neg c, if_neg hb.1, if_neg hb.1, if_neg hb.2, if_neg hb.2]
theorem zFin_0 (h : k = 0 ∨ k = 1 ∨ k = 4 ∨ k = 5) : zFin k a b = a := by
  unfold zFin
  rw [if_neg (by omega), if_neg (by omega), if_neg (by omega)]
theorem zFin_2 (h : k = 2) : zFin k a b = 2 * a := by
  unfold zFin
  rw [if_pos h]
theorem zFin_3 (h : k = 3) : zFin k a b = b + 2 * a := by
  unfold zFin
  rw [if_neg (by omega), if_pos h]
theorem zFin_6 (h : k = 6) : zFin k a b = a / b * b := by
  unfold zFin
  rw [if_neg (by omega), if_neg (by omega), if_pos h]
end ZRUN
/-! bytes -/
def zb (x s : Int32) : Int32 := vp_nar .byte ((x >>> (s &&& 31)).toInt8.toInt32)
theorem zb_bv (x : BitVec 32) (s : Nat) (h : s ≤ 24) : (x >>> s).signExtend 8 = (x.sshiftRight s).signExtend 8 := by
  apply BitVec.eq_of_getLsbD_eq
  intro i hi
  have h1 : i < 32 := by omega
  have h2 : s + i < 32 := by omega
  have h3 : ¬ 32 ≤ i := by omega
  rw [BitVec.getLsbD_signExtend, BitVec.getLsbD_signExtend, if_pos h1, if_pos h1, BitVec.getLsbD_ushiftRight, BitVec.getLsbD_sshiftRight, if_pos h2, decide_eq_false h3]
  simp
theorem zb_eq (x : Int32) (u : UInt32) (s : Int32) (k : Nat) (hk : k ≤ 24) (hu : u.toBitVec % 32 = BitVec.ofNat 32 k) (hs : s.toBitVec.smod 32 = BitVec.ofNat 32 k) : (x.toUInt32 >>> u).toInt32.toInt8 = (x >>> s).toInt8 := by
  apply Int8.toBitVec_inj.mp
  rw [Int32.toBitVec_toInt8, Int32.toBitVec_toInt8, Int32.toBitVec_shiftRight, hs]
  show ((x.toUInt32 >>> u).toBitVec).signExtend 8 = _
  rw [UInt32.toBitVec_shiftRight, hu]
  show (x.toBitVec >>> (BitVec.ofNat 32 k)).signExtend 8 = (x.toBitVec.sshiftRight (BitVec.ofNat 32 k).toNat).signExtend 8
  have e : (BitVec.ofNat 32 k).toNat = k := by
    rw [BitVec.toNat_ofNat]
    exact Nat.mod_eq_of_lt (by omega)
  rw [BitVec.ushiftRight_eq', e]
  exact zb_bv _ _ hk
theorem zb_24 (x : Int32) : vp_nar .byte (((x.toUInt32 >>> ((24 : Int32).toUInt32 &&& Int32.toUInt32 31)).toInt32).toInt8.toInt32) = zb x 24 := by
  unfold zb
  rw [zb_eq x _ ((24 : Int32) &&& 31) 24 (by decide) (by decide +kernel) (by decide +kernel)]
theorem zb_16 (x : Int32) : vp_nar .byte (((x.toUInt32 >>> ((16 : Int32).toUInt32 &&& Int32.toUInt32 31)).toInt32).toInt8.toInt32) = zb x 16 := by
  unfold zb
  rw [zb_eq x _ ((16 : Int32) &&& 31) 16 (by decide) (by decide +kernel) (by decide +kernel)]
theorem zb_8 (x : Int32) : vp_nar .byte (((x.toUInt32 >>> ((8 : Int32).toUInt32 &&& Int32.toUInt32 31)).toInt32).toInt8.toInt32) = zb x 8 := by
  unfold zb
  rw [zb_eq x _ ((8 : Int32) &&& 31) 8 (by decide) (by decide +kernel) (by decide +kernel)]
theorem zb_0 (x : Int32) : vp_nar .byte (((x.toUInt32 >>> ((0 : Int32).toUInt32 &&& Int32.toUInt32 31)).toInt32).toInt8.toInt32) = zb x 0 := by
  unfold zb
  rw [zb_eq x _ ((0 : Int32) &&& 31) 0 (by decide) (by decide +kernel) (by decide +kernel)]
/-- four bytes more -/
def zFq (r r₉ : Nat → Int32) (n : Int) (x : Int32) : Prop := (∀ k : Nat, (k : Int) < n → r₉ k = r k) ∧ r₉ n.toNat = zb x 24 ∧ r₉ (n + 1).toNat = zb x 16 ∧ r₉ (n + 2).toNat = zb x 8 ∧ r₉ (n + 3).toNat = zb x 0
def zFd (r r₉ : Nat → Int32) (n : Int) (j : Nat) (w : Nat → Int32) : Prop := (∀ k : Nat, (k : Int) < n → r₉ k = r k) ∧ ∀ i : Nat, i < j → r₉ (n + 4 * i).toNat = zb (w i) 24 ∧ r₉ (n + 4 * i + 1).toNat = zb (w i) 16 ∧ r₉ (n + 4 * i + 2).toNat = zb (w i) 8 ∧ r₉ (n + 4 * i + 3).toNat = zb (w i) 0
def zw5 (a b c d e : Int32) (i : Nat) : Int32 := if i = 0 then a else if i = 1 then b else if i = 2 then c else if i = 3 then d else e
section FD
variable {r r1 r2 r₉ q q₉ : Nat → Int32} {n m : Int} {x : Int32} {j : Nat} {w : Nat → Int32}
theorem fq_of {i0 i1 i2 i3 : Nat} {b0 b1 b2 b3 : Int32} (h : ∀ k, r₉ k = if k = i3 then b3 else if k = i2 then b2 else if k = i1 then b1 else if k = i0 then b0 else r k) (e0 : (i0 : Int) = n) (e1 : (i1 : Int) = n + 1) (e2 : (i2 : Int) = n + 2) (e3 : (i3 : Int) = n + 3) (h0 : b0 = zb x 24) (h1 : b1 = zb x 16) (h2 : b2 = zb x 8) (h3 : b3 = zb x 0) : zFq r r₉ n x := by
  refine ⟨fun k hk => ?_, ?_, ?_, ?_, ?_⟩
  · rw [h, if_neg (by omega), if_neg (by omega), if_neg (by omega), if_neg (by omega)]
  · rw [h, if_neg (by omega), if_neg (by omega), if_neg (by omega), if_pos (by omega), h0]
  · rw [h, if_neg (by omega), if_neg (by omega), if_pos (by omega), h1]
  · rw [h, if_neg (by omega), if_pos (by omega), h2]
  · rw [h, if_pos (by omega), h3]
theorem fd_0 : zFd r r n 0 w := ⟨fun _ _ => rfl, fun _ h => absurd h (Nat.not_lt_zero _)⟩
theorem fd_s (h : zFd r r1 n j w) (hn : 0 ≤ n) (y : zFq r1 r2 m x) (hm : m = n + 4 * j) (hw : w j = x) : zFd r r2 n (j + 1) w := by
  refine ⟨fun k hk => (y.1 k (by omega)).trans (h.1 k hk), fun i hi => ?_⟩
  by_cases c : i < j
  · have z := h.2 i c
    rw [y.1 _ (by omega), y.1 _ (by omega), y.1 _ (by omega), y.1 _ (by omega)]
    exact z
  · have e : i = j := by omega
    subst e
    rw [← hm, hw]
    exact y.2
theorem fd_al (h : zFd r r₉ n 5 w) (y : zFd q q₉ n 5 w) (hn : 0 ≤ n) (ha : ∀ k : Nat, (k : Int) < n → r k = q k) : ∀ k : Nat, (k : Int) < n + 20 → r₉ k = q₉ k := by
  intro k hk
  by_cases c : (k : Int) < n
  · rw [h.1 k c, y.1 k c]
    exact ha k c
  · have z : ∃ i : Nat, i < 5 ∧ (k = (n + 4 * i).toNat ∨ k = (n + 4 * i + 1).toNat ∨ k = (n + 4 * i + 2).toNat ∨ k = (n + 4 * i + 3).toNat) := ⟨((k : Int) - n).toNat / 4, by omega, by omega⟩
    obtain ⟨i, hi, z⟩ := z
    have u1 := h.2 i hi
    have u2 := y.2 i hi
    rcases z with z | z | z | z <;> rw [z]
    · rw [u1.1, u2.1]
    · rw [u1.2.1, u2.2.1]
    · rw [u1.2.2.1, u2.2.2.1]
    · rw [u1.2.2.2, u2.2.2.2]
end FD
theorem pr_o {S : ma_S} {x : Int32} : mI (ma_put S 64 1 (.inl x)) 65 = mI S 65 := funext (fun k => show (if 65 = 64 ∧ k = 1 then x else mI S 65 k) = mI S 65 k from if_neg (fun z => absurd z.1 (by decide)))
theorem pr_s {S : ma_S} {i k : Nat} {x : Int32} : mI (ma_put S 65 i (.inl x)) 65 k = if k = i then x else mI S 65 k := by
  show (if 65 = 65 ∧ k = i then x else mI S 65 k) = _
  by_cases c : k = i
  · rw [if_pos ⟨rfl, c⟩, if_pos c]
  · rw [if_neg (fun z => c z.2), if_neg c]
theorem hp_good {v : Int32} {W V : Prop} (h : (v.toInt = -1 ∧ W) ∨ (v.toInt ≠ -1 ∧ V)) (hv : v.toInt ≠ -1) : V := by
  rcases h with h | h
  · exact absurd h.1 hv
  · exact h.2
theorem hp_neg {v : Int32} {W : Prop} (h : v.toInt = -1 ∨ (0 ≤ v.toInt ∧ v.toInt ≤ 6 ∧ W)) (hn : v.toInt < 0 ∨ 6 < v.toInt) : v.toInt = -1 := by
  rcases h with h | h
  · exact h
  · omega
/-! levels of the texts -/
def zY0_f (c k : Nat) : Bool := zfz c k
def zY0_s : List (Nat × Nat × Int × Int) := [(69, 5, 0, 512), (69, 6, 0, 512), (75, 3, 0, 512), (75, 4, 0, 512), (88, 3, 0, 512), (88, 4, 0, 512), (64, 1, 0, 100), (64, 2, 0, 100), (64, 3, 0, 100), (64, 7, 0, 16)]
def zY0_a : List (Nat × Nat × Int × Int) := []
def zY0_r : List Nat := [70]
def zY0_x (_ : Nat → Nat → Int32) : Prop := True
abbrev zY0 (f : Nat → Nat → Int32) (r : Nat → Nat → Option Nat) (C Z N : Nat) (S : ma_S) : Prop := zG zY0_f zY0_s zY0_a zY0_r zY0_x f r C Z N S
def zY_f (c k : Nat) : Bool := zfz c k && (decide (c ≠ 64) || decide (k = 1) || decide (k = 7))
def zY_s : List (Nat × Nat × Int × Int) := [(69, 5, 0, 512), (69, 6, 0, 512), (75, 3, 0, 512), (75, 4, 0, 512), (88, 3, 0, 512), (88, 4, 0, 512), (64, 1, 0, 100), (64, 2, 0, 100), (64, 3, 0, 100), (64, 7, 0, 16)]
def zY_a : List (Nat × Nat × Int × Int) := []
def zY_r : List Nat := [70]
def zY_x (_ : Nat → Nat → Int32) : Prop := True
abbrev zY (f : Nat → Nat → Int32) (r : Nat → Nat → Option Nat) (C Z N : Nat) (S : ma_S) : Prop := zG zY_f zY_s zY_a zY_r zY_x f r C Z N S
def zR_f (c k : Nat) : Bool := zfz c k && (decide (c ≠ 64) || decide (k = 1) || decide (k = 7)) && decide (c ≠ 66)
def zR_s : List (Nat × Nat × Int × Int) := [(69, 5, 0, 512), (69, 6, 0, 512), (75, 3, 0, 512), (75, 4, 0, 512), (88, 3, 0, 512), (88, 4, 0, 512), (64, 1, 0, 100), (64, 2, 0, 100), (64, 3, 0, 100), (64, 7, 0, 16)]
def zR_a : List (Nat × Nat × Int × Int) := [(66, 4, -1, 1500)]
def zR_r : List Nat := [70]
def zR_x (_ : Nat → Nat → Int32) : Prop := True
abbrev zR (f : Nat → Nat → Int32) (r : Nat → Nat → Option Nat) (C Z N : Nat) (S : ma_S) : Prop := zG zR_f zR_s zR_a zR_r zR_x f r C Z N S
def zKd_f (c k : Nat) : Bool := zfz c k && decide (c ≠ 64) && decide (c ≠ 67) && decide (c ≠ 68)
def zKd_s : List (Nat × Nat × Int × Int) := [(69, 5, 0, 512), (69, 6, 0, 512), (75, 3, 0, 512), (75, 4, 0, 512), (88, 3, 0, 512), (88, 4, 0, 512), (64, 1, 0, 100), (64, 2, 0, 100), (64, 3, 0, 100), (64, 7, 0, 16)]
def zKd_a : List (Nat × Nat × Int × Int) := [(67, 16, 0, 8)]
def zKd_r : List Nat := [70]
def zKd_x (_ : Nat → Nat → Int32) : Prop := True
abbrev zKd (f : Nat → Nat → Int32) (r : Nat → Nat → Option Nat) (C Z N : Nat) (S : ma_S) : Prop := zG zKd_f zKd_s zKd_a zKd_r zKd_x f r C Z N S
def zFe_f (c k : Nat) : Bool := zfz c k && (decide (c ≠ 64) || decide (k = 7)) && decide (c ≠ 65)
def zFe_s : List (Nat × Nat × Int × Int) := [(69, 5, 0, 512), (69, 6, 0, 512), (75, 3, 0, 512), (75, 4, 0, 512), (88, 3, 0, 512), (88, 4, 0, 512), (64, 1, 0, 100), (64, 2, 0, 100), (64, 3, 0, 100), (64, 7, 0, 16)]
def zFe_a : List (Nat × Nat × Int × Int) := []
def zFe_r : List Nat := [70]
def zFe_x (_ : Nat → Nat → Int32) : Prop := True
abbrev zFe (f : Nat → Nat → Int32) (r : Nat → Nat → Option Nat) (C Z N : Nat) (S : ma_S) : Prop := zG zFe_f zFe_s zFe_a zFe_r zFe_x f r C Z N S
def zM92_f (c k : Nat) : Bool := zfz c k && decide (c ≠ 92)
def zM92_s : List (Nat × Nat × Int × Int) := [(69, 5, 0, 512), (69, 6, 0, 512), (75, 3, 0, 512), (75, 4, 0, 512), (88, 3, 0, 512), (88, 4, 0, 512)]
def zM92_a : List (Nat × Nat × Int × Int) := [(92, 93, 0, 3000)]
def zM92_r : List Nat := [70]
def zM92_x (_ : Nat → Nat → Int32) : Prop := True
abbrev zM92 (f : Nat → Nat → Int32) (r : Nat → Nat → Option Nat) (C Z N : Nat) (S : ma_S) : Prop := zG zM92_f zM92_s zM92_a zM92_r zM92_x f r C Z N S
theorem zR_dn_zY {f : Nat → Nat → Int32} {r : Nat → Nat → Option Nat} {C Z N : Nat} {S : ma_S} (h : zR f r C Z N S) : zY (mI S) (mR S) C Z N S := zG_dn h (by decide) (by decide) (by decide) (fun _ => trivial)
theorem zR_up_zY {f : Nat → Nat → Int32} {r : Nat → Nat → Option Nat} {C Z N : Nat} {S S1 : ma_S} (h : zR f r C Z N S) (h1 : zY (mI S) (mR S) C Z N S1) : zR f r C Z N S1 := by
  refine zG_up h h1 (fun c k z => ?_) (by decide) ?_ (by decide) (fun g q h => ?_)
  · have z0 : zfz c k = true := by
      simp only [zR_f, Bool.and_eq_true] at z
      simp only [z]
    simp only [zR_f, Bool.and_eq_true, Bool.or_eq_true, decide_eq_true_eq] at z
    simp only [zY_f, Bool.and_eq_true, Bool.or_eq_true, decide_eq_true_eq]
    exact ⟨z0, by omega⟩
  · intro q hq
    have e : q = (66, 4, -1, 1500) := by simpa [zR_a] using hq
    rcases e with rfl
    · exact Or.inr (fun _ => rfl)
  · exact trivial
theorem zR_dn_zY0 {f : Nat → Nat → Int32} {r : Nat → Nat → Option Nat} {C Z N : Nat} {S : ma_S} (h : zR f r C Z N S) : zY0 (mI S) (mR S) C Z N S := zG_dn h (by decide) (by decide) (by decide) (fun _ => trivial)
theorem zR_up_zY0 {f : Nat → Nat → Int32} {r : Nat → Nat → Option Nat} {C Z N : Nat} {S S1 : ma_S} (h : zR f r C Z N S) (h1 : zY0 (mI S) (mR S) C Z N S1) : zR f r C Z N S1 := by
  refine zG_up h h1 (fun c k z => ?_) (by decide) ?_ (by decide) (fun g q h => ?_)
  · have z0 : zfz c k = true := by
      simp only [zR_f, Bool.and_eq_true] at z
      simp only [z]
    simp only [zR_f, Bool.and_eq_true, Bool.or_eq_true, decide_eq_true_eq] at z
    exact z0
  · intro q hq
    have e : q = (66, 4, -1, 1500) := by simpa [zR_a] using hq
    rcases e with rfl
    · exact Or.inr (fun _ => rfl)
  · exact trivial
theorem zA_dn_zR {f : Nat → Nat → Int32} {r : Nat → Nat → Option Nat} {C Z N : Nat} {S : ma_S} (h : zA f r C Z N S) : zR (mI S) (mR S) C Z N S := zG_dn h (by decide) (by decide) (by decide) (fun _ => trivial)
theorem zA_up_zR {f : Nat → Nat → Int32} {r : Nat → Nat → Option Nat} {C Z N : Nat} {S S1 : ma_S} (h : zA f r C Z N S) (h1 : zR (mI S) (mR S) C Z N S1) : zA f r C Z N S1 := by
  refine zG_up h h1 (fun c k z => ?_) (by decide) ?_ (by decide) (fun g q h => ?_)
  · have z0 : zfz c k = true := by
      simp only [zA_f, Bool.and_eq_true] at z
      simp only [z]
    simp only [zA_f, Bool.and_eq_true, Bool.or_eq_true, decide_eq_true_eq] at z
    simp only [zR_f, Bool.and_eq_true, Bool.or_eq_true, decide_eq_true_eq]
    exact ⟨⟨z0, by omega⟩, by omega⟩
  · intro q hq
    have e : q = (66, 4, -1, 1500) ∨ q = (67, 16, 0, 8) ∨ q = (92, 93, 0, 3000) := by simpa [zA_a] using hq
    rcases e with rfl | rfl | rfl
    · exact Or.inl (by decide)
    · exact Or.inr (fun _ => rfl)
    · exact Or.inr (fun _ => rfl)
  · unfold zA_x at h ⊢
    rw [g 81 2 rfl, g 81 3 rfl, g 82 2 rfl, g 82 3 rfl, g 82 7 rfl]
    exact h
theorem zAn_dn_zKd {f : Nat → Nat → Int32} {r : Nat → Nat → Option Nat} {C Z N : Nat} {S : ma_S} (h : zAn f r C Z N S) : zKd (mI S) (mR S) C Z N S := zG_dn h (by decide) (by decide) (by decide) (fun _ => trivial)
theorem zAn_up_zKd {f : Nat → Nat → Int32} {r : Nat → Nat → Option Nat} {C Z N : Nat} {S S1 : ma_S} (h : zAn f r C Z N S) (h1 : zKd (mI S) (mR S) C Z N S1) : zAn f r C Z N S1 := by
  refine zG_up h h1 (fun c k z => ?_) (by decide) ?_ (by decide) (fun g q h => ?_)
  · have z0 : zfz c k = true := by
      simp only [zAn_f, Bool.and_eq_true] at z
      simp only [z]
    simp only [zAn_f, Bool.and_eq_true, Bool.or_eq_true, decide_eq_true_eq] at z
    simp only [zKd_f, Bool.and_eq_true, Bool.or_eq_true, decide_eq_true_eq]
    exact ⟨⟨⟨z0, by omega⟩, by omega⟩, by omega⟩
  · intro q hq
    have e : q = (66, 4, -1, 1500) ∨ q = (67, 16, 0, 8) ∨ q = (92, 93, 0, 3000) := by simpa [zAn_a] using hq
    rcases e with rfl | rfl | rfl
    · exact Or.inr (fun _ => rfl)
    · exact Or.inl (by decide)
    · exact Or.inr (fun _ => rfl)
  · unfold zAn_x at h ⊢
    rw [g 81 2 rfl, g 81 3 rfl, g 82 2 rfl, g 82 3 rfl, g 82 7 rfl]
    exact h
theorem zA_dn_zFe {f : Nat → Nat → Int32} {r : Nat → Nat → Option Nat} {C Z N : Nat} {S : ma_S} (h : zA f r C Z N S) : zFe (mI S) (mR S) C Z N S := zG_dn h (by decide) (by decide) (by decide) (fun _ => trivial)
theorem zA_up_zFe {f : Nat → Nat → Int32} {r : Nat → Nat → Option Nat} {C Z N : Nat} {S S1 : ma_S} (h : zA f r C Z N S) (h1 : zFe (mI S) (mR S) C Z N S1) : zA f r C Z N S1 := by
  refine zG_up h h1 (fun c k z => ?_) (by decide) ?_ (by decide) (fun g q h => ?_)
  · have z0 : zfz c k = true := by
      simp only [zA_f, Bool.and_eq_true] at z
      simp only [z]
    simp only [zA_f, Bool.and_eq_true, Bool.or_eq_true, decide_eq_true_eq] at z
    simp only [zFe_f, Bool.and_eq_true, Bool.or_eq_true, decide_eq_true_eq]
    exact ⟨⟨z0, by omega⟩, by omega⟩
  · intro q hq
    have e : q = (66, 4, -1, 1500) ∨ q = (67, 16, 0, 8) ∨ q = (92, 93, 0, 3000) := by simpa [zA_a] using hq
    rcases e with rfl | rfl | rfl
    · exact Or.inr (fun _ => rfl)
    · exact Or.inr (fun _ => rfl)
    · exact Or.inr (fun _ => rfl)
  · unfold zA_x at h ⊢
    rw [g 81 2 rfl, g 81 3 rfl, g 82 2 rfl, g 82 3 rfl, g 82 7 rfl]
    exact h
theorem zL91_dn_zM92 {f : Nat → Nat → Int32} {r : Nat → Nat → Option Nat} {C Z N : Nat} {S : ma_S} (h : zL91 f r C Z N S) : zM92 (mI S) (mR S) C Z N S := zG_dn h (by decide) (by decide) (by decide) (fun _ => trivial)
theorem zL91_up_zM92 {f : Nat → Nat → Int32} {r : Nat → Nat → Option Nat} {C Z N : Nat} {S S1 : ma_S} (h : zL91 f r C Z N S) (h1 : zM92 (mI S) (mR S) C Z N S1) : zL91 f r C Z N S1 := by
  refine zG_up h h1 (fun c k z => ?_) (by decide) ?_ (by decide) (fun g q h => ?_)
  · have z0 : zfz c k = true := by
      simp only [zL91_f, Bool.and_eq_true] at z
      simp only [z]
    simp only [zL91_f, Bool.and_eq_true, Bool.or_eq_true, decide_eq_true_eq] at z
    simp only [zM92_f, Bool.and_eq_true, Bool.or_eq_true, decide_eq_true_eq]
    exact ⟨z0, by omega⟩
  · intro q hq
    have e : q = (92, 93, 0, 3000) := by simpa [zL91_a] using hq
    rcases e with rfl
    · exact Or.inl (by decide)
  · exact trivial
/-! tables -/


