/-! REGIONS, the reference (written by wip/tools/gen15t.py) -/
/-! REGIONS: the reference -/
/-- what its own fields say -/
def qRL (a : Nat → Nat → Int32) (si rg sh pr : Int32) (tp : Nat → Int32) : Prop := a 87 3 = si ∧ a 87 4 = rg ∧ a 87 5 = sh ∧ a 87 9 = pr ∧ ∀ r : Nat, (r : Int) < rg.toInt → a 92 r = tp r
def rLw (sh si : Int) (pr : Int) (kw hl dn : Nat → Int32) (r : Nat) : Int := if dn r = 0 ∧ hl r = 0 ∧ (r : Int) ≠ pr ∧ (kw r).toInt * 100 ≤ sh * si then (kw r).toInt else 0
/-- what leaves -/
def qLR (a : Nat → Nat → Int32) (rg sh si pr : Int32) (kw hl dn : Nat → Int32) : Prop := ∀ r : Nat, (r : Int) < rg.toInt → (0 ≤ (kw r).toInt ∧ (kw r).toInt ≤ 31232) ∧ (a 93 r).toInt = rLw sh.toInt si.toInt pr.toInt kw hl dn r
/-- the same, but for region q -/
def qLq (a : Nat → Nat → Int32) (rg sh si pr : Int32) (kw hl dn : Nat → Int32) (q : Int) : Prop := ∀ r : Nat, (r : Int) < rg.toInt → (0 ≤ (kw r).toInt ∧ (kw r).toInt ≤ 31232) ∧ ((r : Int) ≠ q → (a 93 r).toInt = rLw sh.toInt si.toInt pr.toInt kw hl dn r)
/-- sums over slots -/
def zsg (f : Nat → Int) : Nat → Int
  | 0 => 0
  | n + 1 => zsg f n + f n
def zKs (us ws at' : Nat → Int32) (si r : Int) : Nat → Int := zsg (fun s => if us s ≠ 0 ∧ (at' s).toInt / si = r then (ws s).toInt + 1 else 0)
def zHs (us ho at' : Nat → Int32) (si r : Int) (n : Nat) : Prop := ∃ s, s < n ∧ us s ≠ 0 ∧ 0 < (ho s).toInt ∧ (at' s).toInt / si = r
def qUT (U : (Nat → Nat → Int32) × Int × Bool) (q : Int) (T : (Nat → Nat → Int32) × Int) : Prop := (U.2.2 = true → rOf 92 (ma_u (ma_u U.1 93 q.toNat 0) 92 q.toNat 0) U.2.1 = T) ∧ (U.2.2 = false → (U.1, U.2.1) = T)
/-- how many leave -/
def rCn (a : Nat → Nat → Int32) : Nat → Nat
  | 0 => 0
  | n + 1 => rCn a n + (if 0 < (a 93 n).toInt then 1 else 0)
section F16
variable {a b c aa : Nat → Nat → Int32} {us nr kr kd ws at' at2 ho wd wi ow ow2 rt wk wl tp tp2 kw hl dn kw2 hl2 dn2 : Nat → Int32} {wm nu ro fo le ra pi si rg sh pr to s x x2 y y2 v z w l l2 : Int32} {t t2 g q p e r : Int} {n m k f : Nat} {T : (Nat → Nat → Int32) × Int} {F G : Nat → Int}
/-! sums -/
theorem sg_cg : ∀ n, (∀ k, k < n → F k = G k) → zsg F n = zsg G n := by
  intro n
  induction n with
  | zero => intro _; rfl
  | succ n ih =>
    intro h
    show zsg F n + F n = zsg G n + G n
    rw [ih (fun k hk => h k (by omega)), h n (by omega)]
theorem sg_0 : ∀ n, (∀ k, k < n → F k = 0) → zsg F n = 0 := by
  intro n
  induction n with
  | zero => intro _; rfl
  | succ n ih =>
    intro h
    show zsg F n + F n = 0
    rw [ih (fun k hk => h k (by omega)), h n (by omega)]
    rfl
theorem sg_1 : ∀ n k, k < n → (∀ j, j < n → j ≠ k → F j = 0) → zsg F n = F k := by
  intro n
  induction n with
  | zero => intro k hk; omega
  | succ n ih =>
    intro k hk h
    show zsg F n + F n = F k
    by_cases w : k = n
    · rw [w, sg_0 n (fun j hj => h j (by omega) (by omega)), Int.zero_add]
    · rw [ih k (by omega) (fun j hj hne => h j (by omega) hne), h n (by omega) (fun z => w z.symm), Int.add_zero]
theorem sg_ad : ∀ n, zsg (fun k => F k + G k) n = zsg F n + zsg G n := by
  intro n
  induction n with
  | zero => rfl
  | succ n ih =>
    show zsg (fun k => F k + G k) n + (F n + G n) = zsg F n + F n + (zsg G n + G n)
    rw [ih]
    omega
/-- slots by numbers -/
theorem Ks_kf (h : qR1 us nr ws at' ho a) (hI : qI a) (hs : (a 87 3).toInt = si.toInt) (r : Int) : ∀ N : Nat, N ≤ 512 → zsg (fun s => if us s ≠ 0 ∧ (nr s).toInt < (N : Int) ∧ (at' s).toInt / si.toInt = r then (ws s).toInt + 1 else 0) 3100 = rKf a r N := by
  intro N
  induction N with
  | zero =>
    intro _
    refine sg_0 _ (fun k hk => if_neg (fun z => ?_))
    have q := (h.1 k hk z.1).1
    omega
  | succ N ih =>
    intro hN
    rw [Kf_s, ← ih (by omega)]
    have e : zsg (fun s => if us s ≠ 0 ∧ (nr s).toInt < ((N + 1 : Nat) : Int) ∧ (at' s).toInt / si.toInt = r then (ws s).toInt + 1 else 0) 3100 = zsg (fun s => (if us s ≠ 0 ∧ (nr s).toInt < (N : Int) ∧ (at' s).toInt / si.toInt = r then (ws s).toInt + 1 else 0) + (if us s ≠ 0 ∧ (nr s).toInt = (N : Int) ∧ (at' s).toInt / si.toInt = r then (ws s).toInt + 1 else 0)) 3100 := by
      refine sg_cg _ (fun k hk => ?_)
      by_cases c1 : us k ≠ 0 ∧ (nr k).toInt < (N : Int) ∧ (at' k).toInt / si.toInt = r
      · rw [if_pos ⟨c1.1, by omega, c1.2.2⟩, if_pos c1, if_neg (fun z => by omega), Int.add_zero]
      · rw [if_neg c1, Int.zero_add]
        by_cases c2 : us k ≠ 0 ∧ (nr k).toInt = (N : Int) ∧ (at' k).toInt / si.toInt = r
        · rw [if_pos ⟨c2.1, by omega, c2.2.2⟩, if_pos c2]
        · rw [if_neg (fun z => ?_), if_neg c2]
          by_cases c3 : (nr k).toInt = (N : Int)
          · exact c2 ⟨z.1, c3, z.2.2⟩
          · exact c1 ⟨z.1, by omega, z.2.2⟩
    have key : zsg (fun s => if us s ≠ 0 ∧ (nr s).toInt = (N : Int) ∧ (at' s).toInt / si.toInt = r then (ws s).toInt + 1 else 0) 3100 = if a 126 N ≠ 0 ∧ (a 130 N).toInt / (a 87 3).toInt = r then (a 128 N).toInt else 0 := by
      by_cases w : a 126 N ≠ 0 ∧ (a 130 N).toInt / (a 87 3).toInt = r
      · obtain ⟨s, h1, h2, h3⟩ := h.2.2 N (by omega) w.1
        have nn : (nr s).toInt = (N : Int) := by
          rw [h3]
          exact Int32.toInt_ofNat_of_lt (by omega)
        have q := h.1 s h1 h2
        have tn : (nr s).toNatClampNeg = N := by
          have := tn_cast (x := nr s) (by omega)
          omega
        rw [tn] at q
        have e2 : (a 128 N).toInt = (ws s).toInt + 1 := by
          rw [q.2.2.1]
          exact i_addk rfl (by have := q.2.2.2.2.2.1; omega) (by have := q.2.2.2.2.2.1; omega)
        have rg2 : (at' s).toInt / si.toInt = r := by
          rw [← q.2.2.2.1, ← hs]
          exact w.2
        rw [if_pos w, sg_1 3100 s h1 (fun j hj hne => if_neg (fun z => ?_)), if_pos ⟨h2, nn, rg2⟩, e2]
        exact hne (h.2.1 j s hj h1 z.1 h2 (Int32.toInt_inj.mp (by rw [z.2.1, nn])))
      · rw [if_neg w]
        refine sg_0 _ (fun s hk => if_neg (fun z => w ?_))
        have q := h.1 s hk z.1
        have tn : (nr s).toNatClampNeg = N := by
          have := tn_cast (x := nr s) (by omega)
          omega
        rw [tn] at q
        refine ⟨q.2.1, ?_⟩
        rw [q.2.2.2.1, hs]
        exact z.2.2
    rw [e, sg_ad, key]
theorem Ks_all (h : qR1 us nr ws at' ho a) (hI : qI a) (hs : a 87 3 = si) : zKs us ws at' si.toInt r 3100 = rKf a r 512 := by
  rw [← Ks_kf h hI (by rw [hs]) r 512 (by omega)]
  refine sg_cg _ (fun k hk => ?_)
  by_cases w : us k ≠ 0 ∧ (at' k).toInt / si.toInt = r
  · have q := (h.1 k hk w.1).1
    rw [if_pos w, if_pos ⟨w.1, by omega, w.2⟩]
  · rw [if_neg w, if_neg (fun z => w ⟨z.1, z.2.2⟩)]
theorem Ks_s : zKs us ws at' (si.toInt) r (n + 1) = zKs us ws at' si.toInt r n + (if us n ≠ 0 ∧ (at' n).toInt / si.toInt = r then (ws n).toInt + 1 else 0) := rfl
theorem Ks_bd (h : qR1 us nr ws at' ho a) (r : Int) : ∀ n, n ≤ 3100 → 0 ≤ zKs us ws at' si.toInt r n ∧ zKs us ws at' si.toInt r n ≤ 61 * (n : Int) := by
  intro n
  induction n with
  | zero => intro _; exact ⟨by show (0 : Int) ≤ 0; decide, by show (0 : Int) ≤ 61 * 0; decide⟩
  | succ n ih =>
    intro hn
    have q := ih (by omega)
    rw [Ks_s]
    split
    · next w =>
      have i := (h.1 n (by omega) w.1).2.2.2.2.2.1
      omega
    · omega
/-! rows 92, 93 are no matter of RB -/
theorem RB_c9 (h : qRB us nr kr kd ws at' ho wd wi ow rt wk wl wm nu ro fo le ra pi a) (e : ∀ c, c ≠ 92 → c ≠ 93 → b c = a c) : qRB us nr kr kd ws at' ho wd wi ow rt wk wl wm nu ro fo le ra pi b := by
  have rf : ∀ n i, aRef b n i = aRef a n i := fun n i => rf_cg (e _ (by omega) (by omega)) (e _ (by decide) (by decide)) (e _ (by decide) (by decide))
  obtain ⟨h1, h2, h3, h4, h5, h6, h7, h8⟩ := h
  refine ⟨?_, fun s hs hu i hi => ?_, ?_, ?_, ?_, ?_, h7, ?_⟩
  · unfold qR1 at h1 ⊢
    rw [e 126 (by decide) (by decide), e 128 (by decide) (by decide), e 130 (by decide) (by decide), e 133 (by decide) (by decide)]
    exact h1
  · rw [rf, e (1000 + (nr s).toNatClampNeg) (by omega) (by omega)]
    exact h2 s hs hu i hi
  · unfold qR3 at h3 ⊢
    rw [e 72 (by decide) (by decide)]
    exact h3
  · unfold qR3 at h4 ⊢
    rw [e 73 (by decide) (by decide)]
    exact h4
  · unfold qR5 at h5 ⊢
    rw [e 69 (by decide) (by decide), e 74 (by decide) (by decide)]
    exact h5
  · unfold qR6 at h6 ⊢
    rw [e 134 (by decide) (by decide)]
    exact h6
  · unfold qR8 at h8 ⊢
    rw [e 69 (by decide) (by decide), e 87 (by decide) (by decide)]
    exact h8
/-! the least EMPTY one, how many -/
theorem RL_b (h : qRL a si rg sh pr tp) (hv : qRv a) : (16 ≤ si.toInt ∧ si.toInt ≤ 256) ∧ (1 ≤ rg.toInt ∧ rg.toInt ≤ 93) ∧ (0 ≤ pr.toInt ∧ pr.toInt < rg.toInt) ∧ (0 ≤ sh.toInt ∧ sh.toInt ≤ 100) ∧ rg.toInt * si.toInt ≤ 1500 := by
  have q := hv.2.2.1
  rw [h.1, h.2.1, h.2.2.1, h.2.2.2.1] at q
  exact ⟨q.1, q.2.1, q.2.2.1, q.2.2.2.1, by omega⟩
theorem RL_t (h : qRL a si rg sh pr tp) (h0 : 0 ≤ x.toInt) (h1 : x.toInt < rg.toInt) : a 92 x.toNatClampNeg = tp x.toNatClampNeg := h.2.2.2.2 _ (by rw [tn_cast h0]; exact h1)
theorem LE_0 : qEq (rLf a (93 - (0 : Int32).toInt).toNat (0 : Int32).toNatClampNeg) (rLe a) := rfl
theorem LE_nx (h : qRL a si rg sh pr tp) (hv : qRv a) (hl : qEq (rLf a (93 - x.toInt).toNat x.toNatClampNeg) (rLe a)) (h0 : 0 ≤ x.toInt) (h1 : x.toInt < rg.toInt) (hn : (tp x.toNatClampNeg).toInt ≠ 0) (hx : x2.toInt = x.toInt + 1) : qEq (rLf a (93 - x2.toInt).toNat x2.toNatClampNeg) (rLe a) := by
  have b := RL_b h hv
  have tc := tn_cast h0
  have tc2 := tn_cast (x := x2) (by omega)
  have q := qE hl
  rw [show (93 - x.toInt).toNat = (93 - x2.toInt).toNat + 1 from by omega, Lf_n (by rw [h.2.1]; omega) (by rw [RL_t h h0 h1]; exact hn)] at q
  rw [show x2.toNatClampNeg = x.toNatClampNeg + 1 from by omega]
  exact q
theorem LE_yes (h : qRL a si rg sh pr tp) (hv : qRv a) (hl : qEq (rLf a (93 - x.toInt).toNat x.toNatClampNeg) (rLe a)) (h0 : 0 ≤ x.toInt) (h1 : x.toInt < rg.toInt) (hn : (tp x.toNatClampNeg).toInt = 0) : qEq x.toInt (rLe a) := by
  have b := RL_b h hv
  have tc := tn_cast h0
  have q := qE hl
  rw [show (93 - x.toInt).toNat = (92 - x.toInt).toNat + 1 from by omega, Lf_y (by rw [h.2.1]; omega) (by rw [RL_t h h0 h1]; exact hn)] at q
  show x.toInt = rLe a
  omega
theorem LE_none (h : qRL a si rg sh pr tp) (hl : qEq (rLf a (93 - x.toInt).toNat x.toNatClampNeg) (rLe a)) (h0 : 0 ≤ x.toInt) (h1 : ¬ x.toInt < rg.toInt) : qEq (-1 : Int32).toInt (rLe a) := by
  have tc := tn_cast h0
  have q := qE hl
  rw [Lf_e (by rw [h.2.1]; omega)] at q
  exact q
theorem EF_nx (h : qRL a si rg sh pr tp) (he : qEq y.toInt (rEf a x.toNatClampNeg)) (h0 : 0 ≤ x.toInt) (h1 : x.toInt < rg.toInt) (hx : x2.toInt = x.toInt + 1) (hn : ((tp x.toNatClampNeg).toInt = 0 ∧ y2.toInt = y.toInt + 1) ∨ ((tp x.toNatClampNeg).toInt ≠ 0 ∧ y2 = y)) : qEq y2.toInt (rEf a x2.toNatClampNeg) := by
  rcases hn with w | w
  · exact Ef_y (qE he) h0 (by rw [h.2.1]; exact h1) (by rw [RL_t h h0 h1]; exact w.1) w.2 hx
  · rw [w.2]
    exact Ef_n (qE he) h0 (by rw [RL_t h h0 h1]; exact w.1) hx
theorem EF_end (h : qRL a si rg sh pr tp) (hv : qRv a) (he : qEq y.toInt (rEf a x.toNatClampNeg)) (h0 : 0 ≤ x.toInt) (h1 : ¬ x.toInt < rg.toInt) (h9 : x.toInt ≤ rg.toInt) : qEq y.toInt (rEf a 93) := by
  have b := RL_b h hv
  exact Ef_e (qE he) h0 (Or.inl (by rw [h.2.1]; omega)) (by omega)
/-! the sparse one -/
theorem Fg_z {l : Nat → Int} : ∀ m n : Nat, n ≤ m → (∀ k, n ≤ k → k < m → l k = 0) → rFg l m = rFg l n := by
  intro m
  induction m with
  | zero => intro n h _; rw [show n = 0 by omega]
  | succ m ih =>
    intro n h hz
    by_cases w : n = m + 1
    · rw [w]
    · rw [Fg_s, if_neg (fun z => by have := hz m (by omega) (by omega); omega)]
      exact ih n (by omega) (fun k h1 h2 => hz k h1 (by omega))
def qFg (a : Nat → Nat → Int32) (x : Int) (n : Nat) : Prop := x = rFg (fun k => (a 93 k).toInt) n
theorem SP_b (h : qLR a rg sh si pr kw hl dn) (h0 : 0 ≤ x.toInt) (h1 : x.toInt < rg.toInt) : (0 ≤ (kw x.toNatClampNeg).toInt ∧ (kw x.toNatClampNeg).toInt ≤ 31232) ∧ (a 93 x.toNatClampNeg).toInt = rLw sh.toInt si.toInt pr.toInt kw hl dn x.toNatClampNeg := h _ (by rw [tn_cast h0]; exact h1)
theorem SP_no (h : qLR a rg sh si pr kw hl dn) (hf : qFg a y.toInt x.toNatClampNeg) (h0 : 0 ≤ x.toInt) (h1 : x.toInt < rg.toInt) (hx : x2.toInt = x.toInt + 1) (hn : dn x.toNatClampNeg ≠ 0 ∨ hl x.toNatClampNeg ≠ 0 ∨ x.toInt = pr.toInt ∨ (kw x.toNatClampNeg).toInt = 0 ∨ sh.toInt * si.toInt < (kw x.toNatClampNeg).toInt * 100) : qFg a y.toInt x2.toNatClampNeg := by
  have b := SP_b h h0 h1
  have tc := tn_cast h0
  have tc2 := tn_cast (x := x2) (by omega)
  have z : (a 93 x.toNatClampNeg).toInt = 0 := by
    rw [b.2]
    unfold rLw
    split
    · next w =>
      rcases hn with q | q | q | q | q
      · exact absurd w.1 q
      · exact absurd w.2.1 q
      · exact absurd (by omega) w.2.2.1
      · exact q
      · omega
    · rfl
  unfold qFg at hf ⊢
  rw [show x2.toNatClampNeg = x.toNatClampNeg + 1 from by omega, Fg_s, if_neg (fun w => by omega)]
  exact hf
theorem SP_ye (h : qLR a rg sh si pr kw hl dn) (hf : qFg a y.toInt x.toNatClampNeg) (h0 : 0 ≤ x.toInt) (h1 : x.toInt < rg.toInt) (hx : x2.toInt = x.toInt + 1) (h3 : dn x.toNatClampNeg = 0) (h4 : hl x.toNatClampNeg = 0) (h5 : x.toInt ≠ pr.toInt) (h6 : (kw x.toNatClampNeg).toInt ≠ 0) (h7 : ¬ sh.toInt * si.toInt < (kw x.toNatClampNeg).toInt * 100) (hy : ((y.toInt < 0 ∨ (0 ≤ y.toInt ∧ (kw x.toNatClampNeg).toInt < (kw y.toNatClampNeg).toInt)) ∧ y2 = x) ∨ (¬ y.toInt < 0 ∧ ¬ (kw x.toNatClampNeg).toInt < (kw y.toNatClampNeg).toInt ∧ y2 = y)) : qFg a y2.toInt x2.toNatClampNeg := by
  have b := SP_b h h0 h1
  have tc := tn_cast h0
  have tc2 := tn_cast (x := x2) (by omega)
  have z : (a 93 x.toNatClampNeg).toInt = (kw x.toNatClampNeg).toInt := by
    rw [b.2]
    exact if_pos ⟨h3, h4, by omega, by omega⟩
  have fb := Fg_b (l := fun k => (a 93 k).toInt) x.toNatClampNeg
  have yb : ¬ y.toInt < 0 → (a 93 y.toNatClampNeg).toInt = (kw y.toNatClampNeg).toInt := fun hy0 => by
    have tcy := tn_cast (x := y) (by omega)
    have q : y.toInt < x.toInt := by
      unfold qFg at hf
      omega
    have pos : 0 < (a 93 y.toNatClampNeg).toInt := by
      unfold qFg at hf
      have g := fb.2.2 (by omega)
      rw [← hf] at g
      exact g
    have bb := SP_b (x := y) h (by omega) (by omega)
    rw [bb.2] at pos ⊢
    unfold rLw at pos ⊢
    split
    · rfl
    · next w =>
      rw [if_neg w] at pos
      omega
  unfold qFg at hf ⊢
  rw [show x2.toNatClampNeg = x.toNatClampNeg + 1 from by omega, Fg_s]
  rcases hy with ⟨w, e2⟩ | ⟨w1, w2, e2⟩
  · have cnd : 0 < (a 93 x.toNatClampNeg).toInt ∧ (rFg (fun k => (a 93 k).toInt) x.toNatClampNeg = -1 ∨ (a 93 x.toNatClampNeg).toInt < (a 93 (rFg (fun k => (a 93 k).toInt) x.toNatClampNeg).toNat).toInt) := by
      refine ⟨by omega, ?_⟩
      rw [← hf]
      rcases w with q | q
      · exact Or.inl (by omega)
      · refine Or.inr ?_
        have g := yb (by omega)
        show (a 93 x.toNatClampNeg).toInt < (a 93 y.toNatClampNeg).toInt
        omega
    rw [if_pos cnd, e2]
    exact tc.symm
  · have cnd : ¬ (0 < (a 93 x.toNatClampNeg).toInt ∧ (rFg (fun k => (a 93 k).toInt) x.toNatClampNeg = -1 ∨ (a 93 x.toNatClampNeg).toInt < (a 93 (rFg (fun k => (a 93 k).toInt) x.toNatClampNeg).toNat).toInt)) := by
      rw [← hf]
      rintro ⟨_, q | q⟩
      · omega
      · have g := yb w1
        have q2 : (a 93 x.toNatClampNeg).toInt < (a 93 y.toNatClampNeg).toInt := q
        omega
    rw [if_neg cnd, e2]
    exact hf
theorem SP_end (hv : qRv a) (hl' : qLv a t) (h : qRL a si rg sh pr tp) (hf : qFg a y.toInt x.toNatClampNeg) (h0 : 0 ≤ x.toInt) (h1 : ¬ x.toInt < rg.toInt) (h9 : x.toInt ≤ rg.toInt) : qEq y.toInt (rFw a) := by
  have b := RL_b h hv
  have tc := tn_cast h0
  show y.toInt = rFw a
  unfold qFg at hf
  unfold rFw
  rw [hf]
  refine (Fg_z 93 _ (by omega) (fun k k1 k2 => ?_)).symm
  have l0 := hl'.1 k k2
  by_cases w : 0 < (a 93 k).toInt
  · have g := (hl'.2.1 k k2 w).1
    rw [h.2.1] at g
    omega
  · show (a 93 k).toInt = 0
    omega
end F16
