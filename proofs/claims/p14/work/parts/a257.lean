/-! from 95.t00 -/
/-! REGIONS, the reference (written by wip/tools/gen15t.py) -/
/-! REGIONS: the reference -/
/-- what its own fields say -/
def qRL (a : Nat → Nat → Int32) (si rg sh pr : Int32) (tp : Nat → Int32) : Prop := a 87 3 = si ∧ a 87 4 = rg ∧ a 87 5 = sh ∧ a 87 9 = pr ∧ ∀ r : Nat, (r : Int) < rg.toInt → a 92 r = tp r
def rLw (sh si : Int) (pr : Int) (kw hl dn : Nat → Int32) (r : Nat) : Int := if dn r = 0 ∧ hl r = 0 ∧ (r : Int) ≠ pr ∧ (kw r).toInt * 100 ≤ sh * si then (kw r).toInt else 0
/-- what leaves -/
def qLR (a : Nat → Nat → Int32) (rg sh si pr : Int32) (kw hl dn : Nat → Int32) : Prop := ∀ r : Nat, (r : Int) < rg.toInt → (0 ≤ (kw r).toInt ∧ (kw r).toInt ≤ 31232) ∧ (a 93 r).toInt = rLw sh.toInt si.toInt pr.toInt kw hl dn r
/-- the same, but for region q -/
def qLq (a : Nat → Nat → Int32) (rg sh si pr : Int32) (kw hl dn : Nat → Int32) (q : Int) : Prop := ∀ r : Nat, (r : Int) < rg.toInt → (0 ≤ (kw r).toInt ∧ (kw r).toInt ≤ 31232) ∧ ((r : Int) ≠ q → (a 93 r).toInt = rLw sh.toInt si.toInt pr.toInt kw hl dn r)
/-- sums over slots -/
def zsg (f : Nat → Int) : Nat → Int
  | 0 => 0
  | n + 1 => zsg f n + f n
def zKs (us ws at₉ : Nat → Int32) (si r : Int) : Nat → Int := zsg (fun s => if us s ≠ 0 ∧ (at₉ s).toInt / si = r then (ws s).toInt + 1 else 0)
def zHs (us ho at₉ : Nat → Int32) (si r : Int) (n : Nat) : Prop := ∃ s, s < n ∧ us s ≠ 0 ∧ 0 < (ho s).toInt ∧ (at₉ s).toInt / si = r
def qUT (U : (Nat → Nat → Int32) × Int × Bool) (q : Int) (T : (Nat → Nat → Int32) × Int) : Prop := (U.2.2 = true → rOf 92 (ma_u (ma_u U.1 93 q.toNat 0) 92 q.toNat 0) U.2.1 = T) ∧ (U.2.2 = false → (U.1, U.2.1) = T)
/-- how many leave -/
def rCn (a : Nat → Nat → Int32) : Nat → Nat
  | 0 => 0
  | n + 1 => rCn a n + (if 0 < (a 93 n).toInt then 1 else 0)
section F16
variable {a b c aa : Nat → Nat → Int32} {us nr kr kd ws at₉ at2 ho wd wi ow ow2 rt wk wl tp tp2 kw hl dn kw2 hl2 dn2 : Nat → Int32} {wm nu ro fo le ra pi si rg sh pr to s x x2 y y2 v z w l l2 : Int32} {t t2 g q p e r : Int} {n m k f : Nat} {T : (Nat → Nat → Int32) × Int} {F G : Nat → Int}
/-! sums -/
theorem sg_cg : ∀ n, (∀ k, k < n → F k = G k) → zsg F n = zsg G n := by
  intro n
  induction n with
  | zero => intro _; rfl
  | succ n ih =>
    intro h
    show zsg F n + F n = zsg G n + G n
    rw [ih (fun k hk => h k (by omega)), h n (by omega)]
theorem sg_0 : ∀ n, (∀ k, k < n → F k = 0) → zsg F n = 0 := by
  intro n
  induction n with
  | zero => intro _; rfl
  | succ n ih =>
    intro h
    show zsg F n + F n = 0
    rw [ih (fun k hk => h k (by omega)), h n (by omega)]
    rfl
theorem sg_1 : ∀ n k, k < n → (∀ j, j < n → j ≠ k → F j = 0) → zsg F n = F k := by
  intro n
  induction n with
  | zero => intro k hk; omega
  | succ n ih =>
    intro k hk h
    show zsg F n + F n = F k
    by_cases w : k = n
    · rw [w, sg_0 n (fun j hj => h j (by omega) (by omega)), Int.zero_add]
    · rw [ih k (by omega) (fun j hj hne => h j (by omega) hne), h n (by omega) (fun z => w z.symm), Int.add_zero]
theorem sg_ad : ∀ n, zsg (fun k => F k + G k) n = zsg F n + zsg G n := by
  intro n
  induction n with
  | zero => rfl
  | succ n ih =>
    show zsg (fun k => F k + G k) n + (F n + G n) = zsg F n + F n + (zsg G n + G n)
    rw [ih]
    omega
/-- slots by numbers -/
theorem Ks_kf (h : qR1 us nr ws at₉ ho a) (hI : qI a) (hs : (a 87 3).toInt = si.toInt) (r : Int) : ∀ N : Nat, N ≤ 512 → zsg (fun s => if us s ≠ 0 ∧ (nr s).toInt < (N : Int) ∧ (at₉ s).toInt / si.toInt = r then (ws s).toInt + 1 else 0) 3100 = rKf a r N := by
  intro N
  induction N with
  | zero =>
    intro _
    refine sg_0 _ (fun k hk => if_neg (fun z => ?_))
    have q := (h.1 k hk z.1).1
    omega
  | succ N ih =>
    intro hN
    rw [Kf_s, ← ih (by omega)]
    have e : zsg (fun s => if us s ≠ 0 ∧ (nr s).toInt < ((N + 1 : Nat) : Int) ∧ (at₉ s).toInt / si.toInt = r then (ws s).toInt + 1 else 0) 3100 = zsg (fun s => (if us s ≠ 0 ∧ (nr s).toInt < (N : Int) ∧ (at₉ s).toInt / si.toInt = r then (ws s).toInt + 1 else 0) + (if us s ≠ 0 ∧ (nr s).toInt = (N : Int) ∧ (at₉ s).toInt / si.toInt = r then (ws s).toInt + 1 else 0)) 3100 := by
      refine sg_cg _ (fun k hk => ?_)
      by_cases c1 : us k ≠ 0 ∧ (nr k).toInt < (N : Int) ∧ (at₉ k).toInt / si.toInt = r
      · rw [if_pos ⟨c1.1, by omega, c1.2.2⟩, if_pos c1, if_neg (fun z => by omega), Int.add_zero]
      · rw [if_neg c1, Int.zero_add]
        by_cases c2 : us k ≠ 0 ∧ (nr k).toInt = (N : Int) ∧ (at₉ k).toInt / si.toInt = r
        · rw [if_pos ⟨c2.1, by omega, c2.2.2⟩, if_pos c2]
        · rw [if_neg (fun z => ?_), if_neg c2]
          by_cases c3 : (nr k).toInt = (N : Int)
          · exact c2 ⟨z.1, c3, z.2.2⟩
          · exact c1 ⟨z.1, by omega, z.2.2⟩
    have key : zsg (fun s => if us s ≠ 0 ∧ (nr s).toInt = (N : Int) ∧ (at₉ s).toInt / si.toInt = r then (ws s).toInt + 1 else 0) 3100 = if a 126 N ≠ 0 ∧ (a 130 N).toInt / (a 87 3).toInt = r then (a 128 N).toInt else 0 := by
      by_cases w : a 126 N ≠ 0 ∧ (a 130 N).toInt / (a 87 3).toInt = r
      · obtain ⟨s, h1, h2, h3⟩ := h.2.2 N (by omega) w.1
        have nn : (nr s).toInt = (N : Int) := by
          rw [h3]
          exact Int32.toInt_ofNat_of_lt (by omega)
        have q := h.1 s h1 h2
        have tn : (nr s).toNatClampNeg = N := by
          have := tn_cast (x := nr s) (by omega)
          omega
        rw [tn] at q
        have e2 : (a 128 N).toInt = (ws s).toInt + 1 := by
          rw [q.2.2.1]
          exact i_addk rfl (by have := q.2.2.2.2.2.1; omega) (by have := q.2.2.2.2.2.1; omega)
        have rg2 : (at₉ s).toInt / si.toInt = r := by
          rw [← q.2.2.2.1, ← hs]
          exact w.2
        rw [if_pos w, sg_1 3100 s h1 (fun j hj hne => if_neg (fun z => ?_)), if_pos ⟨h2, nn, rg2⟩, e2]
        exact hne (h.2.1 j s hj h1 z.1 h2 (Int32.toInt_inj.mp (by rw [z.2.1, nn])))
      · rw [if_neg w]
        refine sg_0 _ (fun s hk => if_neg (fun z => w ?_))
        have q := h.1 s hk z.1
        have tn : (nr s).toNatClampNeg = N := by
          have := tn_cast (x := nr s) (by omega)
          omega
        rw [tn] at q
        refine ⟨q.2.1, ?_⟩
        rw [q.2.2.2.1, hs]
        exact z.2.2
    rw [e, sg_ad, key]
theorem Ks_all (h : qR1 us nr ws at₉ ho a) (hI : qI a) (hs : a 87 3 = si) : zKs us ws at₉ si.toInt r 3100 = rKf a r 512 := by
  rw [← Ks_kf h hI (by rw [hs]) r 512 (by omega)]
  refine sg_cg _ (fun k hk => ?_)
  by_cases w : us k ≠ 0 ∧ (at₉ k).toInt / si.toInt = r
  · have q := (h.1 k hk w.1).1
    rw [if_pos w, if_pos ⟨w.1, by omega, w.2⟩]
  · rw [if_neg w, if_neg (fun z => w ⟨z.1, z.2.2⟩)]
theorem Ks_s : zKs us ws at₉ (si.toInt) r (n + 1) = zKs us ws at₉ si.toInt r n + (if us n ≠ 0 ∧ (at₉ n).toInt / si.toInt = r then (ws n).toInt + 1 else 0) := rfl
theorem Ks_bd (h : qR1 us nr ws at₉ ho a) (r : Int) : ∀ n, n ≤ 3100 → 0 ≤ zKs us ws at₉ si.toInt r n ∧ zKs us ws at₉ si.toInt r n ≤ 61 * (n : Int) := by
  intro n
  induction n with
  | zero => intro _; exact ⟨by show (0 : Int) ≤ 0; decide, by show (0 : Int) ≤ 61 * 0; decide⟩
  | succ n ih =>
    intro hn
    have q := ih (by omega)
    rw [Ks_s]
    split
    · next w =>
      have i := (h.1 n (by omega) w.1).2.2.2.2.2.1
      omega
    · omega
/-! rows 92, 93 are no matter of RB -/
theorem RB_c9 (h : qRB us nr kr kd ws at₉ ho wd wi ow rt wk wl wm nu ro fo le ra pi a) (e : ∀ c, c ≠ 92 → c ≠ 93 → b c = a c) : qRB us nr kr kd ws at₉ ho wd wi ow rt wk wl wm nu ro fo le ra pi b := by
  have rf : ∀ n i, aRef b n i = aRef a n i := fun n i => rf_cg (e _ (by omega) (by omega)) (e _ (by decide) (by decide)) (e _ (by decide) (by decide))
  obtain ⟨h1, h2, h3, h4, h5, h6, h7, h8⟩ := h
  refine ⟨?_, fun s hs hu i hi => ?_, ?_, ?_, ?_, ?_, h7, ?_⟩
  · unfold qR1 at h1 ⊢
    rw [e 126 (by decide) (by decide), e 128 (by decide) (by decide), e 130 (by decide) (by decide), e 133 (by decide) (by decide)]
    exact h1
  · rw [rf, e (1000 + (nr s).toNatClampNeg) (by omega) (by omega)]
    exact h2 s hs hu i hi
  · unfold qR3 at h3 ⊢
    rw [e 72 (by decide) (by decide)]
    exact h3
  · unfold qR3 at h4 ⊢
    rw [e 73 (by decide) (by decide)]
    exact h4
  · unfold qR5 at h5 ⊢
    rw [e 69 (by decide) (by decide), e 74 (by decide) (by decide)]
    exact h5
  · unfold qR6 at h6 ⊢
    rw [e 134 (by decide) (by decide)]
    exact h6
  · unfold qR8 at h8 ⊢
    rw [e 69 (by decide) (by decide), e 87 (by decide) (by decide)]
    exact h8
/-! the least EMPTY one, how many -/
theorem RL_b (h : qRL a si rg sh pr tp) (hv : qRv a) : (16 ≤ si.toInt ∧ si.toInt ≤ 256) ∧ (1 ≤ rg.toInt ∧ rg.toInt ≤ 93) ∧ (0 ≤ pr.toInt ∧ pr.toInt < rg.toInt) ∧ (0 ≤ sh.toInt ∧ sh.toInt ≤ 100) ∧ rg.toInt * si.toInt ≤ 1500 := by
  have q := hv.2.2.1
  rw [h.1, h.2.1, h.2.2.1, h.2.2.2.1] at q
  exact ⟨q.1, q.2.1, q.2.2.1, q.2.2.2.1, by omega⟩
theorem RL_t (h : qRL a si rg sh pr tp) (h0 : 0 ≤ x.toInt) (h1 : x.toInt < rg.toInt) : a 92 x.toNatClampNeg = tp x.toNatClampNeg := h.2.2.2.2 _ (by rw [tn_cast h0]; exact h1)
theorem LE_0 : qEq (rLf a (93 - (0 : Int32).toInt).toNat (0 : Int32).toNatClampNeg) (rLe a) := rfl
theorem LE_nx (h : qRL a si rg sh pr tp) (hv : qRv a) (hl : qEq (rLf a (93 - x.toInt).toNat x.toNatClampNeg) (rLe a)) (h0 : 0 ≤ x.toInt) (h1 : x.toInt < rg.toInt) (hn : (tp x.toNatClampNeg).toInt ≠ 0) (hx : x2.toInt = x.toInt + 1) : qEq (rLf a (93 - x2.toInt).toNat x2.toNatClampNeg) (rLe a) := by
  have b := RL_b h hv
  have tc := tn_cast h0
  have tc2 := tn_cast (x := x2) (by omega)
  have q := qE hl
  rw [show (93 - x.toInt).toNat = (93 - x2.toInt).toNat + 1 from by omega, Lf_n (by rw [h.2.1]; omega) (by rw [RL_t h h0 h1]; exact hn)] at q
  rw [show x2.toNatClampNeg = x.toNatClampNeg + 1 from by omega]
  exact q
theorem LE_yes (h : qRL a si rg sh pr tp) (hv : qRv a) (hl : qEq (rLf a (93 - x.toInt).toNat x.toNatClampNeg) (rLe a)) (h0 : 0 ≤ x.toInt) (h1 : x.toInt < rg.toInt) (hn : (tp x.toNatClampNeg).toInt = 0) : qEq x.toInt (rLe a) := by
  have b := RL_b h hv
  have tc := tn_cast h0
  have q := qE hl
  rw [show (93 - x.toInt).toNat = (92 - x.toInt).toNat + 1 from by omega, Lf_y (by rw [h.2.1]; omega) (by rw [RL_t h h0 h1]; exact hn)] at q
  show x.toInt = rLe a
  omega
theorem LE_none (h : qRL a si rg sh pr tp) (hl : qEq (rLf a (93 - x.toInt).toNat x.toNatClampNeg) (rLe a)) (h0 : 0 ≤ x.toInt) (h1 : ¬ x.toInt < rg.toInt) : qEq (-1 : Int32).toInt (rLe a) := by
  have tc := tn_cast h0
  have q := qE hl
  rw [Lf_e (by rw [h.2.1]; omega)] at q
  exact q
theorem EF_nx (h : qRL a si rg sh pr tp) (he : qEq y.toInt (rEf a x.toNatClampNeg)) (h0 : 0 ≤ x.toInt) (h1 : x.toInt < rg.toInt) (hx : x2.toInt = x.toInt + 1) (hn : ((tp x.toNatClampNeg).toInt = 0 ∧ y2.toInt = y.toInt + 1) ∨ ((tp x.toNatClampNeg).toInt ≠ 0 ∧ y2 = y)) : qEq y2.toInt (rEf a x2.toNatClampNeg) := by
  rcases hn with w | w
  · exact Ef_y (qE he) h0 (by rw [h.2.1]; exact h1) (by rw [RL_t h h0 h1]; exact w.1) w.2 hx
  · rw [w.2]
    exact Ef_n (qE he) h0 (by rw [RL_t h h0 h1]; exact w.1) hx
theorem EF_end (h : qRL a si rg sh pr tp) (hv : qRv a) (he : qEq y.toInt (rEf a x.toNatClampNeg)) (h0 : 0 ≤ x.toInt) (h1 : ¬ x.toInt < rg.toInt) (h9 : x.toInt ≤ rg.toInt) : qEq y.toInt (rEf a 93) := by
  have b := RL_b h hv
  exact Ef_e (qE he) h0 (Or.inl (by rw [h.2.1]; omega)) (by omega)
/-! the sparse one -/
theorem Fg_z {l : Nat → Int} : ∀ m n : Nat, n ≤ m → (∀ k, n ≤ k → k < m → l k = 0) → rFg l m = rFg l n := by
  intro m
  induction m with
  | zero => intro n h _; rw [show n = 0 by omega]
  | succ m ih =>
    intro n h hz
    by_cases w : n = m + 1
    · rw [w]
    · rw [Fg_s, if_neg (fun z => by have := hz m (by omega) (by omega); omega)]
      exact ih n (by omega) (fun k h1 h2 => hz k h1 (by omega))
def qFg (a : Nat → Nat → Int32) (x : Int) (n : Nat) : Prop := x = rFg (fun k => (a 93 k).toInt) n
theorem SP_b (h : qLR a rg sh si pr kw hl dn) (h0 : 0 ≤ x.toInt) (h1 : x.toInt < rg.toInt) : (0 ≤ (kw x.toNatClampNeg).toInt ∧ (kw x.toNatClampNeg).toInt ≤ 31232) ∧ (a 93 x.toNatClampNeg).toInt = rLw sh.toInt si.toInt pr.toInt kw hl dn x.toNatClampNeg := h _ (by rw [tn_cast h0]; exact h1)
theorem SP_no (h : qLR a rg sh si pr kw hl dn) (hf : qFg a y.toInt x.toNatClampNeg) (h0 : 0 ≤ x.toInt) (h1 : x.toInt < rg.toInt) (hx : x2.toInt = x.toInt + 1) (hn : dn x.toNatClampNeg ≠ 0 ∨ hl x.toNatClampNeg ≠ 0 ∨ x.toInt = pr.toInt ∨ (kw x.toNatClampNeg).toInt = 0 ∨ sh.toInt * si.toInt < (kw x.toNatClampNeg).toInt * 100) : qFg a y.toInt x2.toNatClampNeg := by
  have b := SP_b h h0 h1
  have tc := tn_cast h0
  have tc2 := tn_cast (x := x2) (by omega)
  have z : (a 93 x.toNatClampNeg).toInt = 0 := by
    rw [b.2]
    unfold rLw
    split
    · next w =>
      rcases hn with q | q | q | q | q
      · exact absurd w.1 q
      · exact absurd w.2.1 q
      · exact absurd (by omega) w.2.2.1
      · exact q
      · omega
    · rfl
  unfold qFg at hf ⊢
  rw [show x2.toNatClampNeg = x.toNatClampNeg + 1 from by omega, Fg_s, if_neg (fun w => by omega)]
  exact hf
theorem SP_ye (h : qLR a rg sh si pr kw hl dn) (hf : qFg a y.toInt x.toNatClampNeg) (h0 : 0 ≤ x.toInt) (h1 : x.toInt < rg.toInt) (hx : x2.toInt = x.toInt + 1) (h3 : dn x.toNatClampNeg = 0) (h4 : hl x.toNatClampNeg = 0) (h5 : x.toInt ≠ pr.toInt) (h6 : (kw x.toNatClampNeg).toInt ≠ 0) (h7 : ¬ sh.toInt * si.toInt < (kw x.toNatClampNeg).toInt * 100) (hy : ((y.toInt < 0 ∨ (0 ≤ y.toInt ∧ (kw x.toNatClampNeg).toInt < (kw y.toNatClampNeg).toInt)) ∧ y2 = x) ∨ (¬ y.toInt < 0 ∧ ¬ (kw x.toNatClampNeg).toInt < (kw y.toNatClampNeg).toInt ∧ y2 = y)) : qFg a y2.toInt x2.toNatClampNeg := by
  have b := SP_b h h0 h1
  have tc := tn_cast h0
  have tc2 := tn_cast (x := x2) (by omega)
  have z : (a 93 x.toNatClampNeg).toInt = (kw x.toNatClampNeg).toInt := by
    rw [b.2]
    exact if_pos ⟨h3, h4, by omega, by omega⟩
  have fb := Fg_b (l := fun k => (a 93 k).toInt) x.toNatClampNeg
  have yb : ¬ y.toInt < 0 → (a 93 y.toNatClampNeg).toInt = (kw y.toNatClampNeg).toInt := fun hy0 => by
    have tcy := tn_cast (x := y) (by omega)
    have q : y.toInt < x.toInt := by
      unfold qFg at hf
      omega
    have pos : 0 < (a 93 y.toNatClampNeg).toInt := by
      unfold qFg at hf
      have g := fb.2.2 (by omega)
      rw [← hf] at g
      exact g
    have bb := SP_b (x := y) h (by omega) (by omega)
    rw [bb.2] at pos ⊢
    unfold rLw at pos ⊢
    split
    · rfl
    · next w =>
      rw [if_neg w] at pos
      omega
  unfold qFg at hf ⊢
  rw [show x2.toNatClampNeg = x.toNatClampNeg + 1 from by omega, Fg_s]
  rcases hy with ⟨w, e2⟩ | ⟨w1, w2, e2⟩
  · have cnd : 0 < (a 93 x.toNatClampNeg).toInt ∧ (rFg (fun k => (a 93 k).toInt) x.toNatClampNeg = -1 ∨ (a 93 x.toNatClampNeg).toInt < (a 93 (rFg (fun k => (a 93 k).toInt) x.toNatClampNeg).toNat).toInt) := by
      refine ⟨by omega, ?_⟩
      rw [← hf]
      rcases w with q | q
      · exact Or.inl (by omega)
      · refine Or.inr ?_
        have g := yb (by omega)
        show (a 93 x.toNatClampNeg).toInt < (a 93 y.toNatClampNeg).toInt
        omega
    rw [if_pos cnd, e2]
    exact tc.symm
  · have cnd : ¬ (0 < (a 93 x.toNatClampNeg).toInt ∧ (rFg (fun k => (a 93 k).toInt) x.toNatClampNeg = -1 ∨ (a 93 x.toNatClampNeg).toInt < (a 93 (rFg (fun k => (a 93 k).toInt) x.toNatClampNeg).toNat).toInt)) := by
      rw [← hf]
      rintro ⟨_, q | q⟩
      · omega
      · have g := yb w1
        have q2 : (a 93 x.toNatClampNeg).toInt < (a 93 y.toNatClampNeg).toInt := q
        omega
    rw [if_neg cnd, e2]
    exact hf
theorem SP_end (hv : qRv a) (hl₉ : qLv a t) (h : qRL a si rg sh pr tp) (hf : qFg a y.toInt x.toNatClampNeg) (h0 : 0 ≤ x.toInt) (h1 : ¬ x.toInt < rg.toInt) (h9 : x.toInt ≤ rg.toInt) : qEq y.toInt (rFw a) := by
  have b := RL_b h hv
  have tc := tn_cast h0
  show y.toInt = rFw a
  unfold qFg at hf
  unfold rFw
  rw [hf]
  refine (Fg_z 93 _ (by omega) (fun k k1 k2 => ?_)).symm
  have l0 := hl₉.1 k k2
  by_cases w : 0 < (a 93 k).toInt
  · have g := (hl₉.2.1 k k2 w).1
    rw [h.2.1] at g
    omega
  · show (a 93 k).toInt = 0
    omega
end F16

/-! from 95.t01 -/
/-! REGIONS, the reference (written by wip/tools/gen15t.py) -/
/-! REGIONS: the reference's cleaning -/
def qK0 (kw hl dn : Nat → Int32) (n : Int) : Prop := ∀ r : Nat, (r : Int) < n → kw r = 0 ∧ hl r = 0 ∧ dn r = 0
def qKS (us ws ho at₉ kw hl dn : Nat → Int32) (si rg : Int) (n : Nat) : Prop := ∀ r : Nat, (r : Int) < rg → (kw r).toInt = zKs us ws at₉ si (r : Int) n ∧ (hl r ≠ 0 ↔ zHs us ho at₉ si (r : Int) n) ∧ dn r = 0
def qTZ (tp0 tp kw : Nat → Int32) (rg n : Int) : Prop := ∀ r : Nat, (r : Int) < rg → tp r = if (r : Int) < n ∧ (kw r).toInt = 0 then 0 else tp0 r
section F17
variable {a b c aa : Nat → Nat → Int32} {us nr kr kd ws at₉ at2 ho wd wi ow ow2 rt wk wl tp tp0 tp2 kw hl dn kw2 hl2 dn2 : Nat → Int32} {wm nu ro fo le ra pi si rg sh pr pr2 to s x x2 y y2 v z w l l2 u : Int32} {t t2 g q p e r : Int} {n m k f : Nat} {T : (Nat → Nat → Int32) × Int} {U : (Nat → Nat → Int32) × Int × Bool}
theorem K0_0 : qK0 kw hl dn (0 : Int32).toInt := fun r h => absurd h (by have : (0 : Int32).toInt = 0 := rfl; omega)
theorem K0_nx (h : qK0 kw hl dn x.toInt) (h0 : 0 ≤ x.toInt) (hx : x2.toInt = x.toInt + 1) (e1 : ∀ r, kw2 r = if r = x.toNatClampNeg then 0 else kw r) (e2 : ∀ r, hl2 r = if r = x.toNatClampNeg then 0 else hl r) (e3 : ∀ r, dn2 r = if r = x.toNatClampNeg then 0 else dn r) : qK0 kw2 hl2 dn2 x2.toInt := fun r hr => by
  have tc := tn_cast h0
  rw [e1, e2, e3]
  by_cases w : r = x.toNatClampNeg
  · rw [if_pos w, if_pos w, if_pos w]
    exact ⟨rfl, rfl, rfl⟩
  · rw [if_neg w, if_neg w, if_neg w]
    exact h r (by omega)
theorem KZ_0 (h : qK0 kw hl dn x.toInt) (h1 : ¬ x.toInt < rg.toInt) : qKS us ws ho at₉ kw hl dn si.toInt rg.toInt (0 : Int32).toNatClampNeg := fun r hr => by
  have q := h r (by omega)
  rw [q.1, q.2.1, q.2.2]
  refine ⟨rfl, ⟨fun w => absurd rfl w, fun w => ?_⟩, rfl⟩
  obtain ⟨s, hs, _⟩ := w
  exact absurd hs (Nat.not_lt_zero _)
theorem KS_n (h : qKS us ws ho at₉ kw hl dn si.toInt rg.toInt x.toNatClampNeg) (h0 : 0 ≤ x.toInt) (hu : us x.toNatClampNeg = 0) (hx : x2.toInt = x.toInt + 1) : qKS us ws ho at₉ kw hl dn si.toInt rg.toInt x2.toNatClampNeg := fun r hr => by
  have tc := tn_cast h0
  have tc2 := tn_cast (x := x2) (by omega)
  have q := h r hr
  rw [show x2.toNatClampNeg = x.toNatClampNeg + 1 from by omega, Ks_s, if_neg (fun z => z.1 hu), Int.add_zero]
  refine ⟨q.1, ⟨fun w => ?_, fun w => q.2.1.mpr ?_⟩, q.2.2⟩
  · obtain ⟨s, h1, h2⟩ := q.2.1.mp w
    exact ⟨s, by omega, h2⟩
  · obtain ⟨s, h1, h2⟩ := w
    refine ⟨s, ?_, h2⟩
    by_cases z : s = x.toNatClampNeg
    · rw [z] at h2
      exact absurd hu h2.1
    · omega
theorem KS_y (hR : qR1 us nr ws at₉ ho a) (h : qKS us ws ho at₉ kw hl dn si.toInt rg.toInt x.toNatClampNeg) (h0 : 0 ≤ x.toInt) (h3 : x.toInt < 3100) (hs : 16 ≤ si.toInt) (hu : us x.toNatClampNeg ≠ 0) (hx : x2.toInt = x.toInt + 1) (e1 : ∀ r, kw2 r = if r = (at₉ x.toNatClampNeg / si).toNatClampNeg then kw (at₉ x.toNatClampNeg / si).toNatClampNeg + (ws x.toNatClampNeg + 1) else kw r) (e2 : (0 < (ho x.toNatClampNeg).toInt ∧ ∀ r, hl2 r = if r = (at₉ x.toNatClampNeg / si).toNatClampNeg then 1 else hl r) ∨ (¬ 0 < (ho x.toNatClampNeg).toInt ∧ hl2 = hl)) : qKS us ws ho at₉ kw2 hl2 dn si.toInt rg.toInt x2.toNatClampNeg := fun r hr => by
  have tc := tn_cast h0
  have tc2 := tn_cast (x := x2) (by omega)
  have rq := hR.1 x.toNatClampNeg (by omega) hu
  have dv := i_div (x := at₉ x.toNatClampNeg) (y := si) rq.2.2.2.2.2.2 (by omega)
  have ix : ((at₉ x.toNatClampNeg / si).toNatClampNeg : Int) = (at₉ x.toNatClampNeg).toInt / si.toInt := by
    rw [tn_cast dv.1]
    exact dv.2.2.1
  have q := h r hr
  have bd := Ks_bd (si := si) (us := us) (nr := nr) (ws := ws) (at₉ := at₉) hR (r : Int) x.toNatClampNeg (by omega)
  have w1 : (ws x.toNatClampNeg + 1).toInt = (ws x.toNatClampNeg).toInt + 1 := i_addk rfl (by omega) (by omega)
  rw [show x2.toNatClampNeg = x.toNatClampNeg + 1 from by omega, Ks_s]
  have ip : r = (at₉ x.toNatClampNeg / si).toNatClampNeg ↔ (at₉ x.toNatClampNeg).toInt / si.toInt = (r : Int) := by omega
  refine ⟨?_, ?_, q.2.2⟩
  · rw [e1]
    by_cases w : r = (at₉ x.toNatClampNeg / si).toNatClampNeg
    · rw [if_pos w, if_pos ⟨hu, ip.mp w⟩, ← w]
      rw [i_add (by omega) (by omega), q.1, w1]
    · rw [if_neg w, if_neg (fun z => w (ip.mpr z.2)), Int.add_zero]
      exact q.1
  · have st : zHs us ho at₉ si.toInt (r : Int) (x.toNatClampNeg + 1) ↔ (zHs us ho at₉ si.toInt (r : Int) x.toNatClampNeg ∨ (0 < (ho x.toNatClampNeg).toInt ∧ (at₉ x.toNatClampNeg).toInt / si.toInt = (r : Int))) := by
      constructor
      · rintro ⟨s, h1, h2⟩
        by_cases z : s = x.toNatClampNeg
        · rw [z] at h2
          exact Or.inr h2.2
        · exact Or.inl ⟨s, by omega, h2⟩
      · rintro (⟨s, h1, h2⟩ | w)
        · exact ⟨s, by omega, h2⟩
        · exact ⟨x.toNatClampNeg, by omega, hu, w⟩
    rw [st]
    rcases e2 with ⟨hh, e2⟩ | ⟨hh, e2⟩
    · rw [e2]
      by_cases w : r = (at₉ x.toNatClampNeg / si).toNatClampNeg
      · rw [if_pos w]
        exact ⟨fun _ => Or.inr ⟨hh, ip.mp w⟩, fun _ => by decide⟩
      · rw [if_neg w]
        exact ⟨fun z => Or.inl (q.2.1.mp z), fun z => z.elim (fun z => q.2.1.mpr z) (fun z => absurd (ip.mpr z.2) w)⟩
    · rw [e2]
      exact ⟨fun z => Or.inl (q.2.1.mp z), fun z => z.elim (fun z => q.2.1.mpr z) (fun z => absurd z.1 hh)⟩
theorem TZ_0 : qTZ tp tp kw rg.toInt (0 : Int32).toInt := fun r _ => (if_neg (fun z => by have : (0 : Int32).toInt = 0 := rfl; omega)).symm
theorem TZ_1 (h : tp = tp0) : qTZ tp0 tp kw rg.toInt (0 : Int32).toInt := by
  rw [h]
  exact TZ_0
theorem TZ_y (h : qTZ tp0 tp kw rg.toInt x.toInt) (h0 : 0 ≤ x.toInt) (hx : x2.toInt = x.toInt + 1) (hk : (kw x.toNatClampNeg).toInt = 0) (e : ∀ r, tp2 r = if r = x.toNatClampNeg then 0 else tp r) : qTZ tp0 tp2 kw rg.toInt x2.toInt := fun r hr => by
  have tc := tn_cast h0
  rw [e]
  by_cases w : r = x.toNatClampNeg
  · rw [if_pos w, if_pos ⟨by omega, by rw [w]; exact hk⟩]
  · rw [if_neg w, h r hr]
    by_cases z : (r : Int) < x.toInt ∧ (kw r).toInt = 0
    · rw [if_pos z, if_pos ⟨by omega, z.2⟩]
    · rw [if_neg z, if_neg (fun y => z ⟨by omega, y.2⟩)]
theorem TZ_n (h : qTZ tp0 tp kw rg.toInt x.toInt) (h0 : 0 ≤ x.toInt) (hx : x2.toInt = x.toInt + 1) (hk : (kw x.toNatClampNeg).toInt ≠ 0) : qTZ tp0 tp kw rg.toInt x2.toInt := fun r hr => by
  have tc := tn_cast h0
  rw [h r hr]
  by_cases z : (r : Int) < x.toInt ∧ (kw r).toInt = 0
  · rw [if_pos z, if_pos ⟨by omega, z.2⟩]
  · rw [if_neg z, if_neg (fun y => z ⟨?_, y.2⟩)]
    by_cases w : r = x.toNatClampNeg
    · rw [w] at y
      exact absurd y.2 hk
    · omega
/-! what leaves, exactly -/
theorem Cb_none (hn : ∀ m, m < n → a 126 m ≠ 0 → 0 < (a 133 m).toInt → ((a 130 m).toInt / (a 87 3).toInt).toNat ≠ k) : rCb a n 93 k = a 93 k := by
  induction n with
  | zero => rfl
  | succ n ih =>
    have i := ih (fun m hm => hn m (by omega))
    by_cases w : a 126 n ≠ 0 ∧ 0 < (a 133 n).toInt
    · rw [Cb_y w, xu_o (fun z => hn n (by omega) w.1 w.2 z.2.symm)]
      exact i
    · rw [Cb_n w]
      exact i
theorem LR_b0 (hR : qR1 us nr ws at₉ ho (aSw aa)) (hv : qRv aa) (hL : qRL aa si rg sh pr tp0) (hK : qKS us ws ho at₉ kw hl dn si.toInt rg.toInt n) (hn : 3100 ≤ n) (hn2 : n ≤ 3100) : qLR (rB0 aa) rg sh si pr kw hl dn := fun r hr => by
  obtain ⟨hI, h2, h3, h4, h5⟩ := Rv_sw hv
  have b := RL_b hL hv
  have e3 : aSw aa 87 3 = si := sw_87.trans hL.1
  have e5 : aSw aa 87 5 = sh := sw_87.trans hL.2.2.1
  have e9 : aSw aa 87 9 = pr := sw_87.trans hL.2.2.2.1
  have q := hK r hr
  rw [show n = 3100 from by omega, Ks_all hR hI e3] at q
  have kb := Kf_b (r := (r : Int)) hI 512 (by omega)
  refine ⟨by omega, ?_⟩
  have r9 : r < 93 := by omega
  have t9 : rEm (rSk (aSw aa) 512) 93 93 r = Int32.ofInt (rKf (aSw aa) (r : Int) 512) := T0_93 r9
  have oo : ∀ c, c ≠ 92 → c ≠ 93 → rCa (rEm (rSk (aSw aa) 512) 93) 93 c = aSw aa c := fun c w w2 => funext (fun k => by rw [Ca_o w2, T0_o w w2])
  have hd : hl r ≠ 0 → rB0 aa 93 r = 0 := fun hh => by
    obtain ⟨s, h1, hu, hp, hd⟩ := q.2.1.mp hh
    have w := hR.1 s h1 hu
    have z := Cb_h (a := rCa (rEm (rSk (aSw aa) 512) 93) 93) 512 (nr s).toNatClampNeg (by have := tn_cast (x := nr s) w.1.1; omega) (by rw [oo 126 (by decide) (by decide)]; exact w.2.1) (by rw [oo 133 (by decide) (by decide), w.2.2.2.2.1]; exact hp)
    rw [oo 130 (by decide) (by decide), oo 87 (by decide) (by decide), w.2.2.2.1, e3, hd, Int.toNat_natCast] at z
    exact z
  have hn0 : ¬ hl r ≠ 0 → rB0 aa 93 r = rCa (rEm (rSk (aSw aa) 512) 93) 93 93 r := fun hh => by
    refine Cb_none (fun m hm h6 h33 w => hh (q.2.1.mpr ?_))
    rw [oo 126 (by decide) (by decide)] at h6
    rw [oo 133 (by decide) (by decide)] at h33
    rw [oo 130 (by decide) (by decide), oo 87 (by decide) (by decide)] at w
    obtain ⟨s, h1, hu, hs⟩ := hR.2.2 m hm h6
    have w2 := hR.1 s h1 hu
    have tm : (nr s).toNatClampNeg = m := by
      have i1 : (nr s).toInt = (m : Int) := by
        rw [hs]
        exact Int32.toInt_ofNat_of_lt (by omega)
      have := tn_cast (x := nr s) (by omega)
      omega
    rw [tm] at w2
    refine ⟨s, h1, hu, by rw [← w2.2.2.2.2.1]; exact h33, ?_⟩
    rw [e3, w2.2.2.2.1] at w
    have d0 : 0 ≤ (at₉ s).toInt / si.toInt := Int.ediv_nonneg w2.2.2.2.2.2.2 (by omega)
    omega
  unfold rLw
  by_cases hh : hl r ≠ 0
  · rw [hd hh, if_neg (fun z => hh z.2.1)]
    rfl
  · rw [hn0 hh]
    have hl0 : hl r = 0 := by
      by_cases z : hl r = 0
      · exact z
      · exact absurd z hh
    unfold rCa
    rw [t9, T0_o (by decide) (by decide), T0_o (by decide) (by decide), T0_o (by decide) (by decide), e3, e5, e9, Kf_i hI, ← q.1]
    by_cases w : dn r = 0 ∧ hl r = 0 ∧ (r : Int) ≠ pr.toInt ∧ (kw r).toInt * 100 ≤ sh.toInt * si.toInt
    · rw [if_pos w, if_neg (fun z => by rcases z.2.2 with y | y <;> omega), Int32.ofInt_toInt]
    · have z2 : (r : Int) = pr.toInt ∨ sh.toInt * si.toInt < (kw r).toInt * 100 := by
        by_cases y : (r : Int) = pr.toInt
        · exact Or.inl y
        · refine Or.inr ?_
          by_cases y2 : (kw r).toInt * 100 ≤ sh.toInt * si.toInt
          · exact absurd ⟨q.2.2, hl0, y, y2⟩ w
          · omega
      rw [if_neg w, if_pos ⟨rfl, r9, z2⟩]
      rfl
theorem RL_b0 (hR : qR1 us nr ws at₉ ho (aSw aa)) (hv : qRv aa) (hL : qRL aa si rg sh pr tp0) (hK : qKS us ws ho at₉ kw hl dn si.toInt rg.toInt n) (hn : 3100 ≤ n) (hn2 : n ≤ 3100) (hT : qTZ tp0 tp kw rg.toInt e) (he : ¬ e < rg.toInt) : qRL (rB0 aa) si rg sh pr tp := by
  obtain ⟨hI, h2, h3, h4, h5⟩ := Rv_sw hv
  have b := RL_b hL hv
  have e7 : rB0 aa 87 = aa 87 := (B0_o (by decide) (by decide)).trans (funext (fun _ => sw_87))
  have e3 : aSw aa 87 3 = si := sw_87.trans hL.1
  unfold qRL
  rw [e7]
  refine ⟨hL.1, hL.2.1, hL.2.2.1, hL.2.2.2.1, fun r hr => ?_⟩
  have q := (hK r hr).1
  rw [show n = 3100 from by omega, Ks_all hR hI e3] at q
  rw [B0_92 (by omega), Kf_i hI, ← q, hT r hr, sw_9 (by decide), hL.2.2.2.2 r hr]
  by_cases w : (kw r).toInt = 0
  · rw [if_pos w, if_pos ⟨by omega, w⟩]
  · rw [if_neg w, if_neg (fun z => w z.2)]
/-! fuel -/
theorem M1_93 : rM1 a n t 93 k = a 93 k := M1_r (by decide) (by decide) (by decide)
theorem Mf_93 : ∀ (f : Nat) (a : Nat → Nat → Int32) (p t : Int), (rMf e f a p t).1 93 k = a 93 k := by
  intro f
  induction f with
  | zero => intro a p t; rfl
  | succ f ih =>
    intro a p t
    by_cases c : p < e
    · by_cases d : (zOb a p).toInt < 0
      · rw [rMf_fr c d]
        exact ih _ _ _
      · by_cases w : rTo a t (a 128 (zOb a p).toNatClampNeg).toInt = -1
        · rw [rMf_no c (by omega) w]
        · rw [rMf_go c (by omega) w, ih, M1_93]
    · rw [rMf_e c]
theorem M2_93 : (rM2 a q t).1 93 k = a 93 k := Mf_93 _ _ _ _
theorem Cn_le : ∀ n, rCn a n ≤ n := by
  intro n
  induction n with
  | zero => exact Nat.le_refl _
  | succ n ih =>
    show rCn a n + (if 0 < (a 93 n).toInt then 1 else 0) ≤ n + 1
    split <;> omega
theorem Cn_lt (hk : k < n) (h0 : (a 93 k).toInt ≤ 0) : rCn a n + 1 ≤ n := by
  induction n with
  | zero => omega
  | succ n ih =>
    show rCn a n + (if 0 < (a 93 n).toInt then 1 else 0) + 1 ≤ n + 1
    by_cases w : k = n
    · rw [← w, if_neg (by omega)]
      have := Cn_le (a := a) k
      omega
    · have := ih (by omega)
      split <;> omega
theorem Cn_0 : ∀ n, rCn a n = 0 → rFg (fun k => (a 93 k).toInt) n = -1 := by
  intro n
  induction n with
  | zero => intro _; rfl
  | succ n ih =>
    intro h
    have h2 : rCn a n + (if 0 < (a 93 n).toInt then 1 else 0) = 0 := h
    by_cases w : 0 < (a 93 n).toInt
    · rw [if_pos w] at h2
      omega
    · rw [Fg_s, if_neg (fun z => w z.1)]
      exact ih (by omega)
theorem Cn_st : ∀ n, (∀ j, j ≠ k → b 93 j = a 93 j) → (b 93 k).toInt = 0 → 0 < (a 93 k).toInt → rCn b n + (if k < n then 1 else 0) = rCn a n := by
  intro n h1 h2 h3
  induction n with
  | zero => rfl
  | succ n ih =>
    show rCn b n + (if 0 < (b 93 n).toInt then 1 else 0) + (if k < n + 1 then 1 else 0) = rCn a n + (if 0 < (a 93 n).toInt then 1 else 0)
    by_cases w : n = k
    · rw [w] at ih ⊢
      rw [if_neg (by omega)] at ih
      rw [if_neg (by omega), if_pos (by omega), if_pos h3]
      omega
    · rw [h1 n w]
      by_cases z : k < n
      · rw [if_pos z] at ih
        rw [if_pos (by omega : k < n + 1)]
        omega
      · rw [if_neg z] at ih
        rw [if_neg (by omega : ¬ k < n + 1)]
        omega
theorem Of_fu : ∀ (f : Nat) (a : Nat → Nat → Int32) (t : Int), rCn a 93 ≤ f → rOf f a t = rOf (f + 1) a t := by
  intro f
  induction f with
  | zero =>
    intro a t h
    have z : rFw a = -1 := Cn_0 93 (by omega)
    rw [Of_e z, Of_e z]
  | succ f ih =>
    intro a t h
    by_cases z : rFw a = -1
    · rw [Of_e z, Of_e z]
    · have fy := Fw_y z
      cases ok : (rM2 a (rFw a) t).2.2 with
      | false => rw [Of_n rfl z ok, Of_n rfl z ok]
      | true =>
        rw [Of_y rfl z ok, Of_y (f := f + 1) rfl z ok]
        refine ih _ _ ?_
        have c := Cn_st (a := a) (b := ma_u (ma_u (rM2 a (rFw a) t).1 93 (rFw a).toNat 0) 92 (rFw a).toNat 0) (k := (rFw a).toNat) 93 (fun j hj => by rw [xu_o (by omega), xu_o (fun w => hj w.2), M2_93]) (by rw [xu_o (by omega), xu_s]; rfl) fy.2.2
        rw [if_pos (by omega)] at c
        omega
theorem Of_93 (h0 : 0 ≤ q) (h9 : q < 93) (h : (a 93 q.toNat).toInt = 0) : rOf 92 a t = rOf 93 a t := Of_fu 92 a t (by have := Cn_lt (a := a) (k := q.toNat) (n := 93) (by omega) (by omega); omega)
end F17

