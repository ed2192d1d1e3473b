/-! from 95.h35 -/
/-! the reference by numbers (written by wip/tools/gen18r.py) -/
/-! A FREE PLACE THAT IS LONG ENOUGH -/
def qFs (b : Nat → Nat → Int32) (z p : Int) : Prop := 0 ≤ p ∧ p + z ≤ (b 87 0).toInt ∧ ∀ n, xAl b n → (b 130 n).toInt + (b 128 n).toInt ≤ p ∨ p + z ≤ (b 130 n).toInt
section QF
variable {b : Nat → Nat → Int32} {p q z bb v l : Int} {s : Int32} {k : Nat}
theorem Un_g (hI : qI b) (g : qGd b q) (h0 : 0 ≤ q) (h5 : q < 4500) (hf : (zOb b q).toInt < 0) : ∀ n, xAl b n → ¬ ((b 130 n).toInt ≤ q ∧ q < (b 130 n).toInt + (b 128 n).toInt) := by
  intro n hn w
  have gg := g n hn
  have i := hI.1 n hn
  have ep : (b 130 n).toInt = q := by omega
  have z := i.2.2.2
  rw [tn_i i.1.2 ep] at z
  have e := ofN_i hn.1
  have : zOb b q = Int32.ofNat n := by
    unfold zOb
    rw [z, if_pos ⟨h0, h5, by omega, by have := hn.1; omega, by rw [tn_of hn.1]; exact hn.2⟩]
  rw [this] at hf
  omega
theorem E_un (hI : qI b) : ∀ (f : Nat) (p : Int), ((b 87 0).toInt - p).toNat = f → qGd b p → 0 ≤ p → ∀ q, p ≤ q → q < aE b p → ∀ n, xAl b n → ¬ ((b 130 n).toInt ≤ q ∧ q < (b 130 n).toInt + (b 128 n).toInt) := by
  intro f
  have r5 := hI.2.2.2.1.2.2.1
  induction f using Nat.strongRecOn with
  | _ f IH =>
    intro p hf g h0 q h1 h2
    by_cases c : p < (b 87 0).toInt ∧ (zOb b p).toInt < 0
    · by_cases e : q = p
      · rw [e]
        exact Un_g hI g h0 (by omega) c.2
      · rw [aE_go c.1 c.2] at h2
        exact IH _ (by omega) (p + 1) rfl (Gd_s hI g c.2 h0 (by omega)) (by omega) q (by omega) h2
    · rw [aE_st c] at h2
      omega
theorem Gd_ro (hI : qI b) : qGd b (b 87 0).toInt := by
  intro n hn w
  have := (hI.1 n hn).2.2.1
  omega
theorem Gd_N (hI : qI b) : ∀ (f : Nat) (p : Int), ((b 87 0).toInt - p).toNat = f → qGd b p → qGd b (aN b p) := by
  intro f
  induction f using Nat.strongRecOn with
  | _ f IH =>
    intro p hf g
    by_cases c : p < (b 87 0).toInt
    · by_cases d : (zOb b p).toInt < 0
      · rw [aN_fr c d]
        exact g
      · have nx := Gd_nx hI g (by omega)
        rw [aN_ob (Sz_I hI) c (by omega)]
        exact IH _ (by omega) _ rfl nx.1
    · rw [aN_ro (by omega)]
      exact Gd_ro hI
theorem Gd_E (hI : qI b) : ∀ (f : Nat) (p : Int), ((b 87 0).toInt - p).toNat = f → 0 ≤ p → qGd b p → qGd b (aE b p) := by
  intro f
  have r5 := hI.2.2.2.1.2.2.1
  induction f using Nat.strongRecOn with
  | _ f IH =>
    intro p hf h0 g
    by_cases c : p < (b 87 0).toInt ∧ (zOb b p).toInt < 0
    · rw [aE_go c.1 c.2]
      exact IH _ (by omega) (p + 1) rfl (by omega) (Gd_s hI g c.2 h0 (by omega))
    · rw [aE_st c]
      exact g
theorem FS_of (hI : qI b) (g : qGd b p) (h0 : 0 ≤ p) (h1 : p ≤ (b 87 0).toInt) (hz : z ≤ aE b p - p) (hz1 : 1 ≤ z) : qFs b z p := by
  have ge := aE_ge (a := b) _ p rfl
  have g2 := ge.2.2 h1
  refine ⟨h0, by omega, fun n hn => ?_⟩
  by_cases c : (b 130 n).toInt + (b 128 n).toInt ≤ p
  · exact Or.inl c
  · by_cases d : p + z ≤ (b 130 n).toInt
    · exact Or.inr d
    · exfalso
      have sz := (hI.1 n hn).2.1.1
      by_cases e : p ≤ (b 130 n).toInt
      · exact E_un hI _ p rfl g h0 (b 130 n).toInt e (by omega) n hn (by omega)
      · exact E_un hI _ p rfl g h0 p (by omega) (by omega) n hn (by omega)
theorem nx_ok (hI : qI b) (g : qGd b p) (h0 : 0 ≤ p) (h1 : p ≤ (b 87 0).toInt) : qGd b (aN b (aE b p)) ∧ 0 ≤ aN b (aE b p) ∧ aN b (aE b p) ≤ (b 87 0).toInt := by
  have ge := aE_ge (a := b) _ p rfl
  have g2 := ge.2.2 h1
  have gn := aN_ge (Sz_I hI) _ (aE b p) rfl g2
  exact ⟨Gd_N hI _ _ rfl (Gd_E hI _ _ rfl h0 g), by omega, gn.2.1⟩
theorem Ff_fs (hI : qI b) (hz1 : 1 ≤ z) (hb : bb ≤ (b 87 0).toInt) : ∀ (k : Nat) (p : Int), qGd b p → 0 ≤ p → p ≤ (b 87 0).toInt → aFf b z bb k p ≠ -1 → qFs b z (aFf b z bb k p) := by
  intro k
  induction k with
  | zero => intro p _ _ _ h; exact absurd rfl h
  | succ k ih =>
    intro p g h0 h1 h
    by_cases c : p < bb
    · by_cases d : z ≤ aE b p - p
      · rw [aFf_y c d]
        exact FS_of hI g h0 h1 d hz1
      · rw [aFf_n c d] at h ⊢
        have n := nx_ok hI g h0 h1
        exact ih _ n.1 n.2.1 n.2.2 h
    · rw [aFf_st (Or.inr c)] at h
      exact absurd rfl h
theorem Fl_fs (hI : qI b) (hz1 : 1 ≤ z) : ∀ (k : Nat) (p q l : Int), qGd b p → 0 ≤ p → p ≤ (b 87 0).toInt → (q ≠ -1 → qFs b z q) → aFl b z s k p q l ≠ -1 → qFs b z (aFl b z s k p q l) := by
  intro k
  induction k with
  | zero => intro p q l _ _ _ hq h; exact hq h
  | succ k ih =>
    intro p q l g h0 h1 hq h
    by_cases c : p < (b 87 0).toInt
    · have n := nx_ok hI g h0 h1
      by_cases d : z ≤ aE b p - p ∧ (q = -1 ∨ (if s = 0 then l < aE b p - p else aE b p - p < l))
      · have e : aFl b z s (k + 1) p q l = aFl b z s k (aN b (aE b p)) p (aE b p - p) := by
          show (if p < (b 87 0).toInt then (if _ then _ else _) else q) = _
          rw [if_pos c, if_pos d]
        rw [e] at h ⊢
        exact ih _ _ _ n.1 n.2.1 n.2.2 (fun _ => FS_of hI g h0 h1 d.1 hz1) h
      · have e : aFl b z s (k + 1) p q l = aFl b z s k (aN b (aE b p)) q l := by
          show (if p < (b 87 0).toInt then (if _ then _ else _) else q) = _
          rw [if_pos c, if_neg d]
        rw [e] at h ⊢
        exact ih _ _ _ n.1 n.2.1 n.2.2 hq h
    · rw [aFl_st (Or.inr c)] at h ⊢
      exact hq h
theorem Ft_fs (hI : qI b) (hz1 : 1 ≤ z) (h : aFt b z ≠ -1) : qFs b z (aFt b z) := by
  have i4 := hI.2.2.2.1
  have r0 := i4.2.2.1
  have sz := Sz_I hI
  have n0 := aN_ge sz _ 0 rfl (by omega)
  have g0 := Gd_N hI _ 0 rfl (Gd_0 hI)
  have nl := aN_ge sz _ (b 87 2).toInt rfl i4.2.2.2.1.2
  have gl := Gd_N hI _ (b 87 2).toInt rfl i4.2.2.2.2.1
  have l0 := i4.2.2.2.1
  unfold aFt at h ⊢
  by_cases c0 : b 87 1 = 0
  · rw [if_pos c0] at h ⊢
    exact Ff_fs hI hz1 (by omega) _ _ g0 n0.1 n0.2.1 h
  · rw [if_neg c0] at h ⊢
    by_cases c1 : b 87 1 = 1
    · rw [if_pos c1] at h ⊢
      unfold aFx at h ⊢
      by_cases c3 : aFf b z (b 87 0).toInt 4500 (aN b (b 87 2).toInt) = -1
      · rw [if_pos c3] at h ⊢
        exact Ff_fs hI hz1 l0.2 _ _ g0 n0.1 n0.2.1 h
      · rw [if_neg c3]
        exact Ff_fs hI hz1 (by omega) _ _ gl (by omega) nl.2.1 c3
    · rw [if_neg c1] at h ⊢
      by_cases c2 : b 87 1 = 2
      · rw [if_pos c2] at h ⊢
        exact Fl_fs hI hz1 _ _ _ _ g0 n0.1 n0.2.1 (fun w => absurd rfl w) h
      · rw [if_neg c2] at h ⊢
        exact Fl_fs hI hz1 _ _ _ _ g0 n0.1 n0.2.1 (fun w => absurd rfl w) h
end QF

/-! from 95.h36 -/
/-! the reference by numbers (written by wip/tools/gen18r.py) -/
/-! A NEW ONE COMES -/
/-- b with the one of number n, kind kd, wd words, at pl; L which words refer -/
def qAd (b d : Nat → Nat → Int32) (y kd wd pl : Int32) (L : Int64) : Prop :=
  (d 126 y.toNatClampNeg = 1 ∧ d 128 y.toNatClampNeg = wd + 1 ∧ d 130 y.toNatClampNeg = pl ∧ d 133 y.toNatClampNeg = 0 ∧ d 134 y.toNatClampNeg = 0) ∧
  (∀ f x, 126 ≤ f → f < 1000 → x ≠ y.toNatClampNeg → d f x = b f x) ∧
  ((∀ k, d (1000 + y.toNatClampNeg) k = zbit L (Int32.ofNat k)) ∧ ∀ x, x ≠ y.toNatClampNeg → d (1000 + x) = b (1000 + x)) ∧
  (d 71 pl.toNatClampNeg = y ∧ (∀ i : Int32, 0 ≤ i.toInt → i.toInt < wd.toInt → d 71 (pl + 1 + i).toNatClampNeg = if zbit L i = 0 then 0 else -1) ∧ ∀ p : Nat, ((p : Int) < pl.toInt ∨ pl.toInt + wd.toInt + 1 ≤ (p : Int)) → d 71 p = b 71 p) ∧
  (d 72 = b 72 ∧ d 73 = b 73 ∧ d 74 = b 74 ∧ d 69 5 = b 69 5) ∧
  (d 69 6 = b 69 6 + 1 ∧ d 69 8 = b 69 8 + (wd + 1)) ∧ (∀ k, k ≠ 2 → d 87 k = b 87 k) ∧ d 87 2 = pl + (wd + 1)
section QN
variable {aa a b d : Nat → Nat → Int32} {us nr kr kd ws at₉ ho wd wi ow rt wk wl co gr : Nat → Int32} {wm nu ro fo le ra pi y x z i j ga gm r v mk kk w pl : Int32} {n k u s t : Nat} {L : Int64}
theorem fn_0 {nu kd sz pl : Int32} : zFn nu kd sz pl 1 = kd ∧ zFn nu kd sz pl 2 = sz ∧ zFn nu kd sz pl 4 = pl ∧ zFn nu kd sz pl 7 = 0 ∧ zFn nu kd sz pl 8 = 0 := ⟨rfl, rfl, rfl, rfl, rfl⟩
theorem Ad_of (hy : 0 ≤ y.toInt) (hw : 0 ≤ w.toInt) (hw6 : w.toInt ≤ 60) (hp : 0 ≤ pl.toInt) (hp5 : pl.toInt ≤ 4500) : qAd b (aMd (aAd b y (zFn y kk (w + 1) pl) L) y) y kk w pl L := by
  have e1 := i_p1 (i := w) (by omega)
  have cp := tn_cast hp
  have F := @fn_0 y kk (w + 1) pl
  have nw : ∀ c k, aAd b y (zFn y kk (w + 1) pl) L c k = if c = 69 ∧ k = 8 then b 69 8 + (w + 1) else if c = 69 ∧ k = 6 then b 69 6 + 1 else zIw (ma_u (zNw b y.toNatClampNeg (zFn y kk (w + 1) pl) L) 71 pl.toNatClampNeg y) pl.toInt L w.toInt c k := fun c k => by
    show (if c = 69 ∧ k = 8 then b 69 8 + (w + 1) else if c = 69 ∧ k = 6 then b 69 6 + 1 else zIw (ma_u (zNw b y.toNatClampNeg (zFn y kk (w + 1) pl) L) 71 pl.toNatClampNeg y) pl.toInt L ((w + 1).toInt - 1) c k) = _
    rw [e1, show w.toInt + 1 - 1 = w.toInt by omega]
  have hi : ∀ c k, c ≠ 69 → c ≠ 71 → aAd b y (zFn y kk (w + 1) pl) L c k = zNw b y.toNatClampNeg (zFn y kk (w + 1) pl) L c k := fun c k h1 h2 => by
    rw [nw, if_neg (fun z => h1 z.1), if_neg (fun z => h1 z.1), zIw_o h2, xu_o (fun z => h2 z.1)]
  have md : ∀ c k, ¬ (c = 87 ∧ k = 2) → c ≠ 77 → aMd (aAd b y (zFn y kk (w + 1) pl) L) y c k = aAd b y (zFn y kk (w + 1) pl) L c k := fun c k h1 h2 => by
    unfold aMd
    split
    · rw [xu_o h1]
    · rw [xu_o (fun z => h2 z.1), xu_o h1]
  have md2 : aMd (aAd b y (zFn y kk (w + 1) pl) L) y 87 2 = aAd b y (zFn y kk (w + 1) pl) L 130 y.toNatClampNeg + aAd b y (zFn y kk (w + 1) pl) L 128 y.toNatClampNeg := by
    unfold aMd
    split
    · rw [xu_s]
    · rw [xu_o (by omega), xu_s]
  have th : ∀ f, 126 < f → f < 1000 → zNw b y.toNatClampNeg (zFn y kk (w + 1) pl) L f y.toNatClampNeg = if zfd (f - 126) = true then zFn y kk (w + 1) pl (f - 126) else 0 := fun f h1 h2 => by
    unfold zNw
    rw [if_neg (by omega), if_pos ⟨h1, h2, rfl⟩]
  have t128 : aAd b y (zFn y kk (w + 1) pl) L 128 y.toNatClampNeg = w + 1 := by
    rw [hi _ _ (by decide) (by decide), th 128 (by decide) (by decide)]
    rfl
  have t130 : aAd b y (zFn y kk (w + 1) pl) L 130 y.toNatClampNeg = pl := by
    rw [hi _ _ (by decide) (by decide), th 130 (by decide) (by decide)]
    rfl
  have m71 : ∀ p : Nat, aMd (aAd b y (zFn y kk (w + 1) pl) L) y 71 p = zIw (ma_u (zNw b y.toNatClampNeg (zFn y kk (w + 1) pl) L) 71 pl.toNatClampNeg y) pl.toInt L w.toInt 71 p := fun p => by
    rw [md _ _ (by omega) (by decide), nw, if_neg (by omega), if_neg (by omega)]
  have lo : ∀ c k, c < 126 → c ≠ 69 → c ≠ 71 → c ≠ 77 → c ≠ 87 → aMd (aAd b y (zFn y kk (w + 1) pl) L) y c k = b c k := fun c k h1 h2 h3 h4 h5 => by
    rw [md _ _ (fun z => h5 z.1) h4, hi _ _ h2 h3, zNw_o h1]
  refine ⟨⟨?_, ?_, ?_, ?_, ?_⟩, fun f x f1 f2 hx => ?_, ⟨fun k => ?_, fun x hx => ?_⟩, ⟨?_, fun i i0 i1 => ?_, fun p hpp => ?_⟩, ⟨funext (fun k => lo 72 k (by decide) (by decide) (by decide) (by decide) (by decide)), funext (fun k => lo 73 k (by decide) (by decide) (by decide) (by decide) (by decide)), funext (fun k => lo 74 k (by decide) (by decide) (by decide) (by decide) (by decide)), ?_⟩, ⟨?_, ?_⟩, fun k hk => ?_, ?_⟩
  · rw [md _ _ (by omega) (by decide), hi _ _ (by decide) (by decide)]
    unfold zNw
    rw [if_pos ⟨rfl, rfl⟩]
  · rw [md _ _ (by omega) (by decide)]
    exact t128
  · rw [md _ _ (by omega) (by decide)]
    exact t130
  · rw [md _ _ (by omega) (by decide), hi _ _ (by decide) (by decide), th 133 (by decide) (by decide)]
    rfl
  · rw [md _ _ (by omega) (by decide), hi _ _ (by decide) (by decide), th 134 (by decide) (by decide)]
    rfl
  · rw [md _ _ (by omega) (by omega), hi _ _ (by omega) (by omega)]
    unfold zNw
    rw [if_neg (by omega), if_neg (by omega), if_neg (by omega)]
  · rw [md _ _ (by omega) (by omega), hi _ _ (by omega) (by omega)]
    unfold zNw
    rw [if_neg (by omega), if_neg (by omega), if_pos rfl]
  · funext k
    rw [md _ _ (by omega) (by omega), hi _ _ (by omega) (by omega)]
    unfold zNw
    rw [if_neg (by omega), if_neg (by omega), if_neg (by omega)]
  · rw [m71]
    unfold zIw
    rw [if_neg (by omega), xu_s]
  · have ep := i_p1 (i := pl) (by omega)
    have ei : (pl + 1 + i).toInt = pl.toInt + 1 + i.toInt := by
      rw [i_add (by omega) (by omega)]
      omega
    have ci := tn_cast (x := pl + 1 + i) (by omega)
    rw [m71]
    unfold zIw
    rw [if_pos ⟨rfl, by omega, by omega⟩, show (((pl + 1 + i).toNatClampNeg : Int) - pl.toInt - 1).toNat = i.toNatClampNeg by have := tn_cast i0; omega, ofN_tn i0]
  · rw [m71]
    unfold zIw
    rw [if_neg (by omega), xu_o (by omega), zNw_o (by decide)]
  · rw [md _ _ (by omega) (by decide), nw, if_neg (by omega), if_neg (by omega), zIw_o (by decide), xu_o (by omega), zNw_o (by decide)]
  · rw [md _ _ (by omega) (by decide), nw, if_neg (by omega), if_pos ⟨rfl, rfl⟩]
  · rw [md _ _ (by omega) (by decide), nw, if_pos ⟨rfl, rfl⟩]
  · rw [md _ _ (fun z => hk z.2) (by decide), hi _ _ (by decide) (by decide), zNw_o (by decide)]
  · rw [md2, t130, t128]
end QN

/-! from 95.h37 -/
/-! the reference by numbers (written by wip/tools/gen18r.py) -/
section QP
variable {b d : Nat → Nat → Int32} {us nr kr kd ws at₉ ho wd wi ow rt wk wl co gr : Nat → Int32} {wm nu ro fo le ra pi y i ga gm kk w pl mk : Int32} {n k u s t x : Nat} {L : Int64}
/-- what is asked of a new one -/
def qNe (b : Nat → Nat → Int32) (y w pl : Int32) : Prop := qI b ∧ y = b 69 6 ∧ y.toInt < 512 ∧ (0 ≤ w.toInt ∧ w.toInt ≤ 60) ∧ qFs b (w.toInt + 1) pl.toInt
theorem Ne_b (h : qNe b y w pl) : 0 ≤ y.toInt ∧ y.toNatClampNeg < 512 ∧ ((y.toNatClampNeg : Nat) : Int) = y.toInt ∧ 0 ≤ pl.toInt ∧ pl.toInt + w.toInt + 1 ≤ 4500 ∧ (w + 1).toInt = w.toInt + 1 ∧ (pl + (w + 1)).toInt = pl.toInt + w.toInt + 1 := by
  obtain ⟨hI, h1, h2, h3, h4⟩ := h
  have i4 := hI.2.2.2.1
  have a1 := i4.1.1
  rw [← h1] at a1
  have c := tn_cast a1
  have r5 := i4.2.2.1
  have p0 := h4.1
  have p1 := h4.2.1
  have e1 := i_p1 (i := w) (by omega)
  have e2 : (pl + (w + 1)).toInt = pl.toInt + (w + 1).toInt := i_add (by omega) (by omega)
  omega
theorem Ne_al (h : qNe b y w pl) : ¬ xAl b y.toNatClampNeg := fun z => by
  have q := Ne_b h
  have i := (h.1.1 _ z).1.1
  rw [← h.2.1] at i
  omega
theorem Al_ad (h : qNe b y w pl) (hA : qAd b d y kk w pl L) : xAl d x ↔ xAl b x ∨ x = y.toNatClampNeg := by
  have q := Ne_b h
  unfold xAl
  by_cases z : x = y.toNatClampNeg
  · rw [z, hA.1.1]
    exact ⟨fun _ => Or.inr rfl, fun _ => ⟨q.2.1, by decide⟩⟩
  · rw [hA.2.1 126 x (by decide) (by decide) z]
    exact ⟨Or.inl, fun w => w.elim id (fun w2 => absurd w2 z)⟩
theorem ne_al (h : qNe b y w pl) (hx : xAl b x) : x ≠ y.toNatClampNeg := fun z => Ne_al h (z ▸ hx)
theorem I_ad (h : qNe b y w pl) (hA : qAd b d y kk w pl L) : qI d := by
  have q := Ne_b h
  have al := fun x => Al_ad (x := x) h hA
  have nal := Ne_al h
  obtain ⟨hI, hy, hy5, hw, hF⟩ := h
  obtain ⟨⟨a1, a2, a3, a4, a5⟩, b1, ⟨c1, c2⟩, ⟨d1, d2, d3⟩, ⟨e1, e2, e3, e4⟩, ⟨f1, f2⟩, g1, g2⟩ := hA
  have i4 := hI.2.2.2.1
  have e6 : (b 69 6 + 1).toInt = (b 69 6).toInt + 1 := i_p1 (by rw [← hy]; omega)
  have b0 : b 126 y.toNatClampNeg = 0 := by
    by_cases z : b 126 y.toNatClampNeg = 0
    · exact z
    · exact absurd ⟨q.2.1, z⟩ nal
  have old : ∀ x, xAl b x → x ≠ y.toNatClampNeg := fun x hx z => nal (z ▸ hx)
  have g87 : ∀ k, k ≠ 2 → d 87 k = b 87 k := g1
  refine ⟨fun x hx => ?_, fun x x₉ hx hx₉ hne => ?_, fun p hp hc => ?_, ⟨?_, ?_, ?_, ?_, ?_, ?_⟩, ?_, fun x hx k => ?_⟩
  · rcases (al x).mp hx with z | z
    · have o := old x z
      have i := hI.1 x z
      have fs := hF.2.2 x z
      have cx := tn_cast i.1.2
      rw [b1 130 x (by decide) (by decide) o, b1 128 x (by decide) (by decide) o, f1, e6, g87 0 (by decide), d3 _ (by have := i.2.1.1; omega)]
      exact ⟨⟨by omega, i.1.2⟩, i.2⟩
    · rw [z, a2, a3, f1, e6, g87 0 (by decide), d1, ← hy, q.2.2.2.2.2.1]
      exact ⟨⟨by omega, q.2.2.2.1⟩, ⟨by omega, by omega⟩, by have := hF.2.1; omega, (ofN_tn q.1).symm⟩
  · rcases (al x).mp hx with z | z
    · rcases (al x₉).mp hx₉ with z₉ | z₉
      · rw [b1 130 x (by decide) (by decide) (old x z), b1 128 x (by decide) (by decide) (old x z), b1 130 x₉ (by decide) (by decide) (old x₉ z₉), b1 128 x₉ (by decide) (by decide) (old x₉ z₉)]
        exact hI.2.1 x x₉ z z₉ hne
      · rw [b1 130 x (by decide) (by decide) (old x z), b1 128 x (by decide) (by decide) (old x z), z₉, a2, a3, q.2.2.2.2.2.1]
        have := hF.2.2 x z
        omega
    · rcases (al x₉).mp hx₉ with z₉ | z₉
      · rw [b1 130 x₉ (by decide) (by decide) (old x₉ z₉), b1 128 x₉ (by decide) (by decide) (old x₉ z₉), z, a2, a3, q.2.2.2.2.2.1]
        have := hF.2.2 x₉ z₉
        omega
      · exact absurd (z.trans z₉.symm) hne
  · have hn := hc y.toNatClampNeg ((al _).mpr (Or.inr rfl))
    rw [a2, a3, q.2.2.2.2.2.1] at hn
    rw [d3 p (by omega)]
    refine hI.2.2.1 p hp (fun x hx w => ?_)
    have := hc x ((al x).mpr (Or.inl hx))
    rw [b1 130 x (by decide) (by decide) (old x hx), b1 128 x (by decide) (by decide) (old x hx)] at this
    exact this w
  · rw [f1, e6]
    have := i4.1
    rw [← hy] at this ⊢
    omega
  · rw [e4]
    exact i4.2.1
  · rw [g87 0 (by decide)]
    exact i4.2.2.1
  · rw [g2, g87 0 (by decide), q.2.2.2.2.2.2]
    have := hF.2.1
    omega
  · rw [g2, q.2.2.2.2.2.2]
    intro x hx w2
    rcases (al x).mp hx with z | z
    · rw [b1 130 x (by decide) (by decide) (old x z), b1 128 x (by decide) (by decide) (old x z)] at w2
      have := hF.2.2 x z
      omega
    · rw [z, a2, a3, q.2.2.2.2.2.1] at w2
      omega
  · rw [g87 6 (by decide)]
    exact i4.2.2.2.2.2
  · have su := Su_dn (a := d) (b := b) (k := y.toNatClampNeg) (n := 512) q.2.1 (by rw [a1]; decide) b0 (fun x _ hx => ⟨b1 126 x (by decide) (by decide) hx, b1 128 x (by decide) (by decide) hx⟩)
    rw [a2] at su
    rw [f2, hI.2.2.2.2.1, su, show qSu d 512 = (qSu d 512 - (w + 1).toInt) + (w + 1).toInt by omega, Int32.ofInt_add, Int32.ofInt_toInt]
    rw [show qSu d 512 - (w + 1).toInt + (w + 1).toInt - (w + 1).toInt = qSu d 512 - (w + 1).toInt by omega]
  · have nx : x ≠ y.toNatClampNeg := fun z => hx ((al x).mpr (Or.inr z))
    rw [c2 x nx]
    exact hI.2.2.2.2.2 x (fun z => hx ((al x).mpr (Or.inl z))) k
/-- words of those that were there stay -/
theorem rf_ad (h : qNe b y w pl) (hA : qAd b d y kk w pl L) (hW : qWp b x i) : aRef d x i = aRef b x i := by
  have q := Ne_b h
  have o := ne_al h hW.1
  have p := wp_i h.1 hW
  have cp := tn_cast p.2.1
  have fs := h.2.2.2.2.2.2 x hW.1
  have i0 := hW.2
  unfold aRef
  rw [hA.2.2.1.2 x o, hA.2.1 130 x (by decide) (by decide) o, hA.2.2.2.1.2.2 (b 130 x + 1 + i).toNatClampNeg (by omega)]
/-- the new one refers to nothing -/
theorem rf_nw (h : qNe b y w pl) (hA : qAd b d y kk w pl L) (h0 : 0 ≤ i.toInt) (h1 : i.toInt < w.toInt) : aRef d y.toNatClampNeg i = -1 := by
  unfold aRef
  split
  · next z =>
    rw [hA.1.2.2.1, hA.2.2.2.1.2.1 i h0 h1, if_neg]
    rw [hA.2.2.1.1, ofN_tn h0] at z
    exact z.1
  · rfl
theorem RB_ad (h : qNe b y w pl) (hA : qAd b d y kk w pl L) (hR : qRB (zmk us s) nr kr kd ws at₉ ho wd wi ow rt wk wl wm nu ro fo le ra pi b) (hs : s < 3100) (hu : us s ≠ 0) (hn : nr s = y) (hw : ws s = w) (hp : at₉ s = pl) (hh : ho s = 0) (hi : wi s = 0) (hO : ow pl.toNatClampNeg = Int32.ofNat s) (hz : ∀ j : Nat, (j : Int) < (ws s).toInt → (zrf kr kd wd s j).toInt = -1) (hb : ∀ j : Nat, (j : Int) < w.toInt → (zbit L (Int32.ofNat j) ≠ 0 ↔ qIr kr kd s j)) : qRB us nr kr kd ws at₉ ho wd wi ow rt wk wl wm (nu + 1) ro fo (pl + (w + 1)) ra pi d := by
  have q := Ne_b h
  have zk : ∀ t, t ≠ s → zmk us s t = us t := fun t ht => if_neg ht
  have us2 : ∀ t, us t ≠ 0 → t ≠ s → zmk us s t ≠ 0 := fun t h1 h2 => by
    rw [zk t h2]
    exact h1
  have uU : ∀ x : Int32, qU (zmk us s) x → qU us x := fun x hx => hx.imp id (fun z => ⟨z.1, fun w => z.2 (by
    unfold zmk
    by_cases e : x.toNatClampNeg = s
    · rw [if_pos e]
    · rw [if_neg e]
      exact w)⟩)
  have old : ∀ t, t < 3100 → us t ≠ 0 → t ≠ s → (nr t).toNatClampNeg ≠ y.toNatClampNeg := fun t ht hv e => ne_al h (R1_al hR.1 ht (us2 t hv e))
  refine ⟨⟨fun t ht hv => ?_, fun t t₉ ht ht₉ hv hv₉ e => ?_, fun x hx ha => ?_⟩, fun t ht hv j hj => ?_, fun k hk => ?_, fun k hk => ?_, ⟨?_, fun k hk => ?_⟩, fun t ht hv => ?_, fun t ht hv => ?_, ?_⟩
  · by_cases e : t = s
    · rw [e, hn, hw, hp, hh, hA.1.1, hA.1.2.1, hA.1.2.2.1, hA.1.2.2.2.1]
      exact ⟨⟨q.1, h.2.2.1⟩, by decide, rfl, rfl, rfl, h.2.2.2.1, q.2.2.2.1⟩
    · have o := old t ht hv e
      rw [hA.2.1 126 _ (by decide) (by decide) o, hA.2.1 128 _ (by decide) (by decide) o, hA.2.1 130 _ (by decide) (by decide) o, hA.2.1 133 _ (by decide) (by decide) o]
      exact hR.1.1 t ht (us2 t hv e)
  · by_cases e1 : t = s
    · by_cases e2 : t₉ = s
      · rw [e1, e2]
      · rw [e1, hn] at e
        exact absurd (by rw [← e]) (old t₉ ht₉ hv₉ e2)
    · by_cases e2 : t₉ = s
      · rw [e2, hn] at e
        exact absurd (by rw [e]) (old t ht hv e1)
      · exact hR.1.2.1 t t₉ ht ht₉ (us2 t hv e1) (us2 t₉ hv₉ e2) e
  · rcases (Al_ad h hA).mp (show xAl d x from ⟨hx, ha⟩) with z | z
    · obtain ⟨t, ht, hv, en⟩ := hR.1.2.2 x hx z.2
      have ts : t ≠ s := fun e => hv (by unfold zmk; rw [if_pos e])
      rw [zk t ts] at hv
      exact ⟨t, ht, hv, en⟩
    · refine ⟨s, hs, hu, ?_⟩
      rw [hn, z]
      exact (ofN_tn q.1).symm
  · by_cases e : t = s
    · rw [e] at hj ⊢
      have zr : zrf kr kd wd s j = -1 := Int32.toInt_inj.mp (hz j hj)
      rw [hw] at hj
      have ej : (Int32.ofNat j).toInt = (j : Int) := Int32.toInt_ofNat_of_lt (by have := h.2.2.2.1; omega)
      rw [zr, hn, rf_nw h hA (i := Int32.ofNat j) (by omega) (by omega), hA.2.2.1.1]
      exact ⟨Or.inl (by decide), (No_n (by decide)).symm, hb j hj⟩
    · have r := hR.2.1 t ht (us2 t hv e) j hj
      have tt := hR.1.1 t ht (us2 t hv e)
      have ej : (Int32.ofNat j).toInt = (j : Int) := Int32.toInt_ofNat_of_lt (by have := tt.2.2.2.2.2.1; omega)
      rw [rf_ad h hA (Wp_s hR ht (us2 t hv e) (i := Int32.ofNat j) (by omega) (by omega)), hA.2.2.1.2 _ (old t ht hv e)]
      exact ⟨uU _ r.1, r.2⟩
  · have r := hR.2.2.1 k hk
    rw [hA.2.2.2.2.1.1]
    exact ⟨uU _ r.1, r.2⟩
  · have r := hR.2.2.2.1 k hk
    rw [hA.2.2.2.2.1.2.1]
    exact ⟨uU _ r.1, r.2⟩
  · rw [hA.2.2.2.2.1.2.2.2]
    exact hR.2.2.2.2.1.1
  · have r := hR.2.2.2.2.1.2 k hk
    rw [hA.2.2.2.2.1.2.2.1]
    have u := uU (wl k) (Or.inr r.1.2)
    exact ⟨⟨r.1.1, (U_y u r.1.1).1, (U_y u r.1.1).2⟩, r.2⟩
  · by_cases e : t = s
    · rw [e, hn, hi]
      exact hA.1.2.2.2.2
    · rw [hA.2.1 134 _ (by decide) (by decide) (old t ht hv e)]
      exact hR.2.2.2.2.2.1 t ht (us2 t hv e)
  · by_cases e : t = s
    · rw [e, hp]
      exact hO
    · exact hR.2.2.2.2.2.2.1 t ht (us2 t hv e)
  · have g := hR.2.2.2.2.2.2.2
    have g1 := hA.2.2.2.2.2.2.1
    refine ⟨?_, ?_, ?_, hA.2.2.2.2.2.2.2, ?_, ?_⟩
    · rw [hA.2.2.2.2.2.1.1, g.1]
    · rw [g1 0 (by decide)]
      exact g.2.1
    · rw [g1 1 (by decide)]
      exact g.2.2.1
    · rw [g1 6 (by decide)]
      exact g.2.2.2.2.1
    · rw [g1 7 (by decide)]
      exact g.2.2.2.2.2
end QP

/-! from 95.h38 -/
/-! the reference by numbers (written by wip/tools/gen18r.py) -/
section QO
variable {b d : Nat → Nat → Int32} {us nr kr kd ws at₉ ho wd wi ow rt wk wl co gr : Nat → Int32} {wm nu ro fo le ra pi y i ga gm kk w pl mk wt : Int32} {n k u s t x v : Nat} {L : Int64} {m : Nat → Nat → Int32}
/-- the walk's cells behind it -/
def qA7 (b d : Nat → Nat → Int32) (y : Int32) : Prop := d 75 = b 75 ∧ d 76 = b 76 ∧ (b 87 8 ≠ 0 → d 77 y.toNatClampNeg = 2) ∧ ∀ x, x ≠ y.toNatClampNeg → d 77 x = b 77 x
theorem A7_of {F : Nat → Int32} : qA7 b (aMd (aAd b y F L) y) y := by
  have hi : ∀ c k, c ≠ 69 → c ≠ 71 → c < 126 → aAd b y F L c k = b c k := fun c k h1 h2 h3 => by
    show (if c = 69 ∧ k = 8 then _ else if c = 69 ∧ k = 6 then _ else zIw (ma_u (zNw b y.toNatClampNeg F L) 71 (F 4).toNatClampNeg y) (F 4).toInt L ((F 2).toInt - 1) c k) = b c k
    rw [if_neg (fun z => h1 z.1), if_neg (fun z => h1 z.1), zIw_o h2, xu_o (fun z => h2 z.1), zNw_o h3]
  refine ⟨funext (fun k => ?_), funext (fun k => ?_), fun h => ?_, fun x hx => ?_⟩
  · unfold aMd
    split
    · rw [xu_o (by omega), hi _ _ (by decide) (by decide) (by decide)]
    · rw [xu_o (by omega), xu_o (by omega), hi _ _ (by decide) (by decide) (by decide)]
  · unfold aMd
    split
    · rw [xu_o (by omega), hi _ _ (by decide) (by decide) (by decide)]
    · rw [xu_o (by omega), xu_o (by omega), hi _ _ (by decide) (by decide) (by decide)]
  · rw [aMd_y (by rw [hi _ _ (by decide) (by decide) (by decide)]; exact h), xu_s]
  · unfold aMd
    split
    · rw [xu_o (by omega), hi _ _ (by decide) (by decide) (by decide)]
    · rw [xu_o (fun z => hx z.2), xu_o (by omega), hi _ _ (by decide) (by decide) (by decide)]
theorem WQ_ad (h : qNe b y w pl) (hA : qAd b d y kk w pl L) (h7 : qA7 b d y) (hm : b 87 8 ≠ 0) (hw : zWQ b) : zWQ d := by
  have q := Ne_b h
  have nal := Ne_al h
  have al := fun x => Al_ad (x := x) h hA
  obtain ⟨q1, q2, q3, q4, q5, q6, q7⟩ := hw
  have c7 := h7.2.2.1 hm
  have cn : cnt (b 77) 512 ≤ cnt (d 77) 512 := cnt_mono (fun j hj z => by
    by_cases e : j = y.toNatClampNeg
    · rw [e, c7]
      decide
    · rw [h7.2.2.2 j e]
      exact z)
  refine ⟨⟨?_, ?_, ?_⟩, ?_, ?_, ?_, ?_, ?_, ?_⟩
  · rw [h7.1]
    exact q1.1
  · rw [h7.1]
    exact q1.2.1
  · rw [h7.1]
    have := q1.2.2
    omega
  · intro j j1 j2
    rw [h7.1] at j1 j2
    have p := q2 j j1 j2
    have cp := tn_cast p.1
    have ne : (b 76 j).toNatClampNeg ≠ y.toNatClampNeg := ne_al h ⟨by have := p.2.1; omega, p.2.2.1⟩
    rw [h7.2.1, hA.2.1 126 _ (by decide) (by decide) ne, h7.2.2.2 _ ne]
    exact p
  · intro j j₉ j1 j2 j3
    rw [h7.1] at j1 j3
    rw [h7.2.1]
    exact q3 j j₉ j1 j2 j3
  · intro x hx hx1
    by_cases e : x = y.toNatClampNeg
    · rw [e, c7] at hx1
      exact absurd hx1 (by decide)
    · rw [h7.2.2.2 x e] at hx1
      rw [h7.1, h7.2.1]
      exact q4 x hx hx1
  · intro x hx
    by_cases e : x = y.toNatClampNeg
    · rw [e, c7]
      exact Or.inr (Or.inr rfl)
    · rw [h7.2.2.2 x e]
      exact q5 x hx
  · rw [h7.1]
    exact q6
  · intro x hx
    rcases (al x).mp hx with z | z
    · rw [hA.2.1 130 x (by decide) (by decide) (ne_al h z)]
      exact q7 x z
    · rw [z, hA.1.2.2.1]
      exact q.2.2.2.1
theorem MQ_ad (h : qNe b y w pl) (hA : qAd b d y kk w pl L) (h7 : qA7 b d y) (hm : b 87 8 ≠ 0) (h1 : qR1 (zmk us s) nr ws at₉ ho b) (hQ : qMQ co gr ga gm (zmk us s) nr b) (hn : nr s = y) (hc : co s = 2) : qMQ co gr ga gm us nr d := by
  obtain ⟨q1, q2, q3, q4, q5⟩ := hQ
  have us2 : ∀ t, us t ≠ 0 → t ≠ s → zmk us s t ≠ 0 := fun t h1 h2 => by
    unfold zmk
    rw [if_neg h2]
    exact h1
  refine ⟨by rw [h7.1]; exact q1, by rw [h7.1]; exact q2, fun t ht hv => ?_, fun j j1 j2 => ?_, WQ_ad h hA h7 hm q5⟩
  · by_cases e : t = s
    · rw [e, hn, hc, h7.2.2.1 hm]
    · rw [h7.2.2.2 _ (ne_al h (R1_al h1 ht (us2 t hv e)))]
      exact q3 t ht (us2 t hv e)
  · have p := q4 j j1 j2
    rw [h7.2.1]
    refine ⟨⟨p.1.1, p.1.2.1, fun z => p.1.2.2 ?_⟩, p.2⟩
    unfold zmk
    split
    · rfl
    · exact z
theorem Ed_ad (h : qNe b y w pl) (hA : qAd b d y kk w pl L) (hR : qRB (zmk us s) nr kr kd ws at₉ ho wd wi ow rt wk wl wm nu ro fo le ra pi b) : zEd d u v ↔ zEd b u v := by
  have q := Ne_b h
  have Id := I_ad h hA
  rw [Ed_wp Id.2.2.2.2.2, Ed_wp h.1.2.2.2.2.2]
  constructor
  · rintro ⟨w1, j, w2, w3⟩
    have ev := ofN_i w1.1
    by_cases e : u = y.toNatClampNeg
    · rw [e] at w3
      have w4 := w2.2
      rw [e, hA.1.2.1, q.2.2.2.2.2.1] at w4
      rw [rf_nw h hA w4.1 (by omega)] at w3
      rw [← w3] at ev
      have m1 : (-1 : Int32).toInt = -1 := rfl
      omega
    · have au : xAl b u := ((Al_ad h hA).mp w2.1).elim id (fun z => absurd z e)
      have w4 := w2.2
      rw [hA.2.1 128 u (by decide) (by decide) e] at w4
      have W : qWp b u j := ⟨au, w4.1, w4.2⟩
      rw [rf_ad h hA W] at w3
      refine ⟨?_, j, W, w3⟩
      rcases (Al_ad h hA).mp w1 with z | z
      · exact z
      · exfalso
        obtain ⟨t, ht, hv, en⟩ := R1_ex hR.1 au
        have tt := hR.1.1 t ht hv
        rw [en] at tt
        have cj := tn_cast w4.1
        have sz : j.toInt < (ws t).toInt := by
          have := w4.2
          rw [tt.2.2.1, i_p1 (by have := tt.2.2.2.2.2.1; omega)] at this
          omega
        have r := hR.2.1 t ht hv j.toNatClampNeg (by omega)
        rw [en, ofN_tn w4.1, w3] at r
        rcases No_al hR.1 r.1 with z2 | z2
        · rw [z2] at r
          have := congrArg Int32.toInt r.2.1
          have m1 : (-1 : Int32).toInt = -1 := rfl
          omega
        · have al := z2.2.2
          rw [← r.2.1, tn_of w1.1] at al
          exact ne_al h al z
  · rintro ⟨w1, j, w2, w3⟩
    have e := ne_al h w2.1
    refine ⟨(Al_ad h hA).mpr (Or.inl w1), j, ⟨(Al_ad h hA).mpr (Or.inl w2.1), w2.2.1, ?_⟩, ?_⟩
    · rw [hA.2.1 128 u (by decide) (by decide) e]
      exact w2.2.2
    · rw [rf_ad h hA w2]
      exact w3
theorem Rt_ad (h : qNe b y w pl) (hA : qAd b d y kk w pl L) (hR : qRB (zmk us s) nr kr kd ws at₉ ho wd wi ow rt wk wl wm nu ro fo le ra pi b) (hu : zRt d u) : zRt b u := by
  obtain ⟨al, hr⟩ := hu
  have eu := ofN_i al.1
  have m1 : (-1 : Int32).toInt = -1 := rfl
  have nu0 : u ≠ y.toNatClampNeg := fun e => by
    have nal := Ne_al h
    rw [← e] at nal
    unfold zRl zWl zHl at hr
    rw [hA.2.2.2.2.1.1, hA.2.2.2.2.1.2.2.1, hA.2.2.2.2.1.2.2.2] at hr
    rcases hr with ⟨j, j1, j2⟩ | ⟨j, j1, j2⟩ | z
    · have r := hR.2.2.1 j j1
      rcases No_al hR.1 r.1 with z2 | z2
      · rw [r.2, z2] at j2
        rw [← j2] at eu
        omega
      · have a2 := z2.2.2
        rw [← r.2, j2, tn_of al.1] at a2
        exact nal a2
    · rw [hR.2.2.2.2.1.1] at j1
      have r := hR.2.2.2.2.1.2 j j1
      have hs := tn_lt r.1.1 r.1.2.1
      have a2 := R1_al hR.1 hs r.1.2.2
      rw [← r.2, j2, tn_of al.1] at a2
      exact nal a2
    · have z2 := z.2
      rw [e, hA.1.2.2.2.1] at z2
      exact absurd z2 (by decide)
  have alb : xAl b u := ((Al_ad h hA).mp al).elim id (fun z => absurd z nu0)
  refine ⟨alb, ?_⟩
  unfold zRl zWl zHl at hr ⊢
  rw [hA.2.2.2.2.1.1, hA.2.2.2.2.1.2.2.1, hA.2.2.2.2.1.2.2.2, hA.2.1 133 u (by decide) (by decide) nu0] at hr
  exact hr.imp id (fun z => z.imp id (fun z2 => ⟨(h.1.1 u alb).1.1, z2.2⟩))
theorem MI_ad (h : qNe b y w pl) (hA : qAd b d y kk w pl L) (h7 : qA7 b d y) (hm : b 87 8 ≠ 0) (hR : qRB (zmk us s) nr kr kd ws at₉ ho wd wi ow rt wk wl wm nu ro fo le ra pi b) (hM : qMI b) : qMI d := by
  have q := Ne_b h
  have c7 := h7.2.2.1 hm
  have ed := fun u v => Ed_ad (u := u) (v := v) h hA hR
  have e7 := hA.2.2.2.2.2.2.1 7 (by decide)
  have nn : ∀ x, zNn d x ↔ zNn b x ∨ x = y.toNatClampNeg := fun x => by
    unfold zNn
    by_cases e : x = y.toNatClampNeg
    · rw [e, c7]
      exact ⟨fun _ => Or.inr rfl, fun _ => ⟨q.2.1, by decide⟩⟩
    · rw [h7.2.2.2 x e]
      exact ⟨Or.inl, fun z => z.elim id (fun z2 => absurd z2 e)⟩
  have dn : ∀ x, zDn d x ↔ zDn b x ∨ x = y.toNatClampNeg := fun x => by
    unfold zDn
    by_cases e : x = y.toNatClampNeg
    · rw [e, c7]
      exact ⟨fun _ => Or.inr rfl, fun _ => ⟨q.2.1, rfl⟩⟩
    · rw [h7.2.2.2 x e]
      exact ⟨Or.inl, fun z => z.elim id (fun z2 => absurd z2 e)⟩
  have eb : ∀ u v, zEd b u v → xAl b u := fun u v he => by
    obtain ⟨_, j, W, _⟩ := (Ed_wp h.1.2.2.2.2.2).mp he
    exact W.1
  refine ⟨fun w1 u v hd _ he => ?_, fun w1 => ?_⟩
  · have he2 := (ed u v).mp he
    have au := eb u v he2
    rcases (dn u).mp hd with z | z
    · exact (nn v).mpr (Or.inl (hM.1 (by rw [← e7]; exact w1) u v z au he2))
    · exact absurd z (ne_al h au)
  · have hp := hM.2 (by rw [← e7]; exact w1)
    have mu : ∀ x, zMk b x → zMk d x := fun x hx => hx _ (fun g hg => zM_in ((nn g).mpr (Or.inl hg))) (fun u v hu hnd he => by
      refine zM_cl hu (fun z => ?_) ((ed u v).mpr he)
      rcases (dn u).mp z with z2 | z2
      · exact hnd z2
      · exact ne_al h (eb u v he) z2)
    have md : ∀ x, zMk d x → zMk b x ∨ x = y.toNatClampNeg := fun x hx => hx (fun x => zMk b x ∨ x = y.toNatClampNeg) (fun g hg => ((nn g).mp hg).imp zM_in id) (fun u v hu hnd he => by
      have he2 := (ed u v).mp he
      have au := ne_al h (eb u v he2)
      exact Or.inl (zM_cl (hu.elim id (fun z => absurd z au)) (fun z => hnd ((dn u).mpr (Or.inl z))) he2))
    refine ⟨fun u hu => mu u (hp.1 u (Rt_ad h hA hR hu)), fun u v hu he => ?_⟩
    have he2 := (ed u v).mp he
    have au := ne_al h (eb u v he2)
    exact mu v (hp.2 u v ((md u hu).elim id (fun z => absurd z au)) he2)
/-- words there -/
theorem WT_ad (h : wt.toInt = sm (zbU (zmk us s)) ws 3100) (hs : s < 3100) (hu : us s ≠ 0) (hw : ∀ t, t < 3100 → 0 ≤ (ws t).toInt ∧ (ws t).toInt ≤ 60) : (wt + (ws s + 1)).toInt = sm (zbU us) ws 3100 := by
  have o := sm_out (ws := ws) (b := zbU us) (b₉ := zbU (zmk us s)) (n := 3100) hs (decide_eq_true hu) (decide_eq_false (fun w => w (by unfold zmk; rw [if_pos rfl]))) (fun t ht e => by unfold zbU zmk; rw [if_neg e])
  have ub := sm_ub 3100 (fun t ht => (hw t ht).2) (zbU (zmk us s)) (fun t ht => (hw t ht).1)
  have w := hw s hs
  have e1 : (ws s + 1).toInt = (ws s).toInt + 1 := i_p1 (by omega)
  rw [i_add (by omega) (by omega)]
  omega
end QO

/-! from 95.h39 -/
/-! the reference by numbers (written by wip/tools/gen18r.py) -/
/-! IN THE MIDST OF A NEW ONE: slot s has it, the others are as they were -/
def qNs (us nr kr kd ws at₉ ho wd wi ow rt wk wl : Nat → Int32) (wm nu ro fo le ra pi : Int32) (b : Nat → Nat → Int32) (s : Nat) (y kk w pl : Int32) : Prop := qRB (zmk us s) nr kr kd ws at₉ ho wd wi ow rt wk wl wm nu ro fo le ra pi b ∧ us s ≠ 0 ∧ nr s = y ∧ kd s = kk ∧ ws s = w ∧ at₉ s = pl ∧ ow pl.toNatClampNeg = Int32.ofNat s
section QN2
variable {b : Nat → Nat → Int32} {us us₉ nr nr₉ kr kd kd₉ ws ws₉ at₉ at2 ho ho₉ wd wd₉ wi wi₉ ow ow₉ rt wk wl co gr : Nat → Int32} {wm nu ro fo le ra pi y kk w pl : Int32} {s t : Nat}
/-- rows that differ at slot s alone -/
theorem RB_ot (h : qRB us nr kr kd ws at₉ ho wd wi ow rt wk wl wm nu ro fo le ra pi b) (h0 : us s = 0) (e1 : ∀ t, t ≠ s → nr₉ t = nr t) (e2 : ∀ t, t ≠ s → kd₉ t = kd t) (e3 : ∀ t, t ≠ s → ws₉ t = ws t) (e4 : ∀ t, t ≠ s → at2 t = at₉ t) (e5 : ∀ t, t ≠ s → ho₉ t = ho t) (e6 : ∀ t, t ≠ s → wi₉ t = wi t) (e7 : ∀ t, t < 3100 → t ≠ s → ∀ i : Nat, (i : Int) < (ws t).toInt → zrf kr kd₉ wd₉ t i = zrf kr kd wd t i) (e8 : ∀ t, t < 3100 → us t ≠ 0 → ow₉ (at₉ t).toNatClampNeg = ow (at₉ t).toNatClampNeg) : qRB us nr₉ kr kd₉ ws₉ at2 ho₉ wd₉ wi₉ ow₉ rt wk wl wm nu ro fo le ra pi b := by
  have ne : ∀ t, us t ≠ 0 → t ≠ s := fun t ht e => ht (e ▸ h0)
  have no : ∀ x : Int32, qU us x → qNo nr₉ x = qNo nr x := fun x hx => by
    by_cases z : x.toInt < 0
    · rw [No_n z, No_n z]
    · rw [No_y (by omega), No_y (by omega)]
      exact e1 _ (ne _ (U_y hx (by omega)).2)
  refine ⟨⟨fun t ht hv => ?_, fun t t₉ ht ht₉ hv hv₉ e => ?_, fun x hx ha => ?_⟩, fun t ht hv i hi => ?_, fun k hk => ?_, fun k hk => ?_, ⟨h.2.2.2.2.1.1, fun k hk => ?_⟩, fun t ht hv => ?_, fun t ht hv => ?_, h.2.2.2.2.2.2.2⟩
  · have n := ne t hv
    rw [e1 t n, e3 t n, e4 t n, e5 t n]
    exact h.1.1 t ht hv
  · rw [e1 t (ne t hv), e1 t₉ (ne t₉ hv₉)] at e
    exact h.1.2.1 t t₉ ht ht₉ hv hv₉ e
  · obtain ⟨t, ht, hv, en⟩ := h.1.2.2 x hx ha
    exact ⟨t, ht, hv, by rw [e1 t (ne t hv)]; exact en⟩
  · have n := ne t hv
    rw [e3 t n] at hi
    have q := h.2.1 t ht hv i hi
    rw [e1 t n, e7 t ht n i hi, no _ q.1]
    refine ⟨q.1, q.2.1, q.2.2.trans ?_⟩
    unfold qIr
    rw [e2 t n]
  · have q := h.2.2.1 k hk
    rw [no _ q.1]
    exact q
  · have q := h.2.2.2.1 k hk
    rw [no _ q.1]
    exact q
  · have q := h.2.2.2.2.1.2 k hk
    rw [e1 _ (ne _ q.1.2.2)]
    exact q
  · rw [e1 t (ne t hv), e6 t (ne t hv)]
    exact h.2.2.2.2.2.1 t ht hv
  · rw [e4 t (ne t hv), e8 t ht hv]
    exact h.2.2.2.2.2.2.1 t ht hv
theorem zmk_e (h0 : us s = 0) (e : ∀ t, t ≠ s → us₉ t = us t) : zmk us₉ s = us := by
  funext t
  unfold zmk
  by_cases z : t = s
  · rw [if_pos z, z, h0]
  · rw [if_neg z, e t z]
/-- a place that is free is nobody's -/
theorem fs_at (h : qRB us nr kr kd ws at₉ ho wd wi ow rt wk wl wm nu ro fo le ra pi b) (hI : qI b) {z : Int} (hz : 1 ≤ z) (hF : qFs b z pl.toInt) (ht : t < 3100) (hv : us t ≠ 0) : (at₉ t).toNatClampNeg ≠ pl.toNatClampNeg := by
  have q := h.1.1 t ht hv
  have al := R1_al h.1 ht hv
  have f := hF.2.2 _ al
  have i := hI.1 _ al
  rw [q.2.2.2.1] at f
  have c1 := tn_cast q.2.2.2.2.2.2
  have c2 := tn_cast (x := pl) hF.1
  have sz := i.2.1.1
  omega
theorem NS_0 (h : qRB us nr kr kd ws at₉ ho wd wi ow rt wk wl wm nu ro fo le ra pi b) (hI : qI b) {z : Int} (hz : 1 ≤ z) (hF : qFs b z pl.toInt) (h0 : us s = 0) (u1 : us₉ s ≠ 0) (u2 : ∀ t, t ≠ s → us₉ t = us t) (n1 : nr₉ s = y) (n2 : ∀ t, t ≠ s → nr₉ t = nr t) (k1 : kd₉ s = kk) (k2 : ∀ t, t ≠ s → kd₉ t = kd t) (w1 : ws₉ s = w) (w2 : ∀ t, t ≠ s → ws₉ t = ws t) (a1 : at2 s = pl) (a2 : ∀ t, t ≠ s → at2 t = at₉ t) (o1 : ow₉ pl.toNatClampNeg = Int32.ofNat s) (o2 : ∀ p, p ≠ pl.toNatClampNeg → ow₉ p = ow p) : qNs us₉ nr₉ kr kd₉ ws₉ at2 ho wd wi ow₉ rt wk wl wm nu ro fo le ra pi b s y kk w pl := by
  refine ⟨?_, u1, n1, k1, w1, a1, o1⟩
  rw [zmk_e h0 u2]
  exact RB_ot h h0 n2 k2 w2 a2 (fun _ _ => rfl) (fun _ _ => rfl) (fun t _ e i _ => zrf_kd (k2 t e)) (fun t ht hv => o2 _ (fs_at h hI hz hF ht hv))
/-- its holds, its wish, its words -/
theorem NS_h (h : qNs us nr kr kd ws at₉ ho wd wi ow rt wk wl wm nu ro fo le ra pi b s y kk w pl) (e5 : ∀ t, t ≠ s → ho₉ t = ho t) (e6 : ∀ t, t ≠ s → wi₉ t = wi t) (e7 : ∀ t, t < 3100 → t ≠ s → ∀ i : Nat, (i : Int) < (ws t).toInt → zrf kr kd wd₉ t i = zrf kr kd wd t i) : qNs us nr kr kd ws at₉ ho₉ wd₉ wi₉ ow rt wk wl wm nu ro fo le ra pi b s y kk w pl := ⟨RB_ot h.1 (by unfold zmk; rw [if_pos rfl]) (fun _ _ => rfl) (fun _ _ => rfl) (fun _ _ => rfl) (fun _ _ => rfl) e5 e6 e7 (fun _ _ _ => rfl), h.2⟩
theorem MG_0 {mk ga gm : Int32} {co₉ : Nat → Int32} (h : qMG mk co gr ga gm us nr b) (h0 : us s = 0) (u2 : ∀ t, t ≠ s → us₉ t = us t) (n2 : ∀ t, t ≠ s → nr₉ t = nr t) (c2 : ∀ t, t ≠ s → co₉ t = co t) : qMG mk co₉ gr ga gm (zmk us₉ s) nr₉ b := fun z => by
  rw [zmk_e h0 u2]
  obtain ⟨⟨q1, q2, q3, q4, q5⟩, q6⟩ := h z
  have ne : ∀ t, us t ≠ 0 → t ≠ s := fun t ht e => ht (e ▸ h0)
  refine ⟨⟨q1, q2, fun t ht hv => ?_, fun j j1 j2 => ?_, q5⟩, q6⟩
  · rw [c2 t (ne t hv), n2 t (ne t hv)]
    exact q3 t ht hv
  · have p := q4 j j1 j2
    rw [n2 _ (ne _ p.1.2.2)]
    exact p
theorem MG_1 {mk ga gm : Int32} {co₉ : Nat → Int32} (h : qMG mk co gr ga gm (zmk us s) nr b) (c2 : ∀ t, t ≠ s → co₉ t = co t) : qMG mk co₉ gr ga gm (zmk us s) nr b := by
  have h0 : zmk us s s = 0 := if_pos rfl
  have q := MG_0 (us₉ := zmk us s) (nr₉ := nr) h h0 (fun _ _ => rfl) (fun _ _ => rfl) c2
  rw [zmk_e h0 (fun _ _ => rfl)] at q
  exact q
theorem WT_0 {wt : Int32} (h : wt.toInt = sm (zbU us) ws 3100) (h0 : us s = 0) (u2 : ∀ t, t ≠ s → us₉ t = us t) (w2 : ∀ t, t ≠ s → ws₉ t = ws t) : wt.toInt = sm (zbU (zmk us₉ s)) ws₉ 3100 := by
  rw [zmk_e h0 u2, h]
  exact (sm_old (s := s) (decide_eq_false (fun w => w h0)) (decide_eq_false (fun w => w h0)) (fun _ _ => rfl) w2).symm
def qCo (mk : Int32) (co : Nat → Int32) (s : Nat) : Prop := mk.toInt ≠ 0 → co s = 2
theorem MG_ad {mk ga gm : Int32} {d : Nat → Nat → Int32} {L : Int64} (hN : qNs us nr kr kd ws at₉ ho wd wi ow rt wk wl wm nu ro fo le ra pi b s y kk w pl) (h : qNe b y w pl) (hA : qAd b d y kk w pl L) (h7 : qA7 b d y) (hK : b 87 8 = mk) (hG : qMG mk co gr ga gm (zmk us s) nr b) (hc : qCo mk co s) : qMG mk co gr ga gm us nr d := fun z => by
  have h8 : b 87 8 ≠ 0 := by
    rw [hK]
    exact fun e => z (by rw [e]; rfl)
  exact ⟨MQ_ad h hA h7 h8 hN.1.1 (hG z).1 hN.2.2.1 (hc z), MI_ad h hA h7 h8 hN.1 (hG z).2⟩
theorem MS_ad {mk : Int32} {d : Nat → Nat → Int32} (h : qNe b y w pl) (h7 : qA7 b d y) (hK : b 87 8 = mk) : qMS mk d y := fun z _ => Or.inr (zM_in ⟨(Ne_b h).2.1, by
  rw [h7.2.2.1 (by rw [hK]; exact fun e => z (by rw [e]; rfl))]
  decide⟩)
theorem RB_ns {d : Nat → Nat → Int32} {L : Int64} {nu₉ le₉ : Int32} (hN : qNs us nr kr kd ws at₉ ho wd wi ow rt wk wl wm nu ro fo le ra pi b s y kk w pl) (h : qNe b y w pl) (hA : qAd b d y kk w pl L) (hs : s < 3100) (hh : ho s = 0) (hi : wi s = 0) (hz : ∀ j : Nat, (j : Int) < (ws s).toInt → (zrf kr kd wd s j).toInt = -1) (hb : ∀ j : Nat, (j : Int) < w.toInt → (zbit L (Int32.ofNat j) ≠ 0 ↔ qIr kr kd s j)) (e1 : nu₉ = nu + 1) (e2 : le₉ = pl + (w + 1)) : qRB us nr kr kd ws at₉ ho wd wi ow rt wk wl wm nu₉ ro fo le₉ ra pi d := by
  rw [e1, e2]
  exact RB_ad h hA hN.1 hs hN.2.1 hN.2.2.1 hN.2.2.2.2.1 hN.2.2.2.2.2.1 hh hi hN.2.2.2.2.2.2 hz hb
/-- a place that room was found at -/
theorem Ne_of {aa : Nat → Nat → Int32} (hI : qI (aRs aa (w + 1).toInt)) (hR : qEq pl.toInt (aRp aa (w + 1).toInt)) (h0 : 0 ≤ pl.toInt) (hw : 0 ≤ w.toInt) (hw6 : w.toInt ≤ 60) (hy : aRs aa (w + 1).toInt 69 6 = y) (hy5 : y.toInt < 512) : qNe (aRs aa (w + 1).toInt) y w pl := by
  have e1 := i_p1 (i := w) (by omega)
  have q := qE hR
  unfold aRp at q
  have f := Ft_fs hI (z := (w + 1).toInt) (by omega) (by rw [← q]; omega)
  rw [← q] at f
  rw [e1] at f
  exact ⟨hI, hy.symm, hy5, ⟨hw, hw6⟩, by rw [e1]; exact f⟩
end QN2

