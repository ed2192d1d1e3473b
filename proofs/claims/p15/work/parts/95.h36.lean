/-! the reference by numbers (written by wip/tools/gen18r.py) -/
/-! A NEW ONE COMES -/
/-- b with the one of number n, kind kd, wd words, at pl; L which words refer -/
def qAd (b d : Nat → Nat → Int32) (y kd wd pl : Int32) (L : Int64) : Prop :=
  (d 126 y.toNatClampNeg = 1 ∧ d 128 y.toNatClampNeg = wd + 1 ∧ d 130 y.toNatClampNeg = pl ∧ d 133 y.toNatClampNeg = 0 ∧ d 134 y.toNatClampNeg = 0) ∧
  (∀ f x, 126 ≤ f → f < 1000 → x ≠ y.toNatClampNeg → d f x = b f x) ∧
  ((∀ k, d (1000 + y.toNatClampNeg) k = zbit L (Int32.ofNat k)) ∧ ∀ x, x ≠ y.toNatClampNeg → d (1000 + x) = b (1000 + x)) ∧
  (d 71 pl.toNatClampNeg = y ∧ (∀ i : Int32, 0 ≤ i.toInt → i.toInt < wd.toInt → d 71 (pl + 1 + i).toNatClampNeg = if zbit L i = 0 then 0 else -1) ∧ ∀ p : Nat, ((p : Int) < pl.toInt ∨ pl.toInt + wd.toInt + 1 ≤ (p : Int)) → d 71 p = b 71 p) ∧
  (d 72 = b 72 ∧ d 73 = b 73 ∧ d 74 = b 74 ∧ d 69 5 = b 69 5) ∧
  (d 69 6 = b 69 6 + 1 ∧ d 69 8 = b 69 8 + (wd + 1)) ∧ (∀ k, k ≠ 2 → d 87 k = b 87 k) ∧ d 87 2 = pl + (wd + 1)
section QN
variable {aa a b d : Nat → Nat → Int32} {us nr kr kd ws at' ho wd wi ow rt wk wl co gr : Nat → Int32} {wm nu ro fo le ra pi y x z i j ga gm r v mk kk w pl : Int32} {n k u s t : Nat} {L : Int64}
theorem fn_0 {nu kd sz pl : Int32} : zFn nu kd sz pl 1 = kd ∧ zFn nu kd sz pl 2 = sz ∧ zFn nu kd sz pl 4 = pl ∧ zFn nu kd sz pl 7 = 0 ∧ zFn nu kd sz pl 8 = 0 := ⟨rfl, rfl, rfl, rfl, rfl⟩
theorem Ad_of (hy : 0 ≤ y.toInt) (hw : 0 ≤ w.toInt) (hw6 : w.toInt ≤ 60) (hp : 0 ≤ pl.toInt) (hp5 : pl.toInt ≤ 4500) : qAd b (aMd (aAd b y (zFn y kk (w + 1) pl) L) y) y kk w pl L := by
  have e1 := i_p1 (i := w) (by omega)
  have cp := tn_cast hp
  have F := @fn_0 y kk (w + 1) pl
  have nw : ∀ c k, aAd b y (zFn y kk (w + 1) pl) L c k = if c = 69 ∧ k = 8 then b 69 8 + (w + 1) else if c = 69 ∧ k = 6 then b 69 6 + 1 else zIw (ma_u (zNw b y.toNatClampNeg (zFn y kk (w + 1) pl) L) 71 pl.toNatClampNeg y) pl.toInt L w.toInt c k := fun c k => by
    show (if c = 69 ∧ k = 8 then b 69 8 + (w + 1) else if c = 69 ∧ k = 6 then b 69 6 + 1 else zIw (ma_u (zNw b y.toNatClampNeg (zFn y kk (w + 1) pl) L) 71 pl.toNatClampNeg y) pl.toInt L ((w + 1).toInt - 1) c k) = _
    rw [e1, show w.toInt + 1 - 1 = w.toInt by omega]
  have hi : ∀ c k, c ≠ 69 → c ≠ 71 → aAd b y (zFn y kk (w + 1) pl) L c k = zNw b y.toNatClampNeg (zFn y kk (w + 1) pl) L c k := fun c k h1 h2 => by
    rw [nw, if_neg (fun z => h1 z.1), if_neg (fun z => h1 z.1), zIw_o h2, xu_o (fun z => h2 z.1)]
  have md : ∀ c k, ¬ (c = 87 ∧ k = 2) → c ≠ 77 → aMd (aAd b y (zFn y kk (w + 1) pl) L) y c k = aAd b y (zFn y kk (w + 1) pl) L c k := fun c k h1 h2 => by
    unfold aMd
    split
    · rw [xu_o h1]
    · rw [xu_o (fun z => h2 z.1), xu_o h1]
  have md2 : aMd (aAd b y (zFn y kk (w + 1) pl) L) y 87 2 = aAd b y (zFn y kk (w + 1) pl) L 130 y.toNatClampNeg + aAd b y (zFn y kk (w + 1) pl) L 128 y.toNatClampNeg := by
    unfold aMd
    split
    · rw [xu_s]
    · rw [xu_o (by omega), xu_s]
  have th : ∀ f, 126 < f → f < 1000 → zNw b y.toNatClampNeg (zFn y kk (w + 1) pl) L f y.toNatClampNeg = if zfd (f - 126) = true then zFn y kk (w + 1) pl (f - 126) else 0 := fun f h1 h2 => by
    unfold zNw
    rw [if_neg (by omega), if_pos ⟨h1, h2, rfl⟩]
  have t128 : aAd b y (zFn y kk (w + 1) pl) L 128 y.toNatClampNeg = w + 1 := by
    rw [hi _ _ (by decide) (by decide), th 128 (by decide) (by decide)]
    rfl
  have t130 : aAd b y (zFn y kk (w + 1) pl) L 130 y.toNatClampNeg = pl := by
    rw [hi _ _ (by decide) (by decide), th 130 (by decide) (by decide)]
    rfl
  have m71 : ∀ p : Nat, aMd (aAd b y (zFn y kk (w + 1) pl) L) y 71 p = zIw (ma_u (zNw b y.toNatClampNeg (zFn y kk (w + 1) pl) L) 71 pl.toNatClampNeg y) pl.toInt L w.toInt 71 p := fun p => by
    rw [md _ _ (by omega) (by decide), nw, if_neg (by omega), if_neg (by omega)]
  have lo : ∀ c k, c < 126 → c ≠ 69 → c ≠ 71 → c ≠ 77 → c ≠ 87 → aMd (aAd b y (zFn y kk (w + 1) pl) L) y c k = b c k := fun c k h1 h2 h3 h4 h5 => by
    rw [md _ _ (fun z => h5 z.1) h4, hi _ _ h2 h3, zNw_o h1]
  refine ⟨⟨?_, ?_, ?_, ?_, ?_⟩, fun f x f1 f2 hx => ?_, ⟨fun k => ?_, fun x hx => ?_⟩, ⟨?_, fun i i0 i1 => ?_, fun p hpp => ?_⟩, ⟨funext (fun k => lo 72 k (by decide) (by decide) (by decide) (by decide) (by decide)), funext (fun k => lo 73 k (by decide) (by decide) (by decide) (by decide) (by decide)), funext (fun k => lo 74 k (by decide) (by decide) (by decide) (by decide) (by decide)), ?_⟩, ⟨?_, ?_⟩, fun k hk => ?_, ?_⟩
  · rw [md _ _ (by omega) (by decide), hi _ _ (by decide) (by decide)]
    unfold zNw
    rw [if_pos ⟨rfl, rfl⟩]
  · rw [md _ _ (by omega) (by decide)]
    exact t128
  · rw [md _ _ (by omega) (by decide)]
    exact t130
  · rw [md _ _ (by omega) (by decide), hi _ _ (by decide) (by decide), th 133 (by decide) (by decide)]
    rfl
  · rw [md _ _ (by omega) (by decide), hi _ _ (by decide) (by decide), th 134 (by decide) (by decide)]
    rfl
  · rw [md _ _ (by omega) (by omega), hi _ _ (by omega) (by omega)]
    unfold zNw
    rw [if_neg (by omega), if_neg (by omega), if_neg (by omega)]
  · rw [md _ _ (by omega) (by omega), hi _ _ (by omega) (by omega)]
    unfold zNw
    rw [if_neg (by omega), if_neg (by omega), if_pos rfl]
  · funext k
    rw [md _ _ (by omega) (by omega), hi _ _ (by omega) (by omega)]
    unfold zNw
    rw [if_neg (by omega), if_neg (by omega), if_neg (by omega)]
  · rw [m71]
    unfold zIw
    rw [if_neg (by omega), xu_s]
  · have ep := i_p1 (i := pl) (by omega)
    have ei : (pl + 1 + i).toInt = pl.toInt + 1 + i.toInt := by
      rw [i_add (by omega) (by omega)]
      omega
    have ci := tn_cast (x := pl + 1 + i) (by omega)
    rw [m71]
    unfold zIw
    rw [if_pos ⟨rfl, by omega, by omega⟩, show (((pl + 1 + i).toNatClampNeg : Int) - pl.toInt - 1).toNat = i.toNatClampNeg by have := tn_cast i0; omega, ofN_tn i0]
  · rw [m71]
    unfold zIw
    rw [if_neg (by omega), xu_o (by omega), zNw_o (by decide)]
  · rw [md _ _ (by omega) (by decide), nw, if_neg (by omega), if_neg (by omega), zIw_o (by decide), xu_o (by omega), zNw_o (by decide)]
  · rw [md _ _ (by omega) (by decide), nw, if_neg (by omega), if_pos ⟨rfl, rfl⟩]
  · rw [md _ _ (by omega) (by decide), nw, if_pos ⟨rfl, rfl⟩]
  · rw [md _ _ (fun z => hk z.2) (by decide), hi _ _ (by decide) (by decide), zNw_o (by decide)]
  · rw [md2, t130, t128]
end QN
