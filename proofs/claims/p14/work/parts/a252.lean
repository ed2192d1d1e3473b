/-! from 95.s19 -/
/-! REGIONS, the class (written by wip/tools/gen15z.py) -/
/-! THE COLLECTORS' OWN ROWS (82 to 93) ARE NO MATTER OF A CLEANING -/
section O9
variable {a b c : Nat → Nat → Int32} {x y z i : Int32} {n k m : Nat} {p q : Int}
def zO9 (a b : Nat → Nat → Int32) : Prop := ∀ c k, (c < 82 ∨ 93 < c) → a c k = b c k
theorem o9_u (h : zO9 a b) : zO9 (ma_u a n k x) (ma_u b n k x) := fun c₉ k₉ q => by
  by_cases w : c₉ = n ∧ k₉ = k
  · rw [w.1, w.2, xu_s, xu_s]
  · rw [xu_o w, xu_o w]
    exact h c₉ k₉ q
theorem o9_cm (h : zO9 a b) : zO9 (aCm a y) (aCm b y) := by
  unfold aCm
  rw [h 126 _ (by decide), h 75 5 (by decide), h 130 _ (by decide), h 75 4 (by decide), h 77 _ (by decide)]
  split
  · exact o9_u (o9_u (o9_u h))
  · exact h
theorem o9_ref (h : zO9 a b) : aRef a m i = aRef b m i := by
  unfold aRef
  rw [h (1000 + m) _ (by omega), h 130 _ (by decide), h 71 _ (by decide)]
theorem o9_cwf : ∀ (f : Nat) (i : Int32) (a b : Nat → Nat → Int32), zO9 a b → zO9 (aCwf m f i a) (aCwf m f i b) := by
  intro f
  induction f with
  | zero => intro i a b h; exact h
  | succ f ih =>
    intro i a b h
    show zO9 (aCwf m f (i + 1) (aCm a (aRef a m i))) (aCwf m f (i + 1) (aCm b (aRef b m i)))
    rw [o9_ref h]
    exact ih _ _ _ (o9_cm h)
theorem o9_pop (h : zO9 a b) : zO9 (aPop a) (aPop b) := by
  unfold aPop
  rw [h 75 3 (by decide), h 76 _ (by decide), h 126 _ (by decide)]
  have s : ∀ z, zO9 (ma_u (ma_u a 75 3 (b 75 3 + 1)) 77 z 2) (ma_u (ma_u b 75 3 (b 75 3 + 1)) 77 z 2) := fun z => o9_u (o9_u h)
  split
  · unfold aCw
    rw [s _ 128 _ (by decide)]
    exact o9_cwf _ _ _ _ (s _)
  · exact o9_u h
theorem o9_sp : ∀ (f : Nat) (a b : Nat → Nat → Int32), zO9 a b → zO9 (aSp f a) (aSp f b) := by
  intro f
  induction f with
  | zero => intro a b h; exact h
  | succ f ih =>
    intro a b h
    show zO9 (if (a 75 3).toInt < (a 75 4).toInt then aSp f (aPop a) else a) (if (b 75 3).toInt < (b 75 4).toInt then aSp f (aPop b) else b)
    rw [h 75 3 (by decide), h 75 4 (by decide)]
    split
    · exact ih _ _ (o9_pop h)
    · exact h
theorem o9_hf : ∀ (f : Nat) (n : Int32) (a b : Nat → Nat → Int32), zO9 a b → zO9 (aHf f n a) (aHf f n b) := by
  intro f
  induction f with
  | zero => intro n a b h; exact h
  | succ f ih =>
    intro n a b h
    show zO9 (aHf f (n + 1) (if 0 ≤ n.toInt ∧ n.toInt < 512 ∧ a 126 n.toNatClampNeg ≠ 0 ∧ 0 < (a 133 n.toNatClampNeg).toInt then aCm a n else a)) (aHf f (n + 1) (if 0 ≤ n.toInt ∧ n.toInt < 512 ∧ b 126 n.toNatClampNeg ≠ 0 ∧ 0 < (b 133 n.toNatClampNeg).toInt then aCm b n else b))
    rw [h 126 _ (by decide), h 133 _ (by decide)]
    split
    · exact ih _ _ _ (o9_cm h)
    · exact ih _ _ _ h
theorem o9_wf : ∀ (f : Nat) (n : Int32) (a b : Nat → Nat → Int32), zO9 a b → zO9 (aWf f n a) (aWf f n b) := by
  intro f
  induction f with
  | zero =>
    intro n a b h
    show zO9 (aHo a 0) (aHo b 0)
    unfold aHo
    rw [h 69 6 (by decide)]
    exact o9_hf _ _ _ _ h
  | succ f ih =>
    intro n a b h
    show zO9 (aWf f (n + 1) (aCm a (a 74 n.toNatClampNeg))) (aWf f (n + 1) (aCm b (b 74 n.toNatClampNeg)))
    rw [h 74 _ (by decide)]
    exact ih _ _ _ (o9_cm h)
theorem o9_rf : ∀ (f : Nat) (n : Int32) (a b : Nat → Nat → Int32), zO9 a b → zO9 (aRf f n a) (aRf f n b) := by
  intro f
  induction f with
  | zero =>
    intro n a b h
    show zO9 (aWi a 0) (aWi b 0)
    unfold aWi
    rw [h 69 5 (by decide)]
    exact o9_wf _ _ _ _ h
  | succ f ih =>
    intro n a b h
    show zO9 (aRf f (n + 1) (aCm a (a 72 n.toNatClampNeg))) (aRf f (n + 1) (aCm b (b 72 n.toNatClampNeg)))
    rw [h 72 _ (by decide)]
    exact ih _ _ _ (o9_cm h)
theorem o9_ra (h : zO9 a b) : zO9 (aRA a) (aRA b) := by
  have w : zO9 (aWh a 0) (aWh b 0) := by
    unfold aWh
    refine o9_u (o9_u (o9_u (fun c₉ k₉ q => ?_)))
    unfold zFl
    rw [h c₉ k₉ q]
  exact o9_sp 512 _ _ (o9_rf _ _ _ _ w)
theorem o9_uw (h : zO9 a b) : zO9 (zUw a y p) (zUw b y p) := fun c₉ k₉ q => by
  unfold zUw
  rw [h 73 k₉ (by decide), h c₉ k₉ q]
theorem o9_gr (h : zO9 a b) : zO9 (aGr a y) (aGr b y) := by
  unfold aGr
  rw [h 69 5 (by decide)]
  split
  · exact o9_u (o9_u (o9_u (o9_uw h)))
  · exact o9_u (o9_uw h)
theorem o9_gf : ∀ (f : Nat) (n : Int32) (a b : Nat → Nat → Int32), zO9 a b → zO9 (aGf f n a) (aGf f n b) := by
  intro f
  induction f with
  | zero => intro n a b h; exact h
  | succ f ih =>
    intro n a b h
    have e : aGc a n ↔ aGc b n := by
      unfold aGc
      rw [h 126 _ (by decide), h 134 _ (by decide), h 75 5 (by decide), h 130 _ (by decide), h 77 _ (by decide)]
    by_cases w : aGc b n
    · rw [aGf_y w, aGf_y (e.mpr w)]
      exact ih _ _ _ (o9_sp 512 _ _ (o9_cm (o9_gr h)))
    · rw [aGf_n w, aGf_n (fun z => w (e.mp z))]
      exact ih _ _ _ h
theorem o9_rm (h : zO9 a b) : zO9 (aRm a y) (aRm b y) := by
  have f : ∀ p e : Int, zO9 (zFr (zUw a y 16) p e) (zFr (zUw b y 16) p e) := fun p e c₉ k₉ q => by
    unfold zFr
    rw [o9_uw h c₉ k₉ q]
  have g : ∀ (p e : Int) (m : Nat), zO9 (zNo (zFr (zUw a y 16) p e) m) (zNo (zFr (zUw b y 16) p e) m) := fun p e m c₉ k₉ q => by
    unfold zNo
    rw [f p e c₉ k₉ q]
  unfold aRm
  rw [h 130 _ (by decide), h 128 _ (by decide), h 69 8 (by decide), h 69 11 (by decide)]
  exact o9_u (o9_u (g _ _ _))
theorem o9_mf : ∀ (f : Nat) (n : Int32) (a b : Nat → Nat → Int32), zO9 a b → zO9 (aMf f n a) (aMf f n b) := by
  intro f
  induction f with
  | zero => intro n a b h; exact h
  | succ f ih =>
    intro n a b h
    have e : aMc a n ↔ aMc b n := by
      unfold aMc
      rw [h 126 _ (by decide), h 75 5 (by decide), h 130 _ (by decide), h 77 _ (by decide)]
    by_cases w : aMc b n
    · rw [aMf_y w, aMf_y (e.mpr w)]
      exact ih _ _ _ (o9_rm h)
    · rw [aMf_n w, aMf_n (fun z => w (e.mp z))]
      exact ih _ _ _ h
theorem o9_gw (h : zO9 a b) : zO9 (aGw a 0) (aGw b 0) := by
  unfold aGw
  rw [h 69 6 (by decide)]
  exact o9_gf _ _ _ _ h
theorem o9_sw (h : zO9 a b) : zO9 (aSw a) (aSw b) := by
  have g := o9_gw (o9_ra h)
  unfold aSw
  generalize aGw (aRA a) 0 = A at *
  generalize aGw (aRA b) 0 = B at *
  unfold aMv
  rw [g 69 6 (by decide)]
  exact o9_mf _ _ _ _ g
theorem gf_9 {c : Nat} (h : 82 ≤ c ∧ c ≤ 93) : ∀ (f : Nat) (n : Int32) (a : Nat → Nat → Int32), aGf f n a c k = a c k := by
  intro f
  induction f with
  | zero => intro n a; rfl
  | succ f ih =>
    intro n a
    show aGf f (n + 1) (if _ then aSp 512 (aCm (aGr a n) n) else a) c k = a c k
    rw [ih]
    split
    · rw [aSp_o ⟨by omega, by omega, by omega⟩, aCm_o ⟨by omega, by omega, by omega⟩, aGr_o ⟨by omega, by omega, by omega, fun w => absurd w.1 (by omega)⟩]
    · rfl
theorem mf_9 {c : Nat} (h : 82 ≤ c ∧ c ≤ 93) : ∀ (f : Nat) (n : Int32) (a : Nat → Nat → Int32), aMf f n a c k = a c k := by
  intro f
  induction f with
  | zero => intro n a; rfl
  | succ f ih =>
    intro n a
    show aMf f (n + 1) (if _ then aRm a n else a) c k = a c k
    rw [ih]
    split
    · rw [aRm_o (by omega) ⟨by omega, by omega, fun w => absurd w.1 (by omega), fun w => absurd w.1 (by omega)⟩]
    · rfl
theorem sw_9 {c : Nat} (h : 82 ≤ c ∧ c ≤ 93) : aSw a c k = a c k := by
  unfold aSw aMv
  rw [mf_9 h]
  unfold aGw
  rw [gf_9 h]
  unfold aRA
  rw [aSp_o ⟨by omega, by omega, by omega⟩, aRo_o ⟨by omega, by omega, by omega⟩]
  unfold aWh
  rw [xu_o (by omega), xu_o (by omega), xu_o (by omega)]
  unfold zFl
  rw [if_neg (by omega)]
theorem sv_9 (h : zO9 a b) : aSv a = aSv b := by
  unfold aSv
  rw [o9_sw h 69 11 (by decide), o9_gw (o9_ra h) 69 11 (by decide)]
end O9
/-! REGIONS: a cleaning -/
section F15
variable {a b ab : Nat → Nat → Int32} {S S₉ S1 S2 S3 S4 : ma_S} {R : Nat → Option Nat} {x y i tg : Int32} {c k n m f : Nat} {p e t q u r z : Int} {T : (Nat → Nat → Int32) × Int}
theorem Z_o9 : zO9 (aS 75 S) (aZ S) := fun c k w => (aZ_o (by omega) (by omega) (by omega)).symm
theorem Z_sw (h : aS 75 S₉ = aSw (aS 75 S)) (e1 : mI S₉ 91 = mI S 91) (e2 : mI S₉ 92 = mI S 92) (e3 : mI S₉ 93 = mI S 93) : aZ S₉ = aSw (aZ S) := by
  refine Z_g (f := aSw) (fun c k h1 h2 h3 => ?_) (fun k => sw_87) (fun c k hc => sw_9 (by omega)) e1 e2 e3
  rw [h]
  by_cases w : c < 82 ∨ 93 < c
  · exact o9_sw Z_o9 c k w
  · rw [sw_9 (by omega), sw_9 (by omega), aZ_o h1 h2 h3]
theorem Z_sv : aSv (aS 75 S) = aSv (aZ S) := sv_9 Z_o9
theorem Rv_sw (h : qRv a) : qRv (aSw a) := by
  obtain ⟨hI, h2, h3, h4, h5⟩ := h
  have e7 : aSw a 87 = a 87 := funext (fun _ => sw_87)
  have e9 : aSw a 92 = a 92 := funext (fun _ => sw_9 (by decide))
  refine ⟨I_sw hI, by rw [e7]; exact h2, by rw [e7]; exact h3, by rw [e7, e9]; exact h4, fun n hn => ?_⟩
  have q := Al_sw hI hn
  rw [q.2.1, q.2.2.1, e7, e9]
  exact h5 n q.1
theorem Kf_ge (hI : qI a) : ∀ m : Nat, m ≤ 512 → ∀ n, n < m → a 126 n ≠ 0 → (a 130 n).toInt / (a 87 3).toInt = r → (a 128 n).toInt ≤ rKf a r m := by
  intro m
  induction m with
  | zero => intro _ n hn; omega
  | succ m ih =>
    intro hm n hn h6 hr
    have b := Kf_b (r := r) hI m (by omega)
    rw [Kf_s]
    by_cases w : n = m
    · rw [← w, if_pos ⟨h6, hr⟩, w]
      omega
    · have g := ih (by omega) n (by omega) h6 hr
      split
      · next z =>
        have i := (hI.1 m ⟨by omega, z.1⟩).2.1
        omega
      · omega
theorem Kf_ex : ∀ m : Nat, 0 < rKf a r m → ∃ n, n < m ∧ a 126 n ≠ 0 ∧ (a 130 n).toInt / (a 87 3).toInt = r := by
  intro m
  induction m with
  | zero => intro h; exact absurd h (by show ¬ (0 : Int) < 0; decide)
  | succ m ih =>
    intro h
    rw [Kf_s] at h
    by_cases w : a 126 m ≠ 0 ∧ (a 130 m).toInt / (a 87 3).toInt = r
    · exact ⟨m, by omega, w.1, w.2⟩
    · rw [if_neg w, Int.add_zero] at h
      obtain ⟨n, h1, h2⟩ := ih h
      exact ⟨n, by omega, h2⟩
theorem Kf_i (hI : qI a) : (Int32.ofInt (rKf a r 512)).toInt = rKf a r 512 := by
  have b := Kf_b (r := r) hI 512 (by omega)
  exact Int32.toInt_ofInt_of_le (by omega) (by omega)
theorem Cb_93 : ∀ n, rCb a n 93 k = 0 ∨ rCb a n 93 k = a 93 k := by
  intro n
  induction n with
  | zero => exact Or.inr rfl
  | succ n ih =>
    by_cases w : a 126 n ≠ 0 ∧ 0 < (a 133 n).toInt
    · rw [Cb_y w]
      by_cases z : k = ((a 130 n).toInt / (a 87 3).toInt).toNat
      · rw [z, xu_s]
        exact Or.inl rfl
      · rw [xu_o (fun q => z q.2)]
        exact ih
    · rw [Cb_n w]
      exact ih
theorem Cb_h : ∀ n m, m < n → a 126 m ≠ 0 → 0 < (a 133 m).toInt → rCb a n 93 ((a 130 m).toInt / (a 87 3).toInt).toNat = 0 := by
  intro n
  induction n with
  | zero => intro m h; omega
  | succ n ih =>
    intro m h h1 h2
    by_cases w : a 126 n ≠ 0 ∧ 0 < (a 133 n).toInt
    · rw [Cb_y w]
      by_cases z : ((a 130 m).toInt / (a 87 3).toInt).toNat = ((a 130 n).toInt / (a 87 3).toInt).toNat
      · rw [z, xu_s]
      · rw [xu_o (fun q => z q.2)]
        exact ih m (by
          by_cases y : m = n
          · rw [y] at z
            exact absurd rfl z
          · omega) h1 h2
    · rw [Cb_n w]
      exact ih m (by
        by_cases y : m = n
        · rw [y] at h1 h2
          exact absurd ⟨h1, h2⟩ w
        · omega) h1 h2
theorem Ca_93 : rCa a n 93 k = 0 ∨ rCa a n 93 k = a 93 k := by
  unfold rCa
  split
  · exact Or.inl rfl
  · exact Or.inr rfl
theorem T0_o (h2 : c ≠ 92) (h3 : c ≠ 93) : rEm (rSk a n) m c k = a c k := by
  unfold rEm
  rw [if_neg (fun w => h2 w.1)]
  exact if_neg (fun w => h3 w.1)
theorem B0_o (h2 : c ≠ 92) (h3 : c ≠ 93) : rB0 a c = aSw a c := funext (fun k => by
  unfold rB0
  rw [Cb_o h3, Ca_o h3, T0_o h2 h3])
theorem T0_93 (hk : k < 93) : rEm (rSk a 512) 93 93 k = Int32.ofInt (rKf a (k : Int) 512) := by
  unfold rEm
  rw [if_neg (by omega)]
  exact if_pos ⟨rfl, hk⟩
theorem B0_92 (hk : k < 93) : rB0 a 92 k = if (Int32.ofInt (rKf (aSw a) (k : Int) 512)).toInt = 0 then 0 else aSw a 92 k := by
  have e : rSk (aSw a) 512 93 k = Int32.ofInt (rKf (aSw a) (k : Int) 512) := if_pos ⟨rfl, hk⟩
  have e2 : rSk (aSw a) 512 92 k = aSw a 92 k := if_neg (by omega)
  unfold rB0
  rw [Cb_o (by decide), Ca_o (by decide)]
  unfold rEm
  rw [e, e2]
  by_cases w : (Int32.ofInt (rKf (aSw a) (k : Int) 512)).toInt = 0
  · rw [if_pos ⟨rfl, hk, w⟩, if_pos w]
  · rw [if_neg (fun z => w z.2.2), if_neg w]
theorem B0_93 (hk : k < 93) : rB0 a 93 k = 0 ∨ rB0 a 93 k = Int32.ofInt (rKf (aSw a) (k : Int) 512) := by
  unfold rB0
  rcases Cb_93 (a := rCa (rEm (rSk (aSw a) 512) 93) 93) (k := k) 512 with w | w
  · exact Or.inl w
  · rw [w]
    rcases Ca_93 (a := rEm (rSk (aSw a) 512) 93) (n := 93) (k := k) with z | z
    · exact Or.inl z
    · rw [z, T0_93 hk]
      exact Or.inr rfl
theorem Rv_b0 (h : qRv a) : qRv (rB0 a) ∧ qLv (rB0 a) (-1) := by
  obtain ⟨hI, h2, h3, h4, h5⟩ := Rv_sw h
  have e7 : rB0 a 87 = aSw a 87 := B0_o (by decide) (by decide)
  have e126 : rB0 a 126 = aSw a 126 := B0_o (by decide) (by decide)
  have e128 : rB0 a 128 = aSw a 128 := B0_o (by decide) (by decide)
  have e130 : rB0 a 130 = aSw a 130 := B0_o (by decide) (by decide)
  have e133 : rB0 a 133 = aSw a 133 := B0_o (by decide) (by decide)
  have z0 : (0 : Int32).toInt = 0 := rfl
  have al : ∀ n, xAl (rB0 a) n → xAl (aSw a) n := fun n hn => by
    unfold xAl at hn ⊢
    rw [e126] at hn
    exact hn
  have kp : ∀ n, xAl (aSw a) n → rB0 a 92 ((aSw a 130 n).toInt / (aSw a 87 3).toInt).toNat = aSw a 92 ((aSw a 130 n).toInt / (aSw a 87 3).toInt).toNat := fun n hn => by
    have g := h5 n hn
    have d0 : 0 ≤ (aSw a 130 n).toInt / (aSw a 87 3).toInt := Int.ediv_nonneg (hI.1 n hn).1.2 (by have := h3.1; omega)
    have k9 : ((aSw a 130 n).toInt / (aSw a 87 3).toInt).toNat < 93 := by have := h3.2.1; omega
    have kc : ((((aSw a 130 n).toInt / (aSw a 87 3).toInt).toNat : Nat) : Int) = (aSw a 130 n).toInt / (aSw a 87 3).toInt := by omega
    have ge := Kf_ge hI 512 (by omega) n hn.1 hn.2 kc.symm
    have s1 := (hI.1 n hn).2.1.1
    rw [B0_92 k9, Kf_i hI, if_neg (by omega)]
  refine ⟨⟨I_cg hI e126 e128 e130 (B0_o (by decide) (by decide)) (B0_o (by decide) (by decide)) e7 (fun j => B0_o (by omega) (by omega)), by rw [e7]; exact h2, by rw [e7]; exact h3, fun r hr => ?_, fun n hn => ?_⟩, fun r hr => ?_, fun r hr w => ?_, fun n hn w => ?_, Or.inl rfl⟩
  · have g := h4 r hr
    rw [e7, B0_92 hr]
    split
    · exact ⟨⟨by omega, by have := h3.1; omega⟩, fun _ => rfl⟩
    · exact g
  · have hn₉ := al n hn
    rw [e130, e128, e7, kp n hn₉]
    exact h5 n hn₉
  · rcases B0_93 (a := a) hr with w | w
    · rw [w]
      omega
    · rw [w, Kf_i hI]
      exact (Kf_b hI 512 (by omega)).1
  · rcases B0_93 (a := a) hr with w2 | w2
    · rw [w2] at w
      omega
    · rw [w2, Kf_i hI] at w
      obtain ⟨n, h1, h6, hr2⟩ := Kf_ex 512 w
      have hn : xAl (aSw a) n := ⟨h1, h6⟩
      have g := h5 n hn
      have kk := kp n hn
      have s1 := (hI.1 n hn).2.1.1
      have db := dv_b (p := (aSw a 130 n).toInt) (s := (aSw a 87 3).toInt) (by have := h3.1; omega)
      rw [hr2] at g kk db
      rw [Int.toNat_natCast] at g kk
      rw [e7, kk]
      exact ⟨g.1, by omega⟩
  · have hn₉ := al n hn
    rw [e133] at w
    rw [e130, e7]
    have z := Cb_h (a := rCa (rEm (rSk (aSw a) 512) 93) 93) 512 n hn₉.1 (by rw [Ca_o (by decide), T0_o (by decide) (by decide)]; exact hn₉.2) (by rw [Ca_o (by decide), T0_o (by decide) (by decide)]; exact w)
    rw [Ca_o (by decide), T0_o (by decide) (by decide), Ca_o (by decide), T0_o (by decide) (by decide)] at z
    unfold rB0
    rw [z]
    exact z0
theorem HS_t0 (h : qRv a) : (0 ≤ (rEm (rSk a 512) 93 87 5).toInt ∧ (rEm (rSk a 512) 93 87 5).toInt ≤ 100) ∧ (1 ≤ (rEm (rSk a 512) 93 87 3).toInt ∧ (rEm (rSk a 512) 93 87 3).toInt ≤ 256) ∧ (∀ n, xAl (rEm (rSk a 512) 93) n → (rEm (rSk a 512) 93 130 n).toInt / (rEm (rSk a 512) 93 87 3).toInt < 93) ∧ qI (rEm (rSk a 512) 93) := by
  obtain ⟨hI, h2, h3, h4, h5⟩ := h
  have o : ∀ c, c ≠ 92 → c ≠ 93 → rEm (rSk a 512) 93 c = a c := fun c w w2 => funext (fun k => T0_o w w2)
  unfold xAl
  rw [o 87 (by decide) (by decide), o 126 (by decide) (by decide), o 130 (by decide) (by decide)]
  refine ⟨h3.2.2.2.1, ⟨by have := h3.1; omega, h3.1.2⟩, fun n hn => ?_, I_cg hI (o _ (by decide) (by decide)) (o _ (by decide) (by decide)) (o _ (by decide) (by decide)) (o _ (by decide) (by decide)) (o _ (by decide) (by decide)) (o _ (by decide) (by decide)) (fun j => o _ (by omega) (by omega))⟩
  have g := (h5 n hn).1
  have := h3.2.1
  omega
theorem B0_e (h1 : aZ S1 = aSw a) (h2 : aZ S2 = rSk (aZ S1) 512) (h3 : aZ S3 = rEm (aZ S2) 93) (h4 : aZ S4 = rCb (rCa (aZ S3) 93) 512) : aZ S4 = rB0 a := by
  rw [h4, h3, h2, h1]
  rfl
theorem Fw_y (h : rFw a ≠ -1) : 0 ≤ rFw a ∧ rFw a < 93 ∧ 0 < (a 93 (rFw a).toNat).toInt := by
  have b := Fg_b (l := fun k => (a 93 k).toInt) 93
  have g := b.2.2 h
  unfold rFw at h ⊢
  exact ⟨by omega, by omega, g⟩
theorem Of_e (h : rFw a = -1) : rOf f a t = (a, t) := by
  cases f with
  | zero => rfl
  | succ f => exact if_pos h
theorem Of_y (h : rFw a = q) (h1 : q ≠ -1) (h2 : (rM2 a q t).2.2 = true) : rOf (f + 1) a t = rOf f (ma_u (ma_u (rM2 a q t).1 93 q.toNat 0) 92 q.toNat 0) (rM2 a q t).2.1 := by
  show (if rFw a = -1 then (a, t) else if (rM2 a (rFw a) t).2.2 = true then rOf f (ma_u (ma_u (rM2 a (rFw a) t).1 93 (rFw a).toNat 0) 92 (rFw a).toNat 0) (rM2 a (rFw a) t).2.1 else ((rM2 a (rFw a) t).1, (rM2 a (rFw a) t).2.1)) = _
  rw [h, if_neg h1, if_pos h2]
theorem Of_n (h : rFw a = q) (h1 : q ≠ -1) (h2 : (rM2 a q t).2.2 = false) : rOf (f + 1) a t = ((rM2 a q t).1, (rM2 a q t).2.1) := by
  show (if rFw a = -1 then (a, t) else if (rM2 a (rFw a) t).2.2 = true then rOf f (ma_u (ma_u (rM2 a (rFw a) t).1 93 (rFw a).toNat 0) 92 (rFw a).toNat 0) (rM2 a (rFw a) t).2.1 else ((rM2 a (rFw a) t).1, (rM2 a (rFw a) t).2.1)) = _
  rw [h, if_neg h1, if_neg (by rw [h2]; decide)]
theorem Rv_9 (h : qRv a) (h0 : 0 ≤ x.toInt) (h1 : x.toInt < (a 87 4).toInt) : qRv (ma_u a 87 9 x) := by
  obtain ⟨hI, h2, h3, h4, h5⟩ := h
  have r7 : ∀ k, k ≠ 9 → ma_u a 87 9 x 87 k = a 87 k := fun k w => xu_o (fun z => w z.2)
  have ro : ∀ c, c ≠ 87 → ma_u a 87 9 x c = a c := fun c w => ma_u_ne _ _ _ w
  have r9 : ma_u a 87 9 x 87 9 = x := xu_s
  unfold qRv xAl
  rw [r7 2 (by decide), r7 3 (by decide), r7 4 (by decide), r9, r7 5 (by decide), r7 0 (by decide), ro 92 (by decide), ro 126 (by decide), ro 130 (by decide), ro 128 (by decide)]
  exact ⟨I_87k hI (by decide) (by decide) (by decide), h2, ⟨h3.1, h3.2.1, ⟨h0, h1⟩, h3.2.2.2⟩, h4, h5⟩
theorem Cl_1 (h : b = (rC0 a).1) (ht : tg.toInt = (rC0 a).2) (hn : tg.toInt ≠ -1) : ma_u b 87 9 tg = rCl a := by
  unfold rCl rPr
  rw [← ht, if_pos hn, ← h, Int32.ofInt_toInt]
theorem Cl_2 (h : b = (rC0 a).1) (ht : tg.toInt = (rC0 a).2) (hn : tg.toInt = -1) (h0 : (b 92 (b 87 9).toNatClampNeg).toInt = 0) (hl : x.toInt = rLe b) (hx : x.toInt ≠ -1) : ma_u b 87 9 x = rCl a := by
  unfold rCl rPr
  rw [← ht, if_neg (by omega), ← h, if_pos ⟨h0, by omega⟩, ← hl, Int32.ofInt_toInt]
theorem u_sm9 : ma_u a c k (a c k) = a := by
  funext c₉ k₉
  show (if c₉ = c ∧ k₉ = k then a c k else a c₉ k₉) = a c₉ k₉
  split
  · next w => rw [w.1, w.2]
  · rfl
theorem Cl_3 (h : b = (rC0 a).1) (ht : tg.toInt = (rC0 a).2) (hn : tg.toInt = -1) (h0 : ¬ ((b 92 (b 87 9).toNatClampNeg).toInt = 0 ∧ rLe b ≠ -1)) : ma_u b 87 9 (b 87 9) = rCl a ∧ b = rCl a := by
  have e : rCl a = ma_u b 87 9 (b 87 9) := by
    unfold rCl rPr
    rw [← ht, if_neg (by omega), ← h, if_neg h0]
  exact ⟨e.symm, by rw [e, u_sm9]⟩
/-! room -/
def rFi (a : Nat → Nat → Int32) (z : Int) : Prop := (a 92 (a 87 9).toNatClampNeg).toInt + z ≤ (a 87 3).toInt
def rR1 (a : Nat → Nat → Int32) (z : Int) : Nat → Nat → Int32 := if (a 92 (a 87 9).toNatClampNeg).toInt + z ≤ (a 87 3).toInt then a else if rEf a 93 < 2 then rCl a else a
def rR2 (a : Nat → Nat → Int32) (z : Int) : Nat → Nat → Int32 := if (a 92 (a 87 9).toNatClampNeg).toInt + z ≤ (a 87 3).toInt then a else if rLe a ≠ -1 then ma_u a 87 9 (Int32.ofInt (rLe a)) else a
def rRs (a : Nat → Nat → Int32) (z : Int) : Nat → Nat → Int32 := if (a 87 3).toInt < z then a else rR2 (rR1 a z) z
def rRp (a : Nat → Nat → Int32) (z : Int) : Int := if (a 87 3).toInt < z then -1 else if (rRs a z 92 (rRs a z 87 9).toNatClampNeg).toInt + z ≤ (rRs a z 87 3).toInt then (rRs a z 87 9).toInt * (rRs a z 87 3).toInt + (rRs a z 92 (rRs a z 87 9).toNatClampNeg).toInt else -1
theorem R1_y (h : rFi a z) : rR1 a z = a := if_pos h
theorem R1_c (h : ¬ rFi a z) (h2 : rEf a 93 < 2) : rR1 a z = rCl a := (if_neg h).trans (if_pos h2)
theorem R1_n (h : ¬ rFi a z) (h2 : ¬ rEf a 93 < 2) : rR1 a z = a := (if_neg h).trans (if_neg h2)
theorem R2_y (h : rFi a z) : rR2 a z = a := if_pos h
theorem R2_l (h : ¬ rFi a z) (h2 : x.toInt = rLe a) (h3 : x.toInt ≠ -1) : rR2 a z = ma_u a 87 9 x := (if_neg h).trans ((if_pos (by omega)).trans (by rw [← h2, Int32.ofInt_toInt]))
theorem R2_n (h : ¬ rFi a z) (h2 : rLe a = -1) : rR2 a z = a := (if_neg h).trans (if_neg (fun w => w h2))
theorem Rs_s (h : (a 87 3).toInt < z) : rRs a z = a ∧ rRp a z = -1 := ⟨if_pos h, if_pos h⟩
theorem Rs_g (h : ¬ (a 87 3).toInt < z) (h1 : rR1 a z = b) (h2 : rR2 b z = ab) : rRs a z = ab ∧ (rFi ab z → rRp a z = (ab 87 9).toInt * (ab 87 3).toInt + (ab 92 (ab 87 9).toNatClampNeg).toInt) ∧ (¬ rFi ab z → rRp a z = -1) := by
  have e : rRs a z = ab := by
    unfold rRs
    rw [if_neg h, h1, h2]
  refine ⟨e, fun w => ?_, fun w => ?_⟩
  · unfold rRp
    rw [if_neg h, e]
    exact if_pos w
  · unfold rRp
    rw [if_neg h, e]
    exact if_neg w
theorem Ef_s9 : rEf a (n + 1) = rEf a n + (if (n : Int) < (a 87 4).toInt ∧ (a 92 n).toInt = 0 then 1 else 0) := rfl
theorem Ef_g : ∀ n m : Nat, (a 87 4).toInt ≤ (n : Int) → n ≤ m → rEf a m = rEf a n := by
  intro n m hn hm
  induction m with
  | zero => rw [show n = 0 by omega]
  | succ m ih =>
    by_cases w : n = m + 1
    · rw [w]
    · rw [Ef_s9, ih (by omega), if_neg (by omega), Int.add_zero]
theorem Ef_y (h : x.toInt = rEf a y.toNatClampNeg) (h0 : 0 ≤ y.toInt) (h1 : y.toInt < (a 87 4).toInt) (ht : (a 92 y.toNatClampNeg).toInt = 0) {x₉ y₉ : Int32} (hx : x₉.toInt = x.toInt + 1) (hy : y₉.toInt = y.toInt + 1) : x₉.toInt = rEf a y₉.toNatClampNeg := by
  have t := tn_cast h0
  have t2 := tn_cast (x := y₉) (by omega)
  rw [show y₉.toNatClampNeg = y.toNatClampNeg + 1 from by omega, Ef_s9, if_pos ⟨by omega, ht⟩]
  omega
theorem Ef_n (h : x.toInt = rEf a y.toNatClampNeg) (h0 : 0 ≤ y.toInt) (ht : (a 92 y.toNatClampNeg).toInt ≠ 0) {y₉ : Int32} (hy : y₉.toInt = y.toInt + 1) : x.toInt = rEf a y₉.toNatClampNeg := by
  have t := tn_cast h0
  have t2 := tn_cast (x := y₉) (by omega)
  rw [show y₉.toNatClampNeg = y.toNatClampNeg + 1 from by omega, Ef_s9, if_neg (fun w => ht w.2)]
  omega
theorem Ef_e (h : x.toInt = rEf a y.toNatClampNeg) (h0 : 0 ≤ y.toInt) (h1 : (a 87 4).toInt ≤ y.toInt ∨ 93 ≤ y.toInt) (h9 : y.toInt ≤ 93) : x.toInt = rEf a 93 := by
  have t := tn_cast h0
  rcases h1 with w | w
  · rw [h]
    exact (Ef_g _ _ (by omega) (by omega)).symm
  · rw [h, show y.toNatClampNeg = 93 from by omega]
/-! a new one -/
def rMd (a : Nat → Nat → Int32) (y : Int32) : Nat → Nat → Int32 := if 0 ≤ (a 87 9).toInt ∧ (a 87 9).toInt < 93 then ma_u a 92 (a 87 9).toNatClampNeg (a 92 (a 87 9).toNatClampNeg + a 128 y.toNatClampNeg) else a
def rMk (a : Nat → Nat → Int32) (kd wd : Int32) (L : Int64) (rt : Int32) : Nat → Nat → Int32 := if (a 69 6).toInt < 512 then (if rRp a (wd + 1).toInt = -1 then rRs a (wd + 1).toInt else aR0 (rMd (aAd (rRs a (wd + 1).toInt) (rRs a (wd + 1).toInt 69 6) (zFn (rRs a (wd + 1).toInt 69 6) kd (wd + 1) (Int32.ofInt (rRp a (wd + 1).toInt))) L) (rRs a (wd + 1).toInt 69 6)) rt (rRs a (wd + 1).toInt 69 6)) else a
def rMn (a : Nat → Nat → Int32) (wd : Int32) : Int32 := if (a 69 6).toInt < 512 then (if rRp a (wd + 1).toInt = -1 then -1 else rRs a (wd + 1).toInt 69 6) else -1
theorem rMk_0 {kd wd rt : Int32} {L : Int64} (h : ¬ (a 69 6).toInt < 512) : rMk a kd wd L rt = a ∧ rMn a wd = -1 := ⟨if_neg h, if_neg h⟩
theorem rMk_1 {kd wd rt : Int32} {L : Int64} (h : (a 69 6).toInt < 512) (h1 : rRp a (wd + 1).toInt = -1) : rMk a kd wd L rt = rRs a (wd + 1).toInt ∧ rMn a wd = -1 := by
  unfold rMk rMn
  rw [if_pos h, if_pos h, if_pos h1, if_pos h1]
  exact ⟨rfl, rfl⟩
theorem rMk_2 {kd wd rt pl : Int32} {L : Int64} (h : (a 69 6).toInt < 512) (e : b = rRs a (wd + 1).toInt) (h1 : pl.toInt = rRp a (wd + 1).toInt) (h2 : ¬ pl.toInt = -1) (hy : y = b 69 6) : rMk a kd wd L rt = aR0 (rMd (aAd b y (zFn y kd (wd + 1) pl) L) y) rt y ∧ rMn a wd = y := by
  unfold rMk rMn
  rw [if_pos h, if_pos h, ← h1, if_neg h2, if_neg h2, ← e, hy, Int32.ofInt_toInt]
  exact ⟨rfl, rfl⟩
theorem ad_9 {F : Nat → Int32} {L : Int64} (h : 82 ≤ c ∧ c ≤ 93) : aAd a y F L c k = a c k := by
  unfold aAd
  rw [xu_o (by omega), xu_o (by omega)]
  unfold zIw
  rw [if_neg (by omega), xu_o (by omega)]
  unfold zNw
  rw [if_neg (by omega), if_neg (by omega), if_neg (by omega)]
theorem o9_ad {F : Nat → Int32} {L : Int64} (h : zO9 a b) : zO9 (aAd a y F L) (aAd b y F L) := by
  have n0 : ∀ m : Nat, zO9 (zNw a m F L) (zNw b m F L) := fun m c₉ k₉ q => by
    unfold zNw
    rw [h c₉ k₉ q]
  have n1 : ∀ (d e : Nat → Nat → Int32) (p j : Int), zO9 d e → zO9 (zIw d p L j) (zIw e p L j) := fun d e p j o c₉ k₉ q => by
    unfold zIw
    rw [o c₉ k₉ q]
  unfold aAd
  rw [h 69 6 (by decide), h 69 8 (by decide)]
  exact o9_u (o9_u (n1 _ _ _ _ (o9_u (n0 _))))
theorem Z_f {f : (Nat → Nat → Int32) → Nat → Nat → Int32} (ho : zO9 (f (aS 75 S)) (f (aZ S))) (hr : ∀ a c k, 82 ≤ c ∧ c ≤ 93 → f a c k = a c k) (h : aS 75 S₉ = f (aS 75 S)) (e1 : mI S₉ 91 = mI S 91) (e2 : mI S₉ 92 = mI S 92) (e3 : mI S₉ 93 = mI S 93) : aZ S₉ = f (aZ S) := by
  refine Z_g (f := f) (fun c k h1 h2 h3 => ?_) (fun k => hr _ _ _ (by omega)) (fun c k hc => hr _ _ _ (by omega)) e1 e2 e3
  rw [h]
  by_cases w : c < 82 ∨ 93 < c
  · exact ho c k w
  · rw [hr _ _ _ (by omega), hr _ _ _ (by omega), aZ_o h1 h2 h3]
theorem Z_ad {F : Nat → Int32} {L : Int64} (h : aS 75 S₉ = aAd (aS 75 S) y F L) (e1 : mI S₉ 91 = mI S 91) (e2 : mI S₉ 92 = mI S 92) (e3 : mI S₉ 93 = mI S 93) : aZ S₉ = aAd (aZ S) y F L :=
  Z_f (f := fun a => aAd a y F L) (o9_ad Z_o9) (fun _ _ _ w => ad_9 w) h e1 e2 e3
theorem o9_r0 (h : zO9 a b) : zO9 (aR0 a i y) (aR0 b i y) := by
  have e : aNm a y = aNm b y := by
    unfold aNm
    rw [h 126 _ (by decide)]
  unfold aR0
  rw [e]
  exact o9_u h
theorem Z_r0 (h : aS 75 S₉ = aR0 (aS 75 S) i y) (e1 : mI S₉ 91 = mI S 91) (e2 : mI S₉ 92 = mI S 92) (e3 : mI S₉ 93 = mI S 93) : aZ S₉ = aR0 (aZ S) i y :=
  Z_f (f := fun a => aR0 a i y) (o9_r0 Z_o9) (fun _ _ _ w => xu_o (by omega)) h e1 e2 e3
theorem Z_th {nu kd sz pl : Int32} {rr : Int64} (hN : 126 ≤ mN S) (hr : ∀ n c, mR S 70 n = some c → c < mN S) : aZ (zTh S nu kd sz rr pl) = aZ S :=
  Z_f (f := fun a => a) Z_o9 (fun _ _ _ _ => rfl) (mk_a (Or.inl rfl) hN hr) (funext (fun _ => zTh_lo (by decide) hN)) (funext (fun _ => zTh_lo (by decide) hN)) (funext (fun _ => zTh_lo (by decide) hN))
theorem Md_y9 (h : aZ S = ab) (f2 : x = ab 128 y.toNatClampNeg) (h0 : 0 ≤ (mI S 91 5).toInt) (h9 : (mI S 91 5).toInt < 93) : ma_u (aZ S) 92 (mI S 91 5).toNatClampNeg (mI S 92 (mI S 91 5).toNatClampNeg + x) = rMd ab y := by
  have e9 : ab 87 9 = mI S 91 5 := by
    rw [← h]
    rfl
  have e2 : ab 92 (mI S 91 5).toNatClampNeg = mI S 92 (mI S 91 5).toNatClampNeg := by
    rw [← h]
    exact aZ_9 (Or.inl rfl)
  unfold rMd
  rw [e9, if_pos ⟨h0, h9⟩, e2, ← f2, h]
theorem Md_no (h : aZ S = ab) (h0 : (mI S 91 5).toInt < 0 ∨ 93 ≤ (mI S 91 5).toInt) : aZ S = rMd ab y := by
  have e9 : ab 87 9 = mI S 91 5 := by
    rw [← h]
    rfl
  unfold rMd
  rw [e9, if_neg (by omega)]
  exact h
/-- the room that is found -/
theorem Rp_bd (h : qRv a) (hz : 1 ≤ z) (hf : rFi a z) : 0 ≤ (a 87 9).toInt * (a 87 3).toInt + (a 92 (a 87 9).toNatClampNeg).toInt ∧ (a 87 9).toInt * (a 87 3).toInt + (a 92 (a 87 9).toNatClampNeg).toInt + z ≤ 1500 := by
  obtain ⟨hI, h2, h3, h4, h5⟩ := h
  have tc := tn_cast (x := a 87 9) h3.2.2.1.1
  have t := (h4 (a 87 9).toNatClampNeg (by have := h3.2.1; have := h3.2.2.1; omega)).1
  have m := ml_le (q := (a 87 9).toInt) (t := (a 87 4).toInt) (s := (a 87 3).toInt) h3.2.2.1.2 (by have := h3.1; omega)
  have m0 : 0 ≤ (a 87 9).toInt * (a 87 3).toInt := Int.mul_nonneg h3.2.2.1.1 (by have := h3.1; omega)
  have := h3.2.2.2.2
  unfold rFi at hf
  omega
end F15

