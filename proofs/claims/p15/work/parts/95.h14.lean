/-! the reference by numbers (written by wip/tools/gen18r.py) -/
/-! THE REST IS GONE -/
def qWh (b : Nat → Nat → Int32) (x : Nat) : Prop := xAl b x ∧ b 77 x = 0
/-- b without the WHITE ones below n -/
def qMd (b c : Nat → Nat → Int32) (n : Int) : Prop :=
  (∀ x : Nat, x < 512 → (((x : Int) < n ∧ qWh b x) → c 126 x = 0) ∧ (¬ ((x : Int) < n ∧ qWh b x) → (∀ f, 126 ≤ f → f < 1000 → c f x = b f x) ∧ c (1000 + x) = b (1000 + x))) ∧
  ((∀ f, f < 126 → f ≠ 71 → f ≠ 73 → f ≠ 69 → c f = b f) ∧ c 69 5 = b 69 5 ∧ c 69 6 = b 69 6) ∧
  (∀ k, k < 16 → ((∃ x : Nat, (x : Int) < n ∧ qWh b x ∧ b 73 k = Int32.ofNat x) → c 73 k = -1) ∧ (¬ (∃ x : Nat, (x : Int) < n ∧ qWh b x ∧ b 73 k = Int32.ofNat x) → c 73 k = b 73 k)) ∧
  (∀ p : Nat, ((∃ x : Nat, (x : Int) < n ∧ qWh b x ∧ (b 130 x).toInt ≤ (p : Int) ∧ (p : Int) < (b 130 x).toInt + (b 128 x).toInt) → c 71 p = -1) ∧ (¬ (∃ x : Nat, (x : Int) < n ∧ qWh b x ∧ (b 130 x).toInt ≤ (p : Int) ∧ (p : Int) < (b 130 x).toInt + (b 128 x).toInt) → c 71 p = b 71 p)) ∧
  c 69 8 = Int32.ofInt (qSu c 512) ∧
  ∀ x, ¬ xAl c x → (∀ x', ¬ xAl b x' → ∀ k, b (1000 + x') k = 0) → ∀ k, c (1000 + x) k = 0
section QZ
variable {aa a b c e : Nat → Nat → Int32} {us us' nr kr kd ws at' ho wd wi ow ow' rt wk wk0 wk' wl kp : Nat → Int32} {wm nu ro fo le ra pi y x i : Int32} {n k t s : Nat} {m : Nat → Nat → Int32}
theorem Su_z : ∀ n, (∀ x, x < n → a 126 x = b 126 x ∧ a 128 x = b 128 x) → qSu a n = qSu b n := by
  intro n
  induction n with
  | zero => intro _; rfl
  | succ n ih =>
    intro h
    unfold qSu
    rw [ih (fun x hx => h x (by omega)), (h n (by omega)).1, (h n (by omega)).2]
theorem Su_dn (hk : k < n) (h0 : a 126 k ≠ 0) (h1 : b 126 k = 0) (h : ∀ x, x < n → x ≠ k → a 126 x = b 126 x ∧ a 128 x = b 128 x) : qSu b n = qSu a n - (a 128 k).toInt := by
  induction n with
  | zero => omega
  | succ n ih =>
    unfold qSu
    by_cases e : k = n
    · rw [← e, Su_z (a := b) (b := a) k (fun x hx => ⟨(h x (by omega) (by omega)).1.symm, (h x (by omega) (by omega)).2.symm⟩), if_pos h0, if_neg (fun w => w h1)]
      omega
    · rw [ih (by omega) (fun x hx w => h x (by omega) w), (h n (by omega) (by omega)).1, (h n (by omega) (by omega)).2]
      omega
theorem Md_0 (h : b 69 8 = Int32.ofInt (qSu b 512)) : qMd b b 0 := by
  refine ⟨fun x _ => ⟨fun w => by omega, fun _ => ⟨fun _ _ _ => rfl, rfl⟩⟩, ⟨fun _ _ _ _ _ => rfl, rfl, rfl⟩, fun k _ => ⟨fun ⟨x, w, _⟩ => by omega, fun _ => rfl⟩, fun p => ⟨fun ⟨x, w, _⟩ => by omega, fun _ => rfl⟩, h, fun x hx hb => hb x hx⟩
theorem Md_mc (hI : qI b) (hw : (b 75 5).toInt ≤ 0) (h : qMd b c y.toInt) (h0 : 0 ≤ y.toInt) (h5 : y.toInt < 512) : aMc c y ↔ qWh b y.toNatClampNeg := by
  have cy := tn_cast h0
  have r := (h.1 y.toNatClampNeg (by omega)).2 (by omega)
  have e5 := congrFun (h.2.1.1 75 (by decide) (by decide) (by decide) (by decide)) 5
  have e7 := congrFun (h.2.1.1 77 (by decide) (by decide) (by decide) (by decide)) y.toNatClampNeg
  unfold aMc qWh xAl
  rw [r.1 126 (by decide) (by decide), r.1 130 (by decide) (by decide), e5, e7]
  constructor
  · rintro ⟨w1, w2, w3, w4, w5⟩
    exact ⟨⟨by omega, w3⟩, w5⟩
  · rintro ⟨⟨w1, w2⟩, w3⟩
    have := (hI.1 _ ⟨w1, w2⟩).1.2
    exact ⟨h0, h5, w2, by omega, w3⟩
theorem rm_126 (h : n < 126) (h1 : n ≠ 71) (h2 : n ≠ 73) (h3 : n ≠ 69) : aRm a y n = a n := funext (fun k => aRm_o h ⟨h2, h1, fun w => h3 w.1, fun w => h3 w.1⟩)
theorem rm_hi (h : 126 ≤ n) : aRm a y n k = zNo a y.toNatClampNeg n k := by
  show (if n = 69 ∧ k = 11 then _ else if n = 69 ∧ k = 8 then _ else zNo (zFr (zUw a y 16) _ _) y.toNatClampNeg n k) = _
  rw [if_neg (by omega), if_neg (by omega)]
  unfold zNo
  rw [zFr_o (by omega), zUw_o (by omega)]
theorem rm_73 : aRm a y 73 k = zUw a y 16 73 k := by
  unfold aRm
  rw [xu_o (by omega), xu_o (by omega), zNo_o (by decide), zFr_o (by decide)]
theorem rm_71 : aRm a y 71 k = zFr a (a 130 y.toNatClampNeg).toInt (zMin (a 130 y.toNatClampNeg + a 128 y.toNatClampNeg).toInt) 71 k := by
  unfold aRm
  rw [xu_o (by omega), xu_o (by omega), zNo_o (by decide)]
  unfold zFr
  rw [zUw_o (by decide)]
theorem rm_8 : aRm a y 69 8 = a 69 8 - a 128 y.toNatClampNeg := by
  unfold aRm
  rw [xu_o (by decide), xu_s]
theorem Md_y (hI : qI b) (h : qMd b c y.toInt) (h0 : 0 ≤ y.toInt) (h5 : y.toInt < 512) (hw : qWh b y.toNatClampNeg) : qMd b (aRm c y) (y.toInt + 1) := by
  have cy := tn_cast h0
  obtain ⟨h1, ⟨h2, h2a, h2b⟩, h3, h4, h6, h7⟩ := h
  have ry := ((h1 y.toNatClampNeg (by omega)).2 (by omega)).1
  have ib := hI.1 _ hw.1
  have b4 := hI.2.2.2.1.2.2.1
  have es : (b 130 y.toNatClampNeg + b 128 y.toNatClampNeg).toInt = (b 130 y.toNatClampNeg).toInt + (b 128 y.toNatClampNeg).toInt := i_add (by omega) (by omega)
  have em : zMin (b 130 y.toNatClampNeg + b 128 y.toNatClampNeg).toInt = (b 130 y.toNatClampNeg).toInt + (b 128 y.toNatClampNeg).toInt := by
    unfold zMin
    rw [es]
    split <;> omega
  refine ⟨fun x hx => ⟨fun w => ?_, fun w => ⟨fun f f1 f2 => ?_, ?_⟩⟩, ⟨fun f f1 f2 f3 f4 => ?_, ?_, ?_⟩, fun k hk => ⟨fun w => ?_, fun w => ?_⟩, fun p => ⟨fun w => ?_, fun w => ?_⟩, ?_, fun x hx hb k => ?_⟩
  · rw [rm_hi (by decide)]
    unfold zNo
    by_cases z : x = y.toNatClampNeg
    · rw [if_pos (Or.inl ⟨by decide, by decide, z⟩)]
    · rw [if_neg (by omega)]
      exact (h1 x hx).1 ⟨by omega, w.2⟩
  · have z : x ≠ y.toNatClampNeg := fun z => w ⟨by omega, by rw [z]; exact hw⟩
    rw [rm_hi f1]
    unfold zNo
    rw [if_neg (by omega)]
    exact ((h1 x hx).2 (fun w2 => w ⟨by omega, w2.2⟩)).1 f f1 f2
  · have z : x ≠ y.toNatClampNeg := fun z => w ⟨by omega, by rw [z]; exact hw⟩
    funext k
    rw [rm_hi (by omega)]
    unfold zNo
    rw [if_neg (by omega)]
    exact congrFun ((h1 x hx).2 (fun w2 => w ⟨by omega, w2.2⟩)).2 k
  · rw [rm_126 f1 f2 f3 f4]
    exact h2 f f1 f2 f3 f4
  · rw [aRm_o (by decide) ⟨by decide, by decide, by decide, by decide⟩]
    exact h2a
  · rw [aRm_o (by decide) ⟨by decide, by decide, by decide, by decide⟩]
    exact h2b
  · rw [rm_73]
    unfold zUw
    by_cases z : ∃ x : Nat, (x : Int) < y.toInt ∧ qWh b x ∧ b 73 k = Int32.ofNat x
    · have q := (h3 k hk).1 z
      split
      · rfl
      · exact q
    · obtain ⟨x, x1, x2, x3⟩ := w
      have ex : x = y.toNatClampNeg := by
        by_cases w : x = y.toNatClampNeg
        · exact w
        · exact absurd ⟨x, by omega, x2, x3⟩ z
      have q := (h3 k hk).2 z
      rw [if_pos ⟨rfl, by omega, by rw [q, x3, ex]; exact ofN_tn h0⟩]
  · have z : ¬ ∃ x : Nat, (x : Int) < y.toInt ∧ qWh b x ∧ b 73 k = Int32.ofNat x := fun ⟨x, x1, x2, x3⟩ => w ⟨x, by omega, x2, x3⟩
    have q := (h3 k hk).2 z
    rw [rm_73]
    unfold zUw
    rw [if_neg]
    · exact q
    · rintro ⟨_, _, z3⟩
      refine w ⟨y.toNatClampNeg, by omega, hw, ?_⟩
      rw [← q, z3, ofN_tn h0]
  · rw [rm_71, ry 130 (by decide) (by decide), ry 128 (by decide) (by decide), em]
    unfold zFr
    by_cases z : ∃ x : Nat, (x : Int) < y.toInt ∧ qWh b x ∧ (b 130 x).toInt ≤ (p : Int) ∧ (p : Int) < (b 130 x).toInt + (b 128 x).toInt
    · have q := (h4 p).1 z
      split
      · rfl
      · exact q
    · obtain ⟨x, x1, x2, x3⟩ := w
      have ex : x = y.toNatClampNeg := by
        by_cases w : x = y.toNatClampNeg
        · exact w
        · exact absurd ⟨x, by omega, x2, x3⟩ z
      rw [ex] at x3
      rw [if_pos ⟨rfl, x3.1, x3.2⟩]
  · have z : ¬ ∃ x : Nat, (x : Int) < y.toInt ∧ qWh b x ∧ (b 130 x).toInt ≤ (p : Int) ∧ (p : Int) < (b 130 x).toInt + (b 128 x).toInt := fun ⟨x, x1, x2, x3⟩ => w ⟨x, by omega, x2, x3⟩
    have q := (h4 p).2 z
    rw [rm_71, ry 130 (by decide) (by decide), ry 128 (by decide) (by decide), em]
    unfold zFr
    rw [if_neg (fun w2 => w ⟨y.toNatClampNeg, by omega, hw, w2.2.1, w2.2.2⟩)]
    exact q
  · have d := Su_dn (a := c) (b := aRm c y) (k := y.toNatClampNeg) (n := 512) (by omega) (by rw [ry 126 (by decide) (by decide)]; exact hw.1.2) (by rw [rm_hi (by decide)]; unfold zNo; rw [if_pos (Or.inl ⟨by decide, by decide, rfl⟩)]) (fun x hx w => by
      rw [rm_hi (by decide), rm_hi (by decide)]
      unfold zNo
      rw [if_neg (by omega), if_neg (by omega)]
      exact ⟨rfl, rfl⟩)
    rw [d, rm_8, h6, Int32.ofInt_sub, Int32.ofInt_toInt]
  · rw [rm_hi (by omega)]
    unfold zNo
    by_cases z : x = y.toNatClampNeg
    · rw [if_pos (Or.inr (by omega))]
    · rw [if_neg (by omega)]
      refine h7 x (fun w => hx ⟨w.1, ?_⟩) hb k
      rw [rm_hi (by decide)]
      unfold zNo
      rw [if_neg (by omega)]
      exact w.2
theorem Md_n (h : qMd b c y.toInt) (h0 : 0 ≤ y.toInt) (hw : ¬ qWh b y.toNatClampNeg) : qMd b c (y.toInt + 1) := by
  have cy := tn_cast h0
  have ne : ∀ x : Nat, (x : Int) < y.toInt + 1 → qWh b x → (x : Int) < y.toInt := fun x hx hq => by
    by_cases z : x = y.toNatClampNeg
    · rw [z] at hq
      exact absurd hq hw
    · omega
  obtain ⟨h1, h2, h3, h4, h6, h7⟩ := h
  refine ⟨fun x hx => ⟨fun w => (h1 x hx).1 ⟨ne x w.1 w.2, w.2⟩, fun w => (h1 x hx).2 (fun w2 => w ⟨by omega, w2.2⟩)⟩, h2, fun k hk => ⟨fun ⟨x, x1, x2, x3⟩ => (h3 k hk).1 ⟨x, ne x x1 x2, x2, x3⟩, fun w => (h3 k hk).2 (fun ⟨x, x1, x2, x3⟩ => w ⟨x, by omega, x2, x3⟩)⟩, fun p => ⟨fun ⟨x, x1, x2, x3⟩ => (h4 p).1 ⟨x, ne x x1 x2, x2, x3⟩, fun w => (h4 p).2 (fun ⟨x, x1, x2, x3⟩ => w ⟨x, by omega, x2, x3⟩)⟩, h6, h7⟩
theorem Md_all (hI : qI b) (hw : (b 75 5).toInt ≤ 0) : ∀ (f : Nat) (y : Int32) (c : Nat → Nat → Int32), 0 ≤ y.toInt → y.toInt + (f : Int) = (b 69 6).toInt → qMd b c y.toInt → qMd b (aMf f y c) (b 69 6).toInt := by
  intro f
  induction f with
  | zero =>
    intro y c h0 e h
    rw [← e]
    simp only [Int.natCast_zero, Int.add_zero]
    exact h
  | succ f ih =>
    intro y c h0 e h
    have i6 := hI.2.2.2.1.1.2
    have e1 := i_p1 (i := y) (by omega)
    show qMd b (aMf f (y + 1) (if 0 ≤ y.toInt ∧ y.toInt < 512 ∧ c 126 y.toNatClampNeg ≠ 0 ∧ (c 75 5).toInt ≤ (c 130 y.toNatClampNeg).toInt ∧ c 77 y.toNatClampNeg = 0 then aRm c y else c)) _
    have mc := Md_mc hI hw h h0 (by omega)
    unfold aMc at mc
    refine ih _ _ (by omega) (by omega) ?_
    rw [e1]
    by_cases z : qWh b y.toNatClampNeg
    · rw [if_pos (mc.mpr z)]
      exact Md_y hI h h0 (by omega) z
    · rw [if_neg (fun w => z (mc.mp w))]
      exact Md_n h h0 z
theorem Md_mv (hI : qI b) (hw : (b 75 5).toInt ≤ 0) : qMd b (aMv b 0) (b 69 6).toInt := by
  have i6 := hI.2.2.2.1.1.1
  have z0 : (0 : Int32).toInt = 0 := rfl
  exact Md_all hI hw _ 0 b (by decide) (by omega) (Md_0 hI.2.2.2.2.1)
/-- who is left -/
theorem Md_al (hI : qI b) (h : qMd b e (b 69 6).toInt) : xAl e n ↔ xAl b n ∧ b 77 n ≠ 0 := by
  unfold xAl
  constructor
  · rintro ⟨w1, w2⟩
    by_cases z : (n : Int) < (b 69 6).toInt ∧ qWh b n
    · exact absurd ((h.1 n w1).1 z) w2
    · have q := ((h.1 n w1).2 z).1 126 (by decide) (by decide)
      rw [q] at w2
      refine ⟨⟨w1, w2⟩, fun w3 => z ⟨(hI.1 n ⟨w1, w2⟩).1.1, ⟨w1, w2⟩, w3⟩⟩
  · rintro ⟨⟨w1, w2⟩, w3⟩
    have q := ((h.1 n w1).2 (fun z => w3 z.2.2)).1 126 (by decide) (by decide)
    rw [q]
    exact ⟨w1, w2⟩
theorem Md_f (h : qMd b e (b 69 6).toInt) (hn : n < 512) (hk : b 77 n ≠ 0) : (∀ f, 126 ≤ f → f < 1000 → e f n = b f n) ∧ e (1000 + n) = b (1000 + n) := (h.1 n hn).2 (fun z => hk z.2.2)
theorem Md_w (hI : qI b) (h : qMd b e (b 69 6).toInt) (hn : xAl b n) (hk : b 77 n ≠ 0) {p : Nat} (h1 : (b 130 n).toInt ≤ (p : Int)) (h2 : (p : Int) < (b 130 n).toInt + (b 128 n).toInt) : e 71 p = b 71 p := by
  refine (h.2.2.2.1 p).2 ?_
  rintro ⟨x, x1, x2, x3, x4⟩
  by_cases z : x = n
  · rw [z] at x2
    exact hk x2.2
  · have d := hI.2.1 x n x2.1 hn z
    omega
theorem I_mv (hI : qI b) (hw : (b 75 5).toInt ≤ 0) : qI (aMv b 0) := by
  have h := Md_mv hI hw
  generalize aMv b 0 = e at *
  have r87 := h.2.1.1 87 (by decide) (by decide) (by decide) (by decide)
  have fl : ∀ n, xAl e n → xAl b n ∧ b 77 n ≠ 0 ∧ e 130 n = b 130 n ∧ e 128 n = b 128 n := fun n hn => by
    have q := (Md_al hI h).mp hn
    have f := (Md_f h q.1.1 q.2).1
    exact ⟨q.1, q.2, f 130 (by decide) (by decide), f 128 (by decide) (by decide)⟩
  refine ⟨fun n hn => ?_, fun n n' hn hn' hne => ?_, fun p hp hc => ?_, ⟨?_, ?_, ?_, ?_, ?_, ?_⟩, h.2.2.2.2.1, fun n hn k => ?_⟩
  · have f := fl n hn
    have i := hI.1 n f.1
    have c := tn_cast i.1.2
    rw [f.2.2.1, f.2.2.2, h.2.1.2.2, r87, Md_w hI h f.1 f.2.1 (p := (b 130 n).toNatClampNeg) (by omega) (by have := i.2.1.1; omega)]
    exact i
  · have f := fl n hn
    have f' := fl n' hn'
    rw [f.2.2.1, f.2.2.2, f'.2.2.1, f'.2.2.2]
    exact hI.2.1 n n' f.1 f'.1 hne
  · by_cases z : ∃ x : Nat, (x : Int) < (b 69 6).toInt ∧ qWh b x ∧ (b 130 x).toInt ≤ (p : Int) ∧ (p : Int) < (b 130 x).toInt + (b 128 x).toInt
    · exact (h.2.2.2.1 p).1 z
    · rw [(h.2.2.2.1 p).2 z]
      refine hI.2.2.1 p hp (fun n hn w => ?_)
      by_cases k0 : b 77 n = 0
      · exact z ⟨n, (hI.1 n hn).1.1, ⟨hn, k0⟩, w⟩
      · have al := (Md_al hI h).mpr ⟨hn, k0⟩
        have f := fl n al
        have q := hc n al
        rw [f.2.2.1, f.2.2.2] at q
        exact q w
  · rw [h.2.1.2.2]
    exact hI.2.2.2.1.1
  · rw [h.2.1.2.1]
    exact hI.2.2.2.1.2.1
  · rw [r87]
    exact hI.2.2.2.1.2.2.1
  · rw [r87]
    exact hI.2.2.2.1.2.2.2.1
  · intro n hn
    have f := fl n hn
    rw [f.2.2.1, f.2.2.2, r87]
    exact hI.2.2.2.1.2.2.2.2.1 n f.1
  · rw [r87]
    exact hI.2.2.2.1.2.2.2.2.2
  · exact h.2.2.2.2.2 n hn (fun n' w => hI.2.2.2.2.2 n' w) k
/-- WEAK lose what is not kept -/
def qUr (wk0 wk kp : Nat → Int32) (l : Int) : Prop := ∀ k : Nat, (((k : Int) < l ∧ 0 ≤ (wk0 k).toInt ∧ kp (wk0 k).toNatClampNeg = 0) → wk k = -1) ∧ (¬ ((k : Int) < l ∧ 0 ≤ (wk0 k).toInt ∧ kp (wk0 k).toNatClampNeg = 0) → wk k = wk0 k)
theorem Ur_0 {l : Int} (h : l ≤ 0) : qUr wk wk kp l := fun k => ⟨fun w => by omega, fun _ => rfl⟩
theorem Ur_y {l : Int} (h : qUr wk (m 113) kp i.toInt) (h0 : 0 ≤ i.toInt) (e1 : l = i.toInt + 1) (hs : 0 ≤ (m 113 i.toNatClampNeg).toInt) (hk : kp (m 113 i.toNatClampNeg).toNatClampNeg = 0) : qUr wk (ma_u m 113 i.toNatClampNeg (-1) 113) kp l := by
  intro k
  have c := tn_cast h0
  by_cases w : k = i.toNatClampNeg
  · have q := (h k).2 (by omega)
    rw [w] at q ⊢
    rw [mu_self]
    refine ⟨fun _ => rfl, fun z => absurd ⟨by omega, ?_, ?_⟩ z⟩
    · rw [← q]
      exact hs
    · rw [← q]
      exact hk
  · rw [mu_ne w]
    exact ⟨fun z => (h k).1 ⟨by omega, z.2⟩, fun z => (h k).2 (fun z2 => z ⟨by omega, z2.2⟩)⟩
theorem Ur_n {l : Int} (h : qUr wk0 wk kp i.toInt) (h0 : 0 ≤ i.toInt) (e1 : l = i.toInt + 1) (hs : (wk i.toNatClampNeg).toInt < 0 ∨ kp (wk i.toNatClampNeg).toNatClampNeg ≠ 0) : qUr wk0 wk kp l := by
  intro k
  have c := tn_cast h0
  by_cases w : k = i.toNatClampNeg
  · have q := (h k).2 (by omega)
    refine ⟨fun z => ?_, fun _ => q⟩
    rw [w] at q z
    rw [← q] at z
    exact absurd z.2 (fun z2 => hs.elim (fun z3 => by omega) (fun z3 => z3 z2.2))
  · exact ⟨fun z => (h k).1 ⟨by omega, z.2⟩, fun z => (h k).2 (fun z2 => z ⟨by omega, z2.2⟩)⟩
/-- the cleaning's end -/
theorem RB_mv (hR : qRB us nr kr kd ws at' ho wd wi ow rt wk wl wm nu ro fo le ra pi b) (hI : qI b) (hK : qKB kp us nr b) (hC : qCK kp us rt wl wm kr kd ws wd) (hw : (b 75 5).toInt ≤ 0) (hu : qUr wk wk' kp 16) (hm : zrm us us' kp 3100) (ho' : zowr ow ow' us kp at') : qRB us' nr kr kd ws at' ho wd wi ow' rt wk' wl wm nu ro fo le ra pi (aMv b 0) := by
  have h := Md_mv hI hw
  generalize aMv b 0 = e at *
  obtain ⟨q1, q2, q3, q4, q5, q6, q7, q8⟩ := hR
  have us1 : ∀ s, s < 3100 → us' s ≠ 0 → us s ≠ 0 ∧ kp s ≠ 0 ∧ xAl b (nr s).toNatClampNeg ∧ b 77 (nr s).toNatClampNeg ≠ 0 := fun s hs hv => by
    have z := ((hm s hs).1 hs).mp hv
    exact ⟨z.1, z.2, R1_al q1 hs z.1, ((hK.2 s hs z.1).mp z.2).2⟩
  have us2 : ∀ s, s < 3100 → us s ≠ 0 → kp s ≠ 0 → us' s ≠ 0 := fun s hs hv hk => ((hm s hs).1 hs).mpr ⟨hv, hk⟩
  have fl : ∀ s, s < 3100 → us' s ≠ 0 → ∀ f, 126 ≤ f → f < 1000 → e f (nr s).toNatClampNeg = b f (nr s).toNatClampNeg := fun s hs hv => (Md_f h (us1 s hs hv).2.2.1.1 (us1 s hs hv).2.2.2).1
  have lo := h.2.1.1
  have kU : ∀ x : Int32, qU us x → (x.toInt < 0 ∨ kp x.toNatClampNeg ≠ 0) → qU us' x := fun x hx hk => by
    by_cases z : x.toInt < 0
    · exact Or.inl z
    · have u := U_y hx (by omega)
      exact Or.inr ⟨u.1, us2 _ (tn_lt (by omega) u.1) u.2 (hk.elim (fun w => absurd w z) id)⟩
  refine ⟨⟨fun s hs hv => ?_, fun s t hs ht hv hv2 en => q1.2.1 s t hs ht (us1 s hs hv).1 (us1 t ht hv2).1 en, fun n hn ha => ?_⟩, fun s hs hv i hi => ?_, fun k hk => ?_, fun k hk => ?_, ⟨?_, fun k hk => ?_⟩, fun s hs hv => ?_, fun s hs hv => ?_, ?_⟩
  · have u := us1 s hs hv
    have f := fl s hs hv
    rw [f 126 (by decide) (by decide), f 128 (by decide) (by decide), f 130 (by decide) (by decide), f 133 (by decide) (by decide)]
    exact q1.1 s hs u.1
  · have al := (Md_al hI h).mp (show xAl e n from ⟨hn, ha⟩)
    obtain ⟨s, hs, hv, en⟩ := q1.2.2 n hn al.1.2
    refine ⟨s, hs, us2 s hs hv ((hK.2 s hs hv).mpr ?_), en⟩
    rw [en, tn_of hn]
    exact ⟨hn, al.2⟩
  · have u := us1 s hs hv
    have q := q2 s hs u.1 i hi
    have t := q1.1 s hs u.1
    have ib := hI.1 _ u.2.2.1
    have rf : aRef e (nr s).toNatClampNeg (Int32.ofNat i) = aRef b (nr s).toNatClampNeg (Int32.ofNat i) := by
      have ei : (Int32.ofNat i).toInt = (i : Int) := Int32.toInt_ofNat_of_lt (by have := t.2.2.2.2.2.1; omega)
      have b4 := hI.2.2.2.1.2.2.1
      have ep : (b 130 (nr s).toNatClampNeg + 1).toInt = (b 130 (nr s).toNatClampNeg).toInt + 1 := i_p1 (by omega)
      have sz : (b 128 (nr s).toNatClampNeg).toInt = (ws s).toInt + 1 := by
        rw [t.2.2.1]
        exact i_p1 (by have := t.2.2.2.2.2.1; omega)
      have ex : (b 130 (nr s).toNatClampNeg + 1 + Int32.ofNat i).toInt = (b 130 (nr s).toNatClampNeg).toInt + 1 + (i : Int) := by
        rw [i_add (by omega) (by omega)]
        omega
      have cx := tn_cast (x := b 130 (nr s).toNatClampNeg + 1 + Int32.ofNat i) (by omega)
      unfold aRef
      rw [(Md_f h u.2.2.1.1 u.2.2.2).2, fl s hs hv 130 (by decide) (by decide), Md_w hI h u.2.2.1 u.2.2.2 (p := (b 130 (nr s).toNatClampNeg + 1 + Int32.ofNat i).toNatClampNeg) (by omega) (by omega)]
    rw [rf, (Md_f h u.2.2.1.1 u.2.2.2).2]
    exact ⟨kU _ q.1 (hC.2.2 s hs u.1 u.2.1 i hi), q.2⟩
  · have q := q3 k hk
    rw [lo 72 (by decide) (by decide) (by decide) (by decide)]
    exact ⟨kU _ q.1 (hC.1 k (by omega)), q.2⟩
  · have q := q4 k hk
    have g := hu k
    have w := h.2.2.1 k hk
    by_cases z : (wk k).toInt < 0
    · rw [g.2 (by omega)]
      rw [No_n z] at q ⊢
      refine ⟨Or.inl z, ?_⟩
      by_cases z2 : ∃ x : Nat, (x : Int) < (b 69 6).toInt ∧ qWh b x ∧ b 73 k = Int32.ofNat x
      · exact w.1 z2
      · rw [w.2 z2]
        exact q.2
    · have u := U_y q.1 (by omega)
      have hs := tn_lt (by omega) u.1
      rw [No_y (by omega)] at q
      by_cases kz : kp (wk k).toNatClampNeg = 0
      · rw [g.1 ⟨by omega, by omega, kz⟩]
        refine ⟨Or.inl (by decide), ?_⟩
        have al := R1_al q1 hs u.2
        refine w.1 ⟨(nr (wk k).toNatClampNeg).toNatClampNeg, (hI.1 _ al).1.1, ⟨al, ?_⟩, ?_⟩
        · by_cases z3 : b 77 (nr (wk k).toNatClampNeg).toNatClampNeg = 0
          · exact z3
          · exact absurd kz ((hK.2 _ hs u.2).mpr ⟨al.1, z3⟩)
        · rw [q.2, R1_of_nr q1 hs u.2]
      · rw [g.2 (fun z2 => kz z2.2.2), No_y (by omega)]
        refine ⟨Or.inr ⟨u.1, us2 _ hs u.2 kz⟩, ?_⟩
        rw [w.2]
        · exact q.2
        · rintro ⟨x, x1, x2, x3⟩
          rw [q.2] at x3
          have k7 := ((hK.2 _ hs u.2).mp kz).2
          rw [x3, tn_of x2.1.1] at k7
          exact k7 x2.2
  · rw [h.2.1.2.1]
    exact q5.1
  · have q := q5.2 k hk
    rw [lo 74 (by decide) (by decide) (by decide) (by decide)]
    exact ⟨⟨q.1.1, q.1.2.1, us2 _ (tn_lt q.1.1 q.1.2.1) q.1.2.2 ((hC.2.1 k hk).elim (fun z => absurd z (by have := q.1.1; omega)) id)⟩, q.2⟩
  · rw [fl s hs hv 134 (by decide) (by decide)]
    exact q6 s hs (us1 s hs hv).1
  · have u := us1 s hs hv
    have t := q1.1 s hs u.1
    have ib := hI.1 _ u.2.2.1
    have b4 := hI.2.2.2.1.2.2.1
    have ca := tn_cast t.2.2.2.2.2.2
    have pl : (at' s).toNatClampNeg < 4600 := by
      have e4 := congrArg Int32.toInt t.2.2.2.1
      omega
    have o := q7 s hs u.1
    rcases ho' (at' s).toNatClampNeg pl with z | ⟨z1, r, r1, r2, r3, r4⟩
    · rw [z]
      exact o
    · have o2 := q7 r r1 r2
      have e : (at' r).toNatClampNeg = (at' s).toNatClampNeg := by
        have c2 := tn_cast (q1.1 r r1 r2).2.2.2.2.2.2
        omega
      rw [e, o] at o2
      have e3 := congrArg Int32.toInt o2
      rw [ofN_s hs, ofN_s r1] at e3
      have : s = r := by omega
      rw [this] at u
      exact absurd r3 u.2.1
  · have g := q8
    unfold qR8 at g ⊢
    rw [h.2.1.2.2, lo 87 (by decide) (by decide) (by decide) (by decide)]
    exact g
end QZ
theorem lp_199r_2 {X : Nat × (Nat → Int32)} {P : Option ma_V → (Nat → Nat → Int32) → Prop} {m0 : Nat → Nat → Int32} (h0 : zV m0) (K : ∀ m', zF wr_199 m0 m' → zV m' → (zuw (m0 113) (m' 113)) → (qUr (m0 113) (m' 113) (m' 110) 16) → P none m') : ∀ (n : Nat) (m : Nat → Nat → Int32) (l1 : Int32), (16 - l1.toInt).toNat = n → zF wr_199 m0 m → zV m → (0 ≤ l1.toInt) → (l1.toInt ≤ 16) → (zuw (m0 113) (m 113)) → (qUr (m0 113) (m 113) (m 110) l1.toInt) → zm X 0 0 199 2 [(0, .inr (.inr (some 94))), (1, .inl l1)] m P := by
  intro n
  induction n using Nat.strongRecOn with
  | _ n IH =>
    intro m l1 hmu hF hV hi0 hi1 r_UW r_UR
    refine g_199_2 l1 ?_
    have li1 : (16 : Int32).toInt = 16 := rfl
    have b2 := i_bd l1
    refine zd (fun (h3 : (16 : Int32) ≤ l1) => ?_) (fun (h3 : ¬ (16 : Int32) ≤ l1) => ?_)
    · skip
      have g4 := i_le h3
      exact K _ hF hV r_UW (show qUr (m0 113) (m 113) (m 110) 16 from by first | (exact Ur_0 (by decide)) | (exact Ur_n r_UR (by omega) (by omega) (Or.inl (by omega))) | (exact Ur_n r_UR (by omega) (by omega) (Or.inr (by assumption))) | (exact (show l1.toInt = 16 from by omega) ▸ r_UR) | (exfalso; omega; done) | (exfalso; contradiction; done))
    · skip
      have g5 := i_nle h3
      have hg6 : (0 ≤ l1 ∧ l1.toNatClampNeg < 16) := i_ix (by omega) (by omega)
      refine ⟨hg6, ?_⟩
      first | have f7 : -1 ≤ (m 113 l1.toNatClampNeg).toInt ∧ (m 113 l1.toNatClampNeg).toInt ≤ 3099 := ra_113 (m := m) hV (k := l1.toNatClampNeg) (i_ix (n := 16) (by omega) (by omega)).2 | have b8 := i_bd (m 113 l1.toNatClampNeg)
      have li9 : (0 : Int32).toInt = 0 := rfl
      refine zd (fun (h10 : (m 113 l1.toNatClampNeg) < (0 : Int32)) => ?_) (fun (h10 : ¬ (m 113 l1.toNatClampNeg) < (0 : Int32)) => ?_)
      · skip
        have g11 := i_lt h10
        first | have e12 : (l1 + (1 : Int32)).toInt = l1.toInt + (1) := i_addk rfl (by omega) (by omega) | have b13 := i_bd (l1 + (1 : Int32))
        exact IH (16 - (l1 + (1 : Int32)).toInt).toNat (by omega) _ ((l1 + (1 : Int32))) rfl hF hV (by omega) (by omega) r_UW (show qUr (m0 113) (m 113) (m 110) (l1 + (1 : Int32)).toInt from by first | (exact Ur_0 (by decide)) | (exact Ur_n r_UR (by omega) (by omega) (Or.inl (by omega))) | (exact Ur_n r_UR (by omega) (by omega) (Or.inr (by assumption))) | (exact (show l1.toInt = 16 from by omega) ▸ r_UR) | (exfalso; omega; done) | (exfalso; contradiction; done))
      · skip
        have g14 := i_nlt h10
        have hg15 : (0 ≤ l1 ∧ l1.toNatClampNeg < 16) := i_ix (by omega) (by omega)
        refine ⟨hg15, ?_⟩
        have hg16 : (0 ≤ (m 113 l1.toNatClampNeg) ∧ (m 113 l1.toNatClampNeg).toNatClampNeg < 3100) := i_ix (by omega) (by omega)
        refine ⟨hg16, ?_⟩
        first | have f17 : 0 ≤ (m 110 (m 113 l1.toNatClampNeg).toNatClampNeg).toInt ∧ (m 110 (m 113 l1.toNatClampNeg).toNatClampNeg).toInt ≤ 1 := ra_110 (m := m) hV (k := (m 113 l1.toNatClampNeg).toNatClampNeg) (i_ix (n := 3100) (by omega) (by omega)).2 | have b18 := i_bd (m 110 (m 113 l1.toNatClampNeg).toNatClampNeg)
        refine zd (fun (h19 : (m 110 (m 113 l1.toNatClampNeg).toNatClampNeg) = (0 : Int32)) => ?_) (fun (h19 : ¬ (m 110 (m 113 l1.toNatClampNeg).toNatClampNeg) = (0 : Int32)) => ?_)
        · skip
          have g20 := i_eq h19
          have hg21 : (0 ≤ l1 ∧ l1.toNatClampNeg < 16) := i_ix (by omega) (by omega)
          refine ⟨hg21, ?_⟩
          have li23 : (-1 : Int32).toInt = -1 := rfl
          have hV22 : zV (ma_u m 113 l1.toNatClampNeg (-1 : Int32)) := ua_113 hV (by omega) (by omega)
          first | have e24 : (l1 + (1 : Int32)).toInt = l1.toInt + (1) := i_addk rfl (by omega) (by omega) | have b25 := i_bd (l1 + (1 : Int32))
          exact IH (16 - (l1 + (1 : Int32)).toInt).toNat (by omega) _ ((l1 + (1 : Int32))) rfl (zF_u hF rfl) hV22 (by omega) (by omega) (show zuw (m0 113) ((ma_u m 113 l1.toNatClampNeg (-1 : Int32)) 113) from by first | (exact zuw_put r_UW (by decide)) | (exfalso; omega; done) | (exfalso; contradiction; done)) (show qUr (m0 113) ((ma_u m 113 l1.toNatClampNeg (-1 : Int32)) 113) (m 110) (l1 + (1 : Int32)).toInt from by first | (exact Ur_y r_UR (by omega) (by omega) (by omega) (by assumption)) | (exfalso; omega; done) | (exfalso; contradiction; done))
        · skip
          have g26 := i_ne h19
          first | have e27 : (l1 + (1 : Int32)).toInt = l1.toInt + (1) := i_addk rfl (by omega) (by omega) | have b28 := i_bd (l1 + (1 : Int32))
          exact IH (16 - (l1 + (1 : Int32)).toInt).toNat (by omega) _ ((l1 + (1 : Int32))) rfl hF hV (by omega) (by omega) r_UW (show qUr (m0 113) (m 113) (m 110) (l1 + (1 : Int32)).toInt from by first | (exact Ur_0 (by decide)) | (exact Ur_n r_UR (by omega) (by omega) (Or.inl (by omega))) | (exact Ur_n r_UR (by omega) (by omega) (Or.inr (by assumption))) | (exact (show l1.toInt = 16 from by omega) ▸ r_UR) | (exfalso; omega; done) | (exfalso; contradiction; done))
theorem sp_199r {X : Nat × (Nat → Int32)} {P : Option ma_V → (Nat → Nat → Int32) → Prop} {m : Nat → Nat → Int32}  (hV : zV m)  (KZ : ∀ m', zV (zov wr_199 m m') → (zuw (m 113) (m' 113)) → (qUr (m 113) (m' 113) (m 110) 16) → P none (zov wr_199 m m')) : zm X 0 0 199 0 [(0, .inr (.inr (some 94)))] m P := by
  have K : ∀ m', zF wr_199 m m' → zV m' → (zuw (m 113) (m' 113)) → (qUr (m 113) (m' 113) (m' 110) 16) → P none m' := by
    intro m' hf z q0 q1
    have e := zov_eq hf
    rw [e] at z ⊢
    try rw [e] at q0
    try rw [e] at q1
    exact KZ m' z q0 q1
  refine g_199_0  ?_
  have li1 : (0 : Int32).toInt = 0 := rfl
  exact lp_199r_2 hV K _ _ ((0 : Int32)) rfl zF_rfl hV (by omega) (by omega) (show zuw (m 113) (m 113) from by first | (exact zuw_rfl) | (exfalso; omega; done) | (exfalso; contradiction; done)) (show qUr (m 113) (m 113) (m 110) (0 : Int32).toInt from by first | (exact Ur_0 (by decide)) | (exfalso; omega; done) | (exfalso; contradiction; done))
