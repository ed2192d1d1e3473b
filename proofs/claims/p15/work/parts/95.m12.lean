/-! COUNTS, the class (written by wip/tools/gen20k.py) -/
/-! COUNTS, the class: those on the stack go last -/
theorem i32_sc (p q r : Int32) : p - q - r = p - r - q := by
  rw [Int32.sub_eq_add_neg (p - q), Int32.sub_eq_add_neg p q, Int32.add_assoc, Int32.add_comm (-q), ← Int32.add_assoc, ← Int32.sub_eq_add_neg, ← Int32.sub_eq_add_neg]
theorem i32_ac (p q r : Int32) : p + q + r = p + r + q := by
  rw [Int32.add_assoc, Int32.add_comm q, ← Int32.add_assoc]
theorem ite_cm {P Q : Prop} [Decidable P] [Decidable Q] {x z : Int32} : (if P then x else if Q then x else z) = (if Q then x else if P then x else z) := by
  by_cases p : P
  · rw [if_pos p]
    by_cases q : Q
    · rw [if_pos q]
    · rw [if_neg q, if_pos p]
  · rw [if_neg p]
    by_cases q : Q
    · rw [if_pos q, if_pos q]
    · rw [if_neg q, if_neg q, if_neg p]
def cRa (a : Nat → Nat → Int32) : List (Int32 × Int32) → Nat → Nat → Int32
  | [] => a
  | q :: t => cRa (aRm a q.1) t
def cZ (a : Nat → Nat → Int32) : List (Int32 × Int32) → List (List Int32)
  | [] => []
  | q :: t => cLs a q.1.toNatClampNeg q.2.toInt.toNat :: cZ a t
def cNi (l : List (Int32 × Int32)) (n : Nat) : Prop := ∀ q, q ∈ l → n ≠ q.1.toNatClampNeg
def cDs : List (Int32 × Int32) → Prop
  | [] => True
  | q :: t => cNi t q.1.toNatClampNeg ∧ cDs t
def cYs (a : Nat → Nat → Int32) (l : List (Int32 × Int32)) : Prop := ∀ q, q ∈ l → 0 ≤ q.1.toInt ∧ xAl a q.1.toNatClampNeg ∧ (0 ≤ q.2.toInt ∧ q.2.toInt ≤ (a 128 q.1.toNatClampNeg).toInt - 1) ∧ ∀ j : Int32, 0 ≤ j.toInt → j.toInt < q.2.toInt → (aRef a q.1.toNatClampNeg j).toInt < 0
/-- the class's heap, its stack and its counts -/
def cC (a : Nat → Nat → Int32) (l : List (Int32 × Int32)) (K : Nat → Int32) (B : Int) : Prop := cQI a ∧ cYs a l ∧ cDs l ∧ cV (cRa a l) (cZ a l) B ∧ ∀ n, xAl (cRa a l) n → K n = Int32.ofInt (cRf (cRa a l) n + (cOc (cZ a l) n : Int))
section CS
variable {a b : Nat → Nat → Int32} {x y i j r : Int32} {n m k u c : Nat} {l t : List (Int32 × Int32)} {q : Int32 × Int32} {K K' : Nat → Int32} {B : Int}
theorem rm_co (hc : c < 126) (h1 : c ≠ 71) (h2 : c ≠ 73) (h3 : c ≠ 69) : aRm a y c k = a c k := congrFun (rm_126 hc h1 h2 h3) k
theorem rm_11 : aRm a y 69 11 = a 69 11 + a 128 y.toNatClampNeg := by
  unfold aRm
  rw [xu_s]
theorem rm_cm (hx : 0 ≤ x.toInt) (hy : 0 ≤ y.toInt) (hne : x.toNatClampNeg ≠ y.toNatClampNeg) : aRm (aRm a x) y = aRm (aRm a y) x := by
  funext c k
  have s1 : aRm a x 128 y.toNatClampNeg = a 128 y.toNatClampNeg := rm_rw (by decide) (by decide) (fun w => hne w.symm)
  have s2 : aRm a y 128 x.toNatClampNeg = a 128 x.toNatClampNeg := rm_rw (by decide) (by decide) hne
  have p1 : aRm a x 130 y.toNatClampNeg = a 130 y.toNatClampNeg := rm_rw (by decide) (by decide) (fun w => hne w.symm)
  have p2 : aRm a y 130 x.toNatClampNeg = a 130 x.toNatClampNeg := rm_rw (by decide) (by decide) hne
  by_cases h : 126 ≤ c
  · rw [rm_hi h, rm_hi h]
    unfold zNo
    rw [rm_hi h, rm_hi h]
    unfold zNo
    exact ite_cm
  · by_cases h71 : c = 71
    · rw [h71, rm_71, rm_71, s1, s2, p1, p2]
      unfold zFr
      rw [rm_71, rm_71]
      unfold zFr
      exact ite_cm
    · by_cases h73 : c = 73
      · rw [h73, rm_73, rm_73]
        unfold zUw
        rw [rm_73, rm_73]
        unfold zUw
        by_cases w1 : (k : Int) < 16 ∧ a 73 k = x
        · rw [if_pos (c := 73 = 73 ∧ (k : Int) < 16 ∧ a 73 k = x) ⟨rfl, w1⟩]
          by_cases w2 : (k : Int) < 16 ∧ a 73 k = y
          · exact absurd (w1.2.symm.trans w2.2) (fun e => hne (by rw [e]))
          · rw [if_neg (c := 73 = 73 ∧ (k : Int) < 16 ∧ a 73 k = y) (fun w => w2 w.2), if_pos (c := 73 = 73 ∧ (k : Int) < 16 ∧ a 73 k = x) ⟨rfl, w1⟩]
            split <;> rfl
        · rw [if_neg (c := 73 = 73 ∧ (k : Int) < 16 ∧ a 73 k = x) (fun w => w1 w.2)]
          by_cases w2 : (k : Int) < 16 ∧ a 73 k = y
          · rw [if_pos (c := 73 = 73 ∧ (k : Int) < 16 ∧ a 73 k = y) ⟨rfl, w2⟩]
            split <;> rfl
          · rw [if_neg (c := 73 = 73 ∧ (k : Int) < 16 ∧ a 73 k = y) (fun w => w2 w.2), if_neg (c := 73 = 73 ∧ (k : Int) < 16 ∧ a 73 k = x) (fun w => w1 w.2)]
      · by_cases h69 : c = 69
        · rw [h69]
          by_cases k8 : k = 8
          · rw [k8, rm_8, rm_8, rm_8, rm_8, s1, s2]
            exact i32_sc _ _ _
          · by_cases k11 : k = 11
            · rw [k11, rm_11, rm_11, rm_11, rm_11, s1, s2]
              exact i32_ac _ _ _
            · have o : ∀ (e : Nat → Nat → Int32) (z : Int32), aRm e z 69 k = e 69 k := fun e z => aRm_o (by decide) ⟨by decide, by decide, fun w => k8 w.2, fun w => k11 w.2⟩
              rw [o, o, o, o]
        · rw [rm_co (by omega) h71 h73 h69, rm_co (by omega) h71 h73 h69, rm_co (by omega) h71 h73 h69, rm_co (by omega) h71 h73 h69]
theorem gr_at : aGr a y c k = if c = 73 then zUw a y 16 73 k else if c = 134 ∧ k = y.toNatClampNeg then 0 else if (a 69 5).toInt < 512 ∧ c = 74 ∧ k = (a 69 5).toNatClampNeg then y else if (a 69 5).toInt < 512 ∧ c = 69 ∧ k = 5 then a 69 5 + 1 else a c k := by
  by_cases h : (a 69 5).toInt < 512
  · have e : aGr a y = ma_u (ma_u (ma_u (zUw a y 16) 134 y.toNatClampNeg 0) 74 (a 69 5).toNatClampNeg y) 69 5 (a 69 5 + 1) := if_pos h
    rw [e]
    by_cases h73 : c = 73
    · rw [if_pos h73, h73, xu_o (by omega), xu_o (by omega), xu_o (by omega)]
    · rw [if_neg h73]
      by_cases h134 : c = 134 ∧ k = y.toNatClampNeg
      · rw [if_pos h134, h134.1, h134.2, xu_o (by omega), xu_o (by omega), xu_s]
      · rw [if_neg h134]
        by_cases h74 : c = 74 ∧ k = (a 69 5).toNatClampNeg
        · rw [if_pos ⟨h, h74⟩, h74.1, h74.2, xu_o (by omega), xu_s]
        · rw [if_neg (fun w => h74 w.2)]
          by_cases h69 : c = 69 ∧ k = 5
          · rw [if_pos ⟨h, h69⟩, h69.1, h69.2, xu_s]
          · rw [if_neg (fun w => h69 w.2), xu_o h69, xu_o h74, xu_o h134, zUw_o h73]
  · have e : aGr a y = ma_u (zUw a y 16) 134 y.toNatClampNeg 0 := if_neg h
    rw [e]
    by_cases h73 : c = 73
    · rw [if_pos h73, h73, xu_o (by omega)]
    · rw [if_neg h73]
      by_cases h134 : c = 134 ∧ k = y.toNatClampNeg
      · rw [if_pos h134, h134.1, h134.2, xu_s]
      · rw [if_neg h134, if_neg (fun w => h w.1), if_neg (fun w => h w.1), xu_o h134, zUw_o h73]
theorem gr_rm (hx : 0 ≤ x.toInt) (hy : 0 ≤ y.toInt) (hne : x.toNatClampNeg ≠ y.toNatClampNeg) : aGr (aRm a x) y = aRm (aGr a y) x := by
  funext c k
  have e5 : aRm a x 69 5 = a 69 5 := aRm_o (by decide) ⟨by decide, by decide, by decide, by decide⟩
  have gs : aGr a y 128 x.toNatClampNeg = a 128 x.toNatClampNeg := congrFun (gr_r (by decide) (by decide) (by decide) (by decide)) _
  have gp : aGr a y 130 x.toNatClampNeg = a 130 x.toNatClampNeg := congrFun (gr_r (by decide) (by decide) (by decide) (by decide)) _
  by_cases h73 : c = 73
  · rw [h73, gr_at, if_pos rfl, rm_73]
    unfold zUw
    rw [rm_73, gr_at, if_pos rfl]
    unfold zUw
    by_cases w1 : (k : Int) < 16 ∧ a 73 k = x
    · rw [if_pos (c := 73 = 73 ∧ (k : Int) < 16 ∧ a 73 k = x) ⟨rfl, w1⟩]
      by_cases w2 : (k : Int) < 16 ∧ a 73 k = y
      · exact absurd (w1.2.symm.trans w2.2) (fun e => hne (by rw [e]))
      · rw [if_neg (c := 73 = 73 ∧ (k : Int) < 16 ∧ a 73 k = y) (fun w => w2 w.2), if_pos (c := 73 = 73 ∧ (k : Int) < 16 ∧ a 73 k = x) ⟨rfl, w1⟩]
        split <;> rfl
    · rw [if_neg (c := 73 = 73 ∧ (k : Int) < 16 ∧ a 73 k = x) (fun w => w1 w.2)]
      by_cases w2 : (k : Int) < 16 ∧ a 73 k = y
      · rw [if_pos (c := 73 = 73 ∧ (k : Int) < 16 ∧ a 73 k = y) ⟨rfl, w2⟩]
        split <;> rfl
      · rw [if_neg (c := 73 = 73 ∧ (k : Int) < 16 ∧ a 73 k = y) (fun w => w2 w.2), if_neg (c := 73 = 73 ∧ (k : Int) < 16 ∧ a 73 k = x) (fun w => w1 w.2)]
  · rw [gr_at, if_neg h73, e5]
    by_cases h : 126 ≤ c
    · rw [if_neg (c := (a 69 5).toInt < 512 ∧ c = 74 ∧ k = (a 69 5).toNatClampNeg) (fun w => by omega), if_neg (c := (a 69 5).toInt < 512 ∧ c = 69 ∧ k = 5) (fun w => by omega), rm_hi h, rm_hi h]
      unfold zNo
      rw [gr_at, if_neg h73, if_neg (c := (a 69 5).toInt < 512 ∧ c = 74 ∧ k = (a 69 5).toNatClampNeg) (fun w => by omega), if_neg (c := (a 69 5).toInt < 512 ∧ c = 69 ∧ k = 5) (fun w => by omega)]
      exact ite_cm
    · rw [if_neg (c := c = 134 ∧ k = y.toNatClampNeg) (fun w => by omega)]
      by_cases h71 : c = 71
      · rw [h71, if_neg (by omega), if_neg (by omega), rm_71, rm_71, gs, gp]
        unfold zFr
        rw [show aGr a y 71 k = a 71 k from congrFun (gr_r (by decide) (by decide) (by decide) (by decide)) k]
      · by_cases h69 : c = 69
        · rw [h69]
          by_cases k8 : k = 8
          · rw [k8, if_neg (by omega), if_neg (by omega), rm_8, rm_8, gs, gr_at, if_neg (by decide), if_neg (by omega), if_neg (by omega), if_neg (by omega)]
          · by_cases k11 : k = 11
            · rw [k11, if_neg (by omega), if_neg (by omega), rm_11, rm_11, gs, gr_at, if_neg (by decide), if_neg (by omega), if_neg (by omega), if_neg (by omega)]
            · have o : ∀ (e : Nat → Nat → Int32) (z : Int32), aRm e z 69 k = e 69 k := fun e z => aRm_o (by decide) ⟨by decide, by decide, fun w => k8 w.2, fun w => k11 w.2⟩
              rw [o, o, gr_at, if_neg (c := (69 : Nat) = 73) (by decide), if_neg (c := (69 : Nat) = 134 ∧ k = y.toNatClampNeg) (fun w => by omega)]
        · rw [rm_co (by omega) h71 h73 h69, rm_co (by omega) h71 h73 h69, gr_at, if_neg h73, if_neg (c := c = 134 ∧ k = y.toNatClampNeg) (fun w => by omega)]
theorem rm_w (hI : cQI a) (h : qWp a m i) (h0 : 0 ≤ y.toInt) (hm : m = y.toNatClampNeg) : aRm (ma_u a 71 (a 130 m + 1 + i).toNatClampNeg x) y = aRm a y := by
  have q := cwp_i hI h
  have cq := tn_cast q.2.1
  have hy1 := hI.1 _ h.1
  have hi := h.2
  rw [hm] at q cq hy1 hi ⊢
  have es : (a 130 y.toNatClampNeg + a 128 y.toNatClampNeg).toInt = (a 130 y.toNatClampNeg).toInt + (a 128 y.toNatClampNeg).toInt := i_add (by omega) (by omega)
  have em : zMin (a 130 y.toNatClampNeg + a 128 y.toNatClampNeg).toInt = (a 130 y.toNatClampNeg).toInt + (a 128 y.toNatClampNeg).toInt := by
    unfold zMin
    rw [es]
    split <;> omega
  funext c k
  by_cases h : 126 ≤ c
  · rw [rm_hi h, rm_hi h]
    unfold zNo
    rw [un (by omega)]
  · by_cases h71 : c = 71
    · rw [h71, rm_71, rm_71, un (n := 130) (by decide), un (n := 128) (by decide), em]
      unfold zFr
      by_cases z : (71 : Nat) = 71 ∧ (a 130 y.toNatClampNeg).toInt ≤ (k : Int) ∧ (k : Int) < (a 130 y.toNatClampNeg).toInt + (a 128 y.toNatClampNeg).toInt
      · rw [if_pos z, if_pos z]
      · rw [if_neg z, if_neg z, xu_o (fun w => z ⟨rfl, by omega, by omega⟩)]
    · by_cases h73 : c = 73
      · rw [h73, rm_73, rm_73]
        unfold zUw
        rw [un (n := 73) (by decide)]
      · by_cases h69 : c = 69
        · rw [h69]
          by_cases k8 : k = 8
          · rw [k8, rm_8, rm_8, un (n := 69) (by decide), un (n := 128) (by decide)]
          · by_cases k11 : k = 11
            · rw [k11, rm_11, rm_11, un (n := 69) (by decide), un (n := 128) (by decide)]
            · have o : ∀ (e : Nat → Nat → Int32) (z : Int32), aRm e z 69 k = e 69 k := fun e z => aRm_o (by decide) ⟨by decide, by decide, fun w => k8 w.2, fun w => k11 w.2⟩
              rw [o, o, un (n := 69) (by decide)]
        · rw [rm_co (by omega) h71 h73 h69, rm_co (by omega) h71 h73 h69, un h71]
theorem Ra_rm : ∀ (l : List (Int32 × Int32)) (a : Nat → Nat → Int32), (∀ q, q ∈ l → 0 ≤ q.1.toInt) → 0 ≤ y.toInt → cNi l y.toNatClampNeg → aRm (cRa a l) y = cRa (aRm a y) l := by
  intro l
  induction l with
  | nil => intro a _ _ _; rfl
  | cons q t ih =>
    intro a h hy hn
    show aRm (cRa (aRm a q.1) t) y = cRa (aRm (aRm a y) q.1) t
    rw [ih (aRm a q.1) (fun p hp => h p (List.mem_cons_of_mem _ hp)) hy (fun p hp => hn p (List.mem_cons_of_mem _ hp)), rm_cm (h q List.mem_cons_self) hy (fun e => hn q List.mem_cons_self e.symm)]
theorem Ra_gr : ∀ (l : List (Int32 × Int32)) (a : Nat → Nat → Int32), (∀ q, q ∈ l → 0 ≤ q.1.toInt) → 0 ≤ y.toInt → cNi l y.toNatClampNeg → aGr (cRa a l) y = cRa (aGr a y) l := by
  intro l
  induction l with
  | nil => intro a _ _ _; rfl
  | cons q t ih =>
    intro a h hy hn
    show aGr (cRa (aRm a q.1) t) y = cRa (aRm (aGr a y) q.1) t
    rw [ih (aRm a q.1) (fun p hp => h p (List.mem_cons_of_mem _ hp)) hy (fun p hp => hn p (List.mem_cons_of_mem _ hp)), gr_rm (h q List.mem_cons_self) hy (fun e => hn q List.mem_cons_self e.symm)]
theorem Ra_rw (h : 126 ≤ c) (h1 : c < 1000) : ∀ (l : List (Int32 × Int32)) (a : Nat → Nat → Int32), cNi l n → cRa a l c n = a c n := by
  intro l
  induction l with
  | nil => intro a _; rfl
  | cons q t ih =>
    intro a hn
    show cRa (aRm a q.1) t c n = a c n
    rw [ih _ (fun p hp => hn p (List.mem_cons_of_mem _ hp)), rm_rw h h1 (hn q List.mem_cons_self)]
theorem Ra_al : ∀ (l : List (Int32 × Int32)) (a : Nat → Nat → Int32), (∀ q, q ∈ l → 0 ≤ q.1.toInt) → (xAl (cRa a l) n ↔ xAl a n ∧ cNi l n) := by
  intro l
  induction l with
  | nil => intro a _; exact ⟨fun w => ⟨w, fun q h => absurd h (List.not_mem_nil)⟩, fun w => w.1⟩
  | cons q t ih =>
    intro a h
    show xAl (cRa (aRm a q.1) t) n ↔ _
    rw [ih (aRm a q.1) (fun p hp => h p (List.mem_cons_of_mem _ hp)), rm_al (h q List.mem_cons_self)]
    constructor
    · rintro ⟨⟨w1, w2⟩, w3⟩
      refine ⟨w1, fun p hp => ?_⟩
      rcases List.mem_cons.mp hp with e | e
      · rw [e]; exact w2
      · exact w3 p e
    · rintro ⟨w1, w3⟩
      exact ⟨⟨w1, w3 q List.mem_cons_self⟩, fun p hp => w3 p (List.mem_cons_of_mem _ hp)⟩
theorem Ra_rf : ∀ (l : List (Int32 × Int32)) (a : Nat → Nat → Int32), cQI a → (∀ q, q ∈ l → 0 ≤ q.1.toInt ∧ xAl a q.1.toNatClampNeg) → cDs l → cNi l u → qWp a u j → aRef (cRa a l) u j = aRef a u j := by
  intro l
  induction l with
  | nil => intro a _ _ _ _ _; rfl
  | cons q t ih =>
    intro a hI h hd hn hw
    have h0 := h q List.mem_cons_self
    have hu := hn q List.mem_cons_self
    show aRef (cRa (aRm a q.1) t) u j = _
    rw [ih (aRm a q.1) (cQ_rm h0.1 hI) (fun p hp => ⟨(h p (List.mem_cons_of_mem _ hp)).1, (rm_al h0.1).mpr ⟨(h p (List.mem_cons_of_mem _ hp)).2, fun e => hd.1 p hp e.symm⟩⟩) hd.2 (fun p hp => hn p (List.mem_cons_of_mem _ hp)) ((Wp_rm h0.1).mpr ⟨hw, hu⟩), crf_rm hI h0.1 h0.2 hu hw]
theorem Ra_5 : ∀ (l : List (Int32 × Int32)) (a : Nat → Nat → Int32), cRa a l 69 5 = a 69 5 := by
  intro l
  induction l with
  | nil => intro a; rfl
  | cons q t ih =>
    intro a
    show cRa (aRm a q.1) t 69 5 = a 69 5
    rw [ih, aRm_o (by decide) ⟨by decide, by decide, by decide, by decide⟩]
theorem Z_cg : ∀ (l : List (Int32 × Int32)), (∀ q, q ∈ l → cLs b q.1.toNatClampNeg q.2.toInt.toNat = cLs a q.1.toNatClampNeg q.2.toInt.toNat) → cZ b l = cZ a l := by
  intro l
  induction l with
  | nil => intro _; rfl
  | cons q t ih =>
    intro h
    show cLs b q.1.toNatClampNeg q.2.toInt.toNat :: cZ b t = cLs a q.1.toNatClampNeg q.2.toInt.toNat :: cZ a t
    rw [h q List.mem_cons_self, ih (fun p hp => h p (List.mem_cons_of_mem _ hp))]
/-- the last one goes -/
theorem C_pop (h : cC a ((y, i) :: t) K B) (hi : ¬ i.toInt < (a 128 y.toNatClampNeg).toInt - 1) (hK : ∀ n, xAl a n → n ≠ y.toNatClampNeg → K' n = K n - Int32.ofNat (cOb a y.toNatClampNeg n)) : cC (aRm a y) t K' B ∧ cSt (cRa a ((y, i) :: t), cZ a ((y, i) :: t)) = (cRa (aRm a y) t, cZ (aRm a y) t) ∧ cLm (cZ (aRm a y) t) + cMs (cRa (aRm a y) t) < cLm (cZ a ((y, i) :: t)) + cMs (cRa a ((y, i) :: t)) := by
  obtain ⟨hI, hY, hd, hV, hk⟩ := h
  have hy4 : 0 ≤ y.toInt ∧ xAl a y.toNatClampNeg ∧ (0 ≤ i.toInt ∧ i.toInt ≤ (a 128 y.toNatClampNeg).toInt - 1) ∧ ∀ j : Int32, 0 ≤ j.toInt → j.toInt < i.toInt → (aRef a y.toNatClampNeg j).toInt < 0 := hY (y, i) List.mem_cons_self
  obtain ⟨y0, ya, yi, yr⟩ := hy4
  have hI' := cQ_rm y0 hI
  have hz : cLs a y.toNatClampNeg i.toInt.toNat = [] := cLs_0 (by have := yi.1; omega)
  have e0 : cZ a ((y, i) :: t) = [] :: cZ a t := congrArg (fun q => q :: cZ a t) hz
  have hc : ∀ q, q ∈ t → cLs (aRm a y) q.1.toNatClampNeg q.2.toInt.toNat = cLs a q.1.toNatClampNeg q.2.toInt.toNat := fun q hq => by
    have w := hY q (List.mem_cons_of_mem _ hq)
    have ne : q.1.toNatClampNeg ≠ y.toNatClampNeg := fun e => hd.1 q hq e.symm
    exact cLs_cg (rm_rw (by decide) (by decide) ne) (fun j _ hj => crf_rm hI y0 ya ne (wp_N hI w.2.1 hj))
  have e1 : cZ (aRm a y) t = cZ a t := Z_cg t hc
  have e2 : cRa a ((y, i) :: t) = cRa (aRm a y) t := rfl
  rw [e0, e2] at hV hk
  have ob : ∀ n, n < 512 → cOb a y.toNatClampNeg n = 0 := fun n hn => cSu_z _ (fun k hk => by
    have q := hI.1 _ ya
    have e := ofN_s (s := k) (by omega)
    exact cIs_n (yr (Int32.ofNat k) (by omega) (by show (Int32.ofNat k).toInt < i.toInt; omega)) hn)
  rw [e0, e2, e1]
  refine ⟨⟨hI', fun q hq => ?_, hd.2, ?_, fun n hn => ?_⟩, rfl, ?_⟩
  · have w := hY q (List.mem_cons_of_mem _ hq)
    have ne : q.1.toNatClampNeg ≠ y.toNatClampNeg := fun e => hd.1 q hq e.symm
    refine ⟨w.1, (rm_al y0).mpr ⟨w.2.1, ne⟩, ?_, fun j j0 j1 => ?_⟩
    · rw [rm_rw (by decide) (by decide) ne]; exact w.2.2.1
    · have w3 := w.2.2.1
      rw [crf_rm hI y0 ya ne ⟨w.2.1, j0, by omega⟩]
      exact w.2.2.2 j j0 j1
  · rw [e1]
    obtain ⟨v1, v2, v3, v4, v5, v6⟩ := hV
    refine ⟨v1, v2, fun l hl => v3 l (List.mem_cons_of_mem _ hl), v4, v5, ?_⟩
    have : cLm ([] :: cZ a t) = 0 + 1 + cLm (cZ a t) := rfl
    omega
  · rw [e1]
    have q := hk n hn
    have w := (Ra_al t (aRm a y) (fun q hq => (hY q (List.mem_cons_of_mem _ hq)).1)).mp hn
    have w2 := (rm_al y0).mp w.1
    rw [hK n w2.1 w2.2, ob n w2.1.1, show Int32.ofNat 0 = 0 from rfl, Int32.sub_zero, q]
    have : cOc ([] :: cZ a t) n = 0 + cOc (cZ a t) n := rfl
    rw [this, Nat.zero_add]
  · have : cLm ([] :: cZ a t) = 0 + 1 + cLm (cZ a t) := rfl
    omega
end CS
/-! COUNTS, the class: a word is dropped, one falls -/
section CT
variable {a b : Nat → Nat → Int32} {x y i j r : Int32} {n m k u c : Nat} {l t : List (Int32 × Int32)} {q : Int32 × Int32} {K K' : Nat → Int32} {B : Int}
theorem V_tl {st : List (List Int32)} {l0 : List Int32} (h : cV a ((r :: l0) :: st) B) : cV a (l0 :: st) B := by
  obtain ⟨v1, v2, v3, v4, v5, v6⟩ := h
  refine ⟨v1, v2, fun l hl x hx => ?_, v4, v5, ?_⟩
  · rcases List.mem_cons.mp hl with e | e
    · rw [e] at hx
      exact v3 (r :: l0) List.mem_cons_self x (List.mem_cons_of_mem _ hx)
    · exact v3 l (List.mem_cons_of_mem _ e) x hx
  · have e1 : cLm ((r :: l0) :: st) = l0.length + 1 + 1 + cLm st := rfl
    have e2 : cLm (l0 :: st) = l0.length + 1 + cLm st := rfl
    omega
theorem Oc_tl {st : List (List Int32)} {l0 : List Int32} : cOc ((r :: l0) :: st) n = cIs r n + cOc (l0 :: st) n := Nat.add_assoc _ _ _
/-- a word that does not refer is passed over -/
theorem C_d0 (h : cC a ((y, i) :: t) K B) (hi : i.toInt < (a 128 y.toNatClampNeg).toInt - 1) (hb : a (1000 + y.toNatClampNeg) i.toNatClampNeg = 0) : cC a ((y, i + 1) :: t) K B ∧ cSt (cRa a ((y, i) :: t), cZ a ((y, i) :: t)) = (cRa a ((y, i + 1) :: t), cZ a ((y, i + 1) :: t)) ∧ cLm (cZ a ((y, i + 1) :: t)) + cMs (cRa a ((y, i + 1) :: t)) < cLm (cZ a ((y, i) :: t)) + cMs (cRa a ((y, i) :: t)) := by
  obtain ⟨hI, hY, hd, hV, hk⟩ := h
  have hy4 : 0 ≤ y.toInt ∧ xAl a y.toNatClampNeg ∧ (0 ≤ i.toInt ∧ i.toInt ≤ (a 128 y.toNatClampNeg).toInt - 1) ∧ ∀ j : Int32, 0 ≤ j.toInt → j.toInt < i.toInt → (aRef a y.toNatClampNeg j).toInt < 0 := hY (y, i) List.mem_cons_self
  obtain ⟨y0, ya, yi, yr⟩ := hy4
  have yi1 : 0 ≤ i.toInt := yi.1
  have qs := hI.1 _ ya
  have e1 := i_p1 (i := i) (by omega)
  have hr : aRef a y.toNatClampNeg i = -1 := aRef_no (fun w => w.1 hb)
  have hs : cLs a y.toNatClampNeg i.toInt.toNat = (-1) :: cLs a y.toNatClampNeg (i + 1).toInt.toNat := by
    rw [cLs_s (k := i.toInt.toNat) (by omega), ofN_k yi1, hr, show (i + 1).toInt.toNat = i.toInt.toNat + 1 from by omega]
  have e0 : cZ a ((y, i) :: t) = ((-1) :: cLs a y.toNatClampNeg (i + 1).toInt.toNat) :: cZ a t := congrArg (fun q => q :: cZ a t) hs
  have e2 : cZ a ((y, i + 1) :: t) = cLs a y.toNatClampNeg (i + 1).toInt.toNat :: cZ a t := rfl
  have e3 : cRa a ((y, i + 1) :: t) = cRa a ((y, i) :: t) := rfl
  rw [e0] at hV hk
  rw [e0, e2, e3]
  refine ⟨⟨hI, fun q hq => ?_, hd, ?_, fun n hn => ?_⟩, cSt_n (by decide), ?_⟩
  · rcases List.mem_cons.mp hq with e | e
    · rw [e]
      refine ⟨y0, ya, ⟨by show 0 ≤ (i + 1).toInt; omega, by show (i + 1).toInt ≤ (a 128 y.toNatClampNeg).toInt - 1; omega⟩, fun j j0 j1 => ?_⟩
      have j2 : j.toInt < (i + 1).toInt := j1
      by_cases w : j.toInt < i.toInt
      · exact yr j j0 w
      · have ej : j = i := Int32.toInt_inj.mp (by omega)
        show (aRef a y.toNatClampNeg j).toInt < 0
        rw [ej, hr]
        decide
    · exact hY q (List.mem_cons_of_mem _ e)
  · rw [e2, e3]; exact V_tl hV
  · rw [e3] at hn
    rw [e2, e3, hk n hn, Oc_tl, cIs_n (by decide) hn.1, Nat.zero_add]
  · have f1 : cLm (((-1) :: cLs a y.toNatClampNeg (i + 1).toInt.toNat) :: cZ a t) = (cLs a y.toNatClampNeg (i + 1).toInt.toNat).length + 1 + 1 + cLm (cZ a t) := rfl
    have f2 : cLm (cLs a y.toNatClampNeg (i + 1).toInt.toNat :: cZ a t) = (cLs a y.toNatClampNeg (i + 1).toInt.toNat).length + 1 + cLm (cZ a t) := rfl
    omega
/-- a REFERENCE is dropped -/
theorem C_dr (h : cC a ((y, i) :: t) K B) (hi : i.toInt < (a 128 y.toNatClampNeg).toInt - 1) (hb : a (1000 + y.toNatClampNeg) i.toNatClampNeg ≠ 0) (hK : ∀ n, xAl a n → K' n = K n - Int32.ofNat (cIs (aRef a y.toNatClampNeg i) n)) (hbe : b = ma_u a 71 (a 130 y.toNatClampNeg + 1 + i).toNatClampNeg (-1)) : cC b ((y, i + 1) :: t) K' B ∧ cRa b ((y, i + 1) :: t) = cRa a ((y, i) :: t) ∧ ∃ l0 t0, cZ a ((y, i) :: t) = (aRef a y.toNatClampNeg i :: l0) :: t0 ∧ cZ b ((y, i + 1) :: t) = l0 :: t0 := by
  obtain ⟨hI, hY, hd, hV, hk⟩ := h
  have hy4 : 0 ≤ y.toInt ∧ xAl a y.toNatClampNeg ∧ (0 ≤ i.toInt ∧ i.toInt ≤ (a 128 y.toNatClampNeg).toInt - 1) ∧ ∀ j : Int32, 0 ≤ j.toInt → j.toInt < i.toInt → (aRef a y.toNatClampNeg j).toInt < 0 := hY (y, i) List.mem_cons_self
  obtain ⟨y0, ya, yi, yr⟩ := hy4
  have yi1 : 0 ≤ i.toInt := yi.1
  have qs := hI.1 _ ya
  have e1 := i_p1 (i := i) (by omega)
  have wp : qWp a y.toNatClampNeg i := ⟨ya, yi1, hi⟩
  have r128 : b 128 = a 128 := by rw [hbe]; exact un (by decide)
  have ral : xAl b = xAl a := by rw [hbe]; exact Al_71
  have rrf : ∀ u j, qWp a u j → ¬ (u = y.toNatClampNeg ∧ j = i) → aRef b u j = aRef a u j := fun u j w z => by
    rw [hbe, crf_w hI wp w, if_neg z]
  have rri : aRef b y.toNatClampNeg i = -1 := by
    rw [hbe, crf_w hI wp wp, if_pos ⟨rfl, rfl⟩, if_pos hb]
  have hs : cLs a y.toNatClampNeg i.toInt.toNat = aRef a y.toNatClampNeg i :: cLs a y.toNatClampNeg (i + 1).toInt.toNat := by
    rw [cLs_s (k := i.toInt.toNat) (by omega), ofN_k yi1, show (i + 1).toInt.toNat = i.toInt.toNat + 1 from by omega]
  have e0 : cZ a ((y, i) :: t) = (aRef a y.toNatClampNeg i :: cLs a y.toNatClampNeg (i + 1).toInt.toNat) :: cZ a t := congrArg (fun q => q :: cZ a t) hs
  have z1 : cLs b y.toNatClampNeg (i + 1).toInt.toNat = cLs a y.toNatClampNeg (i + 1).toInt.toNat := cLs_cg (congrFun r128 _) (fun j hj h2 => rrf _ _ (wp_N hI ya h2) (fun w => by
    have e := congrArg Int32.toInt w.2
    rw [ofN_s (by omega)] at e
    omega))
  have z2 : cZ b t = cZ a t := Z_cg t (fun q hq => cLs_cg (congrFun r128 _) (fun j _ h2 => rrf _ _ (wp_N hI (hY q (List.mem_cons_of_mem _ hq)).2.1 h2) (fun w => hd.1 q hq w.1.symm)))
  have e2 : cZ b ((y, i + 1) :: t) = cLs a y.toNatClampNeg (i + 1).toInt.toNat :: cZ a t := by
    show cLs b y.toNatClampNeg (i + 1).toInt.toNat :: cZ b t = _
    rw [z1, z2]
  have e3 : cRa b ((y, i + 1) :: t) = cRa a ((y, i) :: t) := by
    show cRa (aRm b y) t = cRa (aRm a y) t
    rw [hbe, rm_w hI wp y0 rfl]
  rw [e0] at hV hk
  refine ⟨⟨by rw [hbe]; exact cQ_71 hI, fun q hq => ?_, hd, ?_, fun n hn => ?_⟩, e3, _, _, e0, e2⟩
  · rw [ral, r128]
    rcases List.mem_cons.mp hq with e | e
    · rw [e]
      refine ⟨y0, ya, ⟨by show 0 ≤ (i + 1).toInt; omega, by show (i + 1).toInt ≤ (a 128 y.toNatClampNeg).toInt - 1; omega⟩, fun j j0 j1 => ?_⟩
      have j2 : j.toInt < (i + 1).toInt := j1
      show (aRef b y.toNatClampNeg j).toInt < 0
      by_cases w : j.toInt < i.toInt
      · rw [rrf _ _ ⟨ya, j0, by omega⟩ (fun z => by rw [z.2] at w; omega)]
        exact yr j j0 w
      · have ej : j = i := Int32.toInt_inj.mp (by omega)
        rw [ej, rri]
        decide
    · have w := hY q (List.mem_cons_of_mem _ e)
      refine ⟨w.1, w.2.1, w.2.2.1, fun j j0 j1 => ?_⟩
      have w3 := w.2.2.1
      rw [rrf _ _ ⟨w.2.1, j0, by omega⟩ (fun z => hd.1 q e z.1.symm)]
      exact w.2.2.2 j j0 j1
  · rw [e2, e3]; exact V_tl hV
  · rw [e3] at hn
    have w := (Ra_al ((y, i) :: t) a (fun q hq => (hY q hq).1)).mp hn
    rw [e2, e3, hK n w.1, hk n hn, Oc_tl, ← Int32.ofInt_eq_ofNat (n := cIs (aRef a y.toNatClampNeg i) n), ← Int32.ofInt_sub]
    exact congrArg Int32.ofInt (by omega)
/-- who falls is there, and not on the stack -/
theorem C_al (h : cC a l K B) (hr : xAl (cRa a l) r.toNatClampNeg) : xAl a r.toNatClampNeg ∧ cNi l r.toNatClampNeg := (Ra_al l a (fun q hq => (h.2.1 q hq).1)).mp hr
theorem C_K (h : cC a l K B) (hB : B ≤ 1000000) (hr : xAl (cRa a l) n) : (K n).toInt = cRf (cRa a l) n + (cOc (cZ a l) n : Int) := by
  have q := Rf_bd h.2.2.2.1 hB hr
  rw [h.2.2.2.2 n hr]
  exact Int32.toInt_ofInt_of_le (by omega) (by omega)
theorem C_fp (h : cC a l K B) (hB : B ≤ 1000000) (hr : xAl (cRa a l) r.toNatClampNeg) (hK : 0 < (K r.toNatClampNeg).toInt) : cFa (cRa a l) (cZ a l) r = (cRa a l, cZ a l) := Fa_p (by rw [← C_K h hB hr]; exact hK)
theorem C_fg (h : cC a l K B) (hB : B ≤ 1000000) (h0 : 0 ≤ r.toInt) (hr : xAl (cRa a l) r.toNatClampNeg) (hK : ¬ 0 < (K r.toNatClampNeg).toInt) (hw : a 134 r.toNatClampNeg ≠ 0) (hK' : ∀ n, xAl a n → K' n = K n + (if (a 69 5).toInt < 512 then Int32.ofNat (cIs r n) else 0)) : cC (aGr a r) l K' B ∧ cFa (cRa a l) (cZ a l) r = (cRa (aGr a r) l, cZ (aGr a r) l) := by
  have al := C_al h hr
  have kk := C_K h hB hr
  obtain ⟨hI, hY, hd, hV, hk⟩ := h
  have e1 : aGr (cRa a l) r = cRa (aGr a r) l := Ra_gr l a (fun q hq => (hY q hq).1) h0 al.2
  have e2 : cZ (aGr a r) l = cZ a l := Z_cg l (fun q hq => cLs_cg (congrFun (gr_r (by decide) (by decide) (by decide) (by decide)) _) (fun j _ _ => gr_ref))
  have ga := gr_al (a := a) (y := r)
  refine ⟨⟨cQ_gr hI, fun q hq => ?_, hd, ?_, fun n hn => ?_⟩, ?_⟩
  · rw [ga, gr_r (n := 128) (by decide) (by decide) (by decide) (by decide), gr_ref']
    exact hY q hq
  · rw [e2, ← e1]; exact V_gr hV h0 hr
  · rw [← e1, gr_al] at hn
    have w := (Ra_al l a (fun q hq => (hY q hq).1)).mp hn
    rw [e2, ← e1, hK' n w.1, hk n hn]
    by_cases z : (a 69 5).toInt < 512
    · rw [if_pos z, Fr_gr hV h0 (by rw [Ra_5]; exact z), Int32.ofInt_add (cRf (cRa a l) n + _), Int32.ofInt_eq_ofNat]
    · rw [if_neg z, Rf_gn (by rw [Ra_5]; exact z), Int32.add_zero]
  · rw [e2, ← e1]
    exact Fa_g (by rw [← kk]; exact hK) (by rw [Ra_rw (by decide) (by decide) l a al.2]; exact hw)
theorem C_fr (h : cC a l K B) (hB : B ≤ 1000000) (h0 : 0 ≤ r.toInt) (hr : xAl (cRa a l) r.toNatClampNeg) (hK : ¬ 0 < (K r.toNatClampNeg).toInt) (hw : a 134 r.toNatClampNeg = 0) : cC a ((r, 0) :: l) K B ∧ cFa (cRa a l) (cZ a l) r = (cRa a ((r, 0) :: l), cZ a ((r, 0) :: l)) := by
  have al := C_al h hr
  have kk := C_K h hB hr
  obtain ⟨hI, hY, hd, hV, hk⟩ := h
  have e1 : aRm (cRa a l) r = cRa a ((r, 0) :: l) := Ra_rm l a (fun q hq => (hY q hq).1) h0 al.2
  have e2 : cLs (cRa a l) r.toNatClampNeg 0 = cLs a r.toNatClampNeg 0 := cLs_cg (Ra_rw (by decide) (by decide) l a al.2) (fun j _ hj => Ra_rf l a hI (fun q hq => ⟨(hY q hq).1, (hY q hq).2.1⟩) hd al.2 (wp_N hI al.1 hj))
  have e3 : cZ a ((r, 0) :: l) = cLs (cRa a l) r.toNatClampNeg 0 :: cZ a l := by
    rw [e2]; rfl
  have kz : ¬ 0 < cRf (cRa a l) r.toNatClampNeg + (cOc (cZ a l) r.toNatClampNeg : Int) := by rw [← kk]; exact hK
  have v := V_rm hV h0 hr kz
  have qs := hI.1 _ al.1
  refine ⟨⟨hI, fun q hq => ?_, ⟨al.2, hd⟩, ?_, fun n hn => ?_⟩, ?_⟩
  · rcases List.mem_cons.mp hq with e | e
    · rw [e]
      exact ⟨h0, al.1, ⟨by show 0 ≤ (0 : Int32).toInt; decide, by show (0 : Int32).toInt ≤ (a 128 r.toNatClampNeg).toInt - 1; rw [show (0 : Int32).toInt = 0 from rfl]; omega⟩, fun j j0 j1 => absurd j1 (by show ¬ j.toInt < (0 : Int32).toInt; rw [show (0 : Int32).toInt = 0 from rfl]; omega)⟩
    · exact hY q e
  · rw [e3, ← e1]; exact v.1
  · rw [← e1] at hn
    have w := (rm_al h0).mp hn
    rw [e3, ← e1, hk n w.1, Fr_rm hV h0 hr w.2]
  · rw [e3, ← e1]
    exact Fa_r kz (by rw [Ra_rw (by decide) (by decide) l a al.2]; exact hw)
end CT
