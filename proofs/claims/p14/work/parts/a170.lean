/-! from 95.m13 -/
/-! COUNTS, the class (written by wip/tools/gen20k.py) -/
/-! COUNTS, the class: what each counts -/
def kC (S : ma_S) : Nat → Int32 := aTf (mI S) (mR S 70) 6
def zKu (K : Nat → Int32) (n : Nat) (x : Int32) : Nat → Int32 := fun m => if m = n then x else K m
def xK (W : Nat) (S : ma_S) (ab : Nat → Nat → Int32) (R : Nat → Option Nat) (K : Nat → Int32) : Prop := xC W S ab R ∧ kC S = K
/-- counts are right -/
def kJ (a : Nat → Nat → Int32) (K : Nat → Int32) : Prop := cQI a ∧ (0 ≤ (a 69 5).toInt ∧ (a 69 5).toInt ≤ 512) ∧ ∀ n, xAl a n → K n = Int32.ofInt (cRf a n)
section KK
variable {W c k n : Nat} {S : ma_S} {R : Nat → Option Nat} {ab : Nat → Nat → Int32} {K : Nat → Int32} {x y d : Int32}
theorem kC_p (h : xB S R) (hc : c < 126) : kC (ma_put S c k (.inl x)) = kC S := funext (fun n => (show aTf (ma_u (mI S) c k x) (mR S 70) 6 n = aTf (mI S) (mR S 70) 6 n from aTf_o (xB_hR h) hc))
theorem kC_f (hk : k ≠ 6) : kC (ma_put S c k (.inl x)) = kC S := by
  funext n
  show aTf (ma_u (mI S) c k x) (mR S 70) 6 n = aTf (mI S) (mR S 70) 6 n
  unfold aTf
  by_cases h : n < 512
  · rw [if_pos h, if_pos h]
    cases e : mR S 70 n with
    | none => rfl
    | some t =>
      show (if t = c ∧ 6 = k then x else mI S t 6) = mI S t 6
      rw [if_neg (fun w => hk w.2.symm)]
  · rw [if_neg h, if_neg h]
theorem kC_y (h : xB S R) (e : zTa R y = some c) : mI S c 6 = kC S y.toNatClampNeg := by
  have p := zTa_p e
  have hn := zTa_n e
  unfold kC
  rw [h.1]
  exact (aTf_c hn p.2.2).symm
theorem kC_6 (h : xB S R) (e : zTa R y = some c) : kC (ma_put S c 6 (.inl x)) = zKu (kC S) y.toNatClampNeg x := by
  have p := zTa_p e
  have hn := zTa_n e
  have hi := xB_inj h e
  funext n
  show aTf (ma_u (mI S) c 6 x) (mR S 70) 6 n = if n = y.toNatClampNeg then x else aTf (mI S) (mR S 70) 6 n
  rw [h.1]
  by_cases z : n = y.toNatClampNeg
  · rw [if_pos z, z, aTf_c hn p.2.2]
    show (if c = c ∧ 6 = 6 then x else _) = x
    rw [if_pos ⟨rfl, rfl⟩]
  · rw [if_neg z]
    unfold aTf
    by_cases w : n < 512
    · rw [if_pos w, if_pos w]
      cases q : R n with
      | none => rfl
      | some t =>
        show (if t = c ∧ 6 = 6 then x else mI S t 6) = mI S t 6
        rw [if_neg (fun g => z (hi n w (by rw [q, g.1])))]
    · rw [if_neg w, if_neg w]
theorem kC_0 : kC (ma_put S 70 n (.inr (.inr none))) = zKu (kC S) n 0 := by
  funext m
  show (if m < 512 then (match (if 70 = 70 ∧ m = n then none else mR S 70 m) with | some c => mI S c 6 | none => 0) else 0) = if m = n then 0 else aTf (mI S) (mR S 70) 6 m
  unfold aTf
  by_cases z : m = n
  · rw [if_pos z]
    by_cases w : m < 512
    · rw [if_pos w, if_pos ⟨rfl, z⟩]
    · rw [if_neg w]
  · rw [if_neg z, if_neg (c := 70 = 70 ∧ m = n) (fun w => z w.2)]
    first | rfl | (cases mR S 70 m <;> rfl)
theorem xK_o (h : xB S R) (hk : kC S = K) : xK W S (aS W S) R K := ⟨xC_o h, hk⟩
theorem xK_p (h : xK W S ab R K) (c0 : Nat) (hW : xW W) (hr : zrl c0 k = true) (hw : zcw W c0 = c) : xK W (ma_put S c k (.inl x)) (ma_u ab c0 k x) R K := ⟨xC_p h.1 c0 hW hr hw, (kC_p h.1.2 (by rw [← hw]; exact zcw_lt hW hr)).trans h.2⟩
theorem xK_n (h : xK W S ab R K) (hz : zir W c k) : xK W (ma_put S c k (.inl x)) ab R K := ⟨xC_n h.1 hz, (kC_p h.1.2 hz.1).trans h.2⟩
theorem xK_t (h : xK W S ab R K) (hW : xW W) (e : zTa R y = some c) (hf : zfd k = true) (h6 : k ≠ 6) : xK W (ma_put S c k (.inl x)) (ma_u ab (126 + k) y.toNatClampNeg x) R K := ⟨xC_t h.1 hW e hf, (kC_f h6).trans h.2⟩
theorem xK_6 (h : xK W S ab R K) (hW : xW W) (e : zTa R y = some c) (hc : 126 ≤ c) : xK W (ma_put S c 6 (.inl x)) ab R (zKu K y.toNatClampNeg x) := ⟨xC_6 h.1 hW hc rfl (by decide), (kC_6 h.1.2 e).trans (by rw [h.2])⟩
theorem xK_0 (h : xK W S ab R K) : xK W (ma_put S 70 n (.inr (.inr none))) (zNo ab n) (zRu R n none) (zKu K n 0) := ⟨xC_0 h.1, kC_0.trans (by rw [h.2])⟩
theorem xK_y (h : xK W S ab R K) (e : zTa R y = some c) : mI S c 6 = K y.toNatClampNeg := (kC_y h.1.2 e).trans (congrFun h.2 _)
theorem KU_1 (h0 : 0 ≤ y.toInt) (hn : n < 512) : zKu K y.toNatClampNeg (K y.toNatClampNeg + 1) n = K n + Int32.ofNat (cIs y n) := by
  unfold zKu
  by_cases z : n = y.toNatClampNeg
  · rw [if_pos z, z, cIs_s h0]; rfl
  · rw [if_neg z, cIs_y h0 hn z]; exact (Int32.add_zero _).symm
theorem KU_2 (h0 : 0 ≤ y.toInt) (hn : n < 512) : zKu K y.toNatClampNeg (K y.toNatClampNeg - 1) n = K n - Int32.ofNat (cIs y n) := by
  unfold zKu
  by_cases z : n = y.toNatClampNeg
  · rw [if_pos z, z, cIs_s h0]; rfl
  · rw [if_neg z, cIs_y h0 hn z]; exact (Int32.sub_zero _).symm
theorem KU_x : zKu K n (K n + x) k = K k + (if k = n then x else 0) := by
  unfold zKu
  by_cases z : k = n
  · rw [if_pos z, if_pos z, z]
  · rw [if_neg z, if_neg z]; exact (Int32.add_zero _).symm
/-- one that is not there is no one's number that is -/
theorem is_no (h : xB S R) (e : zTa R y = none) (hn : xAl (aS W S) n) : cIs y n = 0 := cIs_0 (fun w => xB_nt (W := W) h e (by
  have q := ofN_i hn.1
  have e2 : y.toNatClampNeg = n := by
    have c := tn_cast (x := y) (by rw [w]; omega)
    rw [w] at c ⊢
    omega
  exact ⟨by rw [w]; omega, by have := hn.1; rw [w]; omega, by rw [e2]; exact hn.2⟩))
theorem i32_ss (p q r : Int32) : p - q - r = p - (q + r) := by
  rw [Int32.sub_eq_add_neg (p - q), Int32.sub_eq_add_neg p q, Int32.add_assoc, Int32.sub_eq_add_neg p (q + r), Int32.neg_add, Int32.sub_eq_add_neg]
theorem Su_1 {f : Nat → Nat} {i : Int32} {p : Int32} (h0 : 0 ≤ i.toInt) (h1 : i.toInt < 1000) : p - Int32.ofNat (cSu f i.toInt.toNat) - Int32.ofNat (f i.toInt.toNat) = p - Int32.ofNat (cSu f (i + 1).toInt.toNat) := by
  rw [i_p1 (by omega), show (i.toInt + 1).toNat = i.toInt.toNat + 1 from by omega, i32_ss, ← Int32.ofNat_add]
  rfl
end KK
theorem xC_85 {W n : Nat} {S : ma_S} {ab : Nat → Nat → Int32} {R : Nat → Option Nat} {q : Option Nat} (h : xC W S ab R) : xC W (ma_put S 85 n (.inr (.inr q))) ab R := by
  have e : mR (ma_put S 85 n (.inr (.inr q))) 70 = mR S 70 := funext (fun k => by
    show (if 70 = 85 ∧ k = n then q else mR S 70 k) = mR S 70 k
    rw [if_neg (by omega)])
  refine ⟨?_, e.trans h.2.1, h.2.2⟩
  unfold aS
  rw [e]
  exact h.1
theorem xK_85 {W n : Nat} {S : ma_S} {ab : Nat → Nat → Int32} {R : Nat → Option Nat} {K : Nat → Int32} {q : Option Nat} (h : xK W S ab R K) : xK W (ma_put S 85 n (.inr (.inr q))) ab R K := by
  have e : mR (ma_put S 85 n (.inr (.inr q))) 70 = mR S 70 := funext (fun k => by
    show (if 70 = 85 ∧ k = n then q else mR S 70 k) = mR S 70 k
    rw [if_neg (by omega)])
  refine ⟨xC_85 h.1, ?_⟩
  unfold kC
  rw [e]
  exact h.2
/-- numbers and holds stay -/
def zN0 (S : ma_S) : Nat → Nat → Int32 := fun c k => if k = 0 ∨ k = 7 then mI S (126 + c) k else 0
theorem n0_p {S : ma_S} {c k : Nat} {x : Int32} (hc : c < 126) : zN0 (ma_put S c k (.inl x)) = zN0 S := by
  funext j i
  show (if i = 0 ∨ i = 7 then (if 126 + j = c ∧ i = k then x else mI S (126 + j) i) else 0) = if i = 0 ∨ i = 7 then mI S (126 + j) i else 0
  rw [if_neg (c := 126 + j = c ∧ i = k) (by omega)]
theorem n0_t {S : ma_S} {c k : Nat} {x : Int32} (hk : k ≠ 0 ∧ k ≠ 7) : zN0 (ma_put S c k (.inl x)) = zN0 S := by
  funext j i
  show (if i = 0 ∨ i = 7 then (if 126 + j = c ∧ i = k then x else mI S (126 + j) i) else 0) = if i = 0 ∨ i = 7 then mI S (126 + j) i else 0
  by_cases z : i = 0 ∨ i = 7
  · rw [if_pos z, if_pos z, if_neg (by omega)]
  · rw [if_neg z, if_neg z]
theorem n0_r {S : ma_S} {c k : Nat} {q : Option Nat} : zN0 (ma_put S c k (.inr (.inr q))) = zN0 S := rfl
theorem n0_k {S S1 : ma_S} {c k : Nat} (h : zN0 S1 = zN0 S) (hc : 126 ≤ c) (hk : k = 0 ∨ k = 7) : mI S1 c k = mI S c k := by
  have q := congrFun (congrFun h (c - 126)) k
  unfold zN0 at q
  rw [if_pos hk, if_pos hk, Nat.add_sub_cancel' hc] at q
  exact q
/-! COUNTS, the class: the stack of those that go -/
abbrev zLS : Type := List (Int32 × Int32)
def zSk (G : Nat → Option Nat) (I : Nat → Nat → Int32) (R : Nat → Option Nat) : List (Int32 × Int32) → Prop
  | [] => True
  | q :: t => (∃ c, G t.length = some c ∧ zTa R q.1 = some c) ∧ I 86 t.length = q.2 ∧ zSk G I R t
def zSt (S : ma_S) (R : Nat → Option Nat) (l : List (Int32 × Int32)) : Prop := zSk (mR S 85) (mI S) R l ∧ (mI S 84 7).toInt = (l.length : Int)
def cPr (a : Nat → Nat → Int32) (l : List (Int32 × Int32)) : (Nat → Nat → Int32) × List (List Int32) := (cRa a l, cZ a l)
def cF1 (x : (Nat → Nat → Int32) × List (List Int32)) (y : Int32) : (Nat → Nat → Int32) × List (List Int32) := if y.toInt < 0 then x else cFa x.1 x.2 y
def cMu (x : (Nat → Nat → Int32) × List (List Int32)) : Nat := cLm x.2 + cMs x.1
/-- behind a fall: the stack is right, and it is the reference's fall -/
def zFo (W : Nat) (S : ma_S) (R : Nat → Option Nat) (B : Int) (x : (Nat → Nat → Int32) × List (List Int32)) : Prop := ∃ l, zSt S R l ∧ cC (aS W S) l (kC S) B ∧ cPr (aS W S) l = x
def zNF (W : Nat) (S : ma_S) (B : Int) (x : (Nat → Nat → Int32) × List (List Int32)) (n : Int) : Prop := ∃ l, zSt S (mR S 70) l ∧ cC (aS W S) l (kC S) B ∧ (∀ b, cE (cPr (aS W S) l) b → cE x b) ∧ n + (cMu (cPr (aS W S) l) : Int) ≤ 40000
section SK
variable {W c k n : Nat} {S S₉ : ma_S} {G G₉ R R' : Nat → Option Nat} {I I₉ : Nat → Nat → Int32} {a ab : Nat → Nat → Int32} {K K₉ : Nat → Int32} {x y i d : Int32} {l t : List (Int32 × Int32)} {q : Int32 × Int32} {B : Int}
theorem Sk_cg : ∀ l : List (Int32 × Int32), (∀ k, k < l.length → G₉ k = G k ∧ I₉ 86 k = I 86 k) → (∀ q, q ∈ l → zTa R' q.1 = zTa R q.1) → zSk G I R l → zSk G₉ I₉ R' l := by
  intro l
  induction l with
  | nil => intro _ _ _; trivial
  | cons q t ih =>
    intro h hR ⟨h1, h2, h3⟩
    have e := h t.length (Nat.lt_succ_self _)
    refine ⟨?_, ?_, ih (fun k hk => h k (Nat.lt_succ_of_lt hk)) (fun p hp => hR p (List.mem_cons_of_mem _ hp)) h3⟩
    · rw [e.1, hR q List.mem_cons_self]; exact h1
    · rw [e.2]; exact h2
theorem St_fr (h : zSt S R l) (e85 : mR S₉ 85 = mR S 85) (e86 : mI S₉ 86 = mI S 86) (e84 : mI S₉ 84 7 = mI S 84 7) : zSt S₉ R l := ⟨Sk_cg l (fun k _ => ⟨by rw [e85], by rw [e86]⟩) (fun _ _ => rfl) h.1, by rw [e84]; exact h.2⟩
theorem St_0 (h : (mI S 84 7).toInt = 0) : zSt S R [] := ⟨trivial, h⟩
theorem St_top (h : zSt S R l) (h0 : 0 < (mI S 84 7).toInt) : l = (l.headD (0, 0)) :: l.tail ∧ mR S 85 (mI S 84 7 - 1).toNatClampNeg = zTa R (l.headD (0, 0)).1 ∧ mI S 86 (mI S 84 7 - 1).toNatClampNeg = (l.headD (0, 0)).2 := by
  cases l with
  | nil =>
    have := h.2
    exact absurd this (by show ¬ _ = ((0 : Nat) : Int); omega)
  | cons q t =>
    obtain ⟨⟨⟨c, h1, h1b⟩, h2, h3⟩, h4⟩ := h
    have h5 : (mI S 84 7).toInt = ((t.length + 1 : Nat) : Int) := h4
    have b := i_bd (mI S 84 7)
    have e : (mI S 84 7 - 1).toInt = (mI S 84 7).toInt - 1 := i_subk rfl (by omega) (by omega)
    have e2 : (mI S 84 7 - 1).toNatClampNeg = t.length := by
      have c := tn_cast (x := mI S 84 7 - 1) (by omega)
      omega
    refine ⟨rfl, ?_, ?_⟩
    · rw [e2, h1]; exact h1b.symm
    · rw [e2]; exact h2
theorem St_nil (h : zSt S R l) (h0 : ¬ 0 < (mI S 84 7).toInt) : l = [] := by
  cases l with
  | nil => rfl
  | cons q t =>
    have h5 : (mI S 84 7).toInt = ((t.length + 1 : Nat) : Int) := h.2
    omega
/-- the last one is taken off -/
theorem St_off (h : zSt S R (q :: t)) (hx : x = mI S 84 7 - 1) : zSt (ma_put S 84 7 (.inl x)) R t := by
  obtain ⟨⟨h1, h2, h3⟩, h4⟩ := h
  have h5 : (mI S 84 7).toInt = ((t.length + 1 : Nat) : Int) := h4
  have b := i_bd (mI S 84 7)
  have e : (mI S 84 7 - 1).toInt = (mI S 84 7).toInt - 1 := i_subk rfl (by omega) (by omega)
  refine ⟨Sk_cg t (fun k _ => ⟨rfl, by
    show (if 86 = 84 ∧ k = 7 then x else mI S 86 k) = mI S 86 k
    rw [if_neg (by omega)]⟩) (fun _ _ => rfl) h3, ?_⟩
  show (if 84 = 84 ∧ 7 = 7 then x else _).toInt = _
  rw [if_pos ⟨rfl, rfl⟩, hx]
  omega
/-- its next word -/
theorem St_nxt (h : zSt S R (q :: t)) (hk : k = (mI S 84 7 - 1).toNatClampNeg) : zSt (ma_put S 86 k (.inl x)) R ((q.1, x) :: t) := by
  obtain ⟨⟨h1, h2, h3⟩, h4⟩ := h
  have h5 : (mI S 84 7).toInt = ((t.length + 1 : Nat) : Int) := h4
  have b := i_bd (mI S 84 7)
  have e : (mI S 84 7 - 1).toInt = (mI S 84 7).toInt - 1 := i_subk rfl (by omega) (by omega)
  have e2 : k = t.length := by
    have c := tn_cast (x := mI S 84 7 - 1) (by omega)
    omega
  refine ⟨⟨h1, ?_, Sk_cg t (fun j hj => ⟨rfl, by
    show (if 86 = 86 ∧ j = k then x else mI S 86 j) = mI S 86 j
    rw [if_neg (by omega)]⟩) (fun _ _ => rfl) h3⟩, ?_⟩
  · show (if 86 = 86 ∧ t.length = k then x else _) = x
    rw [if_pos ⟨rfl, e2.symm⟩]
  · show (if 84 = 86 ∧ 7 = k then x else mI S 84 7).toInt = _
    rw [if_neg (by omega)]
    exact h4
/-- one more -/
theorem St_ps (h : zSt S R l) (e : zTa R y = some c) (hl : l.length < 512) (hk : k = (mI S 84 7).toNatClampNeg) (hx : x = mI S 84 7 + 1) : zSt (ma_put (ma_put (ma_put S 85 k (.inr (.inr (some c)))) 86 k (.inl 0)) 84 7 (.inl x)) R ((y, 0) :: l) := by
  have h5 := h.2
  have b := i_bd (mI S 84 7)
  have e2 : k = l.length := by
    have c := tn_cast (x := mI S 84 7) (by omega)
    omega
  refine ⟨⟨⟨c, ?_, e⟩, ?_, Sk_cg l (fun j hj => ⟨?_, ?_⟩) (fun _ _ => rfl) h.1⟩, ?_⟩
  · show (if 85 = 85 ∧ l.length = k then some c else _) = some c
    rw [if_pos ⟨rfl, e2.symm⟩]
  · show (if 86 = 84 ∧ l.length = 7 then x else if 86 = 86 ∧ l.length = k then (0 : Int32) else mI S 86 l.length) = 0
    rw [if_neg (by omega), if_pos ⟨rfl, e2.symm⟩]
  · show (if 85 = 85 ∧ j = k then some c else mR S 85 j) = _
    rw [if_neg (by omega)]
  · show (if 86 = 84 ∧ j = 7 then x else if 86 = 86 ∧ j = k then (0 : Int32) else mI S 86 j) = mI S 86 j
    rw [if_neg (by omega), if_neg (by omega)]
  · show (if 84 = 84 ∧ 7 = 7 then x else _).toInt = ((l.length + 1 : Nat) : Int)
    rw [if_pos ⟨rfl, rfl⟩, hx, i_p1 (by omega)]
    omega
theorem F1_n (h : y.toInt < 0) {x : (Nat → Nat → Int32) × List (List Int32)} : cF1 x y = x := if_pos h
theorem F1_y (h : 0 ≤ y.toInt) {x : (Nat → Nat → Int32) × List (List Int32)} : cF1 x y = cFa x.1 x.2 y := if_neg (by omega)
def cNu (a : Nat → Nat → Int32) : Nat := cSu (fun m => if a 126 m = 0 then 0 else 1) 512
theorem Nu_le : cNu a ≤ 512 := by
  unfold cNu
  have q := cSu_bd (f := fun m => if a 126 m = 0 then 0 else 1) (B := 1) 512 (fun k _ => by
    show (if a 126 k = 0 then 0 else 1) ≤ 1
    split <;> omega)
  omega
theorem Nu_rm (hy : xAl a y.toNatClampNeg) : cNu (aRm a y) + 1 = cNu a := by
  have t := cSu_up (f := fun m => if a 126 m = 0 then 0 else 1) (g := fun m => if aRm a y 126 m = 0 then 0 else 1) (j := y.toNatClampNeg) 512 hy.1 (fun u hu w => by
    show (if aRm a y 126 u = 0 then 0 else 1) = (if a 126 u = 0 then 0 else 1)
    rw [rm_rw (c := 126) (by decide) (by decide) w])
  have t1 : (if a 126 y.toNatClampNeg = 0 then 0 else 1) = 1 := if_neg hy.2
  have t2 : (if aRm a y 126 y.toNatClampNeg = 0 then 0 else 1) = 0 := if_pos (by rw [rm_f (by decide) (by decide), if_pos rfl])
  have t3 : cNu (aRm a y) + (if a 126 y.toNatClampNeg = 0 then 0 else 1) = cNu a + (if aRm a y 126 y.toNatClampNeg = 0 then 0 else 1) := t
  rw [t1, t2] at t3
  omega
theorem Nu_ra : ∀ (l : List (Int32 × Int32)) (a : Nat → Nat → Int32), (∀ q, q ∈ l → 0 ≤ q.1.toInt ∧ xAl a q.1.toNatClampNeg) → cDs l → cNu (cRa a l) + l.length = cNu a := by
  intro l
  induction l with
  | nil => intro a _ _; exact Nat.add_zero _
  | cons q t ih =>
    intro a h hd
    have h0 := h q List.mem_cons_self
    have r := ih (aRm a q.1) (fun p hp => ⟨(h p (List.mem_cons_of_mem _ hp)).1, (rm_al h0.1).mpr ⟨(h p (List.mem_cons_of_mem _ hp)).2, fun e => hd.1 p hp e.symm⟩⟩) hd.2
    have s := Nu_rm (a := a) h0.2
    show cNu (cRa (aRm a q.1) t) + (t.length + 1) = cNu a
    omega
/-- there is room on the stack -/
theorem C_rm5 (h : cC a l K B) (hr : xAl (cRa a l) n) : l.length < 512 := by
  have q := Nu_ra l a (fun q hq => ⟨(h.2.1 q hq).1, (h.2.1 q hq).2.1⟩) h.2.2.1
  have u : (if cRa a l 126 n = 0 then 0 else 1) ≤ cNu (cRa a l) := cSu_le (f := fun m => if cRa a l 126 m = 0 then 0 else 1) 512 hr.1
  rw [if_neg hr.2] at u
  have := Nu_le (a := a)
  omega
theorem Mu_st {x : (Nat → Nat → Int32) × List (List Int32)} (h : cV x.1 x.2 B) (hx : x.2 ≠ []) : cMu (cSt x) < cMu x := by
  obtain ⟨b, st⟩ := x
  cases st with
  | nil => exact absurd rfl hx
  | cons l0 t0 =>
    cases l0 with
    | nil =>
      show cLm t0 + cMs b < cLm ([] :: t0) + cMs b
      have : cLm ([] :: t0) = 0 + 1 + cLm t0 := rfl
      omega
    | cons r l1 =>
      have e : cLm ((r :: l1) :: t0) = l1.length + 1 + 1 + cLm t0 := rfl
      have e1 : cLm (l1 :: t0) = l1.length + 1 + cLm t0 := rfl
      by_cases z : r.toInt < 0
      · rw [cSt_n z]
        show cLm (l1 :: t0) + cMs b < cLm ((r :: l1) :: t0) + cMs b
        omega
      · rw [cSt_y (by omega)]
        have hr : xAl b r.toNatClampNeg := (h.2.2.1 (r :: l1) List.mem_cons_self r List.mem_cons_self).elim (fun w => absurd w z) id
        have h₉ : cV b ((r :: l1) :: t0) B := h
        have q : cLm (cFa b (l1 :: t0) r).2 + cMs (cFa b (l1 :: t0) r).1 ≤ cLm (l1 :: t0) + cMs b := (V_fa (V_tl h₉) (by omega) hr).2
        show cLm (cFa b (l1 :: t0) r).2 + cMs (cFa b (l1 :: t0) r).1 < cLm ((r :: l1) :: t0) + cMs b
        omega
end SK
/-! COUNTS, the class: falls -/
section FO
variable {W c k n : Nat} {S S₉ S1 : ma_S} {R : Nat → Option Nat} {ab b : Nat → Nat → Int32} {kk K₉ : Nat → Int32} {y i x : Int32} {l : List (Int32 × Int32)} {B m m₉ : Int}
theorem irw_y (hC : xB S R) (rg : zTa R y = some c) (e : aS W S = ab) (hi : 0 ≤ i.toInt) (hb : ¬ lg_cmp (((mL S c 3).toUInt64 >>> (i.toInt64.toUInt64 &&& Int64.toUInt64 63)).toInt64 &&& (1 : Int64)) (0 : Int64) = 0) : ab (1000 + y.toNatClampNeg) i.toNatClampNeg ≠ 0 := by
  rw [← e, rf_bit hC rg hi]
  unfold zbit
  rw [if_neg hb]
  decide
theorem irw_n (hC : xB S R) (rg : zTa R y = some c) (e : aS W S = ab) (hi : 0 ≤ i.toInt) (hb : lg_cmp (((mL S c 3).toUInt64 >>> (i.toInt64.toUInt64 &&& Int64.toUInt64 63)).toInt64 &&& (1 : Int64)) (0 : Int64) = 0) : ab (1000 + y.toNatClampNeg) i.toNatClampNeg = 0 := by
  rw [← e, rf_bit hC rg hi]
  unfold zbit
  rw [if_pos hb]
theorem fo_y (hC : cC ab l kk B) (hO : cOk (cRa ab l) y) (hx : xB S R) (hA : aS W S = ab) (e : zTa R y = none) : y.toInt < 0 := by
  rcases hO with w | w
  · exact w
  · by_cases z : y.toInt < 0
    · exact z
    · have al := C_al hC w
      have c := tn_cast (x := y) (by omega)
      have h5 := al.1.1
      exact absurd ⟨by omega, by omega, by rw [hA]; exact al.1.2⟩ (xB_nt (W := W) hx e)
theorem fo_al (hO : cOk (cRa ab l) y) (h0 : 0 ≤ y.toInt) : xAl (cRa ab l) y.toNatClampNeg := hO.elim (fun w => absurd h0 (by omega)) id
theorem FO_n (hS : zSt S R l) (hA : aS W S = ab) (hK : kC S = kk) (hC : cC ab l kk B) (hy : y.toInt < 0) : zFo W S R B (cF1 (cPr ab l) y) := ⟨l, hS, by rw [hA, hK]; exact hC, by rw [hA, F1_n hy]⟩
theorem FO_p (hS : zSt S R l) (hA : aS W S = ab) (hK : kC S = kk) (hC : cC ab l kk B) (hB : B ≤ 1000000) (hO : cOk (cRa ab l) y) (h0 : 0 ≤ y.toInt) (hk : 0 < (kk y.toNatClampNeg).toInt) : zFo W S R B (cF1 (cPr ab l) y) := ⟨l, hS, by rw [hA, hK]; exact hC, by rw [hA, F1_y h0]; exact (C_fp hC hB (fo_al hO h0) hk).symm⟩
theorem FO_g (hS : zSt S R l) (hA : aS W S = aGr ab y) (hC : cC ab l kk B) (hB : B ≤ 1000000) (hO : cOk (cRa ab l) y) (h0 : 0 ≤ y.toInt) (hk : ¬ 0 < (kk y.toNatClampNeg).toInt) (hw : ab 134 y.toNatClampNeg ≠ 0) (hK : ∀ n, xAl ab n → kC S n = kk n + (if (ab 69 5).toInt < 512 then Int32.ofNat (cIs y n) else 0)) : zFo W S R B (cF1 (cPr ab l) y) := by
  have q := C_fg (K₉ := kC S) hC hB h0 (fo_al hO h0) hk hw hK
  exact ⟨l, hS, by rw [hA]; exact q.1, by rw [hA, F1_y h0]; exact q.2.symm⟩
theorem FO_r (hS : zSt S R ((y, 0) :: l)) (hA : aS W S = ab) (hK : kC S = kk) (hC : cC ab l kk B) (hB : B ≤ 1000000) (hO : cOk (cRa ab l) y) (h0 : 0 ≤ y.toInt) (hk : ¬ 0 < (kk y.toNatClampNeg).toInt) (hw : ab 134 y.toNatClampNeg = 0) : zFo W S R B (cF1 (cPr ab l) y) := by
  have q := C_fr hC hB h0 (fo_al hO h0) hk hw
  exact ⟨(y, 0) :: l, hS, by rw [hA, hK]; exact q.1, by rw [hA, F1_y h0]; exact q.2.symm⟩
theorem DR (hC : cC ab ((y, i) :: l) kk B) (hi : i.toInt < (ab 128 y.toNatClampNeg).toInt - 1) (hb : ab (1000 + y.toNatClampNeg) i.toNatClampNeg ≠ 0) (hK : ∀ n, xAl ab n → K₉ n = kk n + Int32.ofNat (cIs (-1) n) - Int32.ofNat (cIs (aRef ab y.toNatClampNeg i) n)) (hbe : b = aCi ab y.toNatClampNeg i (aNm ab (-1))) : cC b ((y, i + 1) :: l) K₉ B ∧ cOk (cRa b ((y, i + 1) :: l)) (aRef ab y.toNatClampNeg i) ∧ cF1 (cPr b ((y, i + 1) :: l)) (aRef ab y.toNatClampNeg i) = cSt (cPr ab ((y, i) :: l)) := by
  have yy := hC.2.1 (y, i) List.mem_cons_self
  have wp : qWp ab y.toNatClampNeg i := ⟨yy.2.1, yy.2.2.1.1, hi⟩
  have q := cwp_i hC.1 wp
  have nm : aNm ab (-1) = -1 := if_neg (fun w => absurd w.1 (by decide))
  have be : b = ma_u ab 71 (ab 130 y.toNatClampNeg + 1 + i).toNatClampNeg (-1) := by
    rw [hbe, nm]
    exact if_pos ⟨q.2.1, q.2.2⟩
  obtain ⟨r1, r2, l0, t0, r3, r4⟩ := C_dr (K₉ := K₉) hC hi hb (fun n hn => by
    rw [hK n hn, cIs_n (by decide) hn.1]
    exact congrArg (fun z => z - _) (Int32.add_zero _)) be
  have ok : cOk (cRa ab ((y, i) :: l)) (aRef ab y.toNatClampNeg i) := by
    have w := hC.2.2.2.1.2.2.1
    rw [r3] at w
    exact w _ List.mem_cons_self _ List.mem_cons_self
  refine ⟨r1, by rw [r2]; exact ok, ?_⟩
  unfold cPr
  rw [r2, r3, r4]
  by_cases z : (aRef ab y.toNatClampNeg i).toInt < 0
  · rw [F1_n z, cSt_n z]
  · rw [F1_y (by omega), cSt_y (by omega)]
theorem FD_0 (hS : zSt S R ((y, i + 1) :: l)) (hA : aS W S = ab) (hK : kC S = kk) (hC : cC ab ((y, i) :: l) kk B) (hi : i.toInt < (ab 128 y.toNatClampNeg).toInt - 1) (hb : ab (1000 + y.toNatClampNeg) i.toNatClampNeg = 0) : zFo W S R B (cSt (cPr ab ((y, i) :: l))) := by
  have q := C_d0 hC hi hb
  exact ⟨(y, i + 1) :: l, hS, by rw [hA, hK]; exact q.1, by rw [hA]; exact q.2.1.symm⟩
variable {x0 : (Nat → Nat → Int32) × List (List Int32)}
theorem NF_0 (h : zFo W S R B x0) (hR : mR S 70 = R) : zNF W S B x0 0 := by
  obtain ⟨l, h1, h2, h3⟩ := h
  refine ⟨l, by rw [hR]; exact h1, h2, fun b hb => by rw [← h3]; exact hb, ?_⟩
  have q := h2.2.2.2.1.2.2.2.2.2
  show 0 + ((cLm (cZ (aS W S) l) + cMs (cRa (aS W S) l) : Nat) : Int) ≤ 40000
  omega
theorem NF_d (h : zFo W S₉ R B (cSt (cPr (aS W S) l))) (hR : mR S₉ 70 = R) (hC : cC (aS W S) l (kC S) B) (h3 : ∀ b, cE (cPr (aS W S) l) b → cE x0 b) (h4 : m + (cMu (cPr (aS W S) l) : Int) ≤ 40000) (hl : l = l.headD (0, 0) :: l.tail) (hm : m₉ = m + 1) : zNF W S₉ B x0 m₉ := by
  obtain ⟨l₉, g1, g2, g3⟩ := h
  have mu := Mu_st (x := cPr (aS W S) l) hC.2.2.2.1 (by rw [hl]; exact List.cons_ne_nil _ _)
  refine ⟨l₉, by rw [hR]; exact g1, g2, fun b hb => h3 b (cE_s (by rw [← g3]; exact hb)), ?_⟩
  rw [g3]
  omega
/-- the last one is removed -/
theorem NF_p (hC : cC (aS W S) l (kC S) B) (h3 : ∀ b, cE (cPr (aS W S) l) b → cE x0 b) (h4 : m + (cMu (cPr (aS W S) l) : Int) ≤ 40000) (hl : l = l.headD (0, 0) :: l.tail) (hm : m₉ = m + 1) (hi : ¬ (l.headD (0, 0)).2.toInt < (aS W S 128 (l.headD (0, 0)).1.toNatClampNeg).toInt - 1) (hA : aS W S₉ = aRm (aS W S) (l.headD (0, 0)).1) (hK : ∀ n, xAl (aS W S) n → n ≠ (l.headD (0, 0)).1.toNatClampNeg → kC S₉ n = kC S n - Int32.ofNat (cOb (aS W S) (l.headD (0, 0)).1.toNatClampNeg n)) (hS : zSt S₉ (mR S 70) l.tail) (hR : mR S₉ 70 = zRu (mR S 70) (l.headD (0, 0)).1.toNatClampNeg none) : zNF W S₉ B x0 m₉ := by
  have hC₉ := hC
  rw [hl] at hC₉
  have q := C_pop (y := (l.headD (0, 0)).1) (i := (l.headD (0, 0)).2) (t := l.tail) (K₉ := kC S₉) hC₉ hi hK
  have e : cSt (cPr (aS W S) l) = cPr (aRm (aS W S) (l.headD (0, 0)).1) l.tail := by
    have e0 : cPr (aS W S) l = (cRa (aS W S) (((l.headD (0, 0)).1, (l.headD (0, 0)).2) :: l.tail), cZ (aS W S) (((l.headD (0, 0)).1, (l.headD (0, 0)).2) :: l.tail)) := congrArg (cPr (aS W S)) hl
    rw [e0]
    exact q.2.1
  have mu := Mu_st (x := cPr (aS W S) l) hC.2.2.2.1 (by rw [hl]; exact List.cons_ne_nil _ _)
  have hd : ∀ p, p ∈ l.tail → (l.headD (0, 0)).1.toNatClampNeg ≠ p.1.toNatClampNeg := hC₉.2.2.1.1
  refine ⟨l.tail, ⟨Sk_cg l.tail (fun k _ => ⟨rfl, rfl⟩) (fun p hp => ?_) hS.1, hS.2⟩, by rw [hA]; exact q.1, fun b hb => h3 b (cE_s (by rw [e, ← hA]; exact hb)), ?_⟩
  · rw [hR]
    unfold zTa zRu
    by_cases z : 0 ≤ p.1.toInt ∧ p.1.toInt < 512
    · rw [if_pos z, if_pos z, if_neg (fun w => hd p hp w.symm)]
    · rw [if_neg z, if_neg z]
  · rw [hA, ← e]
    omega
/-- the last one is there -/
theorem NF_n (hC : cC (aS W S) l (kC S) B) (hx : xB S R) (hl : l = l.headD (0, 0) :: l.tail) (e : zTa R (l.headD (0, 0)).1 = none) : False := by
  have hC₉ := hC
  rw [hl] at hC₉
  have yy := hC₉.2.1 (l.headD (0, 0)) List.mem_cons_self
  have c := tn_cast yy.1
  have h5 := yy.2.1.1
  exact xB_nt (W := W) hx e ⟨yy.1, by omega, yy.2.1.2⟩
theorem NF_e (h : zNF W S B (cF1 (cPr ab []) y) m) (hO : cOk ab y) (hd : ¬ 0 < (mI S 84 7).toInt ∨ 40000 < m) : aS W S = cLe ab y ∧ cC (aS W S) [] (kC S) B := by
  obtain ⟨l, h1, h2, h3, h4⟩ := h
  have hl : l = [] := by
    rcases hd with w | w
    · exact St_nil h1 w
    · exfalso
      omega
  rw [hl] at h2 h3
  have q := h3 (aS W S) cE_o
  refine ⟨?_, h2⟩
  rcases hO with w | w
  · rw [F1_n w] at q
    rw [cLe_n (fun z => by omega)]
    exact (cE_dt q cE_o)
  · by_cases z : y.toInt < 0
    · rw [F1_n z] at q
      rw [cLe_n (fun z => by omega)]
      exact (cE_dt q cE_o)
    · rw [F1_y (by omega)] at q
      exact (cLe_y (by omega) w q).symm
end FO

/-! from 95.m14 -/
/-! COUNTS, the class (written by wip/tools/gen20k.py) -/
/-! COUNTS: calls keep the counts right -/
section C7
variable {a b : Nat → Nat → Int32} {K K₉ : Nat → Int32} {x y i d : Int32} {n m k c : Nat} {B : Int}
theorem al_of {o : Int32} (q : zRq a o) : xAl a o.toNatClampNeg := by
  have c := tn_cast q.1
  have q2 := q.2.1
  exact ⟨by omega, q.2.2.1⟩
theorem Ms_le (hI : cQI a) : cMs a ≤ 31744 := by
  unfold cMs
  have q := cSu_bd (f := fun m => if a 126 m = 0 then 0 else (a 128 m).toInt.toNat + 1) (B := 62) 512 (fun m hm => by
    show (if a 126 m = 0 then 0 else (a 128 m).toInt.toNat + 1) ≤ 62
    by_cases z : a 126 m = 0
    · rw [if_pos z]; omega
    · rw [if_neg z]
      have w := hI.1 m ⟨hm, z⟩
      omega)
  omega
theorem C0_mk (h1 : cQI a) (h2 : cNd a) (h3 : cHd a B) (h5 : 0 ≤ (a 69 5).toInt ∧ (a 69 5).toInt ≤ 512) (hK : ∀ n, xAl a n → K n = Int32.ofInt (cRf a n)) : cC a [] K B := by
  refine ⟨h1, fun q hq => absurd hq (List.not_mem_nil), trivial, ⟨h1, h2, fun l hl => absurd hl (List.not_mem_nil), h3, h5, ?_⟩, fun n hn => ?_⟩
  · have q := Ms_le h1
    show 0 + cMs a ≤ 40000
    omega
  · show K n = Int32.ofInt (cRf a n + ((0 : Nat) : Int))
    rw [hK n hn]
    exact congrArg Int32.ofInt (by omega)
theorem C0_un (h : cC a [] K B) : cQI a ∧ cNd a ∧ cHd a B ∧ (0 ≤ (a 69 5).toInt ∧ (a 69 5).toInt ≤ 512) ∧ ∀ n, xAl a n → K n = Int32.ofInt (cRf a n) := by
  obtain ⟨h1, _, _, ⟨_, h2, _, h3, h5, _⟩, hk⟩ := h
  refine ⟨h1, h2, h3, h5, fun n hn => ?_⟩
  have q : K n = Int32.ofInt (cRf a n + ((0 : Nat) : Int)) := hk n hn
  rw [q]
  exact congrArg Int32.ofInt (by omega)
theorem u_al (hc : c ≠ 126) : xAl (ma_u a c k x) = xAl a := by
  funext n
  unfold xAl
  rw [un (fun z => hc z.symm)]
theorem cQ_u (hc : c ≠ 126 ∧ c ≠ 128 ∧ c ≠ 130 ∧ c < 1000) (hI : cQI a) : cQI (ma_u a c k x) := by
  obtain ⟨h1, h2, h3⟩ := hI
  have al := u_al (a := a) (k := k) (x := x) hc.1
  refine ⟨?_, ?_, ?_⟩
  · rw [al, un (n := 130) (fun z => hc.2.2.1 z.symm), un (n := 128) (fun z => hc.2.1 z.symm)]
    exact h1
  · unfold qI2
    rw [al, un (n := 130) (fun z => hc.2.2.1 z.symm), un (n := 128) (fun z => hc.2.1 z.symm)]
    exact h2
  · intro n hn k₉
    rw [al] at hn
    rw [un (by omega)]
    exact h3 n hn k₉
theorem u_ref (hc : c ≠ 130 ∧ c ≠ 71 ∧ c < 1000) : aRef (ma_u a c k x) m i = aRef a m i := rf_cg (un (by omega)) (un (fun z => hc.1 z.symm)) (un (fun z => hc.2.1 z.symm))
theorem u_wp (hc : c ≠ 126 ∧ c ≠ 128) {j : Int32} : qWp (ma_u a c k x) m j ↔ qWp a m j := by
  unfold qWp
  rw [u_al hc.1, un (fun z => hc.2 z.symm)]
/-- a row that counting does not look at -/
theorem C_u (hc : c ≠ 126 ∧ c ≠ 128 ∧ c ≠ 130 ∧ c ≠ 71 ∧ c < 1000) (h2 : c ≠ 72 ∧ c ≠ 69 ∧ c ≠ 74 ∧ c ≠ 133) (h : cC a [] K B) : cC (ma_u a c k x) [] K B := by
  obtain ⟨q1, ⟨n1, n2, n3⟩, q3, q5, qk⟩ := C0_un h
  have al := u_al (a := a) (k := k) (x := x) hc.1
  refine C0_mk (cQ_u ⟨hc.1, hc.2.1, hc.2.2.1, hc.2.2.2.2⟩ q1) ⟨fun j hj => ?_, fun j hj => ?_, fun u j w => ?_⟩ (fun n hn => ?_) ?_ (fun n hn => ?_)
  · rw [un (n := 72) (by omega), cOk_cg al]; exact n1 j hj
  · rw [un (n := 74) (by omega), cOk_cg al]
    rw [un (n := 69) (by omega)] at hj
    exact n2 j hj
  · rw [u_ref ⟨hc.2.2.1, hc.2.2.2.1, hc.2.2.2.2⟩, cOk_cg al]
    exact n3 u j ((u_wp ⟨hc.1, hc.2.1⟩).mp w)
  · rw [al] at hn
    rw [un (n := 133) (by omega)]
    exact q3 n hn
  · rw [un (n := 69) (by omega)]; exact q5
  · rw [al] at hn
    rw [Rf_u hc h2]
    exact qk n hn
theorem nm_ok : cOk a (aNm a y) := by
  unfold aNm
  split
  · rename_i w
    have c := tn_cast w.1
    exact Or.inr ⟨by omega, w.2.2⟩
  · exact Or.inl (by decide)
theorem nm_is (hn : xAl a n) : cIs (aNm a y) n = cIs y n := by
  unfold aNm
  by_cases w : 0 ≤ y.toInt ∧ y.toInt < 512 ∧ a 126 y.toNatClampNeg ≠ 0
  · rw [if_pos w]
  · rw [if_neg w, cIs_n (by decide) hn.1]
    refine (cIs_0 (fun e => w ?_)).symm
    have q := ofN_i hn.1
    have h0 : 0 ≤ y.toInt := by rw [e]; omega
    have c := tn_cast h0
    have e2 : y.toNatClampNeg = n := by
      rw [← e] at q
      omega
    exact ⟨h0, by have := hn.1; omega, by rw [e2]; exact hn.2⟩
theorem K_ad (p q r : Int) (u v : Nat) (h : r + (v : Int) = p + (u : Int)) : Int32.ofInt p + Int32.ofNat u - Int32.ofNat v = Int32.ofInt r := by
  rw [← Int32.ofInt_eq_ofNat (n := u), ← Int32.ofInt_eq_ofNat (n := v), ← Int32.ofInt_add, ← Int32.ofInt_sub]
  exact congrArg Int32.ofInt (by omega)
/-- a ROOT -/
theorem C_rt (h : cC a [] K B) (hi : k < 16) (hK : ∀ n, xAl a n → K₉ n = K n + Int32.ofNat (cIs y n) - Int32.ofNat (cIs (a 72 k) n)) : cC (ma_u a 72 k (aNm a y)) [] K₉ B := by
  obtain ⟨q1, ⟨n1, n2, n3⟩, q3, q5, qk⟩ := C0_un h
  have al := u_al (a := a) (c := 72) (k := k) (x := aNm a y) (by decide)
  refine C0_mk (cQ_u (by decide) q1) ⟨fun j hj => ?_, fun j hj => ?_, fun u j w => ?_⟩ (fun n hn => ?_) ?_ (fun n hn => ?_)
  · rw [cOk_cg al]
    by_cases z : j = k
    · rw [z, mu_self]; exact nm_ok
    · rw [mu_ne z]; exact n1 j hj
  · rw [un (n := 74) (by decide), cOk_cg al]
    rw [un (n := 69) (by decide)] at hj
    exact n2 j hj
  · rw [u_ref (by decide), cOk_cg al]
    exact n3 u j ((u_wp (by decide)).mp w)
  · rw [al] at hn
    rw [un (n := 133) (by decide)]
    exact q3 n hn
  · rw [un (n := 69) (by decide)]; exact q5
  · rw [al] at hn
    have r := Rf_rt (a := a) (x := aNm a y) (n := n) hi
    rw [nm_is hn] at r
    rw [hK n hn, qk n hn]
    exact K_ad _ 0 _ _ _ r
/-- a REFERENCE -/
theorem C_li (h : cC a [] K B) (hw : qWp a m i) (hb : a (1000 + m) i.toNatClampNeg ≠ 0) (hK : ∀ n, xAl a n → K₉ n = K n + Int32.ofNat (cIs y n) - Int32.ofNat (cIs (aRef a m i) n)) : cC (aCi a m i (aNm a y)) [] K₉ B := by
  obtain ⟨q1, ⟨n1, n2, n3⟩, q3, q5, qk⟩ := C0_un h
  have q := cwp_i q1 hw
  have e : aCi a m i (aNm a y) = ma_u a 71 (a 130 m + 1 + i).toNatClampNeg (aNm a y) := if_pos ⟨q.2.1, q.2.2⟩
  rw [e]
  have al := u_al (a := a) (c := 71) (k := (a 130 m + 1 + i).toNatClampNeg) (x := aNm a y) (by decide)
  refine C0_mk (cQ_71 q1) ⟨fun j hj => ?_, fun j hj => ?_, fun u j w => ?_⟩ (fun n hn => ?_) ?_ (fun n hn => ?_)
  · rw [un (n := 72) (by decide), cOk_cg al]; exact n1 j hj
  · rw [un (n := 74) (by decide), cOk_cg al]
    rw [un (n := 69) (by decide)] at hj
    exact n2 j hj
  · have w2 := (u_wp (by decide)).mp w
    rw [cOk_cg al, crf_w q1 hw w2]
    by_cases z : u = m ∧ j = i
    · rw [if_pos z, if_pos hb]; exact nm_ok
    · rw [if_neg z]; exact n3 u j w2
  · rw [al] at hn
    rw [un (n := 133) (by decide)]
    exact q3 n hn
  · rw [un (n := 69) (by decide)]; exact q5
  · rw [al] at hn
    have r := Rf_w (x := aNm a y) (n := n) q1 hw hw.1.1 hb
    rw [nm_is hn] at r
    rw [hK n hn, qk n hn]
    exact K_ad _ 0 _ _ _ r
/-- a word that does not refer -/
theorem C_pu (h : cC a [] K B) (hw : qWp a m i) (hb : a (1000 + m) i.toNatClampNeg = 0) : cC (aCi a m i x) [] K B := by
  obtain ⟨q1, ⟨n1, n2, n3⟩, q3, q5, qk⟩ := C0_un h
  have q := cwp_i q1 hw
  have e : aCi a m i x = ma_u a 71 (a 130 m + 1 + i).toNatClampNeg x := if_pos ⟨q.2.1, q.2.2⟩
  rw [e]
  have al := u_al (a := a) (c := 71) (k := (a 130 m + 1 + i).toNatClampNeg) (x := x) (by decide)
  refine C0_mk (cQ_71 q1) ⟨fun j hj => ?_, fun j hj => ?_, fun u j w => ?_⟩ (fun n hn => ?_) ?_ (fun n hn => ?_)
  · rw [un (n := 72) (by decide), cOk_cg al]; exact n1 j hj
  · rw [un (n := 74) (by decide), cOk_cg al]
    rw [un (n := 69) (by decide)] at hj
    exact n2 j hj
  · have w2 := (u_wp (by decide)).mp w
    rw [cOk_cg al, crf_w q1 hw w2]
    by_cases z : u = m ∧ j = i
    · rw [if_pos z, if_neg (fun w => w hb)]; exact Or.inl (by decide)
    · rw [if_neg z]; exact n3 u j w2
  · rw [al] at hn
    rw [un (n := 133) (by decide)]
    exact q3 n hn
  · rw [un (n := 69) (by decide)]; exact q5
  · rw [al] at hn
    rw [Rf_p q1 hw hb]
    exact qk n hn
/-- a hold -/
theorem C_ho (h : cC a [] K B) (h0 : 0 ≤ (a 133 k + d).toInt) (h1 : (a 133 k + d).toInt = (a 133 k).toInt + d.toInt) (hB : (a 133 k + d).toInt ≤ B + 1) (hK : ∀ n, K₉ n = K n + (if n = k then d else 0)) : cC (ma_u a 133 k (a 133 k + d)) [] K₉ (B + 1) := by
  obtain ⟨q1, ⟨n1, n2, n3⟩, q3, q5, qk⟩ := C0_un h
  have al := u_al (a := a) (c := 133) (k := k) (x := a 133 k + d) (by decide)
  refine C0_mk (cQ_u (by decide) q1) ⟨fun j hj => ?_, fun j hj => ?_, fun u j w => ?_⟩ (fun n hn => ?_) ?_ (fun n hn => ?_)
  · rw [un (n := 72) (by decide), cOk_cg al]; exact n1 j hj
  · rw [un (n := 74) (by decide), cOk_cg al]
    rw [un (n := 69) (by decide)] at hj
    exact n2 j hj
  · rw [u_ref (by decide), cOk_cg al]
    exact n3 u j ((u_wp (by decide)).mp w)
  · rw [al] at hn
    by_cases z : n = k
    · rw [z, mu_self]; exact ⟨h0, hB⟩
    · rw [mu_ne z]
      have := q3 n hn
      omega
  · rw [un (n := 69) (by decide)]; exact q5
  · rw [al] at hn
    rw [hK n, qk n hn, Rf_ho]
    by_cases z : n = k
    · rw [if_pos z, if_pos z, h1, show (a 133 k).toInt + d.toInt - (a 133 k).toInt = d.toInt from by omega, Int32.ofInt_add, Int32.ofInt_toInt]
    · rw [if_neg z, if_neg z, Int32.add_zero, Int.add_zero]
theorem C_hx (h : cC a [] K B) (al : xAl a k) (hB : B + 1 ≤ 1000000) (hd : d = 1 ∨ (d = -1 ∧ a 133 k ≠ 0)) (hK : ∀ n, K₉ n = K n + (if n = k then d else 0)) : cC (ma_u a 133 k (a 133 k + d)) [] K₉ (B + 1) := by
  have q := (C0_un h).2.2.1 k al
  rcases hd with e | ⟨e, w⟩
  · rw [e] at hK ⊢
    have d1 : (a 133 k + 1).toInt = (a 133 k).toInt + (1 : Int32).toInt := i_add (by rw [show (1 : Int32).toInt = 1 from rfl]; omega) (by rw [show (1 : Int32).toInt = 1 from rfl]; omega)
    have d2 : (1 : Int32).toInt = 1 := rfl
    exact C_ho h (by omega) d1 (by omega) hK
  · rw [e] at hK ⊢
    have w1 : (a 133 k).toInt ≠ 0 := fun z => w (Int32.toInt_inj.mp (by rw [z]; rfl))
    have d2 : (-1 : Int32).toInt = -1 := rfl
    have d1 : (a 133 k + -1).toInt = (a 133 k).toInt + (-1 : Int32).toInt := i_add (by omega) (by omega)
    exact C_ho h (by omega) d1 (by omega) hK
/-- a wish is taken -/
theorem C_tw (h : cC a [] K B) (hK : ∀ n, xAl a n → K₉ n = K n - (if 0 < (a 69 5).toInt then Int32.ofNat (cIs (a 74 0) n) else 0)) : cC (aTw a) [] K₉ B ∧ cOk (aTw a) (aTy a) := by
  obtain ⟨q1, ⟨n1, n2, n3⟩, q3, q5, qk⟩ := C0_un h
  by_cases w : 0 < (a 69 5).toInt
  · have e : aTw a = zSh (ma_u a 69 5 (a 69 5 - 1)) ((a 69 5).toInt - 1) := aTw_y w
    have z : ∀ c, c ≠ 74 → c ≠ 69 → aTw a c = a c := fun c h1 h2 => funext (fun k => by
      rw [e]
      show (if c = 74 ∧ (k : Int) < _ then _ else ma_u a 69 5 (a 69 5 - 1) c k) = a c k
      rw [if_neg (fun w => h1 w.1), xu_o (fun w => h2 w.1)])
    have e5 : aTw a 69 5 = a 69 5 - 1 := by
      rw [e]
      show (if 69 = 74 ∧ _ then _ else ma_u a 69 5 (a 69 5 - 1) 69 5) = _
      rw [if_neg (fun w => absurd w.1 (by decide)), xu_s]
    have s5 : (a 69 5 - 1).toInt = (a 69 5).toInt - 1 := i_subk rfl (by omega) (by omega)
    have e74 : ∀ k : Nat, (k : Int) < (a 69 5).toInt - 1 → aTw a 74 k = a 74 (k + 1) := fun k hk => by
      rw [e]
      show (if 74 = 74 ∧ (k : Int) < _ then ma_u a 69 5 (a 69 5 - 1) 74 (k + 1) else _) = _
      rw [if_pos ⟨rfl, hk⟩, xu_o (fun w => absurd w.1 (by decide))]
    have al : xAl (aTw a) = xAl a := by
      funext n
      unfold xAl
      rw [z 126 (by decide) (by decide)]
    have rf : ∀ u j, aRef (aTw a) u j = aRef a u j := fun u j => rf_cg (z _ (by omega) (by omega)) (z 130 (by decide) (by decide)) (z 71 (by decide) (by decide))
    have ty : aTy a = a 74 0 := aTy_y w
    refine ⟨C0_mk ?_ ⟨fun j hj => ?_, fun j hj => ?_, fun u j w2 => ?_⟩ (fun n hn => ?_) ?_ (fun n hn => ?_), ?_⟩
    · obtain ⟨g1, g2, g3⟩ := q1
      refine ⟨?_, ?_, fun n hn k => ?_⟩
      · rw [al, z 130 (by decide) (by decide), z 128 (by decide) (by decide)]; exact g1
      · unfold qI2
        rw [al, z 130 (by decide) (by decide), z 128 (by decide) (by decide)]; exact g2
      · rw [al] at hn
        rw [z _ (by omega) (by omega)]
        exact g3 n hn k
    · rw [z 72 (by decide) (by decide), cOk_cg al]; exact n1 j hj
    · rw [e5, s5] at hj
      rw [e74 j hj, cOk_cg al]
      exact n2 (j + 1) (by omega)
    · rw [rf, cOk_cg al]
      refine n3 u j ?_
      unfold qWp at w2 ⊢
      rw [al, z 128 (by decide) (by decide)] at w2
      exact w2
    · rw [al] at hn
      rw [z 133 (by decide) (by decide)]
      exact q3 n hn
    · rw [e5, s5]; omega
    · rw [al] at hn
      have r := Rf_tw (n := n) w q5.2
      rw [hK n hn, if_pos w, qk n hn, ← Int32.ofInt_eq_ofNat (n := cIs (a 74 0) n), ← Int32.ofInt_sub]
      exact congrArg Int32.ofInt (by omega)
    · rw [ty, cOk_cg al]
      exact n2 0 (by omega)
  · rw [aTw_n w, aTy_n w]
    refine ⟨C0_mk q1 ⟨n1, n2, n3⟩ q3 q5 (fun n hn => ?_), Or.inl (by decide)⟩
    rw [hK n hn, if_neg w, Int32.sub_zero]
    exact qk n hn
end C7
theorem g_119_75_sk_0 {X : Nat × (Nat → Int32)} {d w : Nat} {S : ma_S} {Q : Option ma_V ⊕ Nat → ma_S → Prop} (t : Option Nat) (hd : 0 ≤ d) (hw : 0 ≤ w) (hS : zT S) (h : (t = none → Q (.inl none) S) ∧ (∀ c1, t = some c1 → (126 ≤ c1 ∧ c1 < mN S) ∧ (if (mI S c1 4) < (mI S 75 5) then (Q (.inl none) S) else ((126 ≤ c1 ∧ c1 < mN S) ∧ (if (512 : Int32) ≤ (mI S c1 0) then (Q (.inl none) S) else (if (mI S 75 4) < (512 : Int32) then ((126 ≤ c1 ∧ c1 < mN S) ∧ ((0 ≤ (mI S c1 0) ∧ (mI S c1 0).toNatClampNeg < 512) ∧ (if (mI S 77 (mI S c1 0).toNatClampNeg) = 0 then ((126 ≤ c1 ∧ c1 < mN S) ∧ ((0 ≤ (mI S c1 0) ∧ (mI S c1 0).toNatClampNeg < 512) ∧ ((126 ≤ c1 ∧ c1 < mN (ma_put S 77 (mI S c1 0).toNatClampNeg (.inl (1 : Int32)))) ∧ ((0 ≤ (mI S 75 4) ∧ (mI S 75 4).toNatClampNeg < 512) ∧ (Q (.inl none) (ma_put (ma_put (ma_put S 77 (mI S c1 0).toNatClampNeg (.inl (1 : Int32))) 76 (mI S 75 4).toNatClampNeg (.inl (mI (ma_put S 77 (mI S c1 0).toNatClampNeg (.inl (1 : Int32))) c1 0))) 75 4 (.inl ((mI S 75 4) + (1 : Int32))))))))) else (Q (.inl none) S)))) else (Q (.inl none) S))))))) : ma_wp X d w 119 0 [(0, .inr (.inr (some 75))), (1, .inr (.inr t))] [] S Q := by
  refine zw_push hm_119 dX10_comes_0 (v := .inr (.inr t)) rfl ?_
  refine zw_ifnull hm_119 dX10_comes_1 (t := 35) rfl ?_ ?_
  · intro hc
    have h := h.1 hc
    (try rw [hc])
    show ma_wp X d w 119 35 [(0, .inr (.inr (some 75))), (1, .inr (.inr none))] [] S _
    exact zw_vret hm_119 dX10_comes_35 h
  · intro c1 hc
    have h := h.2 c1 hc
    (try rw [hc])
    show ma_wp X d w 119 4 [(0, .inr (.inr (some 75))), (1, .inr (.inr (some c1)))] [] S _
    refine zw_push hm_119 dX10_comes_4 (v := .inr (.inr (some c1))) rfl ?_
    obtain ⟨hg, h⟩ := h
    refine zw_gf hm_119 dX10_comes_5 (v := .inl (mI S c1 4)) (zT_tis hS hg) (zT_tt hS hg) rfl f_10_49_9 rfl ?_
    refine zw_push hm_119 dX10_comes_8 (v := .inr (.inr (some 75))) rfl ?_
    refine zw_gf hm_119 dX10_comes_9 (v := .inl (mI S 75 5)) (zT_is hS s_75) (zT_t hS s_75) rfl f_10_35_10 rfl ?_
    refine zw_if2 hm_119 dX10_comes_12 (t := 35) rfl zc2_lt ?_ ?_
    · intro hc
      rw [if_pos hc] at h
      exact zw_vret hm_119 dX10_comes_35 h
    · intro hc
      rw [if_neg hc] at h
      refine zw_push hm_119 dX10_comes_15 (v := .inr (.inr (some c1))) rfl ?_
      obtain ⟨hg, h⟩ := h
      refine zw_gf hm_119 dX10_comes_16 (v := .inl (mI S c1 0)) (zT_tis hS hg) (zT_tt hS hg) rfl f_10_58_9 rfl ?_
      refine zw_push hm_119 dX10_comes_19 (v := .inl (512 : Int32)) rfl ?_
      refine zw_if2 hm_119 dX10_comes_22 (t := 35) rfl zc2_ge ?_ ?_
      · intro hc
        rw [if_pos hc] at h
        exact zw_vret hm_119 dX10_comes_35 h
      · intro hc
        rw [if_neg hc] at h
        refine zw_push hm_119 dX10_comes_25 (v := .inr (.inr (some 75))) rfl ?_
        refine zw_gf hm_119 dX10_comes_26 (v := .inl (mI S 75 4)) (zT_is hS s_75) (zT_t hS s_75) rfl f_10_32_10 rfl ?_
        refine zw_push hm_119 dX10_comes_29 (v := .inl (512 : Int32)) rfl ?_
        refine zw_if2 hm_119 dX10_comes_32 (t := 36) rfl zc2_lt ?_ ?_
        · intro hc
          rw [if_pos hc] at h
          refine zw_push hm_119 dX10_comes_36 (v := .inr (.inr (some 75))) rfl ?_
          refine zw_gf hm_119 dX10_comes_37 (v := .inr (.inr (some 77))) (zT_is hS s_75) (zT_t hS s_75) rfl f_10_15_10 (zT_f hS r_75_2) ?_
          refine zw_push hm_119 dX10_comes_40 (v := .inr (.inr (some c1))) rfl ?_
          obtain ⟨hg, h⟩ := h
          refine zw_gf hm_119 dX10_comes_41 (v := .inl (mI S c1 0)) (zT_tis hS hg) (zT_tt hS hg) rfl f_10_58_9 rfl ?_
          obtain ⟨hg, h⟩ := h
          refine zw_ia hm_119 dX10_comes_44 (zT_is hS s_77) (zT_h hS s_77) rfl hg ?_
          show ma_wp X d w 119 45 [(0, .inr (.inr (some 75))), (1, .inr (.inr (some c1)))] [.inl (mI S 77 (mI S c1 0).toNatClampNeg)] S _
          refine zw_if0 hm_119 dX10_comes_45 (t := 81) rfl zc0_ne ?_ ?_
          · intro hc
            rw [if_neg hc] at h
            exact zw_vret hm_119 dX10_comes_81 h
          · intro hc
            rw [if_pos (Classical.not_not.mp hc)] at h
            refine zw_push hm_119 dX10_comes_48 (v := .inr (.inr (some 75))) rfl ?_
            refine zw_gf hm_119 dX10_comes_49 (v := .inr (.inr (some 77))) (zT_is hS s_75) (zT_t hS s_75) rfl f_10_15_10 (zT_f hS r_75_2) ?_
            refine zw_push hm_119 dX10_comes_52 (v := .inr (.inr (some c1))) rfl ?_
            obtain ⟨hg, h⟩ := h
            refine zw_gf hm_119 dX10_comes_53 (v := .inl (mI S c1 0)) (zT_tis hS hg) (zT_tt hS hg) rfl f_10_58_9 rfl ?_
            refine zw_push hm_119 dX10_comes_56 (v := .inl (1 : Int32)) rfl ?_
            obtain ⟨hg, h⟩ := h
            refine zw_ias hm_119 dX10_comes_57 (zT_is hS s_77) (zT_h hS s_77) rfl hg ?_
            refine zw_push hm_119 dX10_comes_58 (v := .inr (.inr (some 75))) rfl ?_
            refine zw_gf hm_119 dX10_comes_59 (v := .inr (.inr (some 76))) (zT_is (zT_pi hS) s_75) (zT_t (zT_pi hS) s_75) rfl f_10_9_10 (zT_f (zT_pi hS) r_75_1) ?_
            refine zw_push hm_119 dX10_comes_62 (v := .inr (.inr (some 75))) rfl ?_
            refine zw_gf hm_119 dX10_comes_63 (v := .inl (mI S 75 4)) (zT_is (zT_pi hS) s_75) (zT_t (zT_pi hS) s_75) rfl f_10_32_10 rfl ?_
            refine zw_push hm_119 dX10_comes_66 (v := .inr (.inr (some c1))) rfl ?_
            obtain ⟨hg, h⟩ := h
            refine zw_gf hm_119 dX10_comes_67 (v := .inl (mI (ma_put S 77 (mI S c1 0).toNatClampNeg (.inl (1 : Int32))) c1 0)) (zT_tis (zT_pi hS) hg) (zT_tt (zT_pi hS) hg) rfl f_10_58_9 rfl ?_
            obtain ⟨hg, h⟩ := h
            refine zw_ias hm_119 dX10_comes_70 (zT_is (zT_pi hS) s_76) (zT_h (zT_pi hS) s_76) rfl hg ?_
            refine zw_push hm_119 dX10_comes_71 (v := .inr (.inr (some 75))) rfl ?_
            refine zw_stk hm_119 dX10_comes_72 (st₉ := [.inr (.inr (some 75)), .inr (.inr (some 75))]) rfl rfl ?_
            refine zw_gf hm_119 dX10_comes_73 (v := .inl (mI S 75 4)) (zT_is (zT_pi (zT_pi hS)) s_75) (zT_t (zT_pi (zT_pi hS)) s_75) rfl f_10_32_10 rfl ?_
            refine zw_push hm_119 dX10_comes_76 (v := .inl (1 : Int32)) rfl ?_
            refine zw_stk hm_119 dX10_comes_77 (st₉ := [.inl ((mI S 75 4) + (1 : Int32)), .inr (.inr (some 75))]) rfl rfl ?_
            refine zw_pf hm_119 dX10_comes_78 (zT_is (zT_pi (zT_pi hS)) s_75) (zT_t (zT_pi (zT_pi hS)) s_75) p_10_32_10 zk_int ?_
            exact zw_vret hm_119 dX10_comes_81 h
        · intro hc
          rw [if_neg hc] at h
          exact zw_vret hm_119 dX10_comes_35 h
theorem sp_119_75_sk {X : Nat × (Nat → Int32)} {d w : Nat} {f : Nat → Nat → Int32} {r : Nat → Nat → Option Nat} {C Z N : Nat} {Q : Option ma_V ⊕ Nat → ma_S → Prop} {ab : Nat→Nat→Int32} {R : zRT} {y : Int32} {a8 : Nat→Nat→Int32} {kk : Nat→Int32} {S : ma_S} (t : Option Nat) (hd : 0 ≤ d) (hw : 0 ≤ w) (hI : zI f r C Z N S) (hq_t : ∀ c, t = some c → 126 ≤ c ∧ c < N) (hpre0 : xB S R) (hpre1 : aS 75 S = ab) (hpre2 : t = zTa R y) (hpre3 : aS 88 S = a8) (hpre4 : kC S = kk) (K : ∀ S₉, zI f r C Z N S₉ → (xB S₉ R) → (aS 75 S₉ = aCm ab y) → (aS 88 S₉ = a8) → (kC S₉ = kk) → Q (.inl none) S₉) : ma_wp X d w 119 0 [(0, .inr (.inr (some 75))), (1, .inr (.inr t))] [] S Q := by
  refine g_119_75_sk_0 t (by omega) (by omega) (zG_T hI) ?_
  refine ⟨fun hc => ?_, fun c1 hc => ?_⟩
  · skip
    have rn_c1 : zTa R y = none := hpre2.symm.trans hc
    exact K _ hI (show xB S R from by first | (exact (xC_o (W := 75) hpre0).2)) (show aS 75 S = aCm ab y from by first | (exact hpre1.trans (aCm_n (fun z => xB_nt (W := 75) hpre0 rn_c1 (by rw [hpre1]; exact ⟨z.1, z.2.1, z.2.2.1⟩))).symm)) (show aS 88 S = a8 from by first | (exact (xC_o (W := 88) hpre0).1.trans hpre3)) (show kC S = kk from by first | (exact (xK_o (W := 75) hpre0 hpre4).2))
  · skip
    have th_c1 := hq_t c1 hc
    have rg_c1 : zTa R y = some c1 := hpre2.symm.trans hc
    subst hc
    refine ⟨zG_n hI th_c1, ?_⟩
    have f1 := zG_th hI th_c1
    have b2 := i_bd (mI S 75 5)
    refine zd (fun h3 => ?_) (fun h3 => ?_)
    · skip
      have g4 := i_lt h3
      exact K _ hI (show xB S R from by first | (exact (xC_o (W := 75) hpre0).2)) (show aS 75 S = aCm ab y from by first | (have ty := xB_th (W := 75) hpre0 rg_c1; have e4 := congrArg Int32.toInt ty.2.2.2.2.2.1; refine hpre1.trans (aCm_n (fun z => ?_)).symm; rw [← hpre1] at z; have z4 : (mI S 75 5).toInt ≤ (mI S c1 4).toInt := (by rw [e4]; exact z.2.2.2.1); have z5 : (mI S 75 4).toInt < 512 := z.2.2.2.2.1; have z6 : (mI S 77 (mI S c1 0).toNatClampNeg).toInt = 0 := (by rw [ty.2.2.1]; exact congrArg Int32.toInt z.2.2.2.2.2); omega)) (show aS 88 S = a8 from by first | (exact (xC_o (W := 88) hpre0).1.trans hpre3)) (show kC S = kk from by first | (exact (xK_o (W := 75) hpre0 hpre4).2))
    · skip
      have g5 := i_nlt h3
      refine ⟨zG_n hI th_c1, ?_⟩
      have li6 : (512 : Int32).toInt = 512 := rfl
      have f7 := zG_th hI th_c1
      refine zd (fun h8 => ?_) (fun h8 => ?_)
      · skip
        have g9 := i_le h8
        exact K _ hI (show xB S R from by first | (exact (xC_o (W := 75) hpre0).2)) (show aS 75 S = aCm ab y from by first | (have ty := xB_th (W := 75) hpre0 rg_c1; have e4 := congrArg Int32.toInt ty.2.2.2.2.2.1; refine hpre1.trans (aCm_n (fun z => ?_)).symm; rw [← hpre1] at z; have z4 : (mI S 75 5).toInt ≤ (mI S c1 4).toInt := (by rw [e4]; exact z.2.2.2.1); have z5 : (mI S 75 4).toInt < 512 := z.2.2.2.2.1; have z6 : (mI S 77 (mI S c1 0).toNatClampNeg).toInt = 0 := (by rw [ty.2.2.1]; exact congrArg Int32.toInt z.2.2.2.2.2); omega)) (show aS 88 S = a8 from by first | (exact (xC_o (W := 88) hpre0).1.trans hpre3)) (show kC S = kk from by first | (exact (xK_o (W := 75) hpre0 hpre4).2))
      · skip
        have g10 := i_nle h8
        have f11 := zG_s hI (0) (512) (c := 75) (k := 4) (by decide)
        refine zd (fun h12 => ?_) (fun h12 => ?_)
        · skip
          have g13 := i_lt h12
          refine ⟨zG_n hI th_c1, ?_⟩
          refine ⟨i_ix (by omega) (by omega), ?_⟩
          have b14 := i_bd (mI S 77 (mI S c1 0).toNatClampNeg)
          have li15 : (0 : Int32).toInt = 0 := rfl
          refine zd (fun h16 => ?_) (fun h16 => ?_)
          · skip
            have g17 := i_eq h16
            refine ⟨zG_n hI th_c1, ?_⟩
            refine ⟨i_ix (by omega) (by omega), ?_⟩
            have hI18 : zI f r C Z N (ma_put S 77 (mI S c1 0).toNatClampNeg (.inl (1 : Int32))) := zG_fa hI rfl (by decide) (by decide) (by decide) trivial
            refine ⟨zG_n hI18 th_c1, ?_⟩
            refine ⟨i_ix (by omega) (by omega), ?_⟩
            have hI19 : zI f r C Z N (ma_put (ma_put S 77 (mI S c1 0).toNatClampNeg (.inl (1 : Int32))) 76 (mI S 75 4).toNatClampNeg (.inl (mI (ma_put S 77 (mI S c1 0).toNatClampNeg (.inl (1 : Int32))) c1 0))) := zG_fa hI18 rfl (by decide) (by decide) (by decide) trivial
            first | have e21 : ((mI S 75 4) + (1 : Int32)).toInt = (mI S 75 4).toInt + (1) := i_addk rfl (by omega) (by omega) | have b22 := i_bd ((mI S 75 4) + (1 : Int32))
            have hI20 : zI f r C Z N (ma_put (ma_put (ma_put S 77 (mI S c1 0).toNatClampNeg (.inl (1 : Int32))) 76 (mI S 75 4).toNatClampNeg (.inl (mI (ma_put S 77 (mI S c1 0).toNatClampNeg (.inl (1 : Int32))) c1 0))) 75 4 (.inl ((mI S 75 4) + (1 : Int32)))) := zG_sp hI19 (0) (512) rfl (by decide) (by decide) (by decide) trivial (by omega) (by omega)
            exact K _ hI20 (show xB (ma_put (ma_put (ma_put S 77 (mI S c1 0).toNatClampNeg (.inl (1 : Int32))) 76 (mI S 75 4).toNatClampNeg (.inl (mI (ma_put S 77 (mI S c1 0).toNatClampNeg (.inl (1 : Int32))) c1 0))) 75 4 (.inl ((mI S 75 4) + (1 : Int32)))) R from by first | (exact (xC_p (c := 75) (k := 4) (x := ((mI S 75 4) + (1 : Int32))) (xC_p (c := 76) (k := (mI S 75 4).toNatClampNeg) (x := (mI (ma_put S 77 (mI S c1 0).toNatClampNeg (.inl (1 : Int32))) c1 0)) (xC_p (c := 77) (k := (mI S c1 0).toNatClampNeg) (x := (1 : Int32)) (xC_o (W := 75) hpre0) 77 xW75 rfl rfl) 76 xW75 rfl rfl) 75 xW75 rfl rfl).2)) (show aS 75 (ma_put (ma_put (ma_put S 77 (mI S c1 0).toNatClampNeg (.inl (1 : Int32))) 76 (mI S 75 4).toNatClampNeg (.inl (mI (ma_put S 77 (mI S c1 0).toNatClampNeg (.inl (1 : Int32))) c1 0))) 75 4 (.inl ((mI S 75 4) + (1 : Int32)))) = aCm ab y from by first | (have ty := xB_th (W := 75) hpre0 rg_c1; have e4 := congrArg Int32.toInt ty.2.2.2.2.2.1; refine (xC_p (c := 75) (k := 4) (x := ((mI S 75 4) + (1 : Int32))) (xC_p (c := 76) (k := (mI S 75 4).toNatClampNeg) (x := (mI (ma_put S 77 (mI S c1 0).toNatClampNeg (.inl (1 : Int32))) c1 0)) (xC_p (c := 77) (k := (mI S c1 0).toNatClampNeg) (x := (1 : Int32)) (xC_o (W := 75) hpre0) 77 xW75 rfl rfl) 76 xW75 rfl rfl) 75 xW75 rfl rfl).1.trans ?_; (try simp only [zp_e (c₉ := 75) th_c1.1 (by decide), zp_e (c₉ := 76) th_c1.1 (by decide), zp_e (c₉ := 77) th_c1.1 (by decide)]); rw [ty.2.2.1, ← hpre1]; refine (aCm_y ⟨ty.1, ty.2.1, ?_, ?_, ?_, ?_⟩).symm; (rw [ty.2.2.2.2.2.2.2.2]; decide); (show (mI S 75 5).toInt ≤ _; rw [← e4]; omega); (show (mI S 75 4).toInt < 512; omega); (show mI S 77 y.toNatClampNeg = 0; rw [← ty.2.2.1]; assumption))) (show aS 88 (ma_put (ma_put (ma_put S 77 (mI S c1 0).toNatClampNeg (.inl (1 : Int32))) 76 (mI S 75 4).toNatClampNeg (.inl (mI (ma_put S 77 (mI S c1 0).toNatClampNeg (.inl (1 : Int32))) c1 0))) 75 4 (.inl ((mI S 75 4) + (1 : Int32)))) = a8 from by first | (exact (xC_n (c := 75) (k := 4) (x := ((mI S 75 4) + (1 : Int32))) (xC_n (c := 76) (k := (mI S 75 4).toNatClampNeg) (x := (mI (ma_put S 77 (mI S c1 0).toNatClampNeg (.inl (1 : Int32))) c1 0)) (xC_n (c := 77) (k := (mI S c1 0).toNatClampNeg) (x := (1 : Int32)) (xC_o (W := 88) hpre0) ⟨by decide, Or.inr ⟨rfl, Or.inl (by decide)⟩⟩) ⟨by decide, Or.inr ⟨rfl, Or.inl (by decide)⟩⟩) ⟨by decide, Or.inr ⟨rfl, Or.inl (by decide)⟩⟩).1.trans hpre3)) (show kC (ma_put (ma_put (ma_put S 77 (mI S c1 0).toNatClampNeg (.inl (1 : Int32))) 76 (mI S 75 4).toNatClampNeg (.inl (mI (ma_put S 77 (mI S c1 0).toNatClampNeg (.inl (1 : Int32))) c1 0))) 75 4 (.inl ((mI S 75 4) + (1 : Int32)))) = kk from by first | (exact (xK_p (c := 75) (k := 4) (x := ((mI S 75 4) + (1 : Int32))) (xK_p (c := 76) (k := (mI S 75 4).toNatClampNeg) (x := (mI (ma_put S 77 (mI S c1 0).toNatClampNeg (.inl (1 : Int32))) c1 0)) (xK_p (c := 77) (k := (mI S c1 0).toNatClampNeg) (x := (1 : Int32)) (xK_o (W := 75) hpre0 hpre4) 77 xW75 rfl rfl) 76 xW75 rfl rfl) 75 xW75 rfl rfl).2))
          · skip
            have g23 := i_ne h16
            exact K _ hI (show xB S R from by first | (exact (xC_o (W := 75) hpre0).2)) (show aS 75 S = aCm ab y from by first | (have ty := xB_th (W := 75) hpre0 rg_c1; have e4 := congrArg Int32.toInt ty.2.2.2.2.2.1; refine hpre1.trans (aCm_n (fun z => ?_)).symm; rw [← hpre1] at z; have z4 : (mI S 75 5).toInt ≤ (mI S c1 4).toInt := (by rw [e4]; exact z.2.2.2.1); have z5 : (mI S 75 4).toInt < 512 := z.2.2.2.2.1; have z6 : (mI S 77 (mI S c1 0).toNatClampNeg).toInt = 0 := (by rw [ty.2.2.1]; exact congrArg Int32.toInt z.2.2.2.2.2); omega)) (show aS 88 S = a8 from by first | (exact (xC_o (W := 88) hpre0).1.trans hpre3)) (show kC S = kk from by first | (exact (xK_o (W := 75) hpre0 hpre4).2))
        · skip
          have g24 := i_nlt h12
          exact K _ hI (show xB S R from by first | (exact (xC_o (W := 75) hpre0).2)) (show aS 75 S = aCm ab y from by first | (have ty := xB_th (W := 75) hpre0 rg_c1; have e4 := congrArg Int32.toInt ty.2.2.2.2.2.1; refine hpre1.trans (aCm_n (fun z => ?_)).symm; rw [← hpre1] at z; have z4 : (mI S 75 5).toInt ≤ (mI S c1 4).toInt := (by rw [e4]; exact z.2.2.2.1); have z5 : (mI S 75 4).toInt < 512 := z.2.2.2.2.1; have z6 : (mI S 77 (mI S c1 0).toNatClampNeg).toInt = 0 := (by rw [ty.2.2.1]; exact congrArg Int32.toInt z.2.2.2.2.2); omega)) (show aS 88 S = a8 from by first | (exact (xC_o (W := 88) hpre0).1.trans hpre3)) (show kC S = kk from by first | (exact (xK_o (W := 75) hpre0 hpre4).2))

