/-! COUNTS, the class (written by wip/tools/gen20k.py) -/
/-! COUNTS, the class: what each counts -/
def kC (S : ma_S) : Nat → Int32 := aTf (mI S) (mR S 70) 6
def zKu (K : Nat → Int32) (n : Nat) (x : Int32) : Nat → Int32 := fun m => if m = n then x else K m
def xK (W : Nat) (S : ma_S) (ab : Nat → Nat → Int32) (R : Nat → Option Nat) (K : Nat → Int32) : Prop := xC W S ab R ∧ kC S = K
/-- counts are right -/
def kJ (a : Nat → Nat → Int32) (K : Nat → Int32) : Prop := cQI a ∧ (0 ≤ (a 69 5).toInt ∧ (a 69 5).toInt ≤ 512) ∧ ∀ n, xAl a n → K n = Int32.ofInt (cRf a n)
section KK
variable {W c k n : Nat} {S : ma_S} {R : Nat → Option Nat} {ab : Nat → Nat → Int32} {K : Nat → Int32} {x y d : Int32}
theorem kC_p (h : xB S R) (hc : c < 126) : kC (ma_put S c k (.inl x)) = kC S := funext (fun n => (show aTf (ma_u (mI S) c k x) (mR S 70) 6 n = aTf (mI S) (mR S 70) 6 n from aTf_o (xB_hR h) hc))
theorem kC_f (hk : k ≠ 6) : kC (ma_put S c k (.inl x)) = kC S := by
  funext n
  show aTf (ma_u (mI S) c k x) (mR S 70) 6 n = aTf (mI S) (mR S 70) 6 n
  unfold aTf
  by_cases h : n < 512
  · rw [if_pos h, if_pos h]
    cases e : mR S 70 n with
    | none => rfl
    | some t =>
      show (if t = c ∧ 6 = k then x else mI S t 6) = mI S t 6
      rw [if_neg (fun w => hk w.2.symm)]
  · rw [if_neg h, if_neg h]
theorem kC_y (h : xB S R) (e : zTa R y = some c) : mI S c 6 = kC S y.toNatClampNeg := by
  have p := zTa_p e
  have hn := zTa_n e
  unfold kC
  rw [h.1]
  exact (aTf_c hn p.2.2).symm
theorem kC_6 (h : xB S R) (e : zTa R y = some c) : kC (ma_put S c 6 (.inl x)) = zKu (kC S) y.toNatClampNeg x := by
  have p := zTa_p e
  have hn := zTa_n e
  have hi := xB_inj h e
  funext n
  show aTf (ma_u (mI S) c 6 x) (mR S 70) 6 n = if n = y.toNatClampNeg then x else aTf (mI S) (mR S 70) 6 n
  rw [h.1]
  by_cases z : n = y.toNatClampNeg
  · rw [if_pos z, z, aTf_c hn p.2.2]
    show (if c = c ∧ 6 = 6 then x else _) = x
    rw [if_pos ⟨rfl, rfl⟩]
  · rw [if_neg z]
    unfold aTf
    by_cases w : n < 512
    · rw [if_pos w, if_pos w]
      cases q : R n with
      | none => rfl
      | some t =>
        show (if t = c ∧ 6 = 6 then x else mI S t 6) = mI S t 6
        rw [if_neg (fun g => z (hi n w (by rw [q, g.1])))]
    · rw [if_neg w, if_neg w]
theorem kC_0 : kC (ma_put S 70 n (.inr (.inr none))) = zKu (kC S) n 0 := by
  funext m
  show (if m < 512 then (match (if 70 = 70 ∧ m = n then none else mR S 70 m) with | some c => mI S c 6 | none => 0) else 0) = if m = n then 0 else aTf (mI S) (mR S 70) 6 m
  unfold aTf
  by_cases z : m = n
  · rw [if_pos z]
    by_cases w : m < 512
    · rw [if_pos w, if_pos ⟨rfl, z⟩]
    · rw [if_neg w]
  · rw [if_neg z, if_neg (c := 70 = 70 ∧ m = n) (fun w => z w.2)]
    first | rfl | (cases mR S 70 m <;> rfl)
theorem xK_o (h : xB S R) (hk : kC S = K) : xK W S (aS W S) R K := ⟨xC_o h, hk⟩
theorem xK_p (h : xK W S ab R K) (c0 : Nat) (hW : xW W) (hr : zrl c0 k = true) (hw : zcw W c0 = c) : xK W (ma_put S c k (.inl x)) (ma_u ab c0 k x) R K := ⟨xC_p h.1 c0 hW hr hw, (kC_p h.1.2 (by rw [← hw]; exact zcw_lt hW hr)).trans h.2⟩
theorem xK_n (h : xK W S ab R K) (hz : zir W c k) : xK W (ma_put S c k (.inl x)) ab R K := ⟨xC_n h.1 hz, (kC_p h.1.2 hz.1).trans h.2⟩
theorem xK_t (h : xK W S ab R K) (hW : xW W) (e : zTa R y = some c) (hf : zfd k = true) (h6 : k ≠ 6) : xK W (ma_put S c k (.inl x)) (ma_u ab (126 + k) y.toNatClampNeg x) R K := ⟨xC_t h.1 hW e hf, (kC_f h6).trans h.2⟩
theorem xK_6 (h : xK W S ab R K) (hW : xW W) (e : zTa R y = some c) (hc : 126 ≤ c) : xK W (ma_put S c 6 (.inl x)) ab R (zKu K y.toNatClampNeg x) := ⟨xC_6 h.1 hW hc rfl (by decide), (kC_6 h.1.2 e).trans (by rw [h.2])⟩
theorem xK_0 (h : xK W S ab R K) : xK W (ma_put S 70 n (.inr (.inr none))) (zNo ab n) (zRu R n none) (zKu K n 0) := ⟨xC_0 h.1, kC_0.trans (by rw [h.2])⟩
theorem xK_y (h : xK W S ab R K) (e : zTa R y = some c) : mI S c 6 = K y.toNatClampNeg := (kC_y h.1.2 e).trans (congrFun h.2 _)
theorem KU_1 (h0 : 0 ≤ y.toInt) (hn : n < 512) : zKu K y.toNatClampNeg (K y.toNatClampNeg + 1) n = K n + Int32.ofNat (cIs y n) := by
  unfold zKu
  by_cases z : n = y.toNatClampNeg
  · rw [if_pos z, z, cIs_s h0]; rfl
  · rw [if_neg z, cIs_y h0 hn z]; exact (Int32.add_zero _).symm
theorem KU_2 (h0 : 0 ≤ y.toInt) (hn : n < 512) : zKu K y.toNatClampNeg (K y.toNatClampNeg - 1) n = K n - Int32.ofNat (cIs y n) := by
  unfold zKu
  by_cases z : n = y.toNatClampNeg
  · rw [if_pos z, z, cIs_s h0]; rfl
  · rw [if_neg z, cIs_y h0 hn z]; exact (Int32.sub_zero _).symm
theorem KU_x : zKu K n (K n + x) k = K k + (if k = n then x else 0) := by
  unfold zKu
  by_cases z : k = n
  · rw [if_pos z, if_pos z, z]
  · rw [if_neg z, if_neg z]; exact (Int32.add_zero _).symm
/-- one that is not there is no one's number that is -/
theorem is_no (h : xB S R) (e : zTa R y = none) (hn : xAl (aS W S) n) : cIs y n = 0 := cIs_0 (fun w => xB_nt (W := W) h e (by
  have q := ofN_i hn.1
  have e2 : y.toNatClampNeg = n := by
    have c := tn_cast (x := y) (by rw [w]; omega)
    rw [w] at c ⊢
    omega
  exact ⟨by rw [w]; omega, by have := hn.1; rw [w]; omega, by rw [e2]; exact hn.2⟩))
theorem i32_ss (p q r : Int32) : p - q - r = p - (q + r) := by
  rw [Int32.sub_eq_add_neg (p - q), Int32.sub_eq_add_neg p q, Int32.add_assoc, Int32.sub_eq_add_neg p (q + r), Int32.neg_add, Int32.sub_eq_add_neg]
theorem Su_1 {f : Nat → Nat} {i : Int32} {p : Int32} (h0 : 0 ≤ i.toInt) (h1 : i.toInt < 1000) : p - Int32.ofNat (cSu f i.toInt.toNat) - Int32.ofNat (f i.toInt.toNat) = p - Int32.ofNat (cSu f (i + 1).toInt.toNat) := by
  rw [i_p1 (by omega), show (i.toInt + 1).toNat = i.toInt.toNat + 1 from by omega, i32_ss, ← Int32.ofNat_add]
  rfl
end KK
theorem xC_85 {W n : Nat} {S : ma_S} {ab : Nat → Nat → Int32} {R : Nat → Option Nat} {q : Option Nat} (h : xC W S ab R) : xC W (ma_put S 85 n (.inr (.inr q))) ab R := by
  have e : mR (ma_put S 85 n (.inr (.inr q))) 70 = mR S 70 := funext (fun k => by
    show (if 70 = 85 ∧ k = n then q else mR S 70 k) = mR S 70 k
    rw [if_neg (by omega)])
  refine ⟨?_, e.trans h.2.1, h.2.2⟩
  unfold aS
  rw [e]
  exact h.1
theorem xK_85 {W n : Nat} {S : ma_S} {ab : Nat → Nat → Int32} {R : Nat → Option Nat} {K : Nat → Int32} {q : Option Nat} (h : xK W S ab R K) : xK W (ma_put S 85 n (.inr (.inr q))) ab R K := by
  have e : mR (ma_put S 85 n (.inr (.inr q))) 70 = mR S 70 := funext (fun k => by
    show (if 70 = 85 ∧ k = n then q else mR S 70 k) = mR S 70 k
    rw [if_neg (by omega)])
  refine ⟨xC_85 h.1, ?_⟩
  unfold kC
  rw [e]
  exact h.2
/-- numbers and holds stay -/
def zN0 (S : ma_S) : Nat → Nat → Int32 := fun c k => if k = 0 ∨ k = 7 then mI S (126 + c) k else 0
theorem n0_p {S : ma_S} {c k : Nat} {x : Int32} (hc : c < 126) : zN0 (ma_put S c k (.inl x)) = zN0 S := by
  funext j i
  show (if i = 0 ∨ i = 7 then (if 126 + j = c ∧ i = k then x else mI S (126 + j) i) else 0) = if i = 0 ∨ i = 7 then mI S (126 + j) i else 0
  rw [if_neg (c := 126 + j = c ∧ i = k) (by omega)]
theorem n0_t {S : ma_S} {c k : Nat} {x : Int32} (hk : k ≠ 0 ∧ k ≠ 7) : zN0 (ma_put S c k (.inl x)) = zN0 S := by
  funext j i
  show (if i = 0 ∨ i = 7 then (if 126 + j = c ∧ i = k then x else mI S (126 + j) i) else 0) = if i = 0 ∨ i = 7 then mI S (126 + j) i else 0
  by_cases z : i = 0 ∨ i = 7
  · rw [if_pos z, if_pos z, if_neg (by omega)]
  · rw [if_neg z, if_neg z]
theorem n0_r {S : ma_S} {c k : Nat} {q : Option Nat} : zN0 (ma_put S c k (.inr (.inr q))) = zN0 S := rfl
theorem n0_k {S S1 : ma_S} {c k : Nat} (h : zN0 S1 = zN0 S) (hc : 126 ≤ c) (hk : k = 0 ∨ k = 7) : mI S1 c k = mI S c k := by
  have q := congrFun (congrFun h (c - 126)) k
  unfold zN0 at q
  rw [if_pos hk, if_pos hk, Nat.add_sub_cancel' hc] at q
  exact q
/-! COUNTS, the class: the stack of those that go -/
abbrev zLS : Type := List (Int32 × Int32)
def zSk (G : Nat → Option Nat) (I : Nat → Nat → Int32) (R : Nat → Option Nat) : List (Int32 × Int32) → Prop
  | [] => True
  | q :: t => (∃ c, G t.length = some c ∧ zTa R q.1 = some c) ∧ I 86 t.length = q.2 ∧ zSk G I R t
def zSt (S : ma_S) (R : Nat → Option Nat) (l : List (Int32 × Int32)) : Prop := zSk (mR S 85) (mI S) R l ∧ (mI S 84 7).toInt = (l.length : Int)
def cPr (a : Nat → Nat → Int32) (l : List (Int32 × Int32)) : (Nat → Nat → Int32) × List (List Int32) := (cRa a l, cZ a l)
def cF1 (x : (Nat → Nat → Int32) × List (List Int32)) (y : Int32) : (Nat → Nat → Int32) × List (List Int32) := if y.toInt < 0 then x else cFa x.1 x.2 y
def cMu (x : (Nat → Nat → Int32) × List (List Int32)) : Nat := cLm x.2 + cMs x.1
/-- behind a fall: the stack is right, and it is the reference's fall -/
def zFo (W : Nat) (S : ma_S) (R : Nat → Option Nat) (B : Int) (x : (Nat → Nat → Int32) × List (List Int32)) : Prop := ∃ l, zSt S R l ∧ cC (aS W S) l (kC S) B ∧ cPr (aS W S) l = x
def zNF (W : Nat) (S : ma_S) (B : Int) (x : (Nat → Nat → Int32) × List (List Int32)) (n : Int) : Prop := ∃ l, zSt S (mR S 70) l ∧ cC (aS W S) l (kC S) B ∧ (∀ b, cE (cPr (aS W S) l) b → cE x b) ∧ n + (cMu (cPr (aS W S) l) : Int) ≤ 40000
section SK
variable {W c k n : Nat} {S S' : ma_S} {G G' R R' : Nat → Option Nat} {I I' : Nat → Nat → Int32} {a ab : Nat → Nat → Int32} {K K' : Nat → Int32} {x y i d : Int32} {l t : List (Int32 × Int32)} {q : Int32 × Int32} {B : Int}
theorem Sk_cg : ∀ l : List (Int32 × Int32), (∀ k, k < l.length → G' k = G k ∧ I' 86 k = I 86 k) → (∀ q, q ∈ l → zTa R' q.1 = zTa R q.1) → zSk G I R l → zSk G' I' R' l := by
  intro l
  induction l with
  | nil => intro _ _ _; trivial
  | cons q t ih =>
    intro h hR ⟨h1, h2, h3⟩
    have e := h t.length (Nat.lt_succ_self _)
    refine ⟨?_, ?_, ih (fun k hk => h k (Nat.lt_succ_of_lt hk)) (fun p hp => hR p (List.mem_cons_of_mem _ hp)) h3⟩
    · rw [e.1, hR q List.mem_cons_self]; exact h1
    · rw [e.2]; exact h2
theorem St_fr (h : zSt S R l) (e85 : mR S' 85 = mR S 85) (e86 : mI S' 86 = mI S 86) (e84 : mI S' 84 7 = mI S 84 7) : zSt S' R l := ⟨Sk_cg l (fun k _ => ⟨by rw [e85], by rw [e86]⟩) (fun _ _ => rfl) h.1, by rw [e84]; exact h.2⟩
theorem St_0 (h : (mI S 84 7).toInt = 0) : zSt S R [] := ⟨trivial, h⟩
theorem St_top (h : zSt S R l) (h0 : 0 < (mI S 84 7).toInt) : l = (l.headD (0, 0)) :: l.tail ∧ mR S 85 (mI S 84 7 - 1).toNatClampNeg = zTa R (l.headD (0, 0)).1 ∧ mI S 86 (mI S 84 7 - 1).toNatClampNeg = (l.headD (0, 0)).2 := by
  cases l with
  | nil =>
    have := h.2
    exact absurd this (by show ¬ _ = ((0 : Nat) : Int); omega)
  | cons q t =>
    obtain ⟨⟨⟨c, h1, h1b⟩, h2, h3⟩, h4⟩ := h
    have h5 : (mI S 84 7).toInt = ((t.length + 1 : Nat) : Int) := h4
    have b := i_bd (mI S 84 7)
    have e : (mI S 84 7 - 1).toInt = (mI S 84 7).toInt - 1 := i_subk rfl (by omega) (by omega)
    have e2 : (mI S 84 7 - 1).toNatClampNeg = t.length := by
      have c := tn_cast (x := mI S 84 7 - 1) (by omega)
      omega
    refine ⟨rfl, ?_, ?_⟩
    · rw [e2, h1]; exact h1b.symm
    · rw [e2]; exact h2
theorem St_nil (h : zSt S R l) (h0 : ¬ 0 < (mI S 84 7).toInt) : l = [] := by
  cases l with
  | nil => rfl
  | cons q t =>
    have h5 : (mI S 84 7).toInt = ((t.length + 1 : Nat) : Int) := h.2
    omega
/-- the last one is taken off -/
theorem St_off (h : zSt S R (q :: t)) (hx : x = mI S 84 7 - 1) : zSt (ma_put S 84 7 (.inl x)) R t := by
  obtain ⟨⟨h1, h2, h3⟩, h4⟩ := h
  have h5 : (mI S 84 7).toInt = ((t.length + 1 : Nat) : Int) := h4
  have b := i_bd (mI S 84 7)
  have e : (mI S 84 7 - 1).toInt = (mI S 84 7).toInt - 1 := i_subk rfl (by omega) (by omega)
  refine ⟨Sk_cg t (fun k _ => ⟨rfl, by
    show (if 86 = 84 ∧ k = 7 then x else mI S 86 k) = mI S 86 k
    rw [if_neg (by omega)]⟩) (fun _ _ => rfl) h3, ?_⟩
  show (if 84 = 84 ∧ 7 = 7 then x else _).toInt = _
  rw [if_pos ⟨rfl, rfl⟩, hx]
  omega
/-- its next word -/
theorem St_nxt (h : zSt S R (q :: t)) (hk : k = (mI S 84 7 - 1).toNatClampNeg) : zSt (ma_put S 86 k (.inl x)) R ((q.1, x) :: t) := by
  obtain ⟨⟨h1, h2, h3⟩, h4⟩ := h
  have h5 : (mI S 84 7).toInt = ((t.length + 1 : Nat) : Int) := h4
  have b := i_bd (mI S 84 7)
  have e : (mI S 84 7 - 1).toInt = (mI S 84 7).toInt - 1 := i_subk rfl (by omega) (by omega)
  have e2 : k = t.length := by
    have c := tn_cast (x := mI S 84 7 - 1) (by omega)
    omega
  refine ⟨⟨h1, ?_, Sk_cg t (fun j hj => ⟨rfl, by
    show (if 86 = 86 ∧ j = k then x else mI S 86 j) = mI S 86 j
    rw [if_neg (by omega)]⟩) (fun _ _ => rfl) h3⟩, ?_⟩
  · show (if 86 = 86 ∧ t.length = k then x else _) = x
    rw [if_pos ⟨rfl, e2.symm⟩]
  · show (if 84 = 86 ∧ 7 = k then x else mI S 84 7).toInt = _
    rw [if_neg (by omega)]
    exact h4
/-- one more -/
theorem St_ps (h : zSt S R l) (e : zTa R y = some c) (hl : l.length < 512) (hk : k = (mI S 84 7).toNatClampNeg) (hx : x = mI S 84 7 + 1) : zSt (ma_put (ma_put (ma_put S 85 k (.inr (.inr (some c)))) 86 k (.inl 0)) 84 7 (.inl x)) R ((y, 0) :: l) := by
  have h5 := h.2
  have b := i_bd (mI S 84 7)
  have e2 : k = l.length := by
    have c := tn_cast (x := mI S 84 7) (by omega)
    omega
  refine ⟨⟨⟨c, ?_, e⟩, ?_, Sk_cg l (fun j hj => ⟨?_, ?_⟩) (fun _ _ => rfl) h.1⟩, ?_⟩
  · show (if 85 = 85 ∧ l.length = k then some c else _) = some c
    rw [if_pos ⟨rfl, e2.symm⟩]
  · show (if 86 = 84 ∧ l.length = 7 then x else if 86 = 86 ∧ l.length = k then (0 : Int32) else mI S 86 l.length) = 0
    rw [if_neg (by omega), if_pos ⟨rfl, e2.symm⟩]
  · show (if 85 = 85 ∧ j = k then some c else mR S 85 j) = _
    rw [if_neg (by omega)]
  · show (if 86 = 84 ∧ j = 7 then x else if 86 = 86 ∧ j = k then (0 : Int32) else mI S 86 j) = mI S 86 j
    rw [if_neg (by omega), if_neg (by omega)]
  · show (if 84 = 84 ∧ 7 = 7 then x else _).toInt = ((l.length + 1 : Nat) : Int)
    rw [if_pos ⟨rfl, rfl⟩, hx, i_p1 (by omega)]
    omega
theorem F1_n (h : y.toInt < 0) {x : (Nat → Nat → Int32) × List (List Int32)} : cF1 x y = x := if_pos h
theorem F1_y (h : 0 ≤ y.toInt) {x : (Nat → Nat → Int32) × List (List Int32)} : cF1 x y = cFa x.1 x.2 y := if_neg (by omega)
def cNu (a : Nat → Nat → Int32) : Nat := cSu (fun m => if a 126 m = 0 then 0 else 1) 512
theorem Nu_le : cNu a ≤ 512 := by
  unfold cNu
  have q := cSu_bd (f := fun m => if a 126 m = 0 then 0 else 1) (B := 1) 512 (fun k _ => by
    show (if a 126 k = 0 then 0 else 1) ≤ 1
    split <;> omega)
  omega
theorem Nu_rm (hy : xAl a y.toNatClampNeg) : cNu (aRm a y) + 1 = cNu a := by
  have t := cSu_up (f := fun m => if a 126 m = 0 then 0 else 1) (g := fun m => if aRm a y 126 m = 0 then 0 else 1) (j := y.toNatClampNeg) 512 hy.1 (fun u hu w => by
    show (if aRm a y 126 u = 0 then 0 else 1) = (if a 126 u = 0 then 0 else 1)
    rw [rm_rw (c := 126) (by decide) (by decide) w])
  have t1 : (if a 126 y.toNatClampNeg = 0 then 0 else 1) = 1 := if_neg hy.2
  have t2 : (if aRm a y 126 y.toNatClampNeg = 0 then 0 else 1) = 0 := if_pos (by rw [rm_f (by decide) (by decide), if_pos rfl])
  have t3 : cNu (aRm a y) + (if a 126 y.toNatClampNeg = 0 then 0 else 1) = cNu a + (if aRm a y 126 y.toNatClampNeg = 0 then 0 else 1) := t
  rw [t1, t2] at t3
  omega
theorem Nu_ra : ∀ (l : List (Int32 × Int32)) (a : Nat → Nat → Int32), (∀ q, q ∈ l → 0 ≤ q.1.toInt ∧ xAl a q.1.toNatClampNeg) → cDs l → cNu (cRa a l) + l.length = cNu a := by
  intro l
  induction l with
  | nil => intro a _ _; exact Nat.add_zero _
  | cons q t ih =>
    intro a h hd
    have h0 := h q List.mem_cons_self
    have r := ih (aRm a q.1) (fun p hp => ⟨(h p (List.mem_cons_of_mem _ hp)).1, (rm_al h0.1).mpr ⟨(h p (List.mem_cons_of_mem _ hp)).2, fun e => hd.1 p hp e.symm⟩⟩) hd.2
    have s := Nu_rm (a := a) h0.2
    show cNu (cRa (aRm a q.1) t) + (t.length + 1) = cNu a
    omega
/-- there is room on the stack -/
theorem C_rm5 (h : cC a l K B) (hr : xAl (cRa a l) n) : l.length < 512 := by
  have q := Nu_ra l a (fun q hq => ⟨(h.2.1 q hq).1, (h.2.1 q hq).2.1⟩) h.2.2.1
  have u : (if cRa a l 126 n = 0 then 0 else 1) ≤ cNu (cRa a l) := cSu_le (f := fun m => if cRa a l 126 m = 0 then 0 else 1) 512 hr.1
  rw [if_neg hr.2] at u
  have := Nu_le (a := a)
  omega
theorem Mu_st {x : (Nat → Nat → Int32) × List (List Int32)} (h : cV x.1 x.2 B) (hx : x.2 ≠ []) : cMu (cSt x) < cMu x := by
  obtain ⟨b, st⟩ := x
  cases st with
  | nil => exact absurd rfl hx
  | cons l0 t0 =>
    cases l0 with
    | nil =>
      show cLm t0 + cMs b < cLm ([] :: t0) + cMs b
      have : cLm ([] :: t0) = 0 + 1 + cLm t0 := rfl
      omega
    | cons r l1 =>
      have e : cLm ((r :: l1) :: t0) = l1.length + 1 + 1 + cLm t0 := rfl
      have e1 : cLm (l1 :: t0) = l1.length + 1 + cLm t0 := rfl
      by_cases z : r.toInt < 0
      · rw [cSt_n z]
        show cLm (l1 :: t0) + cMs b < cLm ((r :: l1) :: t0) + cMs b
        omega
      · rw [cSt_y (by omega)]
        have hr : xAl b r.toNatClampNeg := (h.2.2.1 (r :: l1) List.mem_cons_self r List.mem_cons_self).elim (fun w => absurd w z) id
        have h' : cV b ((r :: l1) :: t0) B := h
        have q : cLm (cFa b (l1 :: t0) r).2 + cMs (cFa b (l1 :: t0) r).1 ≤ cLm (l1 :: t0) + cMs b := (V_fa (V_tl h') (by omega) hr).2
        show cLm (cFa b (l1 :: t0) r).2 + cMs (cFa b (l1 :: t0) r).1 < cLm ((r :: l1) :: t0) + cMs b
        omega
end SK
/-! COUNTS, the class: falls -/
section FO
variable {W c k n : Nat} {S S' S1 : ma_S} {R : Nat → Option Nat} {ab b : Nat → Nat → Int32} {kk K' : Nat → Int32} {y i x : Int32} {l : List (Int32 × Int32)} {B m m' : Int}
theorem irw_y (hC : xB S R) (rg : zTa R y = some c) (e : aS W S = ab) (hi : 0 ≤ i.toInt) (hb : ¬ lg_cmp (((mL S c 3).toUInt64 >>> (i.toInt64.toUInt64 &&& Int64.toUInt64 63)).toInt64 &&& (1 : Int64)) (0 : Int64) = 0) : ab (1000 + y.toNatClampNeg) i.toNatClampNeg ≠ 0 := by
  rw [← e, rf_bit hC rg hi]
  unfold zbit
  rw [if_neg hb]
  decide
theorem irw_n (hC : xB S R) (rg : zTa R y = some c) (e : aS W S = ab) (hi : 0 ≤ i.toInt) (hb : lg_cmp (((mL S c 3).toUInt64 >>> (i.toInt64.toUInt64 &&& Int64.toUInt64 63)).toInt64 &&& (1 : Int64)) (0 : Int64) = 0) : ab (1000 + y.toNatClampNeg) i.toNatClampNeg = 0 := by
  rw [← e, rf_bit hC rg hi]
  unfold zbit
  rw [if_pos hb]
theorem fo_y (hC : cC ab l kk B) (hO : cOk (cRa ab l) y) (hx : xB S R) (hA : aS W S = ab) (e : zTa R y = none) : y.toInt < 0 := by
  rcases hO with w | w
  · exact w
  · by_cases z : y.toInt < 0
    · exact z
    · have al := C_al hC w
      have c := tn_cast (x := y) (by omega)
      have h5 := al.1.1
      exact absurd ⟨by omega, by omega, by rw [hA]; exact al.1.2⟩ (xB_nt (W := W) hx e)
theorem fo_al (hO : cOk (cRa ab l) y) (h0 : 0 ≤ y.toInt) : xAl (cRa ab l) y.toNatClampNeg := hO.elim (fun w => absurd h0 (by omega)) id
theorem FO_n (hS : zSt S R l) (hA : aS W S = ab) (hK : kC S = kk) (hC : cC ab l kk B) (hy : y.toInt < 0) : zFo W S R B (cF1 (cPr ab l) y) := ⟨l, hS, by rw [hA, hK]; exact hC, by rw [hA, F1_n hy]⟩
theorem FO_p (hS : zSt S R l) (hA : aS W S = ab) (hK : kC S = kk) (hC : cC ab l kk B) (hB : B ≤ 1000000) (hO : cOk (cRa ab l) y) (h0 : 0 ≤ y.toInt) (hk : 0 < (kk y.toNatClampNeg).toInt) : zFo W S R B (cF1 (cPr ab l) y) := ⟨l, hS, by rw [hA, hK]; exact hC, by rw [hA, F1_y h0]; exact (C_fp hC hB (fo_al hO h0) hk).symm⟩
theorem FO_g (hS : zSt S R l) (hA : aS W S = aGr ab y) (hC : cC ab l kk B) (hB : B ≤ 1000000) (hO : cOk (cRa ab l) y) (h0 : 0 ≤ y.toInt) (hk : ¬ 0 < (kk y.toNatClampNeg).toInt) (hw : ab 134 y.toNatClampNeg ≠ 0) (hK : ∀ n, xAl ab n → kC S n = kk n + (if (ab 69 5).toInt < 512 then Int32.ofNat (cIs y n) else 0)) : zFo W S R B (cF1 (cPr ab l) y) := by
  have q := C_fg (K' := kC S) hC hB h0 (fo_al hO h0) hk hw hK
  exact ⟨l, hS, by rw [hA]; exact q.1, by rw [hA, F1_y h0]; exact q.2.symm⟩
theorem FO_r (hS : zSt S R ((y, 0) :: l)) (hA : aS W S = ab) (hK : kC S = kk) (hC : cC ab l kk B) (hB : B ≤ 1000000) (hO : cOk (cRa ab l) y) (h0 : 0 ≤ y.toInt) (hk : ¬ 0 < (kk y.toNatClampNeg).toInt) (hw : ab 134 y.toNatClampNeg = 0) : zFo W S R B (cF1 (cPr ab l) y) := by
  have q := C_fr hC hB h0 (fo_al hO h0) hk hw
  exact ⟨(y, 0) :: l, hS, by rw [hA, hK]; exact q.1, by rw [hA, F1_y h0]; exact q.2.symm⟩
theorem DR (hC : cC ab ((y, i) :: l) kk B) (hi : i.toInt < (ab 128 y.toNatClampNeg).toInt - 1) (hb : ab (1000 + y.toNatClampNeg) i.toNatClampNeg ≠ 0) (hK : ∀ n, xAl ab n → K' n = kk n + Int32.ofNat (cIs (-1) n) - Int32.ofNat (cIs (aRef ab y.toNatClampNeg i) n)) (hbe : b = aCi ab y.toNatClampNeg i (aNm ab (-1))) : cC b ((y, i + 1) :: l) K' B ∧ cOk (cRa b ((y, i + 1) :: l)) (aRef ab y.toNatClampNeg i) ∧ cF1 (cPr b ((y, i + 1) :: l)) (aRef ab y.toNatClampNeg i) = cSt (cPr ab ((y, i) :: l)) := by
  have yy := hC.2.1 (y, i) List.mem_cons_self
  have wp : qWp ab y.toNatClampNeg i := ⟨yy.2.1, yy.2.2.1.1, hi⟩
  have q := cwp_i hC.1 wp
  have nm : aNm ab (-1) = -1 := if_neg (fun w => absurd w.1 (by decide))
  have be : b = ma_u ab 71 (ab 130 y.toNatClampNeg + 1 + i).toNatClampNeg (-1) := by
    rw [hbe, nm]
    exact if_pos ⟨q.2.1, q.2.2⟩
  obtain ⟨r1, r2, l0, t0, r3, r4⟩ := C_dr (K' := K') hC hi hb (fun n hn => by
    rw [hK n hn, cIs_n (by decide) hn.1]
    exact congrArg (fun z => z - _) (Int32.add_zero _)) be
  have ok : cOk (cRa ab ((y, i) :: l)) (aRef ab y.toNatClampNeg i) := by
    have w := hC.2.2.2.1.2.2.1
    rw [r3] at w
    exact w _ List.mem_cons_self _ List.mem_cons_self
  refine ⟨r1, by rw [r2]; exact ok, ?_⟩
  unfold cPr
  rw [r2, r3, r4]
  by_cases z : (aRef ab y.toNatClampNeg i).toInt < 0
  · rw [F1_n z, cSt_n z]
  · rw [F1_y (by omega), cSt_y (by omega)]
theorem FD_0 (hS : zSt S R ((y, i + 1) :: l)) (hA : aS W S = ab) (hK : kC S = kk) (hC : cC ab ((y, i) :: l) kk B) (hi : i.toInt < (ab 128 y.toNatClampNeg).toInt - 1) (hb : ab (1000 + y.toNatClampNeg) i.toNatClampNeg = 0) : zFo W S R B (cSt (cPr ab ((y, i) :: l))) := by
  have q := C_d0 hC hi hb
  exact ⟨(y, i + 1) :: l, hS, by rw [hA, hK]; exact q.1, by rw [hA]; exact q.2.1.symm⟩
variable {x0 : (Nat → Nat → Int32) × List (List Int32)}
theorem NF_0 (h : zFo W S R B x0) (hR : mR S 70 = R) : zNF W S B x0 0 := by
  obtain ⟨l, h1, h2, h3⟩ := h
  refine ⟨l, by rw [hR]; exact h1, h2, fun b hb => by rw [← h3]; exact hb, ?_⟩
  have q := h2.2.2.2.1.2.2.2.2.2
  show 0 + ((cLm (cZ (aS W S) l) + cMs (cRa (aS W S) l) : Nat) : Int) ≤ 40000
  omega
theorem NF_d (h : zFo W S' R B (cSt (cPr (aS W S) l))) (hR : mR S' 70 = R) (hC : cC (aS W S) l (kC S) B) (h3 : ∀ b, cE (cPr (aS W S) l) b → cE x0 b) (h4 : m + (cMu (cPr (aS W S) l) : Int) ≤ 40000) (hl : l = l.headD (0, 0) :: l.tail) (hm : m' = m + 1) : zNF W S' B x0 m' := by
  obtain ⟨l', g1, g2, g3⟩ := h
  have mu := Mu_st (x := cPr (aS W S) l) hC.2.2.2.1 (by rw [hl]; exact List.cons_ne_nil _ _)
  refine ⟨l', by rw [hR]; exact g1, g2, fun b hb => h3 b (cE_s (by rw [← g3]; exact hb)), ?_⟩
  rw [g3]
  omega
/-- the last one is removed -/
theorem NF_p (hC : cC (aS W S) l (kC S) B) (h3 : ∀ b, cE (cPr (aS W S) l) b → cE x0 b) (h4 : m + (cMu (cPr (aS W S) l) : Int) ≤ 40000) (hl : l = l.headD (0, 0) :: l.tail) (hm : m' = m + 1) (hi : ¬ (l.headD (0, 0)).2.toInt < (aS W S 128 (l.headD (0, 0)).1.toNatClampNeg).toInt - 1) (hA : aS W S' = aRm (aS W S) (l.headD (0, 0)).1) (hK : ∀ n, xAl (aS W S) n → n ≠ (l.headD (0, 0)).1.toNatClampNeg → kC S' n = kC S n - Int32.ofNat (cOb (aS W S) (l.headD (0, 0)).1.toNatClampNeg n)) (hS : zSt S' (mR S 70) l.tail) (hR : mR S' 70 = zRu (mR S 70) (l.headD (0, 0)).1.toNatClampNeg none) : zNF W S' B x0 m' := by
  have hC' := hC
  rw [hl] at hC'
  have q := C_pop (y := (l.headD (0, 0)).1) (i := (l.headD (0, 0)).2) (t := l.tail) (K' := kC S') hC' hi hK
  have e : cSt (cPr (aS W S) l) = cPr (aRm (aS W S) (l.headD (0, 0)).1) l.tail := by
    have e0 : cPr (aS W S) l = (cRa (aS W S) (((l.headD (0, 0)).1, (l.headD (0, 0)).2) :: l.tail), cZ (aS W S) (((l.headD (0, 0)).1, (l.headD (0, 0)).2) :: l.tail)) := congrArg (cPr (aS W S)) hl
    rw [e0]
    exact q.2.1
  have mu := Mu_st (x := cPr (aS W S) l) hC.2.2.2.1 (by rw [hl]; exact List.cons_ne_nil _ _)
  have hd : ∀ p, p ∈ l.tail → (l.headD (0, 0)).1.toNatClampNeg ≠ p.1.toNatClampNeg := hC'.2.2.1.1
  refine ⟨l.tail, ⟨Sk_cg l.tail (fun k _ => ⟨rfl, rfl⟩) (fun p hp => ?_) hS.1, hS.2⟩, by rw [hA]; exact q.1, fun b hb => h3 b (cE_s (by rw [e, ← hA]; exact hb)), ?_⟩
  · rw [hR]
    unfold zTa zRu
    by_cases z : 0 ≤ p.1.toInt ∧ p.1.toInt < 512
    · rw [if_pos z, if_pos z, if_neg (fun w => hd p hp w.symm)]
    · rw [if_neg z, if_neg z]
  · rw [hA, ← e]
    omega
/-- the last one is there -/
theorem NF_n (hC : cC (aS W S) l (kC S) B) (hx : xB S R) (hl : l = l.headD (0, 0) :: l.tail) (e : zTa R (l.headD (0, 0)).1 = none) : False := by
  have hC' := hC
  rw [hl] at hC'
  have yy := hC'.2.1 (l.headD (0, 0)) List.mem_cons_self
  have c := tn_cast yy.1
  have h5 := yy.2.1.1
  exact xB_nt (W := W) hx e ⟨yy.1, by omega, yy.2.1.2⟩
theorem NF_e (h : zNF W S B (cF1 (cPr ab []) y) m) (hO : cOk ab y) (hd : ¬ 0 < (mI S 84 7).toInt ∨ 40000 < m) : aS W S = cLe ab y ∧ cC (aS W S) [] (kC S) B := by
  obtain ⟨l, h1, h2, h3, h4⟩ := h
  have hl : l = [] := by
    rcases hd with w | w
    · exact St_nil h1 w
    · exfalso
      omega
  rw [hl] at h2 h3
  have q := h3 (aS W S) cE_o
  refine ⟨?_, h2⟩
  rcases hO with w | w
  · rw [F1_n w] at q
    rw [cLe_n (fun z => by omega)]
    exact (cE_dt q cE_o)
  · by_cases z : y.toInt < 0
    · rw [F1_n z] at q
      rw [cLe_n (fun z => by omega)]
      exact (cE_dt q cE_o)
    · rw [F1_y (by omega)] at q
      exact (cLe_y (by omega) w q).symm
end FO
