section ZRUN
variable {t : Nat → Int32} {n p p' k a a' b b' e x : Int} {s : Int32} {c i : Nat} {cs : List Nat}
theorem zRun_badp (hs : s.toInt = tk true t n p') (hp : p = p') (he : e = tk false t n s.toInt) (hx : x = zPart c t s.toInt e a) (h : x = -1) : zRun t n k (c :: cs) i p a b = -1 - s.toInt := by
  rw [hp]
  exact zRun_bad hs he hx h
theorem zRun_ok0 (hs : s.toInt = tk true t n p') (hp : p = p') (he : e = tk false t n s.toInt) (hx : x = zPart c t s.toInt e a) (h : x ≠ -1) : zRun t n k (c :: cs) 0 p a b = zRun t n k cs 1 e x b := by
  rw [hp, zRun_ok hs he hx h, if_pos rfl, if_neg (fun z => by omega)]
theorem zRun_ok1 (hs : s.toInt = tk true t n p') (hp : p = p') (he : e = tk false t n s.toInt) (hx : x = zPart c t s.toInt e a) (h : x ≠ -1) (hk : k = 3 ∨ k = 6) : zRun t n k (c :: cs) 1 p a b = zRun t n k cs 2 e a x := by
  rw [hp, zRun_ok hs he hx h, if_neg (by decide), if_pos ⟨rfl, hk⟩]
theorem zRun_okn (hs : s.toInt = tk true t n p') (hp : p = p') (he : e = tk false t n s.toInt) (hx : x = zPart c t s.toInt e a) (h : x ≠ -1) (hk : 2 ≤ i + 1 ∧ (2 ≤ i ∨ (k ≠ 3 ∧ k ≠ 6))) : zRun t n k (c :: cs) i p a b = zRun t n k cs (i + 1) e a b := by
  rw [hp, zRun_ok hs he hx h, if_neg (by omega), if_neg (fun z => by omega)]
theorem zEnd_badp (hs : s.toInt = tk true t n p') (hp : p = p') (he : e = tk false t n s.toInt) (h : s.toInt < e) : zEnd t n k p a b = -1 - s.toInt := by
  rw [hp]
  exact zEnd_bad hs he h
theorem zEnd_okp (hs : s.toInt = tk true t n p') (hp : p = p') (he : e = tk false t n s.toInt) (h : e ≤ s.toInt) : zEnd t n k p a b = zFin k a b := by
  rw [hp]
  exact zEnd_ok hs he h
theorem zFin_eq (ha : a = a') (hb : b = b' ∨ (k ≠ 3 ∧ k ≠ 6)) : zFin k a b = zFin k a' b' := by
  unfold zFin
  rw [ha]
  rcases hb with hb | hb
  · rw [hb]
  · by_cases c : k = 2
    · rw [if_pos c, if_pos c]
    · rw [if_neg c, if_neg c, if_neg hb.1, if_neg hb.1, if_neg hb.2, if_neg hb.2]
theorem zFin_0 (h : k = 0 ∨ k = 1 ∨ k = 4 ∨ k = 5) : zFin k a b = a := by
  unfold zFin
  rw [if_neg (by omega), if_neg (by omega), if_neg (by omega)]
theorem zFin_2 (h : k = 2) : zFin k a b = 2 * a := by
  unfold zFin
  rw [if_pos h]
theorem zFin_3 (h : k = 3) : zFin k a b = b + 2 * a := by
  unfold zFin
  rw [if_neg (by omega), if_pos h]
theorem zFin_6 (h : k = 6) : zFin k a b = a / b * b := by
  unfold zFin
  rw [if_neg (by omega), if_neg (by omega), if_pos h]
theorem mul_eq2 {v x y w : Int} (h1 : v = x * y) (h2 : x = a' / b') (h3 : y = b') (ha : a' = a) (hb : b' = b) (z : a / b * b = w) : v = w := by
  rw [h1, h2, h3, ha, hb]
  exact z
end ZRUN
/-! bytes -/
def zb (x s : Int32) : Int32 := vp_nar .byte ((x >>> (s &&& 31)).toInt8.toInt32)
theorem zb_bv (x : BitVec 32) (s : Nat) (h : s ≤ 24) : (x >>> s).signExtend 8 = (x.sshiftRight s).signExtend 8 := by
  apply BitVec.eq_of_getLsbD_eq
  intro i hi
  have h1 : i < 32 := by omega
  have h2 : s + i < 32 := by omega
  have h3 : ¬ 32 ≤ i := by omega
  rw [BitVec.getLsbD_signExtend, BitVec.getLsbD_signExtend, if_pos h1, if_pos h1, BitVec.getLsbD_ushiftRight, BitVec.getLsbD_sshiftRight, if_pos h2, decide_eq_false h3]
  simp
theorem zb_eq (x : Int32) (u : UInt32) (s : Int32) (k : Nat) (hk : k ≤ 24) (hu : u.toBitVec % 32 = BitVec.ofNat 32 k) (hs : s.toBitVec.smod 32 = BitVec.ofNat 32 k) : (x.toUInt32 >>> u).toInt32.toInt8 = (x >>> s).toInt8 := by
  apply Int8.toBitVec_inj.mp
  rw [Int32.toBitVec_toInt8, Int32.toBitVec_toInt8, Int32.toBitVec_shiftRight, hs]
  show ((x.toUInt32 >>> u).toBitVec).signExtend 8 = _
  rw [UInt32.toBitVec_shiftRight, hu]
  show (x.toBitVec >>> (BitVec.ofNat 32 k)).signExtend 8 = (x.toBitVec.sshiftRight (BitVec.ofNat 32 k).toNat).signExtend 8
  have e : (BitVec.ofNat 32 k).toNat = k := by
    rw [BitVec.toNat_ofNat]
    exact Nat.mod_eq_of_lt (by omega)
  rw [BitVec.ushiftRight_eq', e]
  exact zb_bv _ _ hk
theorem zb_24 (x : Int32) : vp_nar .byte (((x.toUInt32 >>> ((24 : Int32).toUInt32 &&& Int32.toUInt32 31)).toInt32).toInt8.toInt32) = zb x 24 := by
  unfold zb
  rw [zb_eq x _ ((24 : Int32) &&& 31) 24 (by decide) (by decide +kernel) (by decide +kernel)]
theorem zb_16 (x : Int32) : vp_nar .byte (((x.toUInt32 >>> ((16 : Int32).toUInt32 &&& Int32.toUInt32 31)).toInt32).toInt8.toInt32) = zb x 16 := by
  unfold zb
  rw [zb_eq x _ ((16 : Int32) &&& 31) 16 (by decide) (by decide +kernel) (by decide +kernel)]
theorem zb_8 (x : Int32) : vp_nar .byte (((x.toUInt32 >>> ((8 : Int32).toUInt32 &&& Int32.toUInt32 31)).toInt32).toInt8.toInt32) = zb x 8 := by
  unfold zb
  rw [zb_eq x _ ((8 : Int32) &&& 31) 8 (by decide) (by decide +kernel) (by decide +kernel)]
theorem zb_0 (x : Int32) : vp_nar .byte (((x.toUInt32 >>> ((0 : Int32).toUInt32 &&& Int32.toUInt32 31)).toInt32).toInt8.toInt32) = zb x 0 := by
  unfold zb
  rw [zb_eq x _ ((0 : Int32) &&& 31) 0 (by decide) (by decide +kernel) (by decide +kernel)]
/-- four bytes more -/
def zFq (r r' : Nat → Int32) (n : Int) (x : Int32) : Prop := (∀ k : Nat, (k : Int) < n → r' k = r k) ∧ r' n.toNat = zb x 24 ∧ r' (n + 1).toNat = zb x 16 ∧ r' (n + 2).toNat = zb x 8 ∧ r' (n + 3).toNat = zb x 0
def zFd (r r' : Nat → Int32) (n : Int) (j : Nat) (w : Nat → Int32) : Prop := (∀ k : Nat, (k : Int) < n → r' k = r k) ∧ ∀ i : Nat, i < j → r' (n + 4 * i).toNat = zb (w i) 24 ∧ r' (n + 4 * i + 1).toNat = zb (w i) 16 ∧ r' (n + 4 * i + 2).toNat = zb (w i) 8 ∧ r' (n + 4 * i + 3).toNat = zb (w i) 0
def zw5 (a b c d e : Int32) (i : Nat) : Int32 := if i = 0 then a else if i = 1 then b else if i = 2 then c else if i = 3 then d else e
section FD
variable {r r1 r2 r' q q' : Nat → Int32} {n m : Int} {x : Int32} {j : Nat} {w : Nat → Int32}
theorem fq_of {i0 i1 i2 i3 : Nat} {b0 b1 b2 b3 : Int32} (h : ∀ k, r' k = if k = i3 then b3 else if k = i2 then b2 else if k = i1 then b1 else if k = i0 then b0 else r k) (e0 : (i0 : Int) = n) (e1 : (i1 : Int) = n + 1) (e2 : (i2 : Int) = n + 2) (e3 : (i3 : Int) = n + 3) (h0 : b0 = zb x 24) (h1 : b1 = zb x 16) (h2 : b2 = zb x 8) (h3 : b3 = zb x 0) : zFq r r' n x := by
  refine ⟨fun k hk => ?_, ?_, ?_, ?_, ?_⟩
  · rw [h, if_neg (by omega), if_neg (by omega), if_neg (by omega), if_neg (by omega)]
  · rw [h, if_neg (by omega), if_neg (by omega), if_neg (by omega), if_pos (by omega), h0]
  · rw [h, if_neg (by omega), if_neg (by omega), if_pos (by omega), h1]
  · rw [h, if_neg (by omega), if_pos (by omega), h2]
  · rw [h, if_pos (by omega), h3]
theorem fd_0 : zFd r r n 0 w := ⟨fun _ _ => rfl, fun _ h => absurd h (Nat.not_lt_zero _)⟩
theorem fd_s (h : zFd r r1 n j w) (hn : 0 ≤ n) (y : zFq r1 r2 m x) (hm : m = n + 4 * j) (hw : w j = x) : zFd r r2 n (j + 1) w := by
  refine ⟨fun k hk => (y.1 k (by omega)).trans (h.1 k hk), fun i hi => ?_⟩
  by_cases c : i < j
  · have z := h.2 i c
    rw [y.1 _ (by omega), y.1 _ (by omega), y.1 _ (by omega), y.1 _ (by omega)]
    exact z
  · have e : i = j := by omega
    subst e
    rw [← hm, hw]
    exact y.2
theorem fd_al (h : zFd r r' n 5 w) (y : zFd q q' n 5 w) (hn : 0 ≤ n) (ha : ∀ k : Nat, (k : Int) < n → r k = q k) : ∀ k : Nat, (k : Int) < n + 20 → r' k = q' k := by
  intro k hk
  by_cases c : (k : Int) < n
  · rw [h.1 k c, y.1 k c]
    exact ha k c
  · have z : ∃ i : Nat, i < 5 ∧ (k = (n + 4 * i).toNat ∨ k = (n + 4 * i + 1).toNat ∨ k = (n + 4 * i + 2).toNat ∨ k = (n + 4 * i + 3).toNat) := ⟨((k : Int) - n).toNat / 4, by omega, by omega⟩
    obtain ⟨i, hi, z⟩ := z
    have u1 := h.2 i hi
    have u2 := y.2 i hi
    rcases z with z | z | z | z <;> rw [z]
    · rw [u1.1, u2.1]
    · rw [u1.2.1, u2.2.1]
    · rw [u1.2.2.1, u2.2.2.1]
    · rw [u1.2.2.2, u2.2.2.2]
end FD
theorem pr_o {S : ma_S} {x : Int32} : mI (ma_put S 64 1 (.inl x)) 65 = mI S 65 := funext (fun k => show (if 65 = 64 ∧ k = 1 then x else mI S 65 k) = mI S 65 k from if_neg (fun z => absurd z.1 (by decide)))
theorem pr_s {S : ma_S} {i k : Nat} {x : Int32} : mI (ma_put S 65 i (.inl x)) 65 k = if k = i then x else mI S 65 k := by
  show (if 65 = 65 ∧ k = i then x else mI S 65 k) = _
  by_cases c : k = i
  · rw [if_pos ⟨rfl, c⟩, if_pos c]
  · rw [if_neg (fun z => c z.2), if_neg c]
theorem hp_bad {v s : Int32} {Z : Int} {W : Prop} (h : (v.toInt = -1 ∧ -1 - s.toInt = Z) ∨ (v.toInt ≠ -1 ∧ W)) (hv : v.toInt = -1) (h0 : 0 ≤ s.toInt) (h1 : s.toInt ≤ 100) : ((-1 : Int32) - s).toInt = Z := by
  have l : (-1 : Int32).toInt = -1 := rfl
  have e : ((-1 : Int32) - s).toInt = (-1 : Int32).toInt - s.toInt := i_sub (by omega) (by omega)
  rcases h with h | h
  · rw [e, l]
    exact h.2
  · exact absurd hv h.1
theorem hp_good {v : Int32} {W V : Prop} (h : (v.toInt = -1 ∧ W) ∨ (v.toInt ≠ -1 ∧ V)) (hv : v.toInt ≠ -1) : V := by
  rcases h with h | h
  · exact absurd h.1 hv
  · exact h.2
theorem hp_neg {v : Int32} {W : Prop} (h : v.toInt = -1 ∨ (0 ≤ v.toInt ∧ v.toInt ≤ 6 ∧ W)) (hn : v.toInt < 0 ∨ 6 < v.toInt) : v.toInt = -1 := by
  rcases h with h | h
  · exact h
  · omega
/-! levels of the texts -/
def zY0_f (c k : Nat) : Bool := zfz c k
def zY0_s : List (Nat × Nat × Int × Int) := [(69, 5, 0, 512), (69, 6, 0, 512), (75, 3, 0, 512), (75, 4, 0, 512), (88, 3, 0, 512), (88, 4, 0, 512), (64, 1, 0, 100), (64, 2, 0, 100), (64, 3, 0, 100), (64, 7, 0, 16)]
def zY0_a : List (Nat × Nat × Int × Int) := []
def zY0_r : List Nat := [70]
def zY0_x (_ : Nat → Nat → Int32) : Prop := True
abbrev zY0 (f : Nat → Nat → Int32) (r : Nat → Nat → Option Nat) (C Z N : Nat) (S : ma_S) : Prop := zG zY0_f zY0_s zY0_a zY0_r zY0_x f r C Z N S
theorem zY0_t (c k : Nat) (h : 126 ≤ c) : zY0_f c k = false := by
  unfold zY0_f zfz
  simp only [Bool.and_eq_false_iff, Bool.or_eq_false_iff, decide_eq_false_iff_not]
  omega
def zY_f (c k : Nat) : Bool := zfz c k && (decide (c ≠ 64) || decide (k = 1) || decide (k = 7))
def zY_s : List (Nat × Nat × Int × Int) := [(69, 5, 0, 512), (69, 6, 0, 512), (75, 3, 0, 512), (75, 4, 0, 512), (88, 3, 0, 512), (88, 4, 0, 512), (64, 1, 0, 100), (64, 2, 0, 100), (64, 3, 0, 100), (64, 7, 0, 16)]
def zY_a : List (Nat × Nat × Int × Int) := []
def zY_r : List Nat := [70]
def zY_x (_ : Nat → Nat → Int32) : Prop := True
abbrev zY (f : Nat → Nat → Int32) (r : Nat → Nat → Option Nat) (C Z N : Nat) (S : ma_S) : Prop := zG zY_f zY_s zY_a zY_r zY_x f r C Z N S
theorem zY_t (c k : Nat) (h : 126 ≤ c) : zY_f c k = false := by
  unfold zY_f zfz
  simp only [Bool.and_eq_false_iff, Bool.or_eq_false_iff, decide_eq_false_iff_not]
  omega
def zR_f (c k : Nat) : Bool := zfz c k && (decide (c ≠ 64) || decide (k = 1) || decide (k = 7)) && decide (c ≠ 66)
def zR_s : List (Nat × Nat × Int × Int) := [(69, 5, 0, 512), (69, 6, 0, 512), (75, 3, 0, 512), (75, 4, 0, 512), (88, 3, 0, 512), (88, 4, 0, 512), (64, 1, 0, 100), (64, 2, 0, 100), (64, 3, 0, 100), (64, 7, 0, 16)]
def zR_a : List (Nat × Nat × Int × Int) := [(66, 4, -1, 1500)]
def zR_r : List Nat := [70]
def zR_x (_ : Nat → Nat → Int32) : Prop := True
abbrev zR (f : Nat → Nat → Int32) (r : Nat → Nat → Option Nat) (C Z N : Nat) (S : ma_S) : Prop := zG zR_f zR_s zR_a zR_r zR_x f r C Z N S
theorem zR_t (c k : Nat) (h : 126 ≤ c) : zR_f c k = false := by
  unfold zR_f zfz
  simp only [Bool.and_eq_false_iff, Bool.or_eq_false_iff, decide_eq_false_iff_not]
  omega
def zKd_f (c k : Nat) : Bool := zfz c k && decide (c ≠ 64) && decide (c ≠ 67) && decide (c ≠ 68)
def zKd_s : List (Nat × Nat × Int × Int) := [(69, 5, 0, 512), (69, 6, 0, 512), (75, 3, 0, 512), (75, 4, 0, 512), (88, 3, 0, 512), (88, 4, 0, 512), (64, 1, 0, 100), (64, 2, 0, 100), (64, 3, 0, 100), (64, 7, 0, 16)]
def zKd_a : List (Nat × Nat × Int × Int) := [(67, 16, 0, 8)]
def zKd_r : List Nat := [70]
def zKd_x (_ : Nat → Nat → Int32) : Prop := True
abbrev zKd (f : Nat → Nat → Int32) (r : Nat → Nat → Option Nat) (C Z N : Nat) (S : ma_S) : Prop := zG zKd_f zKd_s zKd_a zKd_r zKd_x f r C Z N S
theorem zKd_t (c k : Nat) (h : 126 ≤ c) : zKd_f c k = false := by
  unfold zKd_f zfz
  simp only [Bool.and_eq_false_iff, Bool.or_eq_false_iff, decide_eq_false_iff_not]
  omega
def zFe_f (c k : Nat) : Bool := zfz c k && (decide (c ≠ 64) || decide (k = 7)) && decide (c ≠ 65)
def zFe_s : List (Nat × Nat × Int × Int) := [(69, 5, 0, 512), (69, 6, 0, 512), (75, 3, 0, 512), (75, 4, 0, 512), (88, 3, 0, 512), (88, 4, 0, 512), (64, 1, 0, 100), (64, 2, 0, 100), (64, 3, 0, 100), (64, 7, 0, 16)]
def zFe_a : List (Nat × Nat × Int × Int) := []
def zFe_r : List Nat := [70]
def zFe_x (_ : Nat → Nat → Int32) : Prop := True
abbrev zFe (f : Nat → Nat → Int32) (r : Nat → Nat → Option Nat) (C Z N : Nat) (S : ma_S) : Prop := zG zFe_f zFe_s zFe_a zFe_r zFe_x f r C Z N S
theorem zFe_t (c k : Nat) (h : 126 ≤ c) : zFe_f c k = false := by
  unfold zFe_f zfz
  simp only [Bool.and_eq_false_iff, Bool.or_eq_false_iff, decide_eq_false_iff_not]
  omega
def zM83_f (c k : Nat) : Bool := zfz c k && decide (c ≠ 83)
def zM83_s : List (Nat × Nat × Int × Int) := [(69, 5, 0, 512), (69, 6, 0, 512), (75, 3, 0, 512), (75, 4, 0, 512), (88, 3, 0, 512), (88, 4, 0, 512)]
def zM83_a : List (Nat × Nat × Int × Int) := []
def zM83_r : List Nat := [70]
def zM83_x (_ : Nat → Nat → Int32) : Prop := True
abbrev zM83 (f : Nat → Nat → Int32) (r : Nat → Nat → Option Nat) (C Z N : Nat) (S : ma_S) : Prop := zG zM83_f zM83_s zM83_a zM83_r zM83_x f r C Z N S
theorem zM83_t (c k : Nat) (h : 126 ≤ c) : zM83_f c k = false := by
  unfold zM83_f zfz
  simp only [Bool.and_eq_false_iff, Bool.or_eq_false_iff, decide_eq_false_iff_not]
  omega
def zM92_f (c k : Nat) : Bool := zfz c k && decide (c ≠ 92)
def zM92_s : List (Nat × Nat × Int × Int) := [(69, 5, 0, 512), (69, 6, 0, 512), (75, 3, 0, 512), (75, 4, 0, 512), (88, 3, 0, 512), (88, 4, 0, 512)]
def zM92_a : List (Nat × Nat × Int × Int) := [(92, 93, 0, 3000)]
def zM92_r : List Nat := [70]
def zM92_x (_ : Nat → Nat → Int32) : Prop := True
abbrev zM92 (f : Nat → Nat → Int32) (r : Nat → Nat → Option Nat) (C Z N : Nat) (S : ma_S) : Prop := zG zM92_f zM92_s zM92_a zM92_r zM92_x f r C Z N S
theorem zM92_t (c k : Nat) (h : 126 ≤ c) : zM92_f c k = false := by
  unfold zM92_f zfz
  simp only [Bool.and_eq_false_iff, Bool.or_eq_false_iff, decide_eq_false_iff_not]
  omega
theorem zR_dn_zY {f : Nat → Nat → Int32} {r : Nat → Nat → Option Nat} {C Z N : Nat} {S : ma_S} (h : zR f r C Z N S) : zY (mI S) (mR S) C Z N S := zG_dn h (by decide) (by decide) (by decide) (fun _ => trivial)
theorem zR_up_zY {f : Nat → Nat → Int32} {r : Nat → Nat → Option Nat} {C Z N : Nat} {S S1 : ma_S} (h : zR f r C Z N S) (h1 : zY (mI S) (mR S) C Z N S1) : zR f r C Z N S1 := by
  refine zG_up h h1 (fun c k z => ?_) (by decide) ?_ (by decide) (fun g q h => ?_)
  · have z0 : zfz c k = true := by
      simp only [zR_f, Bool.and_eq_true] at z
      simp only [z]
    simp only [zR_f, Bool.and_eq_true, Bool.or_eq_true, decide_eq_true_eq] at z
    simp only [zY_f, Bool.and_eq_true, Bool.or_eq_true, decide_eq_true_eq]
    exact ⟨z0, by omega⟩
  · intro q hq
    have e : q = (66, 4, -1, 1500) := by simpa [zR_a] using hq
    rcases e with rfl
    · exact Or.inr (fun _ => rfl)
  · exact trivial
theorem zR_dn_zY0 {f : Nat → Nat → Int32} {r : Nat → Nat → Option Nat} {C Z N : Nat} {S : ma_S} (h : zR f r C Z N S) : zY0 (mI S) (mR S) C Z N S := zG_dn h (by decide) (by decide) (by decide) (fun _ => trivial)
theorem zR_up_zY0 {f : Nat → Nat → Int32} {r : Nat → Nat → Option Nat} {C Z N : Nat} {S S1 : ma_S} (h : zR f r C Z N S) (h1 : zY0 (mI S) (mR S) C Z N S1) : zR f r C Z N S1 := by
  refine zG_up h h1 (fun c k z => ?_) (by decide) ?_ (by decide) (fun g q h => ?_)
  · have z0 : zfz c k = true := by
      simp only [zR_f, Bool.and_eq_true] at z
      simp only [z]
    simp only [zR_f, Bool.and_eq_true, Bool.or_eq_true, decide_eq_true_eq] at z
    exact z0
  · intro q hq
    have e : q = (66, 4, -1, 1500) := by simpa [zR_a] using hq
    rcases e with rfl
    · exact Or.inr (fun _ => rfl)
  · exact trivial
theorem zA_dn_zR {f : Nat → Nat → Int32} {r : Nat → Nat → Option Nat} {C Z N : Nat} {S : ma_S} (h : zA f r C Z N S) : zR (mI S) (mR S) C Z N S := zG_dn h (by decide) (by decide) (by decide) (fun _ => trivial)
theorem zA_up_zR {f : Nat → Nat → Int32} {r : Nat → Nat → Option Nat} {C Z N : Nat} {S S1 : ma_S} (h : zA f r C Z N S) (h1 : zR (mI S) (mR S) C Z N S1) : zA f r C Z N S1 := by
  refine zG_up h h1 (fun c k z => ?_) (by decide) ?_ (by decide) (fun g q h => ?_)
  · have z0 : zfz c k = true := by
      simp only [zA_f, Bool.and_eq_true] at z
      simp only [z]
    simp only [zA_f, Bool.and_eq_true, Bool.or_eq_true, decide_eq_true_eq] at z
    simp only [zR_f, Bool.and_eq_true, Bool.or_eq_true, decide_eq_true_eq]
    exact ⟨⟨z0, by omega⟩, by omega⟩
  · intro q hq
    have e : q = (66, 4, -1, 1500) ∨ q = (67, 16, 0, 8) ∨ q = (92, 93, 0, 3000) := by simpa [zA_a] using hq
    rcases e with rfl | rfl | rfl
    · exact Or.inl (by decide)
    · exact Or.inr (fun _ => rfl)
    · exact Or.inr (fun _ => rfl)
  · unfold zA_x at h ⊢
    rw [g 81 2 rfl, g 81 3 rfl, g 82 2 rfl, g 82 3 rfl, g 82 7 rfl]
    exact h
theorem zAn_dn_zKd {f : Nat → Nat → Int32} {r : Nat → Nat → Option Nat} {C Z N : Nat} {S : ma_S} (h : zAn f r C Z N S) : zKd (mI S) (mR S) C Z N S := zG_dn h (by decide) (by decide) (by decide) (fun _ => trivial)
theorem zAn_up_zKd {f : Nat → Nat → Int32} {r : Nat → Nat → Option Nat} {C Z N : Nat} {S S1 : ma_S} (h : zAn f r C Z N S) (h1 : zKd (mI S) (mR S) C Z N S1) : zAn f r C Z N S1 := by
  refine zG_up h h1 (fun c k z => ?_) (by decide) ?_ (by decide) (fun g q h => ?_)
  · have z0 : zfz c k = true := by
      simp only [zAn_f, Bool.and_eq_true] at z
      simp only [z]
    simp only [zAn_f, Bool.and_eq_true, Bool.or_eq_true, decide_eq_true_eq] at z
    simp only [zKd_f, Bool.and_eq_true, Bool.or_eq_true, decide_eq_true_eq]
    exact ⟨⟨⟨z0, by omega⟩, by omega⟩, by omega⟩
  · intro q hq
    have e : q = (66, 4, -1, 1500) ∨ q = (67, 16, 0, 8) ∨ q = (92, 93, 0, 3000) := by simpa [zAn_a] using hq
    rcases e with rfl | rfl | rfl
    · exact Or.inr (fun _ => rfl)
    · exact Or.inl (by decide)
    · exact Or.inr (fun _ => rfl)
  · unfold zAn_x at h ⊢
    rw [g 81 2 rfl, g 81 3 rfl, g 82 2 rfl, g 82 3 rfl, g 82 7 rfl]
    exact h
theorem zA_dn_zFe {f : Nat → Nat → Int32} {r : Nat → Nat → Option Nat} {C Z N : Nat} {S : ma_S} (h : zA f r C Z N S) : zFe (mI S) (mR S) C Z N S := zG_dn h (by decide) (by decide) (by decide) (fun _ => trivial)
theorem zA_up_zFe {f : Nat → Nat → Int32} {r : Nat → Nat → Option Nat} {C Z N : Nat} {S S1 : ma_S} (h : zA f r C Z N S) (h1 : zFe (mI S) (mR S) C Z N S1) : zA f r C Z N S1 := by
  refine zG_up h h1 (fun c k z => ?_) (by decide) ?_ (by decide) (fun g q h => ?_)
  · have z0 : zfz c k = true := by
      simp only [zA_f, Bool.and_eq_true] at z
      simp only [z]
    simp only [zA_f, Bool.and_eq_true, Bool.or_eq_true, decide_eq_true_eq] at z
    simp only [zFe_f, Bool.and_eq_true, Bool.or_eq_true, decide_eq_true_eq]
    exact ⟨⟨z0, by omega⟩, by omega⟩
  · intro q hq
    have e : q = (66, 4, -1, 1500) ∨ q = (67, 16, 0, 8) ∨ q = (92, 93, 0, 3000) := by simpa [zA_a] using hq
    rcases e with rfl | rfl | rfl
    · exact Or.inr (fun _ => rfl)
    · exact Or.inr (fun _ => rfl)
    · exact Or.inr (fun _ => rfl)
  · unfold zA_x at h ⊢
    rw [g 81 2 rfl, g 81 3 rfl, g 82 2 rfl, g 82 3 rfl, g 82 7 rfl]
    exact h
theorem zK82_dn_zM83 {f : Nat → Nat → Int32} {r : Nat → Nat → Option Nat} {C Z N : Nat} {S : ma_S} (h : zK82 f r C Z N S) : zM83 (mI S) (mR S) C Z N S := zG_dn h (by decide) (by decide) (by decide) (fun _ => trivial)
theorem zK82_up_zM83 {f : Nat → Nat → Int32} {r : Nat → Nat → Option Nat} {C Z N : Nat} {S S1 : ma_S} (h : zK82 f r C Z N S) (h1 : zM83 (mI S) (mR S) C Z N S1) : zK82 f r C Z N S1 := by
  refine zG_up h h1 (fun c k z => ?_) (by decide) ?_ (by decide) (fun g q h => ?_)
  · have z0 : zfz c k = true := by
      simp only [zK82_f, Bool.and_eq_true] at z
      simp only [z]
    simp only [zK82_f, Bool.and_eq_true, Bool.or_eq_true, decide_eq_true_eq] at z
    simp only [zM83_f, Bool.and_eq_true, Bool.or_eq_true, decide_eq_true_eq]
    exact ⟨z0, by omega⟩
  · intro q hq
    cases hq
  · exact trivial
theorem zL91_dn_zM92 {f : Nat → Nat → Int32} {r : Nat → Nat → Option Nat} {C Z N : Nat} {S : ma_S} (h : zL91 f r C Z N S) : zM92 (mI S) (mR S) C Z N S := zG_dn h (by decide) (by decide) (by decide) (fun _ => trivial)
theorem zL91_up_zM92 {f : Nat → Nat → Int32} {r : Nat → Nat → Option Nat} {C Z N : Nat} {S S1 : ma_S} (h : zL91 f r C Z N S) (h1 : zM92 (mI S) (mR S) C Z N S1) : zL91 f r C Z N S1 := by
  refine zG_up h h1 (fun c k z => ?_) (by decide) ?_ (by decide) (fun g q h => ?_)
  · have z0 : zfz c k = true := by
      simp only [zL91_f, Bool.and_eq_true] at z
      simp only [z]
    simp only [zL91_f, Bool.and_eq_true, Bool.or_eq_true, decide_eq_true_eq] at z
    simp only [zM92_f, Bool.and_eq_true, Bool.or_eq_true, decide_eq_true_eq]
    exact ⟨z0, by omega⟩
  · intro q hq
    have e : q = (92, 93, 0, 3000) := by simpa [zL91_a] using hq
    rcases e with rfl
    · exact Or.inl (by decide)
  · exact trivial
/-! tables -/

