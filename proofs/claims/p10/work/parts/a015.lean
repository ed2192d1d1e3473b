/-! from 95.c0 -/
/-! levels of the face -/
def zS_f (c k : Nat) : Bool := zfz c k && decide (c ≠ 69)
def zS_s : List (Nat × Nat × Int × Int) := [(69, 5, 0, 512), (69, 6, 0, 512), (75, 3, 0, 512), (75, 4, 0, 512), (88, 3, 0, 512), (88, 4, 0, 512)]
def zS_a : List (Nat × Nat × Int × Int) := []
def zS_r : List Nat := [70]
def zS_x (_ : Nat → Nat → Int32) : Prop := True
abbrev zS (f : Nat → Nat → Int32) (r : Nat → Nat → Option Nat) (C Z N : Nat) (S : ma_S) : Prop := zG zS_f zS_s zS_a zS_r zS_x f r C Z N S
theorem zS_dn {f : Nat → Nat → Int32} {r : Nat → Nat → Option Nat} {C Z N : Nat} {S : ma_S} (h : zS f r C Z N S) : zI (mI S) (mR S) C Z N S := zG_dn h (by decide) (by decide) (by decide) (fun _ => trivial)
theorem zS_up {f : Nat → Nat → Int32} {r : Nat → Nat → Option Nat} {C Z N : Nat} {S S1 : ma_S} (h : zS f r C Z N S) (h1 : zI (mI S) (mR S) C Z N S1) : zS f r C Z N S1 := by
  refine zG_up h h1 (fun c k z => ?_) (by decide) ?_ (by decide) (fun _ _ h => h)
  · unfold zS_f at z
    unfold zI_f
    simp only [Bool.and_eq_true] at z
    exact z.1
  · intro q hq
    cases hq
def zX_f (c k : Nat) : Bool := zfz c k && (decide (c ≠ 64) || decide (k = 7))
def zX_s : List (Nat × Nat × Int × Int) := [(69, 5, 0, 512), (69, 6, 0, 512), (75, 3, 0, 512), (75, 4, 0, 512), (88, 3, 0, 512), (88, 4, 0, 512), (64, 1, 0, 100), (64, 2, 0, 100), (64, 3, 0, 100), (64, 7, 0, 16)]
def zX_a : List (Nat × Nat × Int × Int) := []
def zX_r : List Nat := [70]
def zX_x (_ : Nat → Nat → Int32) : Prop := True
abbrev zX (f : Nat → Nat → Int32) (r : Nat → Nat → Option Nat) (C Z N : Nat) (S : ma_S) : Prop := zG zX_f zX_s zX_a zX_r zX_x f r C Z N S
def zAn_f (c k : Nat) : Bool := zfz c k && decide (c ≠ 64) && decide (c ≠ 65) && decide (c ≠ 66) && decide (c ≠ 67) && decide (c ≠ 68) && decide (c ≠ 69) && decide (c ≠ 79) && decide (c ≠ 80) && decide (c ≠ 81) && decide (c ≠ 82) && decide (c ≠ 83) && decide (c ≠ 84) && decide (c ≠ 85) && decide (c ≠ 86) && decide (c ≠ 87) && decide (c ≠ 91) && decide (c ≠ 92) && decide (c ≠ 93)
def zAn_s : List (Nat × Nat × Int × Int) := [(69, 5, 0, 512), (69, 6, 0, 512), (75, 3, 0, 512), (75, 4, 0, 512), (88, 3, 0, 512), (88, 4, 0, 512), (64, 1, 0, 100), (64, 2, 0, 100), (64, 3, 0, 100), (64, 7, 0, 16), (79, 2, 0, 1500), (79, 4, 0, 400000), (84, 0, 0, 1500), (84, 2, 0, 400000), (84, 7, 0, 512), (87, 0, 0, 1500), (87, 2, 0, 400000), (87, 6, -1, 1500), (87, 8, 0, 1), (80, 2, 0, 1500), (80, 3, 0, 400000), (81, 2, 0, 1500), (81, 3, 0, 1500), (81, 4, 0, 400000), (82, 2, 0, 1500), (82, 3, 0, 1500), (82, 6, 0, 400000), (82, 7, 0, 3000), (82, 8, 0, 400000), (91, 2, 0, 1500), (91, 3, 0, 93), (91, 5, 0, 92), (91, 6, -1, 92)]
def zAn_a : List (Nat × Nat × Int × Int) := [(66, 4, -1, 1500), (67, 16, 0, 8), (92, 93, 0, 3000)]
def zAn_r : List Nat := [70, 85]
def zAn_x (m : Nat → Nat → Int32) : Prop := (0 ≤ (m 81 3).toInt ∧ (m 81 3).toInt ≤ (m 81 2).toInt) ∧ ((m 82 3).toInt ≤ (m 82 7).toInt ∧ (m 82 7).toInt ≤ (m 82 3).toInt + (m 82 2).toInt)
abbrev zAn (f : Nat → Nat → Int32) (r : Nat → Nat → Option Nat) (C Z N : Nat) (S : ma_S) : Prop := zG zAn_f zAn_s zAn_a zAn_r zAn_x f r C Z N S
def zB_f (c k : Nat) : Bool := zfz c k && decide (c ≠ 69) && decide (c ≠ 79) && decide (c ≠ 80) && decide (c ≠ 81) && decide (c ≠ 82) && decide (c ≠ 83) && decide (c ≠ 84) && decide (c ≠ 85) && decide (c ≠ 86) && decide (c ≠ 87) && decide (c ≠ 91) && decide (c ≠ 92) && decide (c ≠ 93)
def zB_s : List (Nat × Nat × Int × Int) := [(69, 5, 0, 512), (69, 6, 0, 512), (75, 3, 0, 512), (75, 4, 0, 512), (88, 3, 0, 512), (88, 4, 0, 512), (64, 1, 0, 100), (64, 2, 0, 100), (64, 3, 0, 100), (64, 7, 0, 16), (79, 2, 0, 1500), (79, 4, 0, 400000), (84, 0, 0, 1500), (84, 2, 0, 400000), (84, 7, 0, 512), (87, 0, 0, 1500), (87, 2, 0, 400000), (87, 6, -1, 1500), (87, 8, 0, 1), (80, 2, 0, 1500), (80, 3, 0, 400000), (81, 2, 0, 1500), (81, 3, 0, 1500), (81, 4, 0, 400000), (82, 2, 0, 1500), (82, 3, 0, 1500), (82, 6, 0, 400000), (82, 7, 0, 3000), (82, 8, 0, 400000), (91, 2, 0, 1500), (91, 3, 0, 93), (91, 5, 0, 92), (91, 6, -1, 92)]
def zB_a : List (Nat × Nat × Int × Int) := [(66, 4, -1, 1500), (67, 16, 0, 8), (92, 93, 0, 3000)]
def zB_r : List Nat := [70, 85]
def zB_x (m : Nat → Nat → Int32) : Prop := (0 ≤ (m 81 3).toInt ∧ (m 81 3).toInt ≤ (m 81 2).toInt) ∧ ((m 82 3).toInt ≤ (m 82 7).toInt ∧ (m 82 7).toInt ≤ (m 82 3).toInt + (m 82 2).toInt)
abbrev zB (f : Nat → Nat → Int32) (r : Nat → Nat → Option Nat) (C Z N : Nat) (S : ma_S) : Prop := zG zB_f zB_s zB_a zB_r zB_x f r C Z N S
theorem zB_t (c k : Nat) (h : 126 ≤ c) : zB_f c k = false := by
  unfold zB_f zfz
  simp only [Bool.and_eq_false_iff, Bool.or_eq_false_iff, decide_eq_false_iff_not]
  omega
theorem zB_xt {S : ma_S} {c k : Nat} {x : Int32} (hc : 126 ≤ c) (h : zB_x (mI S)) : zB_x (mI (ma_put S c k (.inl x))) := by
  have rd : ∀ c₉ k₉, c₉ < 126 → mI (ma_put S c k (.inl x)) c₉ k₉ = mI S c₉ k₉ := fun c₉ k₉ z => if_neg (fun w => by omega)
  unfold zB_x at h ⊢
  simp only [rd _ _ (by decide : 81 < 126), rd _ _ (by decide : 82 < 126)]
  exact h
def zA_f (c k : Nat) : Bool := zfz c k && (decide (c ≠ 64) || decide (k = 7)) && decide (c ≠ 65) && decide (c ≠ 66) && decide (c ≠ 67) && decide (c ≠ 68) && decide (c ≠ 69) && decide (c ≠ 79) && decide (c ≠ 80) && decide (c ≠ 81) && decide (c ≠ 82) && decide (c ≠ 83) && decide (c ≠ 84) && decide (c ≠ 85) && decide (c ≠ 86) && decide (c ≠ 87) && decide (c ≠ 91) && decide (c ≠ 92) && decide (c ≠ 93)
def zA_s : List (Nat × Nat × Int × Int) := [(69, 5, 0, 512), (69, 6, 0, 512), (75, 3, 0, 512), (75, 4, 0, 512), (88, 3, 0, 512), (88, 4, 0, 512), (64, 1, 0, 100), (64, 2, 0, 100), (64, 3, 0, 100), (64, 7, 0, 16), (79, 2, 0, 1500), (79, 4, 0, 400000), (84, 0, 0, 1500), (84, 2, 0, 400000), (84, 7, 0, 512), (87, 0, 0, 1500), (87, 2, 0, 400000), (87, 6, -1, 1500), (87, 8, 0, 1), (80, 2, 0, 1500), (80, 3, 0, 400000), (81, 2, 0, 1500), (81, 3, 0, 1500), (81, 4, 0, 400000), (82, 2, 0, 1500), (82, 3, 0, 1500), (82, 6, 0, 400000), (82, 7, 0, 3000), (82, 8, 0, 400000), (91, 2, 0, 1500), (91, 3, 0, 93), (91, 5, 0, 92), (91, 6, -1, 92)]
def zA_a : List (Nat × Nat × Int × Int) := [(66, 4, -1, 1500), (67, 16, 0, 8), (92, 93, 0, 3000)]
def zA_r : List Nat := [70, 85]
def zA_x (m : Nat → Nat → Int32) : Prop := (0 ≤ (m 81 3).toInt ∧ (m 81 3).toInt ≤ (m 81 2).toInt) ∧ ((m 82 3).toInt ≤ (m 82 7).toInt ∧ (m 82 7).toInt ≤ (m 82 3).toInt + (m 82 2).toInt)
abbrev zA (f : Nat → Nat → Int32) (r : Nat → Nat → Option Nat) (C Z N : Nat) (S : ma_S) : Prop := zG zA_f zA_s zA_a zA_r zA_x f r C Z N S
theorem zA_dn_zS {f : Nat → Nat → Int32} {r : Nat → Nat → Option Nat} {C Z N : Nat} {S : ma_S} (h : zA f r C Z N S) : zS (mI S) (mR S) C Z N S := zG_dn h (by decide) (by decide) (by decide) (fun _ => trivial)
theorem zA_up_zS {f : Nat → Nat → Int32} {r : Nat → Nat → Option Nat} {C Z N : Nat} {S S1 : ma_S} (h : zA f r C Z N S) (h1 : zS (mI S) (mR S) C Z N S1) : zA f r C Z N S1 := by
  refine zG_up h h1 (fun c k z => ?_) (by decide) ?_ (by decide) (fun g q h => ?_)
  · simp only [zA_f, zS_f, Bool.and_eq_true] at z ⊢
    simp only [z, and_self]
  · intro q hq
    have e : q = (66, 4, -1, 1500) ∨ q = (67, 16, 0, 8) ∨ q = (92, 93, 0, 3000) := by simpa [zA_a] using hq
    rcases e with rfl | rfl | rfl
    · exact Or.inr (fun _ => rfl)
    · exact Or.inr (fun _ => rfl)
    · exact Or.inr (fun _ => rfl)
  · unfold zA_x at h ⊢
    skip
    rw [g 81 2 rfl, g 81 3 rfl, g 82 2 rfl, g 82 3 rfl, g 82 7 rfl]
    exact h
theorem zA_dn_zX {f : Nat → Nat → Int32} {r : Nat → Nat → Option Nat} {C Z N : Nat} {S : ma_S} (h : zA f r C Z N S) : zX (mI S) (mR S) C Z N S := zG_dn h (by decide) (by decide) (by decide) (fun _ => trivial)
theorem zA_up_zX {f : Nat → Nat → Int32} {r : Nat → Nat → Option Nat} {C Z N : Nat} {S S1 : ma_S} (h : zA f r C Z N S) (h1 : zX (mI S) (mR S) C Z N S1) : zA f r C Z N S1 := by
  refine zG_up h h1 (fun c k z => ?_) (by decide) ?_ (by decide) (fun g q h => ?_)
  · simp only [zA_f, zX_f, Bool.and_eq_true] at z ⊢
    simp only [z, and_self]
  · intro q hq
    have e : q = (66, 4, -1, 1500) ∨ q = (67, 16, 0, 8) ∨ q = (92, 93, 0, 3000) := by simpa [zA_a] using hq
    rcases e with rfl | rfl | rfl
    · exact Or.inr (fun _ => rfl)
    · exact Or.inr (fun _ => rfl)
    · exact Or.inr (fun _ => rfl)
  · unfold zA_x at h ⊢
    skip
    rw [g 81 2 rfl, g 81 3 rfl, g 82 2 rfl, g 82 3 rfl, g 82 7 rfl]
    exact h
theorem zA_dn_zJ79 {f : Nat → Nat → Int32} {r : Nat → Nat → Option Nat} {C Z N : Nat} {S : ma_S} (h : zA f r C Z N S) : zJ79 (mI S) (mR S) C Z N S := zG_dn h (by decide) (by decide) (by decide) (fun _ => trivial)
theorem zA_up_zJ79 {f : Nat → Nat → Int32} {r : Nat → Nat → Option Nat} {C Z N : Nat} {S S1 : ma_S} (h : zA f r C Z N S) (h1 : zJ79 (mI S) (mR S) C Z N S1) : zA f r C Z N S1 := by
  refine zG_up h h1 (fun c k z => ?_) (by decide) ?_ (by decide) (fun g q h => ?_)
  · simp only [zA_f, zJ79_f, Bool.and_eq_true] at z ⊢
    simp only [z, and_self]
  · intro q hq
    have e : q = (66, 4, -1, 1500) ∨ q = (67, 16, 0, 8) ∨ q = (92, 93, 0, 3000) := by simpa [zA_a] using hq
    rcases e with rfl | rfl | rfl
    · exact Or.inr (fun _ => rfl)
    · exact Or.inr (fun _ => rfl)
    · exact Or.inr (fun _ => rfl)
  · unfold zA_x at h ⊢
    skip
    rw [g 81 2 rfl, g 81 3 rfl, g 82 2 rfl, g 82 3 rfl, g 82 7 rfl]
    exact h
theorem zA_dn_zJ84 {f : Nat → Nat → Int32} {r : Nat → Nat → Option Nat} {C Z N : Nat} {S : ma_S} (h : zA f r C Z N S) : zJ84 (mI S) (mR S) C Z N S := zG_dn h (by decide) (by decide) (by decide) (fun _ => trivial)
theorem zA_up_zJ84 {f : Nat → Nat → Int32} {r : Nat → Nat → Option Nat} {C Z N : Nat} {S S1 : ma_S} (h : zA f r C Z N S) (h1 : zJ84 (mI S) (mR S) C Z N S1) : zA f r C Z N S1 := by
  refine zG_up h h1 (fun c k z => ?_) (by decide) ?_ (by decide) (fun g q h => ?_)
  · simp only [zA_f, zJ84_f, Bool.and_eq_true] at z ⊢
    simp only [z, and_self]
  · intro q hq
    have e : q = (66, 4, -1, 1500) ∨ q = (67, 16, 0, 8) ∨ q = (92, 93, 0, 3000) := by simpa [zA_a] using hq
    rcases e with rfl | rfl | rfl
    · exact Or.inr (fun _ => rfl)
    · exact Or.inr (fun _ => rfl)
    · exact Or.inr (fun _ => rfl)
  · unfold zA_x at h ⊢
    skip
    rw [g 81 2 rfl, g 81 3 rfl, g 82 2 rfl, g 82 3 rfl, g 82 7 rfl]
    exact h
theorem zA_dn_zJ87 {f : Nat → Nat → Int32} {r : Nat → Nat → Option Nat} {C Z N : Nat} {S : ma_S} (h : zA f r C Z N S) : zJ87 (mI S) (mR S) C Z N S := zG_dn h (by decide) (by decide) (by decide) (fun _ => trivial)
theorem zA_up_zJ87 {f : Nat → Nat → Int32} {r : Nat → Nat → Option Nat} {C Z N : Nat} {S S1 : ma_S} (h : zA f r C Z N S) (h1 : zJ87 (mI S) (mR S) C Z N S1) : zA f r C Z N S1 := by
  refine zG_up h h1 (fun c k z => ?_) (by decide) ?_ (by decide) (fun g q h => ?_)
  · simp only [zA_f, zJ87_f, Bool.and_eq_true] at z ⊢
    simp only [z, and_self]
  · intro q hq
    have e : q = (66, 4, -1, 1500) ∨ q = (67, 16, 0, 8) ∨ q = (92, 93, 0, 3000) := by simpa [zA_a] using hq
    rcases e with rfl | rfl | rfl
    · exact Or.inr (fun _ => rfl)
    · exact Or.inr (fun _ => rfl)
    · exact Or.inr (fun _ => rfl)
  · unfold zA_x at h ⊢
    skip
    rw [g 81 2 rfl, g 81 3 rfl, g 82 2 rfl, g 82 3 rfl, g 82 7 rfl]
    exact h
theorem zA_dn_zJ80 {f : Nat → Nat → Int32} {r : Nat → Nat → Option Nat} {C Z N : Nat} {S : ma_S} (h : zA f r C Z N S) : zJ80 (mI S) (mR S) C Z N S := zG_dn h (by decide) (by decide) (by decide) (fun _ => trivial)
theorem zA_up_zJ80 {f : Nat → Nat → Int32} {r : Nat → Nat → Option Nat} {C Z N : Nat} {S S1 : ma_S} (h : zA f r C Z N S) (h1 : zJ80 (mI S) (mR S) C Z N S1) : zA f r C Z N S1 := by
  refine zG_up h h1 (fun c k z => ?_) (by decide) ?_ (by decide) (fun g q h => ?_)
  · simp only [zA_f, zJ80_f, Bool.and_eq_true] at z ⊢
    simp only [z, and_self]
  · intro q hq
    have e : q = (66, 4, -1, 1500) ∨ q = (67, 16, 0, 8) ∨ q = (92, 93, 0, 3000) := by simpa [zA_a] using hq
    rcases e with rfl | rfl | rfl
    · exact Or.inr (fun _ => rfl)
    · exact Or.inr (fun _ => rfl)
    · exact Or.inr (fun _ => rfl)
  · unfold zA_x at h ⊢
    skip
    rw [g 81 2 rfl, g 81 3 rfl, g 82 2 rfl, g 82 3 rfl, g 82 7 rfl]
    exact h
theorem zA_dn_zJ81 {f : Nat → Nat → Int32} {r : Nat → Nat → Option Nat} {C Z N : Nat} {S : ma_S} (h : zA f r C Z N S) : zJ81 (mI S) (mR S) C Z N S := zG_dn h (by decide) (by decide) (by decide) (fun h => h.1)
theorem zA_dn_zJ82 {f : Nat → Nat → Int32} {r : Nat → Nat → Option Nat} {C Z N : Nat} {S : ma_S} (h : zA f r C Z N S) : zJ82 (mI S) (mR S) C Z N S := zG_dn h (by decide) (by decide) (by decide) (fun h => h.2)
theorem zA_dn_zL91 {f : Nat → Nat → Int32} {r : Nat → Nat → Option Nat} {C Z N : Nat} {S : ma_S} (h : zA f r C Z N S) : zL91 (mI S) (mR S) C Z N S := zG_dn h (by decide) (by decide) (by decide) (fun _ => trivial)
theorem zA_up_zL91 {f : Nat → Nat → Int32} {r : Nat → Nat → Option Nat} {C Z N : Nat} {S S1 : ma_S} (h : zA f r C Z N S) (h1 : zL91 (mI S) (mR S) C Z N S1) : zA f r C Z N S1 := by
  refine zG_up h h1 (fun c k z => ?_) (by decide) ?_ (by decide) (fun g q h => ?_)
  · simp only [zA_f, zL91_f, Bool.and_eq_true] at z ⊢
    simp only [z, and_self]
  · intro q hq
    have e : q = (66, 4, -1, 1500) ∨ q = (67, 16, 0, 8) ∨ q = (92, 93, 0, 3000) := by simpa [zA_a] using hq
    rcases e with rfl | rfl | rfl
    · exact Or.inr (fun _ => rfl)
    · exact Or.inr (fun _ => rfl)
    · exact Or.inl (by decide)
  · unfold zA_x at h ⊢
    skip
    rw [g 81 2 rfl, g 81 3 rfl, g 82 2 rfl, g 82 3 rfl, g 82 7 rfl]
    exact h
theorem zA_dn_zK81 {f : Nat → Nat → Int32} {r : Nat → Nat → Option Nat} {C Z N : Nat} {S : ma_S} (h : zA f r C Z N S) : zK81 (mI S) (mR S) C Z N S := zG_dn h (by decide) (by decide) (by decide) (fun _ => trivial)
theorem zA_up_zK81 {f : Nat → Nat → Int32} {r : Nat → Nat → Option Nat} {C Z N : Nat} {S S1 : ma_S} (h : zA f r C Z N S) (h1 : zK81 (mI S) (mR S) C Z N S1) (hp : 0 ≤ (mI S1 81 3).toInt ∧ (mI S1 81 3).toInt ≤ (mI S1 81 2).toInt) : zA f r C Z N S1 := by
  refine zG_up h h1 (fun c k z => ?_) (by decide) ?_ (by decide) (fun g q h => ?_)
  · simp only [zA_f, zK81_f, Bool.and_eq_true] at z ⊢
    simp only [z, and_self]
  · intro q hq
    have e : q = (66, 4, -1, 1500) ∨ q = (67, 16, 0, 8) ∨ q = (92, 93, 0, 3000) := by simpa [zA_a] using hq
    rcases e with rfl | rfl | rfl
    · exact Or.inr (fun _ => rfl)
    · exact Or.inr (fun _ => rfl)
    · exact Or.inr (fun _ => rfl)
  · unfold zA_x at h ⊢
    skip
    refine ⟨hp, ?_⟩
    have z := h.2
    rw [g 82 2 rfl, g 82 3 rfl, g 82 7 rfl]
    exact z
theorem zA_dn_zK82 {f : Nat → Nat → Int32} {r : Nat → Nat → Option Nat} {C Z N : Nat} {S : ma_S} (h : zA f r C Z N S) : zK82 (mI S) (mR S) C Z N S := zG_dn h (by decide) (by decide) (by decide) (fun _ => trivial)
theorem zA_up_zK82 {f : Nat → Nat → Int32} {r : Nat → Nat → Option Nat} {C Z N : Nat} {S S1 : ma_S} (h : zA f r C Z N S) (h1 : zK82 (mI S) (mR S) C Z N S1) (hp : (mI S1 82 3).toInt ≤ (mI S1 82 7).toInt ∧ (mI S1 82 7).toInt ≤ (mI S1 82 3).toInt + (mI S1 82 2).toInt) : zA f r C Z N S1 := by
  refine zG_up h h1 (fun c k z => ?_) (by decide) ?_ (by decide) (fun g q h => ?_)
  · simp only [zA_f, zK82_f, Bool.and_eq_true] at z ⊢
    simp only [z, and_self]
  · intro q hq
    have e : q = (66, 4, -1, 1500) ∨ q = (67, 16, 0, 8) ∨ q = (92, 93, 0, 3000) := by simpa [zA_a] using hq
    rcases e with rfl | rfl | rfl
    · exact Or.inr (fun _ => rfl)
    · exact Or.inr (fun _ => rfl)
    · exact Or.inr (fun _ => rfl)
  · unfold zA_x at h ⊢
    skip
    refine ⟨?_, hp⟩
    have z := h.1
    rw [g 81 2 rfl, g 81 3 rfl]
    exact z
theorem zB_dn_zI {f : Nat → Nat → Int32} {r : Nat → Nat → Option Nat} {C Z N : Nat} {S : ma_S} (h : zB f r C Z N S) : zI (mI S) (mR S) C Z N S := zG_dn h (by decide) (by decide) (by decide) (fun _ => trivial)
theorem zB_up_zI {f : Nat → Nat → Int32} {r : Nat → Nat → Option Nat} {C Z N : Nat} {S S1 : ma_S} (h : zB f r C Z N S) (h1 : zI (mI S) (mR S) C Z N S1) : zB f r C Z N S1 := by
  refine zG_up h h1 (fun c k z => ?_) (by decide) ?_ (by decide) (fun g q h => ?_)
  · simp only [zB_f, zI_f, Bool.and_eq_true] at z ⊢
    simp only [z, and_self]
  · intro q hq
    have e : q = (66, 4, -1, 1500) ∨ q = (67, 16, 0, 8) ∨ q = (92, 93, 0, 3000) := by simpa [zB_a] using hq
    rcases e with rfl | rfl | rfl
    · exact Or.inr (fun _ => rfl)
    · exact Or.inr (fun _ => rfl)
    · exact Or.inr (fun _ => rfl)
  · unfold zB_x at h ⊢
    skip
    rw [g 81 2 rfl, g 81 3 rfl, g 82 2 rfl, g 82 3 rfl, g 82 7 rfl]
    exact h
theorem zB_dn_zS {f : Nat → Nat → Int32} {r : Nat → Nat → Option Nat} {C Z N : Nat} {S : ma_S} (h : zB f r C Z N S) : zS (mI S) (mR S) C Z N S := zG_dn h (by decide) (by decide) (by decide) (fun _ => trivial)
theorem zB_up_zS {f : Nat → Nat → Int32} {r : Nat → Nat → Option Nat} {C Z N : Nat} {S S1 : ma_S} (h : zB f r C Z N S) (h1 : zS (mI S) (mR S) C Z N S1) : zB f r C Z N S1 := by
  refine zG_up h h1 (fun c k z => ?_) (by decide) ?_ (by decide) (fun g q h => ?_)
  · simp only [zB_f, zS_f, Bool.and_eq_true] at z ⊢
    simp only [z, and_self]
  · intro q hq
    have e : q = (66, 4, -1, 1500) ∨ q = (67, 16, 0, 8) ∨ q = (92, 93, 0, 3000) := by simpa [zB_a] using hq
    rcases e with rfl | rfl | rfl
    · exact Or.inr (fun _ => rfl)
    · exact Or.inr (fun _ => rfl)
    · exact Or.inr (fun _ => rfl)
  · unfold zB_x at h ⊢
    skip
    rw [g 81 2 rfl, g 81 3 rfl, g 82 2 rfl, g 82 3 rfl, g 82 7 rfl]
    exact h
theorem zB_dn_zJ79 {f : Nat → Nat → Int32} {r : Nat → Nat → Option Nat} {C Z N : Nat} {S : ma_S} (h : zB f r C Z N S) : zJ79 (mI S) (mR S) C Z N S := zG_dn h (by decide) (by decide) (by decide) (fun _ => trivial)
theorem zB_up_zJ79 {f : Nat → Nat → Int32} {r : Nat → Nat → Option Nat} {C Z N : Nat} {S S1 : ma_S} (h : zB f r C Z N S) (h1 : zJ79 (mI S) (mR S) C Z N S1) : zB f r C Z N S1 := by
  refine zG_up h h1 (fun c k z => ?_) (by decide) ?_ (by decide) (fun g q h => ?_)
  · simp only [zB_f, zJ79_f, Bool.and_eq_true] at z ⊢
    simp only [z, and_self]
  · intro q hq
    have e : q = (66, 4, -1, 1500) ∨ q = (67, 16, 0, 8) ∨ q = (92, 93, 0, 3000) := by simpa [zB_a] using hq
    rcases e with rfl | rfl | rfl
    · exact Or.inr (fun _ => rfl)
    · exact Or.inr (fun _ => rfl)
    · exact Or.inr (fun _ => rfl)
  · unfold zB_x at h ⊢
    skip
    rw [g 81 2 rfl, g 81 3 rfl, g 82 2 rfl, g 82 3 rfl, g 82 7 rfl]
    exact h
theorem zB_dn_zJ84 {f : Nat → Nat → Int32} {r : Nat → Nat → Option Nat} {C Z N : Nat} {S : ma_S} (h : zB f r C Z N S) : zJ84 (mI S) (mR S) C Z N S := zG_dn h (by decide) (by decide) (by decide) (fun _ => trivial)
theorem zB_up_zJ84 {f : Nat → Nat → Int32} {r : Nat → Nat → Option Nat} {C Z N : Nat} {S S1 : ma_S} (h : zB f r C Z N S) (h1 : zJ84 (mI S) (mR S) C Z N S1) : zB f r C Z N S1 := by
  refine zG_up h h1 (fun c k z => ?_) (by decide) ?_ (by decide) (fun g q h => ?_)
  · simp only [zB_f, zJ84_f, Bool.and_eq_true] at z ⊢
    simp only [z, and_self]
  · intro q hq
    have e : q = (66, 4, -1, 1500) ∨ q = (67, 16, 0, 8) ∨ q = (92, 93, 0, 3000) := by simpa [zB_a] using hq
    rcases e with rfl | rfl | rfl
    · exact Or.inr (fun _ => rfl)
    · exact Or.inr (fun _ => rfl)
    · exact Or.inr (fun _ => rfl)
  · unfold zB_x at h ⊢
    skip
    rw [g 81 2 rfl, g 81 3 rfl, g 82 2 rfl, g 82 3 rfl, g 82 7 rfl]
    exact h
theorem zB_dn_zJ87 {f : Nat → Nat → Int32} {r : Nat → Nat → Option Nat} {C Z N : Nat} {S : ma_S} (h : zB f r C Z N S) : zJ87 (mI S) (mR S) C Z N S := zG_dn h (by decide) (by decide) (by decide) (fun _ => trivial)
theorem zB_up_zJ87 {f : Nat → Nat → Int32} {r : Nat → Nat → Option Nat} {C Z N : Nat} {S S1 : ma_S} (h : zB f r C Z N S) (h1 : zJ87 (mI S) (mR S) C Z N S1) : zB f r C Z N S1 := by
  refine zG_up h h1 (fun c k z => ?_) (by decide) ?_ (by decide) (fun g q h => ?_)
  · simp only [zB_f, zJ87_f, Bool.and_eq_true] at z ⊢
    simp only [z, and_self]
  · intro q hq
    have e : q = (66, 4, -1, 1500) ∨ q = (67, 16, 0, 8) ∨ q = (92, 93, 0, 3000) := by simpa [zB_a] using hq
    rcases e with rfl | rfl | rfl
    · exact Or.inr (fun _ => rfl)
    · exact Or.inr (fun _ => rfl)
    · exact Or.inr (fun _ => rfl)
  · unfold zB_x at h ⊢
    skip
    rw [g 81 2 rfl, g 81 3 rfl, g 82 2 rfl, g 82 3 rfl, g 82 7 rfl]
    exact h
theorem zB_dn_zJ80 {f : Nat → Nat → Int32} {r : Nat → Nat → Option Nat} {C Z N : Nat} {S : ma_S} (h : zB f r C Z N S) : zJ80 (mI S) (mR S) C Z N S := zG_dn h (by decide) (by decide) (by decide) (fun _ => trivial)
theorem zB_up_zJ80 {f : Nat → Nat → Int32} {r : Nat → Nat → Option Nat} {C Z N : Nat} {S S1 : ma_S} (h : zB f r C Z N S) (h1 : zJ80 (mI S) (mR S) C Z N S1) : zB f r C Z N S1 := by
  refine zG_up h h1 (fun c k z => ?_) (by decide) ?_ (by decide) (fun g q h => ?_)
  · simp only [zB_f, zJ80_f, Bool.and_eq_true] at z ⊢
    simp only [z, and_self]
  · intro q hq
    have e : q = (66, 4, -1, 1500) ∨ q = (67, 16, 0, 8) ∨ q = (92, 93, 0, 3000) := by simpa [zB_a] using hq
    rcases e with rfl | rfl | rfl
    · exact Or.inr (fun _ => rfl)
    · exact Or.inr (fun _ => rfl)
    · exact Or.inr (fun _ => rfl)
  · unfold zB_x at h ⊢
    skip
    rw [g 81 2 rfl, g 81 3 rfl, g 82 2 rfl, g 82 3 rfl, g 82 7 rfl]
    exact h
theorem zB_dn_zJ81 {f : Nat → Nat → Int32} {r : Nat → Nat → Option Nat} {C Z N : Nat} {S : ma_S} (h : zB f r C Z N S) : zJ81 (mI S) (mR S) C Z N S := zG_dn h (by decide) (by decide) (by decide) (fun h => h.1)
theorem zB_up_zJ81 {f : Nat → Nat → Int32} {r : Nat → Nat → Option Nat} {C Z N : Nat} {S S1 : ma_S} (h : zB f r C Z N S) (h1 : zJ81 (mI S) (mR S) C Z N S1) : zB f r C Z N S1 := by
  refine zG_up h h1 (fun c k z => ?_) (by decide) ?_ (by decide) (fun g q h => ?_)
  · simp only [zB_f, zJ81_f, Bool.and_eq_true] at z ⊢
    simp only [z, and_self]
  · intro q hq
    have e : q = (66, 4, -1, 1500) ∨ q = (67, 16, 0, 8) ∨ q = (92, 93, 0, 3000) := by simpa [zB_a] using hq
    rcases e with rfl | rfl | rfl
    · exact Or.inr (fun _ => rfl)
    · exact Or.inr (fun _ => rfl)
    · exact Or.inr (fun _ => rfl)
  · unfold zB_x at h ⊢
    unfold zJ81_x at q
    refine ⟨q, ?_⟩
    have z := h.2
    rw [g 82 2 rfl, g 82 3 rfl, g 82 7 rfl]
    exact z
theorem zB_dn_zJ82 {f : Nat → Nat → Int32} {r : Nat → Nat → Option Nat} {C Z N : Nat} {S : ma_S} (h : zB f r C Z N S) : zJ82 (mI S) (mR S) C Z N S := zG_dn h (by decide) (by decide) (by decide) (fun h => h.2)
theorem zB_up_zJ82 {f : Nat → Nat → Int32} {r : Nat → Nat → Option Nat} {C Z N : Nat} {S S1 : ma_S} (h : zB f r C Z N S) (h1 : zJ82 (mI S) (mR S) C Z N S1) : zB f r C Z N S1 := by
  refine zG_up h h1 (fun c k z => ?_) (by decide) ?_ (by decide) (fun g q h => ?_)
  · simp only [zB_f, zJ82_f, Bool.and_eq_true] at z ⊢
    simp only [z, and_self]
  · intro q hq
    have e : q = (66, 4, -1, 1500) ∨ q = (67, 16, 0, 8) ∨ q = (92, 93, 0, 3000) := by simpa [zB_a] using hq
    rcases e with rfl | rfl | rfl
    · exact Or.inr (fun _ => rfl)
    · exact Or.inr (fun _ => rfl)
    · exact Or.inr (fun _ => rfl)
  · unfold zB_x at h ⊢
    unfold zJ82_x at q
    refine ⟨?_, q⟩
    have z := h.1
    rw [g 81 2 rfl, g 81 3 rfl]
    exact z
theorem zB_dn_zL91 {f : Nat → Nat → Int32} {r : Nat → Nat → Option Nat} {C Z N : Nat} {S : ma_S} (h : zB f r C Z N S) : zL91 (mI S) (mR S) C Z N S := zG_dn h (by decide) (by decide) (by decide) (fun _ => trivial)
theorem zB_up_zL91 {f : Nat → Nat → Int32} {r : Nat → Nat → Option Nat} {C Z N : Nat} {S S1 : ma_S} (h : zB f r C Z N S) (h1 : zL91 (mI S) (mR S) C Z N S1) : zB f r C Z N S1 := by
  refine zG_up h h1 (fun c k z => ?_) (by decide) ?_ (by decide) (fun g q h => ?_)
  · simp only [zB_f, zL91_f, Bool.and_eq_true] at z ⊢
    simp only [z, and_self]
  · intro q hq
    have e : q = (66, 4, -1, 1500) ∨ q = (67, 16, 0, 8) ∨ q = (92, 93, 0, 3000) := by simpa [zB_a] using hq
    rcases e with rfl | rfl | rfl
    · exact Or.inr (fun _ => rfl)
    · exact Or.inr (fun _ => rfl)
    · exact Or.inl (by decide)
  · unfold zB_x at h ⊢
    skip
    rw [g 81 2 rfl, g 81 3 rfl, g 82 2 rfl, g 82 3 rfl, g 82 7 rfl]
    exact h
theorem zo_x {K : Option Nat → ma_S → Prop} {E : Nat → ma_S → Prop} {x : Nat} {S : ma_S} (h : E x S) : zo K E (.inr x) S := h
theorem zB_of {f : Nat → Nat → Int32} {r : Nat → Nat → Option Nat} {C Z N : Nat} {S : ma_S} (h : zA f r C Z N S) : zB (mI S) (mR S) C Z N S := zG_dn h (by decide) (by decide) (by decide) (fun h => h)
theorem zA_of {f : Nat → Nat → Int32} {r : Nat → Nat → Option Nat} {C Z N : Nat} {S : ma_S} (h : zB f r C Z N S) : zA f r C Z N S := by
  obtain ⟨a1, a2, a3, a4, a5, a6, a9, a7, a8⟩ := h
  refine ⟨a1, a2, fun c k z => a3 c k ?_, a4, a5, a6, a9, a7, a8⟩
  simp only [zA_f, zB_f, Bool.and_eq_true] at z ⊢
  simp only [z, and_self]
def zcl7 : List Nat := [79, 80, 81, 82, 84, 87, 91]
/-- the present collector is told -/
def zrp (r : Nat → Nat → Option Nat) (p : Nat) : Nat → Nat → Option Nat := fun c k => if c = 64 ∧ k = 11 then some p else r c k
/-- a new Thing refers to nothing -/
def zrN (r : Nat → Nat → Option Nat) (N : Nat) : Nat → Nat → Option Nat := fun c k => if c = N then none else r c k
section ZGN
variable {fz : Nat → Nat → Bool} {sc sa : List (Nat × Nat × Int × Int)} {rf : List Nat} {ex : (Nat → Nat → Int32) → Prop} {f : Nat → Nat → Int32} {r : Nat → Nat → Option Nat} {C Z N : Nat} {S : ma_S} {c k p : Nat} {x : Int32}
theorem zG_pres (h : zG fz sc sa rf ex f r C Z N S) (hc : 64 ∉ rf) : zG fz sc sa rf ex f (zrp r p) C Z N (ma_put S 64 11 (.inr (.inr (some p)))) := by
  obtain ⟨a1, a2, a3, a4, a5, a6, a9, a7, a8⟩ := h
  have rd : ∀ c₉ k₉, mR (ma_put S 64 11 (.inr (.inr (some p)))) c₉ k₉ = if c₉ = 64 ∧ k₉ = 11 then some p else mR S c₉ k₉ := fun _ _ => rfl
  refine ⟨zT_pr a1 rfl, a2, a3, fun c₉ k₉ hn => ?_, a5, a6, a9, fun c₉ hc₉ i b e => ?_, a8⟩
  · rw [rd]
    unfold zrp
    split
    · rfl
    · exact a4 c₉ k₉ hn
  · rw [rd, if_neg (fun z : c₉ = 64 ∧ i = 11 => hc (by rw [← z.1]; exact hc₉))] at e
    exact a7 c₉ hc₉ i b e
/-- a new Thing, as its constructor leaves it -/
def zTh (S : ma_S) (nu kd sz : Int32) (rf : Int64) (pl : Int32) : ma_S := ma_put (ma_put (ma_put (ma_put (ma_put (ma_new S 9 9) (mN S) 0 (.inl nu)) (mN S) 1 (.inl kd)) (mN S) 2 (.inl sz)) (mN S) 3 (.inr (.inl rf))) (mN S) 4 (.inl pl)
theorem zG_mk (h : zG fz sc sa rf ex f r C Z N S) {nu kd sz pl : Int32} {rr : Int64} (e : ∀ c k, 126 ≤ c → fz c k = false) (e2 : ∀ q ∈ sc, q.1 < 126) (e3 : ∀ q ∈ sa, q.1 < 126) (e4 : ∀ c ∈ rf, c < 126) (hx : ex (mI S) → ex (mI (zTh S nu kd sz rr pl))) (h0 : 0 ≤ nu.toInt) (h0₉ : nu.toInt ≤ 511) (h1 : 1 ≤ sz.toInt) (h1₉ : sz.toInt ≤ 61) (h2 : 0 ≤ pl.toInt) (h2₉ : pl.toInt ≤ 200000) : zG fz sc sa rf ex f (zrN r N) (C + 1) (Z + 9) (N + 1) (zTh S nu kd sz rr pl) := by
  obtain ⟨a1, a2, a3, a4, a5, a6, a9, a7, a8⟩ := h
  have hN : 126 ≤ mN S := a1.2.1
  have eN : mN S = N := a2.2.2
  have rI : ∀ c₉ k₉, mI (zTh S nu kd sz rr pl) c₉ k₉ = if c₉ = mN S ∧ k₉ = 4 then pl else if c₉ = mN S ∧ k₉ = 2 then sz else if c₉ = mN S ∧ k₉ = 1 then kd else if c₉ = mN S ∧ k₉ = 0 then nu else if c₉ = mN S then 0 else mI S c₉ k₉ := by
    intro c₉ k₉
    by_cases z : c₉ = mN S
    · subst z
      show (if mN S = mN S ∧ k₉ = 4 then pl else if mN S = mN S ∧ k₉ = 2 then sz else if mN S = mN S ∧ k₉ = 1 then kd else if mN S = mN S ∧ k₉ = 0 then nu else (ma_uc (mI S) (mN S) (fun _ => 0)) (mN S) k₉) = _
      have : (ma_uc (mI S) (mN S) (fun _ => 0)) (mN S) k₉ = 0 := by unfold ma_uc; simp
      rw [this]
      simp
    · show (if c₉ = mN S ∧ k₉ = 4 then pl else if c₉ = mN S ∧ k₉ = 2 then sz else if c₉ = mN S ∧ k₉ = 1 then kd else if c₉ = mN S ∧ k₉ = 0 then nu else (ma_uc (mI S) (mN S) (fun _ => 0)) c₉ k₉) = _
      have : (ma_uc (mI S) (mN S) (fun _ => 0)) c₉ k₉ = mI S c₉ k₉ := by unfold ma_uc; simp [z]
      rw [this]
      simp [z]
  have rI0 : ∀ c₉ k₉, c₉ ≠ mN S → mI (zTh S nu kd sz rr pl) c₉ k₉ = mI S c₉ k₉ := fun c₉ k₉ z => by rw [rI]; simp [z]
  have rR : ∀ c₉ k₉, mR (zTh S nu kd sz rr pl) c₉ k₉ = if c₉ = mN S then none else mR S c₉ k₉ := by
    intro c₉ k₉
    show (ma_uc (mR S) (mN S) (fun _ => none)) c₉ k₉ = _
    unfold ma_uc
    split <;> simp_all
  have rH : ∀ c₉, mH (zTh S nu kd sz rr pl) c₉ = if c₉ = mN S then (9, 9) else mH S c₉ := by
    intro c₉
    show (ma_uc (mH S) (mN S) (9, 9)) c₉ = _
    unfold ma_uc
    split <;> simp_all
  have hT : zT (zTh S nu kd sz rr pl) := by
    refine ⟨⟨?_, ?_⟩, ?_, ?_⟩
    · intro c₉ t n e₉
      have q := a1.1.1 c₉ t n e₉
      have q2 : 64 ≤ c₉ ∧ c₉ < mN S := by
        have q3 := q.1
        unfold ma_is at q3
        rw [Bool.and_eq_true, decide_eq_true_eq, decide_eq_true_eq] at q3
        exact q3
      refine ⟨?_, ?_⟩
      · show (decide (64 ≤ c₉) && decide (c₉ < mN S + 1)) = true
        rw [Bool.and_eq_true, decide_eq_true_eq, decide_eq_true_eq]
        omega
      · rw [rH, if_neg (by omega)]
        exact q.2
    · intro c₉ k₉ r₉ e₉
      have z : c₉ ≠ mN S := fun z => by rw [z, zfi_th hN] at e₉; cases e₉
      rw [rR, if_neg z]
      exact a1.1.2 c₉ k₉ r₉ e₉
    · show 126 ≤ mN S + 1
      omega
    · intro c₉ hc1 hc2
      have hc3 : c₉ < mN S + 1 := hc2
      rw [rH]
      split
      · rfl
      · next z => exact a1.2.2 c₉ hc1 (by omega)
  refine ⟨hT, ⟨?_, ?_, ?_⟩, fun c₉ k₉ hz => ?_, fun c₉ k₉ hn => ?_, hx a5, fun q hq => ?_, fun q hq k₉ hk => ?_, fun c₉ hc₉ i b e5 => ?_, fun c₉ hc1 hc2 => ?_⟩
  · show mC S + 1 = C + 1
    rw [a2.1]
  · show mZ S + 9 = Z + 9
    rw [a2.2.1]
  · show mN S + 1 = N + 1
    rw [eN]
  · by_cases z : c₉ = mN S
    · rw [z, e _ _ hN] at hz; cases hz
    · rw [rI0 c₉ k₉ z]; exact a3 c₉ k₉ hz
  · rw [rR]
    unfold zrN
    rw [eN]
    split
    · rfl
    · exact a4 c₉ k₉ hn
  · rw [rI0 _ _ (by have := e2 q hq; omega)]; exact a6 q hq
  · rw [rI0 _ _ (by have := e3 q hq; omega)]; exact a9 q hq k₉ hk
  · rw [rR, if_neg (by have := e4 c₉ hc₉; omega)] at e5
    have := a7 c₉ hc₉ i b e5
    omega
  · by_cases z : c₉ = mN S
    · rw [rI, rI, rI]
      simp only [z, true_and, if_true]
      simp only [show (0 : Nat) ≠ 4 by decide, show (0 : Nat) ≠ 2 by decide, show (0 : Nat) ≠ 1 by decide, show (2 : Nat) ≠ 4 by decide, if_false, if_true]
      exact ⟨⟨h0, h0₉⟩, ⟨h1, h1₉⟩, ⟨h2, h2₉⟩⟩
    · rw [rI0 _ _ z, rI0 _ _ z, rI0 _ _ z]
      exact a8 c₉ hc1 (by omega)
end ZGN
theorem mu_dec {x : Int32} {n : Nat} (h : x.toInt.toNat = n) (h0 : ¬ x = 0) (h1 : 0 ≤ x.toInt) : (x + (-1 : Int32)).toInt.toNat < n := by
  have b := i_bd x
  have e : (x + (-1 : Int32)).toInt = x.toInt + (-1) := i_addk rfl (by omega) (by omega)
  have z := i_ne h0
  have z2 : (0 : Int32).toInt = 0 := rfl
  omega
theorem zrN_lo {r : Nat → Nat → Option Nat} {N : Nat} {S : ma_S} (h : zT S) (e : mN S = N) : ∀ c k, c < 126 → zrN r N c k = r c k := by
  intro c k hc
  unfold zrN
  rw [if_neg (by have := h.2.1; omega)]
theorem zp_fx {S : ma_S} {c k c₉ k₉ : Nat} {x : Int32} (hc : 126 ≤ c) (h : c₉ < 126) : (mI (ma_put S c₉ k₉ (.inl x)) c k).toInt = (mI S c k).toInt := by
  have : mI (ma_put S c₉ k₉ (.inl x)) c k = mI S c k := if_neg (fun z => by omega)
  rw [this]
theorem zTh_lo {S : ma_S} {nu kd sz pl : Int32} {rr : Int64} {c k : Nat} (hc : c < 126) (hN : 126 ≤ mN S) : mI (zTh S nu kd sz rr pl) c k = mI S c k := by
    show (if c = mN S ∧ k = 4 then pl else if c = mN S ∧ k = 2 then sz else if c = mN S ∧ k = 1 then kd else if c = mN S ∧ k = 0 then nu else (ma_uc (mI S) (mN S) (fun _ => 0)) c k) = _
    have : (ma_uc (mI S) (mN S) (fun _ => 0)) c k = mI S c k := by
      unfold ma_uc
      rw [if_neg (by omega)]
    rw [this]
    rw [if_neg (by omega), if_neg (by omega), if_neg (by omega), if_neg (by omega)]
theorem zB_xk {S : ma_S} {nu kd sz pl : Int32} {rr : Int64} (h : zB_x (mI S)) (hN : 126 ≤ mN S) : zB_x (mI (zTh S nu kd sz rr pl)) := by
  have rd : ∀ c k, c < 126 → mI (zTh S nu kd sz rr pl) c k = mI S c k := fun c k hc => zTh_lo hc hN
  unfold zB_x at h ⊢
  simp only [rd _ _ (by decide : 81 < 126), rd _ _ (by decide : 82 < 126)]
  exact h
set_option maxRecDepth 100000 in
theorem hm_35 : ma_md 35 = some (3, yX3_canHold, cX3_canHold, 2, (some (FieldType.boolean))) := rfl
set_option maxRecDepth 100000 in
theorem hm_80 : ma_md 80 = some (7, yX7_forgetAll, cX7_forgetAll, 2, none) := rfl
set_option maxRecDepth 100000 in
theorem hm_91 : ma_md 91 = some (7, yX7_add, cX7_add, 4, none) := rfl
set_option maxRecDepth 100000 in
theorem hm_111 : ma_md 111 = some (8, yX8_blockPlace, cX8_blockPlace, 4, (some (FieldType.int))) := rfl
set_option maxRecDepth 100000 in
theorem hm_112 : ma_md 112 = some (9, yX9_init, cX9_init, 7, none) := rfl
set_option maxRecDepth 100000 in
theorem hm_127 : ma_md 127 = some (11, yX11_heap, cX11_heap, 2, (some (FieldType.int))) := rfl
set_option maxRecDepth 100000 in
theorem hm_128 : ma_md 128 = some (11, yX11_readPolicy, cX11_readPolicy, 4, (some (FieldType.int))) := rfl
set_option maxRecDepth 100000 in
theorem hm_129 : ma_md 129 = some (11, yX11_nextToken, cX11_nextToken, 2, (some (FieldType.boolean))) := rfl
set_option maxRecDepth 100000 in
theorem hm_130 : ma_md 130 = some (11, yX11_policyToken, cX11_policyToken, 1, (some (FieldType.int))) := rfl
set_option maxRecDepth 100000 in
theorem hm_131 : ma_md 131 = some (11, yX11_tokenIs, cX11_tokenIs, 3, (some (FieldType.boolean))) := rfl
set_option maxRecDepth 100000 in
theorem hm_132 : ma_md 132 = some (11, yX11_partsOf, cX11_partsOf, 1, (some (FieldType.object "java/lang/String"))) := rfl
set_option maxRecDepth 100000 in
theorem hm_133 : ma_md 133 = some (11, yX11_partToken, cX11_partToken, 2, (some (FieldType.int))) := rfl
set_option maxRecDepth 100000 in
theorem hm_134 : ma_md 134 = some (11, yX11_numberToken, cX11_numberToken, 6, (some (FieldType.int))) := rfl
set_option maxRecDepth 100000 in
theorem hm_135 : ma_md 135 = some (11, yX11_formToken, cX11_formToken, 1, (some (FieldType.int))) := rfl
set_option maxRecDepth 100000 in
theorem hm_136 : ma_md 136 = some (11, yX11_barrierToken, cX11_barrierToken, 1, (some (FieldType.int))) := rfl
set_option maxRecDepth 100000 in
theorem hm_137 : ma_md 137 = some (11, yX11_feed, cX11_feed, 6, (some (FieldType.int))) := rfl
set_option maxRecDepth 100000 in
theorem hm_138 : ma_md 138 = some (11, yX11_addBytes, cX11_addBytes, 3, none) := rfl
set_option maxRecDepth 100000 in
theorem hm_139 : ma_md 139 = some (11, yX11_end, cX11_end, 2, (some (FieldType.int))) := rfl
set_option maxRecDepth 100000 in
theorem hm_140 : ma_md 140 = some (11, yX11_kind, cX11_kind, 3, (some (FieldType.int))) := rfl
set_option maxRecDepth 100000 in
theorem hm_141 : ma_md 141 = some (11, yX11_make, cX11_make, 3, (some (FieldType.int))) := rfl
set_option maxRecDepth 100000 in
theorem hm_142 : ma_md 142 = some (11, yX11_isSlot, cX11_isSlot, 1, (some (FieldType.boolean))) := rfl
set_option maxRecDepth 100000 in
theorem hm_143 : ma_md 143 = some (11, yX11_addObject, cX11_addObject, 9, (some (FieldType.int))) := rfl
set_option maxRecDepth 100000 in
theorem hm_144 : ma_md 144 = some (11, yX11_needCollector, cX11_needCollector, 1, (some (FieldType.object "CollectorHouse$Collector"))) := rfl
set_option maxRecDepth 100000 in
theorem hm_145 : ma_md 145 = some (11, yX11_changeRoot, cX11_changeRoot, 5, (some (FieldType.object "CollectorHouse$Thing"))) := rfl
set_option maxRecDepth 100000 in
theorem hm_147 : ma_md 147 = some (11, yX11_row, cX11_row, 4, (some (FieldType.int))) := rfl
set_option maxRecDepth 100000 in
theorem hm_148 : ma_md 148 = some (11, yX11_put, cX11_put, 5, (some (FieldType.int))) := rfl
set_option maxRecDepth 100000 in
theorem hm_149 : ma_md 149 = some (11, yX11_needReached, cX11_needReached, 3, (some (FieldType.object "CollectorHouse$Thing"))) := rfl
set_option maxRecDepth 100000 in
theorem hm_150 : ma_md 150 = some (11, yX11_link, cX11_link, 8, (some (FieldType.int))) := rfl
set_option maxRecDepth 100000 in
theorem hm_151 : ma_md 151 = some (11, yX11_needReachedOrNothing, cX11_needReachedOrNothing, 2, (some (FieldType.object "CollectorHouse$Thing"))) := rfl
set_option maxRecDepth 100000 in
theorem hm_152 : ma_md 152 = some (11, yX11_get, cX11_get, 4, (some (FieldType.int))) := rfl
set_option maxRecDepth 100000 in
theorem hm_153 : ma_md 153 = some (11, yX11_root, cX11_root, 5, (some (FieldType.int))) := rfl
set_option maxRecDepth 100000 in
theorem hm_154 : ma_md 154 = some (11, yX11_weak, cX11_weak, 5, (some (FieldType.int))) := rfl
set_option maxRecDepth 100000 in
theorem hm_155 : ma_md 155 = some (11, yX11_strong, cX11_strong, 5, (some (FieldType.int))) := rfl
set_option maxRecDepth 100000 in
theorem hm_156 : ma_md 156 = some (11, yX11_hold, cX11_hold, 5, (some (FieldType.int))) := rfl
set_option maxRecDepth 100000 in
theorem hm_157 : ma_md 157 = some (11, yX11_wish, cX11_wish, 4, (some (FieldType.int))) := rfl
set_option maxRecDepth 100000 in
theorem hm_158 : ma_md 158 = some (11, yX11_granted, cX11_granted, 4, (some (FieldType.int))) := rfl
set_option maxRecDepth 100000 in
theorem hm_159 : ma_md 159 = some (11, yX11_clean, cX11_clean, 1, (some (FieldType.int))) := rfl
set_option maxRecDepth 100000 in
theorem hm_160 : ma_md 160 = some (11, yX11_step, cX11_step, 4, (some (FieldType.int))) := rfl
set_option maxRecDepth 100000 in
theorem hm_161 : ma_md 161 = some (11, yX11_about, cX11_about, 5, (some (FieldType.int))) := rfl
set_option maxRecDepth 100000 in
theorem hm_162 : ma_md 162 = some (11, yX11_block, cX11_block, 5, (some (FieldType.int))) := rfl
set_option maxRecDepth 100000 in
theorem hm_163 : ma_md 163 = some (11, yX11_count, cX11_count, 3, (some (FieldType.int))) := rfl
set_option maxRecDepth 100000 in
theorem hm_265 : ma_md 265 = some (13, yX1_noteChange, cX1_noteChange, 3, none) := rfl
set_option maxRecDepth 100000 in
theorem hm_266 : ma_md 266 = some (13, yX1_noteFewer, cX1_noteFewer, 2, none) := rfl
set_option maxRecDepth 100000 in
theorem hm_267 : ma_md 267 = some (13, yX1_noteReference, cX1_noteReference, 4, none) := rfl
set_option maxRecDepth 100000 in
theorem hm_268 : ma_md 268 = some (13, yX1_noteStrong, cX1_noteStrong, 2, none) := rfl
set_option maxRecDepth 100000 in
theorem hm_269 : ma_md 269 = some (13, yX1_canHold, cX1_canHold, 2, (some (FieldType.boolean))) := rfl
set_option maxRecDepth 100000 in
theorem hm_270 : ma_md 270 = some (13, yX1_countOf, cX1_countOf, 2, (some (FieldType.int))) := rfl
set_option maxRecDepth 100000 in
theorem hm_271 : ma_md 271 = some (13, yX1_colourOf, cX1_colourOf, 2, (some (FieldType.int))) := rfl
set_option maxRecDepth 100000 in
theorem hm_272 : ma_md 272 = some (13, yX1_specials, cX1_specials, 1, (some (FieldType.int))) := rfl
set_option maxRecDepth 100000 in
theorem hm_273 : ma_md 273 = some (13, yX1_topPlace, cX1_topPlace, 1, (some (FieldType.int))) := rfl
set_option maxRecDepth 100000 in
theorem hm_274 : ma_md 274 = some (13, yX1_isMarking, cX1_isMarking, 1, (some (FieldType.boolean))) := rfl
set_option maxRecDepth 100000 in
theorem hm_275 : ma_md 275 = some (13, yX1_oldTopOrRegion, cX1_oldTopOrRegion, 1, (some (FieldType.int))) := rfl
set_option maxRecDepth 100000 in
theorem hm_277 : ma_md 277 = some (17, yJ0_length_8abf5, cJ0_length_8abf5, 1, (some (FieldType.int))) := rfl
set_option maxRecDepth 100000 in
theorem hm_278 : ma_md 278 = some (17, yJ0_coder_7d493, cJ0_coder_7d493, 1, (some (FieldType.byte))) := rfl
set_option maxRecDepth 100000 in
theorem hm_279 : ma_md 279 = some (17, yJ0_charAt_5068e, cJ0_charAt_5068e, 2, (some (FieldType.char))) := rfl
set_option maxRecDepth 100000 in
theorem hm_280 : ma_md 280 = some (17, yJ0_isLatin1_aae02, cJ0_isLatin1_aae02, 1, (some (FieldType.boolean))) := rfl
set_option maxRecDepth 100000 in
theorem hm_281 : ma_md 281 = some (17, yJ0_checkIndex_df160, cJ0_checkIndex_df160, 2, none) := rfl
set_option maxRecDepth 100000 in
theorem hm_282 : ma_md 282 = some (18, yJ1_charAt_3b067, cJ1_charAt_3b067, 2, (some (FieldType.char))) := rfl
set_option maxRecDepth 100000 in
theorem hm_283 : ma_md 283 = some (19, yJ3_checkIndex_8e157, cJ3_checkIndex_8e157, 3, (some (FieldType.int))) := rfl
theorem s_64 : zs 64 = some (11, 12) := rfl
theorem s_65 : zs 65 = some (21, 100) := rfl
theorem s_67 : zs 67 = some (20, 16) := rfl
theorem s_68 : zs 68 = some (20, 16) := rfl
theorem s_78 : zs 78 = some (25, 7) := rfl
theorem r_64_0 : zfi 64 0 = some 65 := rfl
theorem r_64_4 : zfi 64 4 = some 66 := rfl
theorem r_64_5 : zfi 64 5 = some 67 := rfl
theorem r_64_6 : zfi 64 6 = some 68 := rfl
theorem r_64_8 : zfi 64 8 = some 69 := rfl
theorem r_64_9 : zfi 64 9 = some 75 := rfl
theorem r_64_10 : zfi 64 10 = some 78 := rfl
theorem r_78_0 : zfi 78 0 = some 79 := rfl
theorem r_78_1 : zfi 78 1 = some 80 := rfl
theorem r_78_2 : zfi 78 2 = some 81 := rfl
theorem r_78_3 : zfi 78 3 = some 82 := rfl
theorem r_78_4 : zfi 78 4 = some 84 := rfl
theorem r_78_5 : zfi 78 5 = some 87 := rfl
theorem r_78_6 : zfi 78 6 = some 91 := rfl
theorem f_11_9_11 : ma_fld 11 9 11 = some 0 := by decide +kernel
theorem f_11_13_11 : ma_fld 11 13 11 = some 4 := by decide +kernel
theorem f_11_17_11 : ma_fld 11 17 11 = some 5 := by decide +kernel
theorem f_11_20_11 : ma_fld 11 20 11 = some 6 := by decide +kernel
theorem f_11_26_11 : ma_fld 11 26 11 = some 8 := by decide +kernel
theorem f_11_35_11 : ma_fld 11 35 11 = some 9 := by decide +kernel
theorem f_11_64_11 : ma_fld 11 64 11 = some 10 := by decide +kernel
theorem f_11_68_11 : ma_fld 11 68 11 = some 1 := by decide +kernel
theorem f_11_82_11 : ma_fld 11 82 11 = some 7 := by decide +kernel
theorem f_11_92_11 : ma_fld 11 92 11 = some 2 := by decide +kernel
theorem f_11_98_11 : ma_fld 11 98 11 = some 11 := by decide +kernel
theorem f_11_173_7 : ma_fld 11 173 7 = some 3 := by decide +kernel
theorem f_11_189_9 : ma_fld 11 189 9 = some 7 := by decide +kernel
theorem f_11_199_9 : ma_fld 11 199 9 = some 8 := by decide +kernel
theorem f_11_214_9 : ma_fld 11 214 9 = some 4 := by decide +kernel
theorem f_11_217_9 : ma_fld 11 217 9 = some 2 := by decide +kernel
theorem f_11_220_9 : ma_fld 11 220 9 = some 1 := by decide +kernel
theorem f_11_223_9 : ma_fld 11 223 9 = some 5 := by decide +kernel
theorem f_11_238_7 : ma_fld 11 238 7 = some 7 := by decide +kernel
theorem f_11_241_7 : ma_fld 11 241 7 = some 8 := by decide +kernel
theorem f_11_244_7 : ma_fld 11 244 7 = some 6 := by decide +kernel
theorem f_11_247_7 : ma_fld 11 247 7 = some 9 := by decide +kernel
theorem f_11_250_7 : ma_fld 11 250 7 = some 10 := by decide +kernel
theorem f_11_253_7 : ma_fld 11 253 7 = some 11 := by decide +kernel
theorem f_11_256_7 : ma_fld 11 256 7 = some 12 := by decide +kernel
theorem f_11_259_7 : ma_fld 11 259 7 = some 5 := by decide +kernel
theorem f_11_275_11 : ma_fld 11 275 11 = some 3 := by decide +kernel
theorem p_7_40_7 : ma_pk 7 40 7 6 = true := by decide +kernel
theorem p_7_58_7 : ma_pk 7 58 7 12 = true := by decide +kernel
theorem p_11_68_11 : ma_pk 11 68 11 1 = true := by decide +kernel
theorem p_11_82_11 : ma_pk 11 82 11 7 = true := by decide +kernel
theorem p_11_92_11 : ma_pk 11 92 11 2 = true := by decide +kernel
theorem p_11_98_11 : ma_pk 11 98 11 11 = true := by decide +kernel
theorem p_11_199_9 : ma_pk 11 199 9 8 = true := by decide +kernel
theorem p_11_275_11 : ma_pk 11 275 11 3 = true := by decide +kernel
theorem pki_9_7_9 : ma_pki 9 7 9 0 = true := by decide +kernel
theorem pki_9_13_9 : ma_pki 9 13 9 1 = true := by decide +kernel
theorem pki_9_16_9 : ma_pki 9 16 9 2 = true := by decide +kernel
theorem pki_9_19_9 : ma_pki 9 19 9 3 = true := by decide +kernel
theorem pki_9_23_9 : ma_pki 9 23 9 4 = true := by decide +kernel
theorem v_7_70_9 : ma_vl 7 70 9 = some (0, 113, 1) := by decide +kernel
theorem v_11_75_11 : ma_vl 11 75 11 = some (1, 138, 1) := by decide +kernel
theorem v_11_88_11 : ma_vl 11 88 11 = some (1, 128, 0) := by decide +kernel
theorem v_11_95_7 : ma_vl 11 95 7 = some (0, 80, 0) := by decide +kernel
theorem v_11_102_1 : ma_vl 11 102 1 = some (4, 1, 1) := by decide +kernel
theorem v_11_102_2 : ma_vl 11 102 2 = some (4, 100, 1) := by decide +kernel
theorem v_11_102_3 : ma_vl 11 102 3 = some (4, 29, 1) := by decide +kernel
theorem v_11_102_4 : ma_vl 11 102 4 = some (4, 38, 1) := by decide +kernel
theorem v_11_102_5 : ma_vl 11 102 5 = some (4, 59, 1) := by decide +kernel
theorem v_11_102_6 : ma_vl 11 102 6 = some (4, 66, 1) := by decide +kernel
theorem v_11_102_8 : ma_vl 11 102 8 = some (4, 100, 1) := by decide +kernel
theorem v_11_106_1 : ma_vl 11 106 1 = some (4, 2, 0) := by decide +kernel
theorem v_11_106_2 : ma_vl 11 106 2 = some (4, 101, 0) := by decide +kernel
theorem v_11_106_3 : ma_vl 11 106 3 = some (4, 30, 0) := by decide +kernel
theorem v_11_106_4 : ma_vl 11 106 4 = some (4, 39, 0) := by decide +kernel
theorem v_11_106_5 : ma_vl 11 106 5 = some (4, 60, 0) := by decide +kernel
theorem v_11_106_6 : ma_vl 11 106 6 = some (4, 101, 0) := by decide +kernel
theorem v_11_106_8 : ma_vl 11 106 8 = some (4, 101, 0) := by decide +kernel
theorem v_11_113_11 : ma_vl 11 113 11 = some (1, 143, 4) := by decide +kernel
theorem v_11_119_11 : ma_vl 11 119 11 = some (1, 144, 0) := by decide +kernel
theorem v_11_123_11 : ma_vl 11 123 11 = some (1, 149, 1) := by decide +kernel
theorem v_11_127_9 : ma_vl 11 127 9 = some (0, 114, 1) := by decide +kernel
theorem v_11_132_9 : ma_vl 11 132 9 = some (0, 113, 1) := by decide +kernel
theorem v_11_138_7 : ma_vl 11 138 7 = some (0, 95, 3) := by decide +kernel
theorem v_11_142_11 : ma_vl 11 142 11 = some (1, 151, 1) := by decide +kernel
theorem v_11_145_7 : ma_vl 11 145 7 = some (0, 94, 3) := by decide +kernel
theorem v_11_149_1 : ma_vl 11 149 1 = some (3, 8, 3) := by decide +kernel
theorem v_11_149_2 : ma_vl 11 149 2 = some (0, 267, 3) := by decide +kernel
theorem v_11_149_3 : ma_vl 11 149 3 = some (0, 267, 3) := by decide +kernel
theorem v_11_149_4 : ma_vl 11 149 4 = some (0, 267, 3) := by decide +kernel
theorem v_11_149_5 : ma_vl 11 149 5 = some (0, 267, 3) := by decide +kernel
theorem v_11_149_6 : ma_vl 11 149 6 = some (0, 267, 3) := by decide +kernel
theorem v_11_149_8 : ma_vl 11 149 8 = some (0, 267, 3) := by decide +kernel
theorem v_11_153_1 : ma_vl 11 153 1 = some (0, 265, 2) := by decide +kernel
theorem v_11_153_2 : ma_vl 11 153 2 = some (0, 265, 2) := by decide +kernel
theorem v_11_153_3 : ma_vl 11 153 3 = some (0, 265, 2) := by decide +kernel
theorem v_11_153_4 : ma_vl 11 153 4 = some (0, 265, 2) := by decide +kernel
theorem v_11_153_5 : ma_vl 11 153 5 = some (0, 265, 2) := by decide +kernel
theorem v_11_153_6 : ma_vl 11 153 6 = some (3, 74, 2) := by decide +kernel
theorem v_11_153_8 : ma_vl 11 153 8 = some (0, 265, 2) := by decide +kernel
theorem v_11_157_1 : ma_vl 11 157 1 = some (0, 266, 1) := by decide +kernel
theorem v_11_157_2 : ma_vl 11 157 2 = some (3, 24, 1) := by decide +kernel
theorem v_11_157_3 : ma_vl 11 157 3 = some (0, 266, 1) := by decide +kernel
theorem v_11_157_4 : ma_vl 11 157 4 = some (0, 266, 1) := by decide +kernel
theorem v_11_157_5 : ma_vl 11 157 5 = some (0, 266, 1) := by decide +kernel
theorem v_11_157_6 : ma_vl 11 157 6 = some (0, 266, 1) := by decide +kernel
theorem v_11_157_8 : ma_vl 11 157 8 = some (0, 266, 1) := by decide +kernel
theorem v_11_165_7 : ma_vl 11 165 7 = some (0, 96, 2) := by decide +kernel
theorem v_11_169_11 : ma_vl 11 169 11 = some (1, 145, 3) := by decide +kernel
theorem v_11_176_7 : ma_vl 11 176 7 = some (0, 81, 1) := by decide +kernel
theorem v_11_179_1 : ma_vl 11 179 1 = some (0, 268, 1) := by decide +kernel
theorem v_11_179_2 : ma_vl 11 179 2 = some (0, 268, 1) := by decide +kernel
theorem v_11_179_3 : ma_vl 11 179 3 = some (0, 268, 1) := by decide +kernel
theorem v_11_179_4 : ma_vl 11 179 4 = some (0, 268, 1) := by decide +kernel
theorem v_11_179_5 : ma_vl 11 179 5 = some (0, 268, 1) := by decide +kernel
theorem v_11_179_6 : ma_vl 11 179 6 = some (3, 75, 1) := by decide +kernel
theorem v_11_179_8 : ma_vl 11 179 8 = some (0, 268, 1) := by decide +kernel
theorem v_11_185_1 : ma_vl 11 185 1 = some (3, 18, 1) := by decide +kernel
theorem v_11_185_2 : ma_vl 11 185 2 = some (0, 269, 1) := by decide +kernel
theorem v_11_185_3 : ma_vl 11 185 3 = some (3, 35, 1) := by decide +kernel
theorem v_11_185_4 : ma_vl 11 185 4 = some (0, 269, 1) := by decide +kernel
theorem v_11_185_5 : ma_vl 11 185 5 = some (0, 269, 1) := by decide +kernel
theorem v_11_185_6 : ma_vl 11 185 6 = some (0, 269, 1) := by decide +kernel
theorem v_11_185_8 : ma_vl 11 185 8 = some (0, 269, 1) := by decide +kernel
theorem v_11_195_7 : ma_vl 11 195 7 = some (0, 97, 2) := by decide +kernel
theorem v_11_203_7 : ma_vl 11 203 7 = some (0, 98, 0) := by decide +kernel
theorem v_11_207_1 : ma_vl 11 207 1 = some (4, 19, 0) := by decide +kernel
theorem v_11_207_2 : ma_vl 11 207 2 = some (4, 109, 0) := by decide +kernel
theorem v_11_207_3 : ma_vl 11 207 3 = some (4, 33, 0) := by decide +kernel
theorem v_11_207_4 : ma_vl 11 207 4 = some (4, 43, 0) := by decide +kernel
theorem v_11_207_5 : ma_vl 11 207 5 = some (4, 62, 0) := by decide +kernel
theorem v_11_207_6 : ma_vl 11 207 6 = some (4, 67, 0) := by decide +kernel
theorem v_11_207_8 : ma_vl 11 207 8 = some (4, 109, 0) := by decide +kernel
theorem v_11_210_6 : ma_vl 11 210 6 = some (0, 72, 1) := by decide +kernel
theorem v_11_226_1 : ma_vl 11 226 1 = some (0, 270, 1) := by decide +kernel
theorem v_11_226_2 : ma_vl 11 226 2 = some (3, 27, 1) := by decide +kernel
theorem v_11_226_3 : ma_vl 11 226 3 = some (0, 270, 1) := by decide +kernel
theorem v_11_226_4 : ma_vl 11 226 4 = some (0, 270, 1) := by decide +kernel
theorem v_11_226_5 : ma_vl 11 226 5 = some (0, 270, 1) := by decide +kernel
theorem v_11_226_6 : ma_vl 11 226 6 = some (0, 270, 1) := by decide +kernel
theorem v_11_226_8 : ma_vl 11 226 8 = some (0, 270, 1) := by decide +kernel
theorem v_11_229_1 : ma_vl 11 229 1 = some (0, 271, 1) := by decide +kernel
theorem v_11_229_2 : ma_vl 11 229 2 = some (0, 271, 1) := by decide +kernel
theorem v_11_229_3 : ma_vl 11 229 3 = some (0, 271, 1) := by decide +kernel
theorem v_11_229_4 : ma_vl 11 229 4 = some (0, 271, 1) := by decide +kernel
theorem v_11_229_5 : ma_vl 11 229 5 = some (0, 271, 1) := by decide +kernel
theorem v_11_229_6 : ma_vl 11 229 6 = some (3, 76, 1) := by decide +kernel
theorem v_11_229_8 : ma_vl 11 229 8 = some (0, 271, 1) := by decide +kernel
theorem v_11_232_2 : ma_vl 11 232 2 = some (0, 111, 1) := by decide +kernel
theorem v_11_232_6 : ma_vl 11 232 6 = some (0, 111, 1) := by decide +kernel
theorem v_11_232_8 : ma_vl 11 232 8 = some (0, 111, 1) := by decide +kernel
theorem v_11_235_2 : ma_vl 11 235 2 = some (0, 106, 1) := by decide +kernel
theorem v_11_235_6 : ma_vl 11 235 6 = some (0, 106, 1) := by decide +kernel
theorem v_11_235_8 : ma_vl 11 235 8 = some (0, 106, 1) := by decide +kernel
theorem v_11_262_1 : ma_vl 11 262 1 = some (3, 20, 0) := by decide +kernel
theorem v_11_262_2 : ma_vl 11 262 2 = some (0, 272, 0) := by decide +kernel
theorem v_11_262_3 : ma_vl 11 262 3 = some (0, 272, 0) := by decide +kernel
theorem v_11_262_4 : ma_vl 11 262 4 = some (3, 42, 0) := by decide +kernel
theorem v_11_262_5 : ma_vl 11 262 5 = some (0, 272, 0) := by decide +kernel
theorem v_11_262_6 : ma_vl 11 262 6 = some (3, 77, 0) := by decide +kernel
theorem v_11_262_8 : ma_vl 11 262 8 = some (0, 272, 0) := by decide +kernel
theorem v_11_265_1 : ma_vl 11 265 1 = some (3, 21, 0) := by decide +kernel
theorem v_11_265_2 : ma_vl 11 265 2 = some (0, 273, 0) := by decide +kernel
theorem v_11_265_3 : ma_vl 11 265 3 = some (3, 36, 0) := by decide +kernel
theorem v_11_265_4 : ma_vl 11 265 4 = some (3, 55, 0) := by decide +kernel
theorem v_11_265_5 : ma_vl 11 265 5 = some (3, 64, 0) := by decide +kernel
theorem v_11_265_6 : ma_vl 11 265 6 = some (0, 273, 0) := by decide +kernel
theorem v_11_265_8 : ma_vl 11 265 8 = some (0, 273, 0) := by decide +kernel
theorem v_11_268_1 : ma_vl 11 268 1 = some (0, 274, 0) := by decide +kernel
theorem v_11_268_2 : ma_vl 11 268 2 = some (0, 274, 0) := by decide +kernel
theorem v_11_268_3 : ma_vl 11 268 3 = some (0, 274, 0) := by decide +kernel
theorem v_11_268_4 : ma_vl 11 268 4 = some (0, 274, 0) := by decide +kernel
theorem v_11_268_5 : ma_vl 11 268 5 = some (0, 274, 0) := by decide +kernel
theorem v_11_268_6 : ma_vl 11 268 6 = some (3, 78, 0) := by decide +kernel
theorem v_11_268_8 : ma_vl 11 268 8 = some (0, 274, 0) := by decide +kernel
theorem v_11_272_1 : ma_vl 11 272 1 = some (3, 22, 0) := by decide +kernel
theorem v_11_272_2 : ma_vl 11 272 2 = some (0, 275, 0) := by decide +kernel
theorem v_11_272_3 : ma_vl 11 272 3 = some (0, 275, 0) := by decide +kernel
theorem v_11_272_4 : ma_vl 11 272 4 = some (3, 57, 0) := by decide +kernel
theorem v_11_272_5 : ma_vl 11 272 5 = some (0, 275, 0) := by decide +kernel
theorem v_11_272_6 : ma_vl 11 272 6 = some (0, 275, 0) := by decide +kernel
theorem v_11_272_8 : ma_vl 11 272 8 = some (0, 275, 0) := by decide +kernel
theorem v_11_278_11 : ma_vl 11 278 11 = some (1, 129, 0) := by decide +kernel
theorem v_11_281_11 : ma_vl 11 281 11 = some (1, 130, 0) := by decide +kernel
theorem v_11_288_17 : ma_vl 11 288 17 = some (0, 277, 0) := by decide +kernel
theorem v_11_293_17 : ma_vl 11 293 17 = some (0, 279, 1) := by decide +kernel
theorem v_11_297_11 : ma_vl 11 297 11 = some (1, 133, 1) := by decide +kernel
theorem v_11_303_11 : ma_vl 11 303 11 = some (1, 131, 1) := by decide +kernel
theorem v_11_331_11 : ma_vl 11 331 11 = some (1, 134, 2) := by decide +kernel
theorem v_11_340_11 : ma_vl 11 340 11 = some (1, 135, 0) := by decide +kernel
theorem v_11_343_11 : ma_vl 11 343 11 = some (1, 136, 0) := by decide +kernel
theorem v_11_358_10 : ma_vl 11 358 10 = some (0, 116, 0) := by decide +kernel
theorem v_11_361_10 : ma_vl 11 361 10 = some (0, 122, 1) := by decide +kernel
theorem v_11_367_1 : ma_vl 11 367 1 = some (4, 3, 1) := by decide +kernel
theorem v_11_367_2 : ma_vl 11 367 2 = some (4, 102, 1) := by decide +kernel
theorem v_11_367_3 : ma_vl 11 367 3 = some (4, 31, 1) := by decide +kernel
theorem v_11_367_4 : ma_vl 11 367 4 = some (4, 40, 1) := by decide +kernel
theorem v_11_367_5 : ma_vl 11 367 5 = some (4, 61, 1) := by decide +kernel
theorem v_11_367_6 : ma_vl 11 367 6 = some (4, 71, 1) := by decide +kernel
theorem v_11_367_8 : ma_vl 11 367 8 = some (4, 102, 1) := by decide +kernel
theorem v_11_373_7 : ma_vl 11 373 7 = some (0, 91, 1) := by decide +kernel
theorem v_11_376_1 : ma_vl 11 376 1 = some (4, 17, 1) := by decide +kernel
theorem v_11_376_2 : ma_vl 11 376 2 = some (4, 110, 1) := by decide +kernel
theorem v_11_376_3 : ma_vl 11 376 3 = some (4, 34, 1) := by decide +kernel
theorem v_11_376_4 : ma_vl 11 376 4 = some (4, 56, 1) := by decide +kernel
theorem v_11_376_5 : ma_vl 11 376 5 = some (4, 63, 1) := by decide +kernel
theorem v_11_376_6 : ma_vl 11 376 6 = some (4, 73, 1) := by decide +kernel
theorem v_11_376_8 : ma_vl 11 376 8 = some (4, 110, 1) := by decide +kernel
theorem v_11_379_7 : ma_vl 11 379 7 = some (0, 92, 2) := by decide +kernel
theorem v_17_335_17 : ma_vl 17 335 17 = some (0, 278, 0) := by decide +kernel
theorem v_17_492_17 : ma_vl 17 492 17 = some (0, 280, 0) := by decide +kernel
theorem sl_7_30 : ma_sl 7 30 = some (5, 276, 2) := by decide +kernel
theorem pn_7_30 : ma_prt 7 30 = none := by decide +kernel
theorem sl_11_109 : ma_sl 11 109 = some (5, 142, 1) := by decide +kernel
theorem pn_11_109 : ma_prt 11 109 = none := by decide +kernel
theorem sl_11_161 : ma_sl 11 161 = some (5, 146, 1) := by decide +kernel
theorem pn_11_161 : ma_prt 11 161 = none := by decide +kernel
theorem sl_11_284 : ma_sl 11 284 = some (5, 132, 1) := by decide +kernel
theorem pn_11_284 : ma_prt 11 284 = none := by decide +kernel
theorem sl_17_495 : ma_sl 17 495 = some (5, 282, 2) := by decide +kernel
theorem pn_17_495 : ma_prt 17 495 = none := by decide +kernel
theorem sl_17_1059 : ma_sl 17 1059 = some (5, 283, 3) := by decide +kernel
theorem pn_17_1059 : ma_prt 17 1059 = none := by decide +kernel
theorem sl_18_9 : ma_sl 18 9 = some (5, 281, 2) := by decide +kernel
theorem pn_18_9 : ma_prt 18 9 = none := by decide +kernel
theorem pr_9_1 : ma_prt 9 1 = some 0 := by decide +kernel
theorem pr_11_335 : ma_prt 11 335 = some 2 := by decide +kernel
theorem ct_11_41_1 : ma_ctt 11 41 1 = some false := by decide +kernel
theorem ct_11_41_2 : ma_ctt 11 41 2 = some true := by decide +kernel
theorem ct_11_41_3 : ma_ctt 11 41 3 = some false := by decide +kernel
theorem ct_11_41_4 : ma_ctt 11 41 4 = some false := by decide +kernel
theorem ct_11_41_5 : ma_ctt 11 41 5 = some false := by decide +kernel
theorem ct_11_41_6 : ma_ctt 11 41 6 = some true := by decide +kernel
theorem ct_11_41_8 : ma_ctt 11 41 8 = some true := by decide +kernel
theorem ct_11_58_1 : ma_ctt 11 58 1 = some false := by decide +kernel
theorem ct_11_58_2 : ma_ctt 11 58 2 = some false := by decide +kernel
theorem ct_11_58_3 : ma_ctt 11 58 3 = some false := by decide +kernel
theorem ct_11_58_4 : ma_ctt 11 58 4 = some false := by decide +kernel
theorem ct_11_58_5 : ma_ctt 11 58 5 = some false := by decide +kernel
theorem ct_11_58_6 : ma_ctt 11 58 6 = some true := by decide +kernel
theorem ct_11_58_8 : ma_ctt 11 58 8 = some false := by decide +kernel
theorem x_11_72_74 : ma_xt 11 72 74 = some 1 := by decide +kernel
theorem x_11_79_81 : ma_xt 11 79 81 = some 2 := by decide +kernel
theorem x_11_85_87 : ma_xt 11 85 87 = some 3 := by decide +kernel
theorem x_11_135_137 : ma_xt 11 135 137 = some 5 := by decide +kernel
theorem x_11_192_194 : ma_xt 11 192 194 = some 6 := by decide +kernel
theorem x_11_364_366 : ma_xt 11 364 366 = some 4 := by decide +kernel
theorem n_11_72 : ma_nwt 11 72 = none := by decide +kernel
theorem n_11_79 : ma_nwt 11 79 = none := by decide +kernel
theorem n_11_85 : ma_nwt 11 85 = none := by decide +kernel
theorem n_11_135 : ma_nwt 11 135 = none := by decide +kernel
theorem n_11_192 : ma_nwt 11 192 = none := by decide +kernel
theorem n_11_364 : ma_nwt 11 364 = none := by decide +kernel
theorem l2_11_117 : ma_l2t 11 117 = some (-1 : Int64) := by decide +kernel
theorem n9_11_128 : ma_nwt 11 128 = some 9 := by decide +kernel
theorem txi_11_301 : ma_txi 11 301 = some 0 := by decide +kernel
theorem txi_11_307 : ma_txi 11 307 = some 1 := by decide +kernel
theorem txi_11_309 : ma_txi 11 309 = some 2 := by decide +kernel
theorem txi_11_311 : ma_txi 11 311 = some 3 := by decide +kernel
theorem txi_11_313 : ma_txi 11 313 = some 4 := by decide +kernel
theorem txi_11_315 : ma_txi 11 315 = some 5 := by decide +kernel
theorem txi_11_317 : ma_txi 11 317 = some 6 := by decide +kernel
theorem txi_11_319 : ma_txi 11 319 = some 7 := by decide +kernel
theorem txi_11_321 : ma_txi 11 321 = some 8 := by decide +kernel
theorem txi_11_323 : ma_txi 11 323 = some 9 := by decide +kernel
theorem txi_11_325 : ma_txi 11 325 = some 10 := by decide +kernel
theorem txi_11_327 : ma_txi 11 327 = some 11 := by decide +kernel
theorem txi_11_329 : ma_txi 11 329 = some 12 := by decide +kernel
theorem txi_11_346 : ma_txi 11 346 = some 13 := by decide +kernel
theorem txi_11_348 : ma_txi 11 348 = some 14 := by decide +kernel
theorem txi_11_350 : ma_txi 11 350 = some 15 := by decide +kernel
theorem txi_11_352 : ma_txi 11 352 = some 16 := by decide +kernel
theorem txi_11_354 : ma_txi 11 354 = some 17 := by decide +kernel
theorem txi_11_356 : ma_txi 11 356 = some 18 := by decide +kernel
theorem il_11_370 : (ma_fd 11 370 0 true 6 9).map (fun q => q.2.1) = some (6, 112, 5) := by decide +kernel
theorem ip_11_370 : ma_prt 11 370 = none := by decide +kernel
theorem dX7_forgetAll_0 : decode cX7_forgetAll 0 = .ok (.iconst 0, 1) := by decide +kernel
theorem dX7_forgetAll_1 : decode cX7_forgetAll 1 = .ok (.istore_n 1, 1) := by decide +kernel
theorem dX7_forgetAll_2 : decode cX7_forgetAll 2 = .ok (.iload_n 1, 1) := by decide +kernel
theorem dX7_forgetAll_3 : decode cX7_forgetAll 3 = .ok (.sipush 512, 3) := by decide +kernel
theorem dX7_forgetAll_22 : decode cX7_forgetAll 22 = .ok (.aload_n 0, 1) := by decide +kernel
theorem dX7_forgetAll_26 : decode cX7_forgetAll 26 = .ok (.iconst (-1), 1) := by decide +kernel
theorem dX7_forgetAll_27 : decode cX7_forgetAll 27 = .ok (.invokestatic 30, 3) := by decide +kernel
theorem dX7_forgetAll_30 : decode cX7_forgetAll 30 = .ok (.aload_n 0, 1) := by decide +kernel
theorem dX7_forgetAll_34 : decode cX7_forgetAll 34 = .ok (.iconst (-1), 1) := by decide +kernel
theorem dX7_forgetAll_35 : decode cX7_forgetAll 35 = .ok (.invokestatic 30, 3) := by decide +kernel
theorem dX7_forgetAll_38 : decode cX7_forgetAll 38 = .ok (.aload_n 0, 1) := by decide +kernel
theorem dX7_forgetAll_42 : decode cX7_forgetAll 42 = .ok (.iconst (-1), 1) := by decide +kernel
theorem dX7_forgetAll_43 : decode cX7_forgetAll 43 = .ok (.invokestatic 30, 3) := by decide +kernel
theorem dX7_forgetAll_46 : decode cX7_forgetAll 46 = .ok (.aload_n 0, 1) := by decide +kernel
theorem dX7_forgetAll_47 : decode cX7_forgetAll 47 = .ok (.iconst 0, 1) := by decide +kernel
theorem dX7_forgetAll_51 : decode cX7_forgetAll 51 = .ok (.aload_n 0, 1) := by decide +kernel
theorem dX7_forgetAll_52 : decode cX7_forgetAll 52 = .ok (.iconst 0, 1) := by decide +kernel
theorem dX7_forgetAll_56 : decode cX7_forgetAll 56 = .ok (.aload_n 0, 1) := by decide +kernel
theorem dX7_forgetAll_57 : decode cX7_forgetAll 57 = .ok (.iconst 0, 1) := by decide +kernel
theorem dX7_forgetAll_61 : decode cX7_forgetAll 61 = .ok (.aload_n 0, 1) := by decide +kernel
theorem dX7_forgetAll_62 : decode cX7_forgetAll 62 = .ok (.iconst 0, 1) := by decide +kernel
theorem dX7_forgetAll_66 : decode cX7_forgetAll 66 = .ok (.aload_n 0, 1) := by decide +kernel
theorem dX7_forgetAll_67 : decode cX7_forgetAll 67 = .ok (.iconst 0, 1) := by decide +kernel
theorem dX7_forgetAll_71 : decode cX7_forgetAll 71 = .ok (.aload_n 0, 1) := by decide +kernel
theorem dX7_forgetAll_72 : decode cX7_forgetAll 72 = .ok (.iconst 0, 1) := by decide +kernel
theorem dX7_forgetAll_76 : decode cX7_forgetAll 76 = .ok (.aload_n 0, 1) := by decide +kernel
theorem dX7_forgetAll_77 : decode cX7_forgetAll 77 = .ok (.iconst 0, 1) := by decide +kernel
theorem dX7_forgetAll_81 : decode cX7_forgetAll 81 = .ok (.aload_n 0, 1) := by decide +kernel
theorem dX7_forgetAll_82 : decode cX7_forgetAll 82 = .ok (.iconst 0, 1) := by decide +kernel
theorem dX7_forgetAll_86 : decode cX7_forgetAll 86 = .ok (.return_, 1) := by decide +kernel
theorem dX7_forgetAll_83 : decode cX7_forgetAll 83 = .ok (.putfield 58, 3) := by decide +kernel
theorem dX7_forgetAll_78 : decode cX7_forgetAll 78 = .ok (.putfield 55, 3) := by decide +kernel
theorem dX7_forgetAll_73 : decode cX7_forgetAll 73 = .ok (.putfield 52, 3) := by decide +kernel
theorem dX7_forgetAll_68 : decode cX7_forgetAll 68 = .ok (.putfield 49, 3) := by decide +kernel
theorem dX7_forgetAll_63 : decode cX7_forgetAll 63 = .ok (.putfield 46, 3) := by decide +kernel
theorem dX7_forgetAll_58 : decode cX7_forgetAll 58 = .ok (.putfield 43, 3) := by decide +kernel
theorem dX7_forgetAll_53 : decode cX7_forgetAll 53 = .ok (.putfield 40, 3) := by decide +kernel
theorem dX7_forgetAll_48 : decode cX7_forgetAll 48 = .ok (.putfield 36, 3) := by decide +kernel
theorem dX7_forgetAll_39 : decode cX7_forgetAll 39 = .ok (.getfield 24, 3) := by decide +kernel
theorem dX7_forgetAll_31 : decode cX7_forgetAll 31 = .ok (.getfield 21, 3) := by decide +kernel
theorem dX7_forgetAll_23 : decode cX7_forgetAll 23 = .ok (.getfield 17, 3) := by decide +kernel
theorem dX7_forgetAll_9 : decode cX7_forgetAll 9 = .ok (.aload_n 0, 1) := by decide +kernel
theorem dX7_forgetAll_13 : decode cX7_forgetAll 13 = .ok (.iload_n 1, 1) := by decide +kernel
theorem dX7_forgetAll_14 : decode cX7_forgetAll 14 = .ok (.aconst_null, 1) := by decide +kernel
theorem dX7_forgetAll_16 : decode cX7_forgetAll 16 = .ok (.iinc 1 1, 3) := by decide +kernel
theorem dX7_forgetAll_19 : decode cX7_forgetAll 19 = .ok (.goto (-17), 3) := by decide +kernel
theorem dX7_forgetAll_15 : decode cX7_forgetAll 15 = .ok (.aastore, 1) := by decide +kernel
theorem dX7_forgetAll_10 : decode cX7_forgetAll 10 = .ok (.getfield 11, 3) := by decide +kernel
theorem dX7_forgetAll_6 : decode cX7_forgetAll 6 = .ok (.if_icmp .ge 16, 3) := by decide +kernel
theorem dX7_add_0 : decode cX7_add 0 = .ok (.aload_n 1, 1) := by decide +kernel
theorem dX7_add_4 : decode cX7_add 4 = .ok (.aload_n 1, 1) := by decide +kernel
theorem dX7_add_8 : decode cX7_add 8 = .ok (.iadd, 1) := by decide +kernel
theorem dX7_add_9 : decode cX7_add 9 = .ok (.istore_n 2, 1) := by decide +kernel
theorem dX7_add_10 : decode cX7_add 10 = .ok (.aload_n 1, 1) := by decide +kernel
theorem dX7_add_14 : decode cX7_add 14 = .ok (.sipush 512, 3) := by decide +kernel
theorem dX7_add_34 : decode cX7_add 34 = .ok (.return_, 1) := by decide +kernel
theorem dX7_add_20 : decode cX7_add 20 = .ok (.aload_n 1, 1) := by decide +kernel
theorem dX7_add_27 : decode cX7_add 27 = .ok (.iload_n 2, 1) := by decide +kernel
theorem dX7_add_28 : decode cX7_add 28 = .ok (.sipush 4500, 3) := by decide +kernel
theorem dX7_add_35 : decode cX7_add 35 = .ok (.aload_n 0, 1) := by decide +kernel
theorem dX7_add_39 : decode cX7_add 39 = .ok (.aload_n 1, 1) := by decide +kernel
theorem dX7_add_43 : decode cX7_add 43 = .ok (.aload_n 1, 1) := by decide +kernel
theorem dX7_add_45 : decode cX7_add 45 = .ok (.aload_n 0, 1) := by decide +kernel
theorem dX7_add_49 : decode cX7_add 49 = .ok (.aload_n 1, 1) := by decide +kernel
theorem dX7_add_53 : decode cX7_add 53 = .ok (.aload_n 1, 1) := by decide +kernel
theorem dX7_add_58 : decode cX7_add 58 = .ok (.iconst 0, 1) := by decide +kernel
theorem dX7_add_59 : decode cX7_add 59 = .ok (.istore_n 3, 1) := by decide +kernel
theorem dX7_add_57 : decode cX7_add 57 = .ok (.iastore, 1) := by decide +kernel
theorem dX7_add_54 : decode cX7_add 54 = .ok (.getfield 67, 3) := by decide +kernel
theorem dX7_add_50 : decode cX7_add 50 = .ok (.getfield 61, 3) := by decide +kernel
theorem dX7_add_46 : decode cX7_add 46 = .ok (.getfield 17, 3) := by decide +kernel
theorem dX7_add_44 : decode cX7_add 44 = .ok (.aastore, 1) := by decide +kernel
theorem dX7_add_40 : decode cX7_add 40 = .ok (.getfield 67, 3) := by decide +kernel
theorem dX7_add_36 : decode cX7_add 36 = .ok (.getfield 11, 3) := by decide +kernel
theorem dX7_add_31 : decode cX7_add 31 = .ok (.if_icmp .le 4, 3) := by decide +kernel
theorem dX7_add_24 : decode cX7_add 24 = .ok (.ifCond .lt 10, 3) := by decide +kernel
theorem dX7_add_21 : decode cX7_add 21 = .ok (.getfield 61, 3) := by decide +kernel
theorem dX7_add_17 : decode cX7_add 17 = .ok (.if_icmp .ge 17, 3) := by decide +kernel
theorem dX7_add_11 : decode cX7_add 11 = .ok (.getfield 67, 3) := by decide +kernel
theorem dX7_add_5 : decode cX7_add 5 = .ok (.getfield 64, 3) := by decide +kernel
theorem dX7_add_1 : decode cX7_add 1 = .ok (.getfield 61, 3) := by decide +kernel
theorem dX7_add_60 : decode cX7_add 60 = .ok (.iload_n 3, 1) := by decide +kernel
theorem dX7_add_61 : decode cX7_add 61 = .ok (.aload_n 1, 1) := by decide +kernel
theorem dX7_add_65 : decode cX7_add 65 = .ok (.iconst 1, 1) := by decide +kernel
theorem dX7_add_66 : decode cX7_add 66 = .ok (.isub, 1) := by decide +kernel
theorem dX7_add_102 : decode cX7_add 102 = .ok (.aload_n 0, 1) := by decide +kernel
theorem dX7_add_103 : decode cX7_add 103 = .ok (.dup, 1) := by decide +kernel
theorem dX7_add_107 : decode cX7_add 107 = .ok (.iconst 1, 1) := by decide +kernel
theorem dX7_add_108 : decode cX7_add 108 = .ok (.iadd, 1) := by decide +kernel
theorem dX7_add_112 : decode cX7_add 112 = .ok (.aload_n 0, 1) := by decide +kernel
theorem dX7_add_113 : decode cX7_add 113 = .ok (.dup, 1) := by decide +kernel
theorem dX7_add_117 : decode cX7_add 117 = .ok (.iconst 1, 1) := by decide +kernel
theorem dX7_add_118 : decode cX7_add 118 = .ok (.iadd, 1) := by decide +kernel
theorem dX7_add_122 : decode cX7_add 122 = .ok (.aload_n 0, 1) := by decide +kernel
theorem dX7_add_123 : decode cX7_add 123 = .ok (.dup, 1) := by decide +kernel
theorem dX7_add_127 : decode cX7_add 127 = .ok (.aload_n 1, 1) := by decide +kernel
theorem dX7_add_131 : decode cX7_add 131 = .ok (.iadd, 1) := by decide +kernel
theorem dX7_add_135 : decode cX7_add 135 = .ok (.return_, 1) := by decide +kernel
theorem dX7_add_132 : decode cX7_add 132 = .ok (.putfield 46, 3) := by decide +kernel
theorem dX7_add_128 : decode cX7_add 128 = .ok (.getfield 64, 3) := by decide +kernel
theorem dX7_add_124 : decode cX7_add 124 = .ok (.getfield 46, 3) := by decide +kernel
theorem dX7_add_119 : decode cX7_add 119 = .ok (.putfield 43, 3) := by decide +kernel
theorem dX7_add_114 : decode cX7_add 114 = .ok (.getfield 43, 3) := by decide +kernel
theorem dX7_add_109 : decode cX7_add 109 = .ok (.putfield 40, 3) := by decide +kernel
theorem dX7_add_104 : decode cX7_add 104 = .ok (.getfield 40, 3) := by decide +kernel
theorem dX7_add_70 : decode cX7_add 70 = .ok (.aload_n 0, 1) := by decide +kernel
theorem dX7_add_74 : decode cX7_add 74 = .ok (.aload_n 1, 1) := by decide +kernel
theorem dX7_add_78 : decode cX7_add 78 = .ok (.iconst 1, 1) := by decide +kernel
theorem dX7_add_79 : decode cX7_add 79 = .ok (.iadd, 1) := by decide +kernel
theorem dX7_add_80 : decode cX7_add 80 = .ok (.iload_n 3, 1) := by decide +kernel
theorem dX7_add_81 : decode cX7_add 81 = .ok (.iadd, 1) := by decide +kernel
theorem dX7_add_82 : decode cX7_add 82 = .ok (.aload_n 1, 1) := by decide +kernel
theorem dX7_add_83 : decode cX7_add 83 = .ok (.iload_n 3, 1) := by decide +kernel
theorem dX7_add_84 : decode cX7_add 84 = .ok (.invokevirtual 70, 3) := by decide +kernel
theorem dX7_add_87 : decode cX7_add 87 = .ok (.ifCond .eq 7, 3) := by decide +kernel
theorem dX7_add_94 : decode cX7_add 94 = .ok (.iconst 0, 1) := by decide +kernel
theorem dX7_add_96 : decode cX7_add 96 = .ok (.iinc 3 1, 3) := by decide +kernel
theorem dX7_add_99 : decode cX7_add 99 = .ok (.goto (-39), 3) := by decide +kernel
theorem dX7_add_95 : decode cX7_add 95 = .ok (.iastore, 1) := by decide +kernel
theorem dX7_add_90 : decode cX7_add 90 = .ok (.iconst (-1), 1) := by decide +kernel
theorem dX7_add_91 : decode cX7_add 91 = .ok (.goto 4, 3) := by decide +kernel
theorem dX7_add_75 : decode cX7_add 75 = .ok (.getfield 61, 3) := by decide +kernel
theorem dX7_add_71 : decode cX7_add 71 = .ok (.getfield 17, 3) := by decide +kernel
theorem dX7_add_67 : decode cX7_add 67 = .ok (.if_icmp .ge 35, 3) := by decide +kernel
theorem dX7_add_62 : decode cX7_add 62 = .ok (.getfield 64, 3) := by decide +kernel
theorem dX11_nextToken_0 : decode cX11_nextToken 0 = .ok (.aload_n 0, 1) := by decide +kernel
theorem dX11_nextToken_4 : decode cX11_nextToken 4 = .ok (.istore_n 1, 1) := by decide +kernel
theorem dX11_nextToken_1 : decode cX11_nextToken 1 = .ok (.getfield 275, 3) := by decide +kernel
theorem dX11_nextToken_5 : decode cX11_nextToken 5 = .ok (.iload_n 1, 1) := by decide +kernel
theorem dX11_nextToken_6 : decode cX11_nextToken 6 = .ok (.aload_n 0, 1) := by decide +kernel
theorem dX11_nextToken_30 : decode cX11_nextToken 30 = .ok (.aload_n 0, 1) := by decide +kernel
theorem dX11_nextToken_31 : decode cX11_nextToken 31 = .ok (.iload_n 1, 1) := by decide +kernel
theorem dX11_nextToken_32 : decode cX11_nextToken 32 = .ok (.putfield 92, 3) := by decide +kernel
theorem dX11_nextToken_13 : decode cX11_nextToken 13 = .ok (.aload_n 0, 1) := by decide +kernel
theorem dX11_nextToken_17 : decode cX11_nextToken 17 = .ok (.iload_n 1, 1) := by decide +kernel
theorem dX11_nextToken_19 : decode cX11_nextToken 19 = .ok (.bipush 32, 2) := by decide +kernel
theorem dX11_nextToken_24 : decode cX11_nextToken 24 = .ok (.iinc 1 1, 3) := by decide +kernel
theorem dX11_nextToken_27 : decode cX11_nextToken 27 = .ok (.goto (-22), 3) := by decide +kernel
theorem dX11_nextToken_21 : decode cX11_nextToken 21 = .ok (.if_icmp .ne 9, 3) := by decide +kernel
theorem dX11_nextToken_18 : decode cX11_nextToken 18 = .ok (.baload, 1) := by decide +kernel
theorem dX11_nextToken_14 : decode cX11_nextToken 14 = .ok (.getfield 9, 3) := by decide +kernel
theorem dX11_nextToken_10 : decode cX11_nextToken 10 = .ok (.if_icmp .ge 20, 3) := by decide +kernel
theorem dX11_nextToken_7 : decode cX11_nextToken 7 = .ok (.getfield 68, 3) := by decide +kernel
theorem dX11_nextToken_35 : decode cX11_nextToken 35 = .ok (.iload_n 1, 1) := by decide +kernel
theorem dX11_nextToken_36 : decode cX11_nextToken 36 = .ok (.aload_n 0, 1) := by decide +kernel
theorem dX11_nextToken_60 : decode cX11_nextToken 60 = .ok (.aload_n 0, 1) := by decide +kernel
theorem dX11_nextToken_61 : decode cX11_nextToken 61 = .ok (.iload_n 1, 1) := by decide +kernel
theorem dX11_nextToken_65 : decode cX11_nextToken 65 = .ok (.aload_n 0, 1) := by decide +kernel
theorem dX11_nextToken_69 : decode cX11_nextToken 69 = .ok (.aload_n 0, 1) := by decide +kernel
theorem dX11_nextToken_80 : decode cX11_nextToken 80 = .ok (.iconst 0, 1) := by decide +kernel
theorem dX11_nextToken_81 : decode cX11_nextToken 81 = .ok (.ireturn, 1) := by decide +kernel
theorem dX11_nextToken_76 : decode cX11_nextToken 76 = .ok (.iconst 1, 1) := by decide +kernel
theorem dX11_nextToken_77 : decode cX11_nextToken 77 = .ok (.goto 4, 3) := by decide +kernel
theorem dX11_nextToken_73 : decode cX11_nextToken 73 = .ok (.if_icmp .ge 7, 3) := by decide +kernel
theorem dX11_nextToken_70 : decode cX11_nextToken 70 = .ok (.getfield 275, 3) := by decide +kernel
theorem dX11_nextToken_66 : decode cX11_nextToken 66 = .ok (.getfield 92, 3) := by decide +kernel
theorem dX11_nextToken_62 : decode cX11_nextToken 62 = .ok (.putfield 275, 3) := by decide +kernel
theorem dX11_nextToken_43 : decode cX11_nextToken 43 = .ok (.aload_n 0, 1) := by decide +kernel
theorem dX11_nextToken_47 : decode cX11_nextToken 47 = .ok (.iload_n 1, 1) := by decide +kernel
theorem dX11_nextToken_49 : decode cX11_nextToken 49 = .ok (.bipush 32, 2) := by decide +kernel
theorem dX11_nextToken_54 : decode cX11_nextToken 54 = .ok (.iinc 1 1, 3) := by decide +kernel
theorem dX11_nextToken_57 : decode cX11_nextToken 57 = .ok (.goto (-22), 3) := by decide +kernel
theorem dX11_nextToken_51 : decode cX11_nextToken 51 = .ok (.if_icmp .eq 9, 3) := by decide +kernel
theorem dX11_nextToken_48 : decode cX11_nextToken 48 = .ok (.baload, 1) := by decide +kernel
theorem dX11_nextToken_44 : decode cX11_nextToken 44 = .ok (.getfield 9, 3) := by decide +kernel
theorem dX11_nextToken_40 : decode cX11_nextToken 40 = .ok (.if_icmp .ge 20, 3) := by decide +kernel
theorem dX11_nextToken_37 : decode cX11_nextToken 37 = .ok (.getfield 68, 3) := by decide +kernel
theorem dX11_tokenIs_0 : decode cX11_tokenIs 0 = .ok (.aload_n 0, 1) := by decide +kernel
theorem dX11_tokenIs_4 : decode cX11_tokenIs 4 = .ok (.aload_n 0, 1) := by decide +kernel
theorem dX11_tokenIs_8 : decode cX11_tokenIs 8 = .ok (.isub, 1) := by decide +kernel
theorem dX11_tokenIs_9 : decode cX11_tokenIs 9 = .ok (.aload_n 1, 1) := by decide +kernel
theorem dX11_tokenIs_10 : decode cX11_tokenIs 10 = .ok (.invokevirtual 288, 3) := by decide +kernel
theorem dX11_tokenIs_18 : decode cX11_tokenIs 18 = .ok (.iconst 0, 1) := by decide +kernel
theorem dX11_tokenIs_19 : decode cX11_tokenIs 19 = .ok (.istore_n 2, 1) := by decide +kernel
theorem dX11_tokenIs_16 : decode cX11_tokenIs 16 = .ok (.iconst 0, 1) := by decide +kernel
theorem dX11_tokenIs_17 : decode cX11_tokenIs 17 = .ok (.ireturn, 1) := by decide +kernel
theorem dX11_tokenIs_13 : decode cX11_tokenIs 13 = .ok (.if_icmp .eq 5, 3) := by decide +kernel
theorem dX11_tokenIs_5 : decode cX11_tokenIs 5 = .ok (.getfield 92, 3) := by decide +kernel
theorem dX11_tokenIs_1 : decode cX11_tokenIs 1 = .ok (.getfield 275, 3) := by decide +kernel
theorem dX11_tokenIs_20 : decode cX11_tokenIs 20 = .ok (.iload_n 2, 1) := by decide +kernel
theorem dX11_tokenIs_21 : decode cX11_tokenIs 21 = .ok (.aload_n 1, 1) := by decide +kernel
theorem dX11_tokenIs_22 : decode cX11_tokenIs 22 = .ok (.invokevirtual 288, 3) := by decide +kernel
theorem dX11_tokenIs_66 : decode cX11_tokenIs 66 = .ok (.iconst 1, 1) := by decide +kernel
theorem dX11_tokenIs_67 : decode cX11_tokenIs 67 = .ok (.ireturn, 1) := by decide +kernel
theorem dX11_tokenIs_28 : decode cX11_tokenIs 28 = .ok (.aload_n 0, 1) := by decide +kernel
theorem dX11_tokenIs_32 : decode cX11_tokenIs 32 = .ok (.iload_n 2, 1) := by decide +kernel
theorem dX11_tokenIs_33 : decode cX11_tokenIs 33 = .ok (.iadd, 1) := by decide +kernel
theorem dX11_tokenIs_34 : decode cX11_tokenIs 34 = .ok (.bipush 100, 2) := by decide +kernel
theorem dX11_tokenIs_39 : decode cX11_tokenIs 39 = .ok (.aload_n 0, 1) := by decide +kernel
theorem dX11_tokenIs_43 : decode cX11_tokenIs 43 = .ok (.aload_n 0, 1) := by decide +kernel
theorem dX11_tokenIs_47 : decode cX11_tokenIs 47 = .ok (.iload_n 2, 1) := by decide +kernel
theorem dX11_tokenIs_48 : decode cX11_tokenIs 48 = .ok (.iadd, 1) := by decide +kernel
theorem dX11_tokenIs_50 : decode cX11_tokenIs 50 = .ok (.aload_n 1, 1) := by decide +kernel
theorem dX11_tokenIs_51 : decode cX11_tokenIs 51 = .ok (.iload_n 2, 1) := by decide +kernel
theorem dX11_tokenIs_52 : decode cX11_tokenIs 52 = .ok (.invokevirtual 293, 3) := by decide +kernel
theorem dX11_tokenIs_60 : decode cX11_tokenIs 60 = .ok (.iinc 2 1, 3) := by decide +kernel
theorem dX11_tokenIs_63 : decode cX11_tokenIs 63 = .ok (.goto (-43), 3) := by decide +kernel
theorem dX11_tokenIs_58 : decode cX11_tokenIs 58 = .ok (.iconst 0, 1) := by decide +kernel
theorem dX11_tokenIs_59 : decode cX11_tokenIs 59 = .ok (.ireturn, 1) := by decide +kernel
theorem dX11_tokenIs_55 : decode cX11_tokenIs 55 = .ok (.if_icmp .eq 5, 3) := by decide +kernel
theorem dX11_tokenIs_49 : decode cX11_tokenIs 49 = .ok (.baload, 1) := by decide +kernel
theorem dX11_tokenIs_44 : decode cX11_tokenIs 44 = .ok (.getfield 92, 3) := by decide +kernel
theorem dX11_tokenIs_40 : decode cX11_tokenIs 40 = .ok (.getfield 9, 3) := by decide +kernel
theorem dX11_tokenIs_36 : decode cX11_tokenIs 36 = .ok (.if_icmp .ge 30, 3) := by decide +kernel
theorem dX11_tokenIs_29 : decode cX11_tokenIs 29 = .ok (.getfield 92, 3) := by decide +kernel
theorem dX11_tokenIs_25 : decode cX11_tokenIs 25 = .ok (.if_icmp .ge 41, 3) := by decide +kernel
theorem dX11_policyToken_0 : decode cX11_policyToken 0 = .ok (.aload_n 0, 1) := by decide +kernel
theorem dX11_policyToken_1 : decode cX11_policyToken 1 = .ok (.ldc_w 301, 3) := by decide +kernel
theorem dX11_policyToken_4 : decode cX11_policyToken 4 = .ok (.invokevirtual 303, 3) := by decide +kernel
theorem dX11_policyToken_12 : decode cX11_policyToken 12 = .ok (.aload_n 0, 1) := by decide +kernel
theorem dX11_policyToken_13 : decode cX11_policyToken 13 = .ok (.ldc_w 307, 3) := by decide +kernel
theorem dX11_policyToken_16 : decode cX11_policyToken 16 = .ok (.invokevirtual 303, 3) := by decide +kernel
theorem dX11_policyToken_24 : decode cX11_policyToken 24 = .ok (.aload_n 0, 1) := by decide +kernel
theorem dX11_policyToken_25 : decode cX11_policyToken 25 = .ok (.ldc_w 309, 3) := by decide +kernel
theorem dX11_policyToken_28 : decode cX11_policyToken 28 = .ok (.invokevirtual 303, 3) := by decide +kernel
theorem dX11_policyToken_36 : decode cX11_policyToken 36 = .ok (.aload_n 0, 1) := by decide +kernel
theorem dX11_policyToken_37 : decode cX11_policyToken 37 = .ok (.ldc_w 311, 3) := by decide +kernel
theorem dX11_policyToken_40 : decode cX11_policyToken 40 = .ok (.invokevirtual 303, 3) := by decide +kernel
theorem dX11_policyToken_48 : decode cX11_policyToken 48 = .ok (.aload_n 0, 1) := by decide +kernel
theorem dX11_policyToken_49 : decode cX11_policyToken 49 = .ok (.ldc_w 313, 3) := by decide +kernel
theorem dX11_policyToken_52 : decode cX11_policyToken 52 = .ok (.invokevirtual 303, 3) := by decide +kernel
theorem dX11_policyToken_60 : decode cX11_policyToken 60 = .ok (.aload_n 0, 1) := by decide +kernel
theorem dX11_policyToken_61 : decode cX11_policyToken 61 = .ok (.ldc_w 315, 3) := by decide +kernel
theorem dX11_policyToken_64 : decode cX11_policyToken 64 = .ok (.invokevirtual 303, 3) := by decide +kernel
theorem dX11_policyToken_72 : decode cX11_policyToken 72 = .ok (.aload_n 0, 1) := by decide +kernel
theorem dX11_policyToken_73 : decode cX11_policyToken 73 = .ok (.ldc_w 317, 3) := by decide +kernel
theorem dX11_policyToken_76 : decode cX11_policyToken 76 = .ok (.invokevirtual 303, 3) := by decide +kernel
theorem dX11_policyToken_87 : decode cX11_policyToken 87 = .ok (.iconst (-1), 1) := by decide +kernel
theorem dX11_policyToken_88 : decode cX11_policyToken 88 = .ok (.ireturn, 1) := by decide +kernel
theorem dX11_policyToken_82 : decode cX11_policyToken 82 = .ok (.bipush 6, 2) := by decide +kernel
theorem dX11_policyToken_84 : decode cX11_policyToken 84 = .ok (.goto 4, 3) := by decide +kernel
theorem dX11_policyToken_79 : decode cX11_policyToken 79 = .ok (.ifCond .eq 8, 3) := by decide +kernel
theorem dX11_policyToken_70 : decode cX11_policyToken 70 = .ok (.iconst 5, 1) := by decide +kernel
theorem dX11_policyToken_71 : decode cX11_policyToken 71 = .ok (.ireturn, 1) := by decide +kernel
theorem dX11_policyToken_67 : decode cX11_policyToken 67 = .ok (.ifCond .eq 5, 3) := by decide +kernel
theorem dX11_policyToken_58 : decode cX11_policyToken 58 = .ok (.iconst 4, 1) := by decide +kernel
theorem dX11_policyToken_59 : decode cX11_policyToken 59 = .ok (.ireturn, 1) := by decide +kernel
theorem dX11_policyToken_55 : decode cX11_policyToken 55 = .ok (.ifCond .eq 5, 3) := by decide +kernel
theorem dX11_policyToken_46 : decode cX11_policyToken 46 = .ok (.iconst 3, 1) := by decide +kernel
theorem dX11_policyToken_47 : decode cX11_policyToken 47 = .ok (.ireturn, 1) := by decide +kernel
theorem dX11_policyToken_43 : decode cX11_policyToken 43 = .ok (.ifCond .eq 5, 3) := by decide +kernel
theorem dX11_policyToken_34 : decode cX11_policyToken 34 = .ok (.iconst 2, 1) := by decide +kernel
theorem dX11_policyToken_35 : decode cX11_policyToken 35 = .ok (.ireturn, 1) := by decide +kernel
theorem dX11_policyToken_31 : decode cX11_policyToken 31 = .ok (.ifCond .eq 5, 3) := by decide +kernel
theorem dX11_policyToken_22 : decode cX11_policyToken 22 = .ok (.iconst 1, 1) := by decide +kernel
theorem dX11_policyToken_23 : decode cX11_policyToken 23 = .ok (.ireturn, 1) := by decide +kernel
theorem dX11_policyToken_19 : decode cX11_policyToken 19 = .ok (.ifCond .eq 5, 3) := by decide +kernel
theorem dX11_policyToken_10 : decode cX11_policyToken 10 = .ok (.iconst 0, 1) := by decide +kernel
theorem dX11_policyToken_11 : decode cX11_policyToken 11 = .ok (.ireturn, 1) := by decide +kernel
theorem dX11_policyToken_7 : decode cX11_policyToken 7 = .ok (.ifCond .eq 5, 3) := by decide +kernel
theorem dX11_formToken_0 : decode cX11_formToken 0 = .ok (.aload_n 0, 1) := by decide +kernel
theorem dX11_formToken_1 : decode cX11_formToken 1 = .ok (.ldc_w 346, 3) := by decide +kernel
theorem dX11_formToken_4 : decode cX11_formToken 4 = .ok (.invokevirtual 303, 3) := by decide +kernel
theorem dX11_formToken_12 : decode cX11_formToken 12 = .ok (.aload_n 0, 1) := by decide +kernel
theorem dX11_formToken_13 : decode cX11_formToken 13 = .ok (.ldc_w 348, 3) := by decide +kernel
theorem dX11_formToken_16 : decode cX11_formToken 16 = .ok (.invokevirtual 303, 3) := by decide +kernel
theorem dX11_formToken_24 : decode cX11_formToken 24 = .ok (.aload_n 0, 1) := by decide +kernel
theorem dX11_formToken_25 : decode cX11_formToken 25 = .ok (.ldc_w 350, 3) := by decide +kernel
theorem dX11_formToken_28 : decode cX11_formToken 28 = .ok (.invokevirtual 303, 3) := by decide +kernel
theorem dX11_formToken_36 : decode cX11_formToken 36 = .ok (.aload_n 0, 1) := by decide +kernel
theorem dX11_formToken_37 : decode cX11_formToken 37 = .ok (.ldc_w 352, 3) := by decide +kernel
theorem dX11_formToken_40 : decode cX11_formToken 40 = .ok (.invokevirtual 303, 3) := by decide +kernel
theorem dX11_formToken_50 : decode cX11_formToken 50 = .ok (.iconst (-1), 1) := by decide +kernel
theorem dX11_formToken_51 : decode cX11_formToken 51 = .ok (.ireturn, 1) := by decide +kernel
theorem dX11_formToken_46 : decode cX11_formToken 46 = .ok (.iconst 3, 1) := by decide +kernel
theorem dX11_formToken_47 : decode cX11_formToken 47 = .ok (.goto 4, 3) := by decide +kernel
theorem dX11_formToken_43 : decode cX11_formToken 43 = .ok (.ifCond .eq 7, 3) := by decide +kernel
theorem dX11_formToken_34 : decode cX11_formToken 34 = .ok (.iconst 2, 1) := by decide +kernel
theorem dX11_formToken_35 : decode cX11_formToken 35 = .ok (.ireturn, 1) := by decide +kernel
theorem dX11_formToken_31 : decode cX11_formToken 31 = .ok (.ifCond .eq 5, 3) := by decide +kernel
theorem dX11_formToken_22 : decode cX11_formToken 22 = .ok (.iconst 1, 1) := by decide +kernel
theorem dX11_formToken_23 : decode cX11_formToken 23 = .ok (.ireturn, 1) := by decide +kernel
theorem dX11_formToken_19 : decode cX11_formToken 19 = .ok (.ifCond .eq 5, 3) := by decide +kernel
theorem dX11_formToken_10 : decode cX11_formToken 10 = .ok (.iconst 0, 1) := by decide +kernel
theorem dX11_formToken_11 : decode cX11_formToken 11 = .ok (.ireturn, 1) := by decide +kernel
theorem dX11_formToken_7 : decode cX11_formToken 7 = .ok (.ifCond .eq 5, 3) := by decide +kernel
theorem dX11_barrierToken_0 : decode cX11_barrierToken 0 = .ok (.aload_n 0, 1) := by decide +kernel
theorem dX11_barrierToken_1 : decode cX11_barrierToken 1 = .ok (.ldc_w 354, 3) := by decide +kernel
theorem dX11_barrierToken_4 : decode cX11_barrierToken 4 = .ok (.invokevirtual 303, 3) := by decide +kernel
theorem dX11_barrierToken_12 : decode cX11_barrierToken 12 = .ok (.aload_n 0, 1) := by decide +kernel
theorem dX11_barrierToken_13 : decode cX11_barrierToken 13 = .ok (.ldc_w 356, 3) := by decide +kernel
theorem dX11_barrierToken_16 : decode cX11_barrierToken 16 = .ok (.invokevirtual 303, 3) := by decide +kernel
theorem dX11_barrierToken_26 : decode cX11_barrierToken 26 = .ok (.iconst (-1), 1) := by decide +kernel
theorem dX11_barrierToken_27 : decode cX11_barrierToken 27 = .ok (.ireturn, 1) := by decide +kernel
theorem dX11_barrierToken_22 : decode cX11_barrierToken 22 = .ok (.iconst 1, 1) := by decide +kernel
theorem dX11_barrierToken_23 : decode cX11_barrierToken 23 = .ok (.goto 4, 3) := by decide +kernel
theorem dX11_barrierToken_19 : decode cX11_barrierToken 19 = .ok (.ifCond .eq 7, 3) := by decide +kernel
theorem dX11_barrierToken_10 : decode cX11_barrierToken 10 = .ok (.iconst 0, 1) := by decide +kernel
theorem dX11_barrierToken_11 : decode cX11_barrierToken 11 = .ok (.ireturn, 1) := by decide +kernel
theorem dX11_barrierToken_7 : decode cX11_barrierToken 7 = .ok (.ifCond .eq 5, 3) := by decide +kernel
theorem dX11_numberToken_0 : decode cX11_numberToken 0 = .ok (.aload_n 0, 1) := by decide +kernel
theorem dX11_numberToken_4 : decode cX11_numberToken 4 = .ok (.aload_n 0, 1) := by decide +kernel
theorem dX11_numberToken_24 : decode cX11_numberToken 24 = .ok (.iconst (-1), 1) := by decide +kernel
theorem dX11_numberToken_25 : decode cX11_numberToken 25 = .ok (.ireturn, 1) := by decide +kernel
theorem dX11_numberToken_11 : decode cX11_numberToken 11 = .ok (.aload_n 0, 1) := by decide +kernel
theorem dX11_numberToken_15 : decode cX11_numberToken 15 = .ok (.aload_n 0, 1) := by decide +kernel
theorem dX11_numberToken_19 : decode cX11_numberToken 19 = .ok (.isub, 1) := by decide +kernel
theorem dX11_numberToken_20 : decode cX11_numberToken 20 = .ok (.iconst 5, 1) := by decide +kernel
theorem dX11_numberToken_26 : decode cX11_numberToken 26 = .ok (.iconst 0, 1) := by decide +kernel
theorem dX11_numberToken_27 : decode cX11_numberToken 27 = .ok (.istore_n 3, 1) := by decide +kernel
theorem dX11_numberToken_28 : decode cX11_numberToken 28 = .ok (.aload_n 0, 1) := by decide +kernel
theorem dX11_numberToken_32 : decode cX11_numberToken 32 = .ok (.istore 4, 2) := by decide +kernel
theorem dX11_numberToken_29 : decode cX11_numberToken 29 = .ok (.getfield 92, 3) := by decide +kernel
theorem dX11_numberToken_21 : decode cX11_numberToken 21 = .ok (.if_icmp .le 5, 3) := by decide +kernel
theorem dX11_numberToken_16 : decode cX11_numberToken 16 = .ok (.getfield 92, 3) := by decide +kernel
theorem dX11_numberToken_12 : decode cX11_numberToken 12 = .ok (.getfield 275, 3) := by decide +kernel
theorem dX11_numberToken_8 : decode cX11_numberToken 8 = .ok (.if_icmp .eq 16, 3) := by decide +kernel
theorem dX11_numberToken_5 : decode cX11_numberToken 5 = .ok (.getfield 92, 3) := by decide +kernel
theorem dX11_numberToken_1 : decode cX11_numberToken 1 = .ok (.getfield 275, 3) := by decide +kernel
theorem dX11_numberToken_34 : decode cX11_numberToken 34 = .ok (.iload 4, 2) := by decide +kernel
theorem dX11_numberToken_36 : decode cX11_numberToken 36 = .ok (.aload_n 0, 1) := by decide +kernel
theorem dX11_numberToken_90 : decode cX11_numberToken 90 = .ok (.iload_n 3, 1) := by decide +kernel
theorem dX11_numberToken_91 : decode cX11_numberToken 91 = .ok (.iload_n 1, 1) := by decide +kernel
theorem dX11_numberToken_104 : decode cX11_numberToken 104 = .ok (.iconst (-1), 1) := by decide +kernel
theorem dX11_numberToken_105 : decode cX11_numberToken 105 = .ok (.ireturn, 1) := by decide +kernel
theorem dX11_numberToken_95 : decode cX11_numberToken 95 = .ok (.iload_n 3, 1) := by decide +kernel
theorem dX11_numberToken_96 : decode cX11_numberToken 96 = .ok (.iload_n 2, 1) := by decide +kernel
theorem dX11_numberToken_100 : decode cX11_numberToken 100 = .ok (.iload_n 3, 1) := by decide +kernel
theorem dX11_numberToken_101 : decode cX11_numberToken 101 = .ok (.goto 4, 3) := by decide +kernel
theorem dX11_numberToken_97 : decode cX11_numberToken 97 = .ok (.if_icmp .gt 7, 3) := by decide +kernel
theorem dX11_numberToken_92 : decode cX11_numberToken 92 = .ok (.if_icmp .lt 12, 3) := by decide +kernel
theorem dX11_numberToken_43 : decode cX11_numberToken 43 = .ok (.iload 4, 2) := by decide +kernel
theorem dX11_numberToken_45 : decode cX11_numberToken 45 = .ok (.bipush 100, 2) := by decide +kernel
theorem dX11_numberToken_50 : decode cX11_numberToken 50 = .ok (.aload_n 0, 1) := by decide +kernel
theorem dX11_numberToken_54 : decode cX11_numberToken 54 = .ok (.iload 4, 2) := by decide +kernel
theorem dX11_numberToken_57 : decode cX11_numberToken 57 = .ok (.bipush 48, 2) := by decide +kernel
theorem dX11_numberToken_59 : decode cX11_numberToken 59 = .ok (.isub, 1) := by decide +kernel
theorem dX11_numberToken_60 : decode cX11_numberToken 60 = .ok (.istore 5, 2) := by decide +kernel
theorem dX11_numberToken_62 : decode cX11_numberToken 62 = .ok (.iload 5, 2) := by decide +kernel
theorem dX11_numberToken_74 : decode cX11_numberToken 74 = .ok (.iconst (-1), 1) := by decide +kernel
theorem dX11_numberToken_75 : decode cX11_numberToken 75 = .ok (.ireturn, 1) := by decide +kernel
theorem dX11_numberToken_67 : decode cX11_numberToken 67 = .ok (.iload 5, 2) := by decide +kernel
theorem dX11_numberToken_69 : decode cX11_numberToken 69 = .ok (.bipush 9, 2) := by decide +kernel
theorem dX11_numberToken_76 : decode cX11_numberToken 76 = .ok (.iload_n 3, 1) := by decide +kernel
theorem dX11_numberToken_77 : decode cX11_numberToken 77 = .ok (.bipush 10, 2) := by decide +kernel
theorem dX11_numberToken_79 : decode cX11_numberToken 79 = .ok (.imul, 1) := by decide +kernel
theorem dX11_numberToken_80 : decode cX11_numberToken 80 = .ok (.iload 5, 2) := by decide +kernel
theorem dX11_numberToken_82 : decode cX11_numberToken 82 = .ok (.iadd, 1) := by decide +kernel
theorem dX11_numberToken_83 : decode cX11_numberToken 83 = .ok (.istore_n 3, 1) := by decide +kernel
theorem dX11_numberToken_84 : decode cX11_numberToken 84 = .ok (.iinc 4 1, 3) := by decide +kernel
theorem dX11_numberToken_87 : decode cX11_numberToken 87 = .ok (.goto (-53), 3) := by decide +kernel
theorem dX11_numberToken_71 : decode cX11_numberToken 71 = .ok (.if_icmp .le 5, 3) := by decide +kernel
theorem dX11_numberToken_64 : decode cX11_numberToken 64 = .ok (.ifCond .lt 10, 3) := by decide +kernel
theorem dX11_numberToken_56 : decode cX11_numberToken 56 = .ok (.baload, 1) := by decide +kernel
theorem dX11_numberToken_51 : decode cX11_numberToken 51 = .ok (.getfield 9, 3) := by decide +kernel
theorem dX11_numberToken_47 : decode cX11_numberToken 47 = .ok (.if_icmp .ge 43, 3) := by decide +kernel
theorem dX11_numberToken_40 : decode cX11_numberToken 40 = .ok (.if_icmp .ge 50, 3) := by decide +kernel
theorem dX11_numberToken_37 : decode cX11_numberToken 37 = .ok (.getfield 275, 3) := by decide +kernel
theorem dX11_readPolicy_0 : decode cX11_readPolicy 0 = .ok (.aload_n 0, 1) := by decide +kernel
theorem dX11_readPolicy_1 : decode cX11_readPolicy 1 = .ok (.iconst 0, 1) := by decide +kernel
theorem dX11_readPolicy_5 : decode cX11_readPolicy 5 = .ok (.aload_n 0, 1) := by decide +kernel
theorem dX11_readPolicy_6 : decode cX11_readPolicy 6 = .ok (.invokevirtual 278, 3) := by decide +kernel
theorem dX11_readPolicy_9 : decode cX11_readPolicy 9 = .ok (.pop, 1) := by decide +kernel
theorem dX11_readPolicy_10 : decode cX11_readPolicy 10 = .ok (.aload_n 0, 1) := by decide +kernel
theorem dX11_readPolicy_11 : decode cX11_readPolicy 11 = .ok (.invokevirtual 281, 3) := by decide +kernel
theorem dX11_readPolicy_14 : decode cX11_readPolicy 14 = .ok (.istore_n 1, 1) := by decide +kernel
theorem dX11_readPolicy_15 : decode cX11_readPolicy 15 = .ok (.iload_n 1, 1) := by decide +kernel
theorem dX11_readPolicy_16 : decode cX11_readPolicy 16 = .ok (.invokestatic 284, 3) := by decide +kernel
theorem dX11_partsOf_0 : decode cX11_partsOf 0 = .ok (.iload_n 0, 1) := by decide +kernel
theorem dX11_partsOf_44 : decode cX11_partsOf 44 = .ok (.ldc_w 319, 3) := by decide +kernel
theorem dX11_readPolicy_19 : decode cX11_readPolicy 19 = .ok (.astore_n 2, 1) := by decide +kernel
theorem dX11_readPolicy_20 : decode cX11_readPolicy 20 = .ok (.iconst 0, 1) := by decide +kernel
theorem dX11_readPolicy_21 : decode cX11_readPolicy 21 = .ok (.istore_n 3, 1) := by decide +kernel
theorem dX11_readPolicy_22 : decode cX11_readPolicy 22 = .ok (.iload_n 3, 1) := by decide +kernel
theorem dX11_readPolicy_23 : decode cX11_readPolicy 23 = .ok (.aload_n 2, 1) := by decide +kernel
theorem dX11_readPolicy_24 : decode cX11_readPolicy 24 = .ok (.invokevirtual 288, 3) := by decide +kernel
theorem dX11_readPolicy_27 : decode cX11_readPolicy 27 = .ok (.if_icmp .ge 46, 3) := by decide +kernel
theorem dX11_readPolicy_30 : decode cX11_readPolicy 30 = .ok (.iload_n 3, 1) := by decide +kernel
theorem dX11_readPolicy_31 : decode cX11_readPolicy 31 = .ok (.iconst 4, 1) := by decide +kernel
theorem dX11_readPolicy_32 : decode cX11_readPolicy 32 = .ok (.if_icmp .ge 41, 3) := by decide +kernel
theorem dX11_readPolicy_35 : decode cX11_readPolicy 35 = .ok (.aload_n 0, 1) := by decide +kernel
theorem dX11_readPolicy_36 : decode cX11_readPolicy 36 = .ok (.invokevirtual 278, 3) := by decide +kernel
theorem dX11_readPolicy_39 : decode cX11_readPolicy 39 = .ok (.pop, 1) := by decide +kernel
theorem dX11_readPolicy_40 : decode cX11_readPolicy 40 = .ok (.aload_n 0, 1) := by decide +kernel
theorem dX11_readPolicy_44 : decode cX11_readPolicy 44 = .ok (.iload_n 3, 1) := by decide +kernel
theorem dX11_readPolicy_45 : decode cX11_readPolicy 45 = .ok (.aload_n 0, 1) := by decide +kernel
theorem dX11_readPolicy_46 : decode cX11_readPolicy 46 = .ok (.aload_n 2, 1) := by decide +kernel
theorem dX11_readPolicy_47 : decode cX11_readPolicy 47 = .ok (.iload_n 3, 1) := by decide +kernel
theorem dX11_readPolicy_48 : decode cX11_readPolicy 48 = .ok (.invokevirtual 293, 3) := by decide +kernel
theorem dX11_readPolicy_51 : decode cX11_readPolicy 51 = .ok (.invokevirtual 297, 3) := by decide +kernel
theorem dX11_partToken_0 : decode cX11_partToken 0 = .ok (.iload_n 1, 1) := by decide +kernel
theorem dX11_partToken_1 : decode cX11_partToken 1 = .ok (.lookupswitch 135 #[(97, 77), (99, 85), (102, 130), (114, 67), (115, 122), (116, 93), (122, 101)], 67) := by decide +kernel
theorem dX11_partToken_68 : decode cX11_partToken 68 = .ok (.aload_n 0, 1) := by decide +kernel
theorem dX11_partToken_69 : decode cX11_partToken 69 = .ok (.bipush 16, 2) := by decide +kernel
theorem dX11_partToken_71 : decode cX11_partToken 71 = .ok (.sipush 1500, 3) := by decide +kernel
theorem dX11_partToken_74 : decode cX11_partToken 74 = .ok (.invokevirtual 331, 3) := by decide +kernel
theorem dX11_readPolicy_55 : decode cX11_readPolicy 55 = .ok (.aload_n 0, 1) := by decide +kernel
theorem dX11_readPolicy_59 : decode cX11_readPolicy 59 = .ok (.iload_n 3, 1) := by decide +kernel
theorem dX11_readPolicy_61 : decode cX11_readPolicy 61 = .ok (.iconst (-1), 1) := by decide +kernel
theorem dX11_readPolicy_67 : decode cX11_readPolicy 67 = .ok (.iinc 3 1, 3) := by decide +kernel
theorem dX11_readPolicy_70 : decode cX11_readPolicy 70 = .ok (.goto (-48), 3) := by decide +kernel
theorem dX11_partToken_131 : decode cX11_partToken 131 = .ok (.aload_n 0, 1) := by decide +kernel
theorem dX11_partToken_132 : decode cX11_partToken 132 = .ok (.invokevirtual 340, 3) := by decide +kernel
theorem dX11_readPolicy_73 : decode cX11_readPolicy 73 = .ok (.iload_n 1, 1) := by decide +kernel
theorem dX11_readPolicy_74 : decode cX11_readPolicy 74 = .ok (.iconst (-1), 1) := by decide +kernel
theorem dX11_readPolicy_85 : decode cX11_readPolicy 85 = .ok (.iconst (-1), 1) := by decide +kernel
theorem dX11_readPolicy_86 : decode cX11_readPolicy 86 = .ok (.ireturn, 1) := by decide +kernel
theorem dX11_readPolicy_78 : decode cX11_readPolicy 78 = .ok (.aload_n 0, 1) := by decide +kernel
theorem dX11_readPolicy_79 : decode cX11_readPolicy 79 = .ok (.invokevirtual 278, 3) := by decide +kernel
theorem dX11_readPolicy_87 : decode cX11_readPolicy 87 = .ok (.iload_n 1, 1) := by decide +kernel
theorem dX11_readPolicy_88 : decode cX11_readPolicy 88 = .ok (.ireturn, 1) := by decide +kernel
theorem dX11_readPolicy_82 : decode cX11_readPolicy 82 = .ok (.ifCond .eq 5, 3) := by decide +kernel
theorem dX11_readPolicy_75 : decode cX11_readPolicy 75 = .ok (.if_icmp .eq 10, 3) := by decide +kernel
theorem dX11_readPolicy_65 : decode cX11_readPolicy 65 = .ok (.iconst (-1), 1) := by decide +kernel
theorem dX11_readPolicy_66 : decode cX11_readPolicy 66 = .ok (.ireturn, 1) := by decide +kernel
theorem dX11_readPolicy_62 : decode cX11_readPolicy 62 = .ok (.if_icmp .ne 5, 3) := by decide +kernel
theorem dX11_readPolicy_60 : decode cX11_readPolicy 60 = .ok (.iaload, 1) := by decide +kernel
theorem dX11_readPolicy_56 : decode cX11_readPolicy 56 = .ok (.getfield 13, 3) := by decide +kernel
theorem dX11_readPolicy_54 : decode cX11_readPolicy 54 = .ok (.iastore, 1) := by decide +kernel
theorem dX11_partToken_135 : decode cX11_partToken 135 = .ok (.ireturn, 1) := by decide +kernel
theorem dX11_readPolicy_41 : decode cX11_readPolicy 41 = .ok (.getfield 13, 3) := by decide +kernel
theorem dX11_partToken_77 : decode cX11_partToken 77 = .ok (.ireturn, 1) := by decide +kernel
theorem dX11_partsOf_47 : decode cX11_partsOf 47 = .ok (.areturn, 1) := by decide +kernel
theorem dX11_partsOf_1 : decode cX11_partsOf 1 = .ok (.tableswitch 71 0 6 #[43, 47, 51, 55, 59, 63, 67], 43) := by decide +kernel
theorem dX11_partsOf_48 : decode cX11_partsOf 48 = .ok (.ldc_w 321, 3) := by decide +kernel
theorem dX11_partsOf_51 : decode cX11_partsOf 51 = .ok (.areturn, 1) := by decide +kernel
theorem dX11_partsOf_52 : decode cX11_partsOf 52 = .ok (.ldc_w 321, 3) := by decide +kernel
theorem dX11_partsOf_55 : decode cX11_partsOf 55 = .ok (.areturn, 1) := by decide +kernel
theorem dX11_partsOf_56 : decode cX11_partsOf 56 = .ok (.ldc_w 323, 3) := by decide +kernel
theorem dX11_partToken_78 : decode cX11_partToken 78 = .ok (.aload_n 0, 1) := by decide +kernel
theorem dX11_partToken_79 : decode cX11_partToken 79 = .ok (.iconst 1, 1) := by decide +kernel
theorem dX11_partToken_80 : decode cX11_partToken 80 = .ok (.bipush 7, 2) := by decide +kernel
theorem dX11_partToken_82 : decode cX11_partToken 82 = .ok (.invokevirtual 331, 3) := by decide +kernel
theorem dX11_partToken_86 : decode cX11_partToken 86 = .ok (.aload_n 0, 1) := by decide +kernel
theorem dX11_partToken_87 : decode cX11_partToken 87 = .ok (.iconst 4, 1) := by decide +kernel
theorem dX11_partToken_88 : decode cX11_partToken 88 = .ok (.bipush 64, 2) := by decide +kernel
theorem dX11_partToken_90 : decode cX11_partToken 90 = .ok (.invokevirtual 331, 3) := by decide +kernel
theorem dX11_partToken_93 : decode cX11_partToken 93 = .ok (.ireturn, 1) := by decide +kernel
theorem dX11_partToken_85 : decode cX11_partToken 85 = .ok (.ireturn, 1) := by decide +kernel
theorem dX11_partsOf_59 : decode cX11_partsOf 59 = .ok (.areturn, 1) := by decide +kernel
theorem dX11_partsOf_60 : decode cX11_partsOf 60 = .ok (.ldc_w 319, 3) := by decide +kernel
theorem dX11_partsOf_63 : decode cX11_partsOf 63 = .ok (.areturn, 1) := by decide +kernel
theorem dX11_partsOf_64 : decode cX11_partsOf 64 = .ok (.ldc_w 325, 3) := by decide +kernel
theorem dX11_partToken_94 : decode cX11_partToken 94 = .ok (.aload_n 0, 1) := by decide +kernel
theorem dX11_partToken_95 : decode cX11_partToken 95 = .ok (.iconst 1, 1) := by decide +kernel
theorem dX11_partToken_96 : decode cX11_partToken 96 = .ok (.bipush 50, 2) := by decide +kernel
theorem dX11_partToken_98 : decode cX11_partToken 98 = .ok (.invokevirtual 331, 3) := by decide +kernel
theorem dX11_partToken_136 : decode cX11_partToken 136 = .ok (.aload_n 0, 1) := by decide +kernel
theorem dX11_partToken_137 : decode cX11_partToken 137 = .ok (.invokevirtual 343, 3) := by decide +kernel
theorem dX11_partToken_140 : decode cX11_partToken 140 = .ok (.ireturn, 1) := by decide +kernel
theorem dX11_partToken_101 : decode cX11_partToken 101 = .ok (.ireturn, 1) := by decide +kernel
theorem dX11_partsOf_67 : decode cX11_partsOf 67 = .ok (.areturn, 1) := by decide +kernel
theorem dX11_partsOf_68 : decode cX11_partsOf 68 = .ok (.ldc_w 327, 3) := by decide +kernel
theorem dX11_partToken_102 : decode cX11_partToken 102 = .ok (.aload_n 0, 1) := by decide +kernel
theorem dX11_partToken_103 : decode cX11_partToken 103 = .ok (.bipush 16, 2) := by decide +kernel
theorem dX11_partToken_105 : decode cX11_partToken 105 = .ok (.sipush 256, 3) := by decide +kernel
theorem dX11_partToken_108 : decode cX11_partToken 108 = .ok (.aload_n 0, 1) := by decide +kernel
theorem dX11_partToken_112 : decode cX11_partToken 112 = .ok (.iconst 0, 1) := by decide +kernel
theorem dX11_partToken_114 : decode cX11_partToken 114 = .ok (.iconst 4, 1) := by decide +kernel
theorem dX11_partToken_115 : decode cX11_partToken 115 = .ok (.idiv, 1) := by decide +kernel
theorem dX11_partToken_116 : decode cX11_partToken 116 = .ok (.invokestatic 335, 3) := by decide +kernel
theorem dX11_partToken_119 : decode cX11_partToken 119 = .ok (.invokevirtual 331, 3) := by decide +kernel
theorem dX11_partToken_123 : decode cX11_partToken 123 = .ok (.aload_n 0, 1) := by decide +kernel
theorem dX11_partToken_124 : decode cX11_partToken 124 = .ok (.iconst 0, 1) := by decide +kernel
theorem dX11_partToken_125 : decode cX11_partToken 125 = .ok (.bipush 100, 2) := by decide +kernel
theorem dX11_partToken_127 : decode cX11_partToken 127 = .ok (.invokevirtual 331, 3) := by decide +kernel
theorem dX11_partToken_130 : decode cX11_partToken 130 = .ok (.ireturn, 1) := by decide +kernel
theorem dX11_partToken_122 : decode cX11_partToken 122 = .ok (.ireturn, 1) := by decide +kernel
theorem dX11_partToken_113 : decode cX11_partToken 113 = .ok (.iaload, 1) := by decide +kernel
theorem dX11_partToken_109 : decode cX11_partToken 109 = .ok (.getfield 13, 3) := by decide +kernel
theorem dX11_partsOf_71 : decode cX11_partsOf 71 = .ok (.areturn, 1) := by decide +kernel
theorem dX11_partsOf_72 : decode cX11_partsOf 72 = .ok (.ldc_w 329, 3) := by decide +kernel
theorem dX11_partsOf_75 : decode cX11_partsOf 75 = .ok (.areturn, 1) := by decide +kernel
theorem dX11_readPolicy_2 : decode cX11_readPolicy 2 = .ok (.putfield 275, 3) := by decide +kernel
theorem dX11_heap_0 : decode cX11_heap 0 = .ok (.aload_n 0, 1) := by decide +kernel
theorem dX11_heap_1 : decode cX11_heap 1 = .ok (.invokevirtual 88, 3) := by decide +kernel
theorem dX11_heap_4 : decode cX11_heap 4 = .ok (.istore_n 1, 1) := by decide +kernel
theorem dX11_heap_5 : decode cX11_heap 5 = .ok (.aload_n 0, 1) := by decide +kernel
theorem dX11_heap_6 : decode cX11_heap 6 = .ok (.iconst 0, 1) := by decide +kernel
theorem dX11_heap_10 : decode cX11_heap 10 = .ok (.iload_n 1, 1) := by decide +kernel
theorem dX11_heap_23 : decode cX11_heap 23 = .ok (.iconst (-1), 1) := by decide +kernel
theorem dX11_heap_24 : decode cX11_heap 24 = .ok (.aload_n 0, 1) := by decide +kernel
theorem dX11_heap_28 : decode cX11_heap 28 = .ok (.isub, 1) := by decide +kernel
theorem dX11_heap_29 : decode cX11_heap 29 = .ok (.ireturn, 1) := by decide +kernel
theorem dX11_heap_25 : decode cX11_heap 25 = .ok (.getfield 92, 3) := by decide +kernel
theorem dX11_heap_14 : decode cX11_heap 14 = .ok (.iload_n 1, 1) := by decide +kernel
theorem dX11_heap_15 : decode cX11_heap 15 = .ok (.aload_n 0, 1) := by decide +kernel
theorem dX11_heap_19 : decode cX11_heap 19 = .ok (.arraylength, 1) := by decide +kernel
theorem dX11_heap_20 : decode cX11_heap 20 = .ok (.if_icmp .lt 10, 3) := by decide +kernel
theorem dX11_heap_16 : decode cX11_heap 16 = .ok (.getfield 64, 3) := by decide +kernel
theorem dX11_heap_11 : decode cX11_heap 11 = .ok (.ifCond .lt 12, 3) := by decide +kernel
theorem dX11_heap_7 : decode cX11_heap 7 = .ok (.putfield 68, 3) := by decide +kernel
theorem dX11_heap_30 : decode cX11_heap 30 = .ok (.aload_n 0, 1) := by decide +kernel
theorem dX11_heap_34 : decode cX11_heap 34 = .ok (.invokevirtual 95, 3) := by decide +kernel
theorem dX11_heap_37 : decode cX11_heap 37 = .ok (.aload_n 0, 1) := by decide +kernel
theorem dX11_heap_38 : decode cX11_heap 38 = .ok (.aload_n 0, 1) := by decide +kernel
theorem dX11_heap_42 : decode cX11_heap 42 = .ok (.iload_n 1, 1) := by decide +kernel
theorem dX11_heap_47 : decode cX11_heap 47 = .ok (.aload_n 0, 1) := by decide +kernel
theorem dX11_heap_51 : decode cX11_heap 51 = .ok (.aload_n 0, 1) := by decide +kernel
theorem dX11_heap_55 : decode cX11_heap 55 = .ok (.invokevirtual 102, 3) := by decide +kernel
theorem dX11_heap_58 : decode cX11_heap 58 = .ok (.aload_n 0, 1) := by decide +kernel
theorem dX11_heap_62 : decode cX11_heap 62 = .ok (.invokevirtual 106, 3) := by decide +kernel
theorem dX11_heap_65 : decode cX11_heap 65 = .ok (.ireturn, 1) := by decide +kernel
theorem dX11_heap_59 : decode cX11_heap 59 = .ok (.getfield 98, 3) := by decide +kernel
theorem dX11_heap_52 : decode cX11_heap 52 = .ok (.getfield 13, 3) := by decide +kernel
theorem dX11_heap_48 : decode cX11_heap 48 = .ok (.getfield 98, 3) := by decide +kernel
theorem dX11_heap_44 : decode cX11_heap 44 = .ok (.putfield 98, 3) := by decide +kernel
theorem dX11_heap_43 : decode cX11_heap 43 = .ok (.aaload, 1) := by decide +kernel
theorem dX11_heap_39 : decode cX11_heap 39 = .ok (.getfield 64, 3) := by decide +kernel
theorem dX11_heap_31 : decode cX11_heap 31 = .ok (.getfield 26, 3) := by decide +kernel
theorem dX8_blockPlace_0 : decode cX8_blockPlace 0 = .ok (.iload_n 1, 1) := by decide +kernel
theorem dX8_blockPlace_1 : decode cX8_blockPlace 1 = .ok (.istore_n 2, 1) := by decide +kernel
theorem dX8_blockPlace_2 : decode cX8_blockPlace 2 = .ok (.aload_n 0, 1) := by decide +kernel
theorem dX8_blockPlace_3 : decode cX8_blockPlace 3 = .ok (.iconst 0, 1) := by decide +kernel
theorem dX8_blockPlace_4 : decode cX8_blockPlace 4 = .ok (.invokevirtual 40, 3) := by decide +kernel
theorem dX8_blockPlace_7 : decode cX8_blockPlace 7 = .ok (.istore_n 3, 1) := by decide +kernel
theorem dX8_blockPlace_8 : decode cX8_blockPlace 8 = .ok (.iload_n 2, 1) := by decide +kernel
theorem dX8_blockPlace_42 : decode cX8_blockPlace 42 = .ok (.iconst (-1), 1) := by decide +kernel
theorem dX8_blockPlace_43 : decode cX8_blockPlace 43 = .ok (.ireturn, 1) := by decide +kernel
theorem dX8_blockPlace_12 : decode cX8_blockPlace 12 = .ok (.iload_n 3, 1) := by decide +kernel
theorem dX8_blockPlace_13 : decode cX8_blockPlace 13 = .ok (.aload_n 0, 1) := by decide +kernel
theorem dX8_blockPlace_20 : decode cX8_blockPlace 20 = .ok (.iload_n 2, 1) := by decide +kernel
theorem dX8_blockPlace_26 : decode cX8_blockPlace 26 = .ok (.iinc 2 (-1), 3) := by decide +kernel
theorem dX8_blockPlace_29 : decode cX8_blockPlace 29 = .ok (.aload_n 0, 1) := by decide +kernel
theorem dX8_blockPlace_30 : decode cX8_blockPlace 30 = .ok (.aload_n 0, 1) := by decide +kernel
theorem dX8_blockPlace_31 : decode cX8_blockPlace 31 = .ok (.iload_n 3, 1) := by decide +kernel
theorem dX8_blockPlace_32 : decode cX8_blockPlace 32 = .ok (.invokevirtual 43, 3) := by decide +kernel
theorem dX8_blockPlace_35 : decode cX8_blockPlace 35 = .ok (.invokevirtual 40, 3) := by decide +kernel
theorem dX8_blockPlace_38 : decode cX8_blockPlace 38 = .ok (.istore_n 3, 1) := by decide +kernel
theorem dX8_blockPlace_39 : decode cX8_blockPlace 39 = .ok (.goto (-31), 3) := by decide +kernel
theorem dX8_blockPlace_24 : decode cX8_blockPlace 24 = .ok (.iload_n 3, 1) := by decide +kernel
theorem dX8_blockPlace_25 : decode cX8_blockPlace 25 = .ok (.ireturn, 1) := by decide +kernel
theorem dX8_blockPlace_21 : decode cX8_blockPlace 21 = .ok (.ifCond .ne 5, 3) := by decide +kernel
theorem dX8_blockPlace_17 : decode cX8_blockPlace 17 = .ok (.if_icmp .ge 25, 3) := by decide +kernel
theorem dX8_blockPlace_14 : decode cX8_blockPlace 14 = .ok (.getfield 9, 3) := by decide +kernel
theorem dX8_blockPlace_9 : decode cX8_blockPlace 9 = .ok (.ifCond .lt 33, 3) := by decide +kernel
theorem dX11_needReached_0 : decode cX11_needReached 0 = .ok (.aload_n 0, 1) := by decide +kernel
theorem dX11_needReached_4 : decode cX11_needReached 4 = .ok (.invokevirtual 358, 3) := by decide +kernel
theorem dX11_needReached_7 : decode cX11_needReached 7 = .ok (.aload_n 0, 1) := by decide +kernel
theorem dX11_needReached_11 : decode cX11_needReached 11 = .ok (.iload_n 1, 1) := by decide +kernel
theorem dX11_needReached_12 : decode cX11_needReached 12 = .ok (.invokevirtual 176, 3) := by decide +kernel
theorem dX11_needReached_15 : decode cX11_needReached 15 = .ok (.astore_n 2, 1) := by decide +kernel
theorem dX11_needReached_16 : decode cX11_needReached 16 = .ok (.aload_n 2, 1) := by decide +kernel
theorem dX11_needReached_17 : decode cX11_needReached 17 = .ok (.ifnull 14, 3) := by decide +kernel
theorem dX11_needReached_31 : decode cX11_needReached 31 = .ok (.new 364, 3) := by decide +kernel
theorem dX11_needReached_34 : decode cX11_needReached 34 = .ok (.dup, 1) := by decide +kernel
theorem dX11_needReached_35 : decode cX11_needReached 35 = .ok (.invokespecial 366, 3) := by decide +kernel
theorem dX11_needReached_38 : decode cX11_needReached 38 = .ok (.athrow, 1) := by decide +kernel
theorem dX11_needReached_20 : decode cX11_needReached 20 = .ok (.aload_n 0, 1) := by decide +kernel
theorem dX11_needReached_24 : decode cX11_needReached 24 = .ok (.aload_n 2, 1) := by decide +kernel
theorem dX11_needReached_25 : decode cX11_needReached 25 = .ok (.invokevirtual 361, 3) := by decide +kernel
theorem dX11_needReached_39 : decode cX11_needReached 39 = .ok (.aload_n 2, 1) := by decide +kernel
theorem dX11_needReached_40 : decode cX11_needReached 40 = .ok (.areturn, 1) := by decide +kernel
theorem dX11_needReached_28 : decode cX11_needReached 28 = .ok (.ifCond .ne 11, 3) := by decide +kernel
theorem dX11_needReached_21 : decode cX11_needReached 21 = .ok (.getfield 35, 3) := by decide +kernel
theorem dX11_needReached_8 : decode cX11_needReached 8 = .ok (.getfield 26, 3) := by decide +kernel
theorem dX11_needReached_1 : decode cX11_needReached 1 = .ok (.getfield 35, 3) := by decide +kernel
theorem dX11_needReachedOrNothing_0 : decode cX11_needReachedOrNothing 0 = .ok (.iload_n 1, 1) := by decide +kernel
theorem dX11_needReachedOrNothing_1 : decode cX11_needReachedOrNothing 1 = .ok (.iconst (-1), 1) := by decide +kernel
theorem dX11_needReachedOrNothing_9 : decode cX11_needReachedOrNothing 9 = .ok (.aload_n 0, 1) := by decide +kernel
theorem dX11_needReachedOrNothing_10 : decode cX11_needReachedOrNothing 10 = .ok (.iload_n 1, 1) := by decide +kernel
theorem dX11_needReachedOrNothing_11 : decode cX11_needReachedOrNothing 11 = .ok (.invokevirtual 123, 3) := by decide +kernel
theorem dX11_needReachedOrNothing_14 : decode cX11_needReachedOrNothing 14 = .ok (.areturn, 1) := by decide +kernel
theorem dX11_needReachedOrNothing_5 : decode cX11_needReachedOrNothing 5 = .ok (.aconst_null, 1) := by decide +kernel
theorem dX11_needReachedOrNothing_6 : decode cX11_needReachedOrNothing 6 = .ok (.goto 8, 3) := by decide +kernel
theorem dX11_needReachedOrNothing_2 : decode cX11_needReachedOrNothing 2 = .ok (.if_icmp .ne 7, 3) := by decide +kernel
theorem dX11_changeRoot_0 : decode cX11_changeRoot 0 = .ok (.aload_n 0, 1) := by decide +kernel
theorem dX11_changeRoot_4 : decode cX11_changeRoot 4 = .ok (.iload_n 2, 1) := by decide +kernel
theorem dX11_changeRoot_5 : decode cX11_changeRoot 5 = .ok (.aload_n 3, 1) := by decide +kernel
theorem dX11_changeRoot_6 : decode cX11_changeRoot 6 = .ok (.invokevirtual 379, 3) := by decide +kernel
theorem dX11_changeRoot_9 : decode cX11_changeRoot 9 = .ok (.astore 4, 2) := by decide +kernel
theorem dX11_changeRoot_11 : decode cX11_changeRoot 11 = .ok (.aload_n 1, 1) := by decide +kernel
theorem dX11_changeRoot_12 : decode cX11_changeRoot 12 = .ok (.aload 4, 2) := by decide +kernel
theorem dX11_changeRoot_14 : decode cX11_changeRoot 14 = .ok (.aload_n 3, 1) := by decide +kernel
theorem dX11_changeRoot_15 : decode cX11_changeRoot 15 = .ok (.invokevirtual 153, 3) := by decide +kernel
theorem dX11_changeRoot_18 : decode cX11_changeRoot 18 = .ok (.aload_n 1, 1) := by decide +kernel
theorem dX11_changeRoot_19 : decode cX11_changeRoot 19 = .ok (.aload 4, 2) := by decide +kernel
theorem dX11_changeRoot_21 : decode cX11_changeRoot 21 = .ok (.invokevirtual 157, 3) := by decide +kernel
theorem dX11_changeRoot_24 : decode cX11_changeRoot 24 = .ok (.aload 4, 2) := by decide +kernel
theorem dX11_changeRoot_26 : decode cX11_changeRoot 26 = .ok (.areturn, 1) := by decide +kernel
theorem dX1_noteFewer_0 : decode cX1_noteFewer 0 = .ok (.return_, 1) := by decide +kernel
theorem dX1_noteChange_0 : decode cX1_noteChange 0 = .ok (.return_, 1) := by decide +kernel
theorem dX11_changeRoot_1 : decode cX11_changeRoot 1 = .ok (.getfield 26, 3) := by decide +kernel
theorem dX11_addObject_64 : decode cX11_addObject 64 = .ok (.aload_n 0, 1) := by decide +kernel
theorem dX11_addObject_68 : decode cX11_addObject 68 = .ok (.aload 8, 2) := by decide +kernel
theorem dX11_addObject_70 : decode cX11_addObject 70 = .ok (.invokevirtual 373, 3) := by decide +kernel
theorem dX11_addObject_73 : decode cX11_addObject 73 = .ok (.aload 6, 2) := by decide +kernel
theorem dX11_addObject_75 : decode cX11_addObject 75 = .ok (.aload 8, 2) := by decide +kernel
theorem dX11_addObject_77 : decode cX11_addObject 77 = .ok (.invokevirtual 376, 3) := by decide +kernel
theorem dX11_addObject_80 : decode cX11_addObject 80 = .ok (.aload_n 0, 1) := by decide +kernel
theorem dX11_addObject_81 : decode cX11_addObject 81 = .ok (.aload 6, 2) := by decide +kernel
theorem dX11_addObject_83 : decode cX11_addObject 83 = .ok (.iload 5, 2) := by decide +kernel
theorem dX11_addObject_85 : decode cX11_addObject 85 = .ok (.aload 8, 2) := by decide +kernel
theorem dX11_addObject_87 : decode cX11_addObject 87 = .ok (.invokevirtual 169, 3) := by decide +kernel
theorem dX11_addObject_90 : decode cX11_addObject 90 = .ok (.pop, 1) := by decide +kernel
theorem dX11_addObject_91 : decode cX11_addObject 91 = .ok (.aload 8, 2) := by decide +kernel
theorem dX11_addObject_96 : decode cX11_addObject 96 = .ok (.ireturn, 1) := by decide +kernel
theorem dX11_addObject_93 : decode cX11_addObject 93 = .ok (.getfield 182, 3) := by decide +kernel
theorem dX11_addObject_65 : decode cX11_addObject 65 = .ok (.getfield 26, 3) := by decide +kernel
theorem dX11_addObject_0 : decode cX11_addObject 0 = .ok (.aload_n 0, 1) := by decide +kernel
theorem dX11_addObject_1 : decode cX11_addObject 1 = .ok (.invokevirtual 119, 3) := by decide +kernel
theorem dX11_needCollector_0 : decode cX11_needCollector 0 = .ok (.aload_n 0, 1) := by decide +kernel
theorem dX11_needCollector_4 : decode cX11_needCollector 4 = .ok (.ifnonnull 11, 3) := by decide +kernel
theorem dX11_needCollector_15 : decode cX11_needCollector 15 = .ok (.aload_n 0, 1) := by decide +kernel
theorem dX11_addObject_4 : decode cX11_addObject 4 = .ok (.astore 6, 2) := by decide +kernel
theorem dX11_addObject_6 : decode cX11_addObject 6 = .ok (.aload_n 0, 1) := by decide +kernel
theorem dX11_addObject_13 : decode cX11_addObject 13 = .ok (.sipush 512, 3) := by decide +kernel
theorem dX11_addObject_30 : decode cX11_addObject 30 = .ok (.iconst (-1), 1) := by decide +kernel
theorem dX11_addObject_31 : decode cX11_addObject 31 = .ok (.istore 7, 2) := by decide +kernel
theorem dX11_addObject_33 : decode cX11_addObject 33 = .ok (.iload 7, 2) := by decide +kernel
theorem dX11_addObject_35 : decode cX11_addObject 35 = .ok (.iconst (-1), 1) := by decide +kernel
theorem dX11_addObject_36 : decode cX11_addObject 36 = .ok (.if_icmp .ne 5, 3) := by decide +kernel
theorem dX11_addObject_39 : decode cX11_addObject 39 = .ok (.iconst (-1), 1) := by decide +kernel
theorem dX11_addObject_40 : decode cX11_addObject 40 = .ok (.ireturn, 1) := by decide +kernel
theorem dX11_addObject_19 : decode cX11_addObject 19 = .ok (.aload 6, 2) := by decide +kernel
theorem dX11_addObject_21 : decode cX11_addObject 21 = .ok (.iload_n 2, 1) := by decide +kernel
theorem dX11_addObject_22 : decode cX11_addObject 22 = .ok (.iconst 1, 1) := by decide +kernel
theorem dX11_addObject_23 : decode cX11_addObject 23 = .ok (.iadd, 1) := by decide +kernel
theorem dX11_addObject_24 : decode cX11_addObject 24 = .ok (.invokevirtual 367, 3) := by decide +kernel
theorem dX11_addObject_27 : decode cX11_addObject 27 = .ok (.goto 4, 3) := by decide +kernel
theorem dX11_addObject_16 : decode cX11_addObject 16 = .ok (.if_icmp .ge 14, 3) := by decide +kernel
theorem dX11_addObject_10 : decode cX11_addObject 10 = .ok (.getfield 244, 3) := by decide +kernel
theorem dX11_addObject_7 : decode cX11_addObject 7 = .ok (.getfield 26, 3) := by decide +kernel
theorem dX11_needCollector_19 : decode cX11_needCollector 19 = .ok (.areturn, 1) := by decide +kernel
theorem dX11_needCollector_16 : decode cX11_needCollector 16 = .ok (.getfield 98, 3) := by decide +kernel
theorem dX11_needCollector_1 : decode cX11_needCollector 1 = .ok (.getfield 98, 3) := by decide +kernel
theorem dX11_needCollector_7 : decode cX11_needCollector 7 = .ok (.new 85, 3) := by decide +kernel
theorem dX11_needCollector_10 : decode cX11_needCollector 10 = .ok (.dup, 1) := by decide +kernel
theorem dX11_needCollector_11 : decode cX11_needCollector 11 = .ok (.invokespecial 87, 3) := by decide +kernel
theorem dX11_needCollector_14 : decode cX11_needCollector 14 = .ok (.athrow, 1) := by decide +kernel
theorem dX11_make_0 : decode cX11_make 0 = .ok (.iload_n 1, 1) := by decide +kernel
theorem dX11_make_19 : decode cX11_make 19 = .ok (.new 79, 3) := by decide +kernel
theorem dX11_make_22 : decode cX11_make 22 = .ok (.dup, 1) := by decide +kernel
theorem dX11_make_23 : decode cX11_make 23 = .ok (.invokespecial 81, 3) := by decide +kernel
theorem dX11_make_26 : decode cX11_make 26 = .ok (.athrow, 1) := by decide +kernel
theorem dX11_make_4 : decode cX11_make 4 = .ok (.iload_n 1, 1) := by decide +kernel
theorem dX11_make_5 : decode cX11_make 5 = .ok (.aload_n 0, 1) := by decide +kernel
theorem dX11_make_12 : decode cX11_make 12 = .ok (.iload_n 2, 1) := by decide +kernel
theorem dX11_make_13 : decode cX11_make 13 = .ok (.invokestatic 109, 3) := by decide +kernel
theorem dX11_isSlot_0 : decode cX11_isSlot 0 = .ok (.iload_n 0, 1) := by decide +kernel
theorem dX11_isSlot_14 : decode cX11_isSlot 14 = .ok (.iconst 0, 1) := by decide +kernel
theorem dX11_make_16 : decode cX11_make 16 = .ok (.ifCond .ne 11, 3) := by decide +kernel
theorem dX11_isSlot_15 : decode cX11_isSlot 15 = .ok (.ireturn, 1) := by decide +kernel
theorem dX11_isSlot_4 : decode cX11_isSlot 4 = .ok (.iload_n 0, 1) := by decide +kernel
theorem dX11_isSlot_5 : decode cX11_isSlot 5 = .ok (.bipush 16, 2) := by decide +kernel
theorem dX11_isSlot_10 : decode cX11_isSlot 10 = .ok (.iconst 1, 1) := by decide +kernel
theorem dX11_isSlot_11 : decode cX11_isSlot 11 = .ok (.goto 4, 3) := by decide +kernel
theorem dX11_make_27 : decode cX11_make 27 = .ok (.aload_n 0, 1) := by decide +kernel
theorem dX11_make_28 : decode cX11_make 28 = .ok (.iload_n 1, 1) := by decide +kernel
theorem dX11_make_29 : decode cX11_make 29 = .ok (.aload_n 0, 1) := by decide +kernel
theorem dX11_make_33 : decode cX11_make 33 = .ok (.iload_n 1, 1) := by decide +kernel
theorem dX11_make_35 : decode cX11_make 35 = .ok (.aload_n 0, 1) := by decide +kernel
theorem dX11_make_39 : decode cX11_make 39 = .ok (.iload_n 1, 1) := by decide +kernel
theorem dX11_make_41 : decode cX11_make 41 = .ok (.i2l, 1) := by decide +kernel
theorem dX11_make_42 : decode cX11_make 42 = .ok (.iload_n 2, 1) := by decide +kernel
theorem dX11_make_43 : decode cX11_make 43 = .ok (.invokevirtual 113, 3) := by decide +kernel
theorem dX11_make_46 : decode cX11_make 46 = .ok (.ireturn, 1) := by decide +kernel
theorem dX11_make_40 : decode cX11_make 40 = .ok (.iaload, 1) := by decide +kernel
theorem dX11_make_36 : decode cX11_make 36 = .ok (.getfield 20, 3) := by decide +kernel
theorem dX11_make_34 : decode cX11_make 34 = .ok (.iaload, 1) := by decide +kernel
theorem dX11_make_30 : decode cX11_make 30 = .ok (.getfield 17, 3) := by decide +kernel
theorem dX11_isSlot_7 : decode cX11_isSlot 7 = .ok (.if_icmp .ge 7, 3) := by decide +kernel
theorem dX11_isSlot_1 : decode cX11_isSlot 1 = .ok (.ifCond .lt 13, 3) := by decide +kernel
theorem dX11_make_9 : decode cX11_make 9 = .ok (.if_icmp .ge 10, 3) := by decide +kernel
theorem dX11_make_6 : decode cX11_make 6 = .ok (.getfield 82, 3) := by decide +kernel
theorem dX11_make_1 : decode cX11_make 1 = .ok (.ifCond .lt 18, 3) := by decide +kernel
theorem dX11_row_0 : decode cX11_row 0 = .ok (.iload_n 2, 1) := by decide +kernel
theorem dX11_row_17 : decode cX11_row 17 = .ok (.new 79, 3) := by decide +kernel
theorem dX11_row_20 : decode cX11_row 20 = .ok (.dup, 1) := by decide +kernel
theorem dX11_row_21 : decode cX11_row 21 = .ok (.invokespecial 81, 3) := by decide +kernel
theorem dX11_row_24 : decode cX11_row 24 = .ok (.athrow, 1) := by decide +kernel
theorem dX11_row_4 : decode cX11_row 4 = .ok (.iload_n 2, 1) := by decide +kernel
theorem dX11_row_5 : decode cX11_row 5 = .ok (.bipush 60, 2) := by decide +kernel
theorem dX11_row_10 : decode cX11_row 10 = .ok (.iload_n 3, 1) := by decide +kernel
theorem dX11_row_11 : decode cX11_row 11 = .ok (.invokestatic 109, 3) := by decide +kernel
theorem dX11_row_14 : decode cX11_row 14 = .ok (.ifCond .ne 11, 3) := by decide +kernel
theorem dX11_row_25 : decode cX11_row 25 = .ok (.iload_n 1, 1) := by decide +kernel
theorem dX11_row_43 : decode cX11_row 43 = .ok (.aload_n 0, 1) := by decide +kernel
theorem dX11_row_44 : decode cX11_row 44 = .ok (.bipush 17, 2) := by decide +kernel
theorem dX11_row_46 : decode cX11_row 46 = .ok (.iload_n 2, 1) := by decide +kernel
theorem dX11_row_47 : decode cX11_row 47 = .ok (.lconst 0, 1) := by decide +kernel
theorem dX11_row_48 : decode cX11_row 48 = .ok (.iload_n 3, 1) := by decide +kernel
theorem dX11_row_49 : decode cX11_row 49 = .ok (.invokevirtual 113, 3) := by decide +kernel
theorem dX11_row_52 : decode cX11_row 52 = .ok (.ireturn, 1) := by decide +kernel
theorem dX11_row_29 : decode cX11_row 29 = .ok (.aload_n 0, 1) := by decide +kernel
theorem dX11_row_30 : decode cX11_row 30 = .ok (.bipush 16, 2) := by decide +kernel
theorem dX11_row_32 : decode cX11_row 32 = .ok (.iload_n 2, 1) := by decide +kernel
theorem dX11_row_33 : decode cX11_row 33 = .ok (.ldc2_w 117, 3) := by decide +kernel
theorem dX11_row_36 : decode cX11_row 36 = .ok (.iload_n 3, 1) := by decide +kernel
theorem dX11_row_37 : decode cX11_row 37 = .ok (.invokevirtual 113, 3) := by decide +kernel
theorem dX11_row_40 : decode cX11_row 40 = .ok (.goto 12, 3) := by decide +kernel
theorem dX11_row_26 : decode cX11_row 26 = .ok (.ifCond .eq 17, 3) := by decide +kernel
theorem dX11_row_7 : decode cX11_row 7 = .ok (.if_icmp .gt 10, 3) := by decide +kernel
theorem dX11_row_1 : decode cX11_row 1 = .ok (.ifCond .lt 16, 3) := by decide +kernel
theorem dX11_link_0 : decode cX11_link 0 = .ok (.aload_n 0, 1) := by decide +kernel
theorem dX11_link_1 : decode cX11_link 1 = .ok (.invokevirtual 119, 3) := by decide +kernel
theorem dX11_root_0 : decode cX11_root 0 = .ok (.iload_n 1, 1) := by decide +kernel
theorem dX11_root_1 : decode cX11_root 1 = .ok (.invokestatic 109, 3) := by decide +kernel
theorem dX11_root_4 : decode cX11_root 4 = .ok (.ifCond .ne 11, 3) := by decide +kernel
theorem dX11_root_7 : decode cX11_root 7 = .ok (.new 79, 3) := by decide +kernel
theorem dX11_root_10 : decode cX11_root 10 = .ok (.dup, 1) := by decide +kernel
theorem dX11_root_11 : decode cX11_root 11 = .ok (.invokespecial 81, 3) := by decide +kernel
theorem dX11_root_14 : decode cX11_root 14 = .ok (.athrow, 1) := by decide +kernel
theorem dX11_root_15 : decode cX11_root 15 = .ok (.aload_n 0, 1) := by decide +kernel
theorem dX11_root_16 : decode cX11_root 16 = .ok (.invokevirtual 119, 3) := by decide +kernel
theorem dX11_strong_0 : decode cX11_strong 0 = .ok (.iload_n 1, 1) := by decide +kernel
theorem dX11_strong_1 : decode cX11_strong 1 = .ok (.invokestatic 109, 3) := by decide +kernel
theorem dX11_strong_4 : decode cX11_strong 4 = .ok (.ifCond .eq 10, 3) := by decide +kernel
theorem dX11_strong_14 : decode cX11_strong 14 = .ok (.new 79, 3) := by decide +kernel
theorem dX11_strong_17 : decode cX11_strong 17 = .ok (.dup, 1) := by decide +kernel
theorem dX11_strong_18 : decode cX11_strong 18 = .ok (.invokespecial 81, 3) := by decide +kernel
theorem dX11_strong_21 : decode cX11_strong 21 = .ok (.athrow, 1) := by decide +kernel
theorem dX11_strong_7 : decode cX11_strong 7 = .ok (.iload_n 2, 1) := by decide +kernel
theorem dX11_strong_8 : decode cX11_strong 8 = .ok (.invokestatic 109, 3) := by decide +kernel
theorem dX11_strong_11 : decode cX11_strong 11 = .ok (.ifCond .ne 11, 3) := by decide +kernel
theorem dX11_strong_22 : decode cX11_strong 22 = .ok (.aload_n 0, 1) := by decide +kernel
theorem dX11_strong_23 : decode cX11_strong 23 = .ok (.invokevirtual 119, 3) := by decide +kernel
theorem dX11_hold_0 : decode cX11_hold 0 = .ok (.aload_n 0, 1) := by decide +kernel
theorem dX11_hold_1 : decode cX11_hold 1 = .ok (.invokevirtual 119, 3) := by decide +kernel
theorem dX11_granted_0 : decode cX11_granted 0 = .ok (.iload_n 1, 1) := by decide +kernel
theorem dX11_granted_1 : decode cX11_granted 1 = .ok (.invokestatic 109, 3) := by decide +kernel
theorem dX11_granted_4 : decode cX11_granted 4 = .ok (.ifCond .ne 11, 3) := by decide +kernel
theorem dX11_granted_7 : decode cX11_granted 7 = .ok (.new 79, 3) := by decide +kernel
theorem dX11_granted_10 : decode cX11_granted 10 = .ok (.dup, 1) := by decide +kernel
theorem dX11_granted_11 : decode cX11_granted 11 = .ok (.invokespecial 81, 3) := by decide +kernel
theorem dX11_granted_14 : decode cX11_granted 14 = .ok (.athrow, 1) := by decide +kernel
theorem dX11_granted_15 : decode cX11_granted 15 = .ok (.aload_n 0, 1) := by decide +kernel
theorem dX11_granted_16 : decode cX11_granted 16 = .ok (.invokevirtual 119, 3) := by decide +kernel
theorem dX11_clean_0 : decode cX11_clean 0 = .ok (.aload_n 0, 1) := by decide +kernel
theorem dX11_clean_1 : decode cX11_clean 1 = .ok (.invokevirtual 119, 3) := by decide +kernel
theorem dX11_step_0 : decode cX11_step 0 = .ok (.iload_n 1, 1) := by decide +kernel
theorem dX11_step_11 : decode cX11_step 11 = .ok (.new 79, 3) := by decide +kernel
theorem dX11_step_14 : decode cX11_step 14 = .ok (.dup, 1) := by decide +kernel
theorem dX11_step_15 : decode cX11_step 15 = .ok (.invokespecial 81, 3) := by decide +kernel
theorem dX11_step_18 : decode cX11_step 18 = .ok (.athrow, 1) := by decide +kernel
theorem dX11_step_4 : decode cX11_step 4 = .ok (.iload_n 1, 1) := by decide +kernel
theorem dX11_step_5 : decode cX11_step 5 = .ok (.sipush 1000, 3) := by decide +kernel
theorem dX11_step_19 : decode cX11_step 19 = .ok (.aload_n 0, 1) := by decide +kernel
theorem dX11_step_20 : decode cX11_step 20 = .ok (.invokevirtual 119, 3) := by decide +kernel
theorem dX11_step_8 : decode cX11_step 8 = .ok (.if_icmp .le 11, 3) := by decide +kernel
theorem dX11_step_1 : decode cX11_step 1 = .ok (.ifCond .lt 10, 3) := by decide +kernel
theorem dX11_about_0 : decode cX11_about 0 = .ok (.iload_n 2, 1) := by decide +kernel
theorem dX11_about_10 : decode cX11_about 10 = .ok (.new 79, 3) := by decide +kernel
theorem dX11_about_13 : decode cX11_about 13 = .ok (.dup, 1) := by decide +kernel
theorem dX11_about_14 : decode cX11_about 14 = .ok (.invokespecial 81, 3) := by decide +kernel
theorem dX11_about_17 : decode cX11_about 17 = .ok (.athrow, 1) := by decide +kernel
theorem dX11_about_4 : decode cX11_about 4 = .ok (.iload_n 2, 1) := by decide +kernel
theorem dX11_about_5 : decode cX11_about 5 = .ok (.bipush 7, 2) := by decide +kernel
theorem dX11_about_18 : decode cX11_about 18 = .ok (.aload_n 0, 1) := by decide +kernel
theorem dX11_about_19 : decode cX11_about 19 = .ok (.invokevirtual 119, 3) := by decide +kernel
theorem dX11_about_7 : decode cX11_about 7 = .ok (.if_icmp .le 11, 3) := by decide +kernel
theorem dX11_about_1 : decode cX11_about 1 = .ok (.ifCond .lt 9, 3) := by decide +kernel
theorem dX11_block_0 : decode cX11_block 0 = .ok (.iload_n 2, 1) := by decide +kernel
theorem dX11_block_9 : decode cX11_block 9 = .ok (.new 79, 3) := by decide +kernel
theorem dX11_block_12 : decode cX11_block 12 = .ok (.dup, 1) := by decide +kernel
theorem dX11_block_13 : decode cX11_block 13 = .ok (.invokespecial 81, 3) := by decide +kernel
theorem dX11_block_16 : decode cX11_block 16 = .ok (.athrow, 1) := by decide +kernel
theorem dX11_block_4 : decode cX11_block 4 = .ok (.iload_n 2, 1) := by decide +kernel
theorem dX11_block_5 : decode cX11_block 5 = .ok (.iconst 1, 1) := by decide +kernel
theorem dX11_block_17 : decode cX11_block 17 = .ok (.aload_n 0, 1) := by decide +kernel
theorem dX11_block_18 : decode cX11_block 18 = .ok (.invokevirtual 119, 3) := by decide +kernel
theorem dX11_block_6 : decode cX11_block 6 = .ok (.if_icmp .le 11, 3) := by decide +kernel
theorem dX11_block_1 : decode cX11_block 1 = .ok (.ifCond .lt 8, 3) := by decide +kernel
theorem dX11_count_0 : decode cX11_count 0 = .ok (.iload_n 1, 1) := by decide +kernel
theorem dX11_count_10 : decode cX11_count 10 = .ok (.new 79, 3) := by decide +kernel
theorem dX11_count_13 : decode cX11_count 13 = .ok (.dup, 1) := by decide +kernel
theorem dX11_count_14 : decode cX11_count 14 = .ok (.invokespecial 81, 3) := by decide +kernel
theorem dX11_count_17 : decode cX11_count 17 = .ok (.athrow, 1) := by decide +kernel
theorem dX11_count_4 : decode cX11_count 4 = .ok (.iload_n 1, 1) := by decide +kernel
theorem dX11_count_5 : decode cX11_count 5 = .ok (.bipush 13, 2) := by decide +kernel
theorem dX11_count_18 : decode cX11_count 18 = .ok (.iload_n 1, 1) := by decide +kernel
theorem dX11_count_27 : decode cX11_count 27 = .ok (.iload_n 1, 1) := by decide +kernel
theorem dX11_count_28 : decode cX11_count 28 = .ok (.iconst 1, 1) := by decide +kernel
theorem dX11_count_37 : decode cX11_count 37 = .ok (.aload_n 0, 1) := by decide +kernel
theorem dX11_count_38 : decode cX11_count 38 = .ok (.invokevirtual 119, 3) := by decide +kernel
theorem dX11_count_32 : decode cX11_count 32 = .ok (.aload_n 0, 1) := by decide +kernel
theorem dX11_count_36 : decode cX11_count 36 = .ok (.ireturn, 1) := by decide +kernel
theorem dX11_count_33 : decode cX11_count 33 = .ok (.getfield 82, 3) := by decide +kernel
theorem dX11_count_29 : decode cX11_count 29 = .ok (.if_icmp .ne 8, 3) := by decide +kernel
theorem dX11_count_22 : decode cX11_count 22 = .ok (.aload_n 0, 1) := by decide +kernel
theorem dX11_count_26 : decode cX11_count 26 = .ok (.ireturn, 1) := by decide +kernel
theorem dX11_count_23 : decode cX11_count 23 = .ok (.getfield 68, 3) := by decide +kernel
theorem dX11_count_19 : decode cX11_count 19 = .ok (.ifCond .ne 8, 3) := by decide +kernel
theorem dX11_count_7 : decode cX11_count 7 = .ok (.if_icmp .le 11, 3) := by decide +kernel
theorem dX11_count_1 : decode cX11_count 1 = .ok (.ifCond .lt 9, 3) := by decide +kernel
theorem dX11_link_4 : decode cX11_link 4 = .ok (.astore 4, 2) := by decide +kernel
theorem dX11_link_6 : decode cX11_link 6 = .ok (.aload_n 0, 1) := by decide +kernel
theorem dX11_link_7 : decode cX11_link 7 = .ok (.iload_n 1, 1) := by decide +kernel
theorem dX11_link_8 : decode cX11_link 8 = .ok (.invokevirtual 123, 3) := by decide +kernel
theorem dX11_link_11 : decode cX11_link 11 = .ok (.astore 5, 2) := by decide +kernel
theorem dX11_link_13 : decode cX11_link 13 = .ok (.aload_n 0, 1) := by decide +kernel
theorem dX11_link_14 : decode cX11_link 14 = .ok (.iload_n 3, 1) := by decide +kernel
theorem dX11_link_15 : decode cX11_link 15 = .ok (.invokevirtual 142, 3) := by decide +kernel
theorem dX11_link_18 : decode cX11_link 18 = .ok (.astore 6, 2) := by decide +kernel
theorem dX11_link_20 : decode cX11_link 20 = .ok (.aload 5, 2) := by decide +kernel
theorem dX11_link_22 : decode cX11_link 22 = .ok (.iload_n 2, 1) := by decide +kernel
theorem dX11_link_23 : decode cX11_link 23 = .ok (.invokevirtual 127, 3) := by decide +kernel
theorem dX11_link_26 : decode cX11_link 26 = .ok (.ifCond .ne 11, 3) := by decide +kernel
theorem dX11_link_29 : decode cX11_link 29 = .ok (.new 72, 3) := by decide +kernel
theorem dX11_link_32 : decode cX11_link 32 = .ok (.dup, 1) := by decide +kernel
theorem dX11_link_33 : decode cX11_link 33 = .ok (.invokespecial 74, 3) := by decide +kernel
theorem dX11_link_36 : decode cX11_link 36 = .ok (.athrow, 1) := by decide +kernel
theorem dX11_link_37 : decode cX11_link 37 = .ok (.aload 5, 2) := by decide +kernel
theorem dX11_link_39 : decode cX11_link 39 = .ok (.iload_n 2, 1) := by decide +kernel
theorem dX11_link_40 : decode cX11_link 40 = .ok (.invokevirtual 132, 3) := by decide +kernel
theorem dX11_link_43 : decode cX11_link 43 = .ok (.ifCond .ne 11, 3) := by decide +kernel
theorem dX11_link_46 : decode cX11_link 46 = .ok (.new 135, 3) := by decide +kernel
theorem dX11_link_49 : decode cX11_link 49 = .ok (.dup, 1) := by decide +kernel
theorem dX11_link_50 : decode cX11_link 50 = .ok (.invokespecial 137, 3) := by decide +kernel
theorem dX11_link_53 : decode cX11_link 53 = .ok (.athrow, 1) := by decide +kernel
theorem dX11_link_54 : decode cX11_link 54 = .ok (.aload_n 0, 1) := by decide +kernel
theorem dX11_link_58 : decode cX11_link 58 = .ok (.aload 5, 2) := by decide +kernel
theorem dX11_link_60 : decode cX11_link 60 = .ok (.iload_n 2, 1) := by decide +kernel
theorem dX11_link_61 : decode cX11_link 61 = .ok (.aload 6, 2) := by decide +kernel
theorem dX11_link_63 : decode cX11_link 63 = .ok (.invokevirtual 145, 3) := by decide +kernel
theorem dX11_link_66 : decode cX11_link 66 = .ok (.astore 7, 2) := by decide +kernel
theorem dX11_link_68 : decode cX11_link 68 = .ok (.aload 4, 2) := by decide +kernel
theorem dX11_link_70 : decode cX11_link 70 = .ok (.aload 5, 2) := by decide +kernel
theorem dX11_link_72 : decode cX11_link 72 = .ok (.iload_n 2, 1) := by decide +kernel
theorem dX11_link_73 : decode cX11_link 73 = .ok (.aload 6, 2) := by decide +kernel
theorem dX11_link_75 : decode cX11_link 75 = .ok (.invokevirtual 149, 3) := by decide +kernel
theorem dX11_link_78 : decode cX11_link 78 = .ok (.aload 4, 2) := by decide +kernel
theorem dX11_link_80 : decode cX11_link 80 = .ok (.aload 7, 2) := by decide +kernel
theorem dX11_link_82 : decode cX11_link 82 = .ok (.aload 6, 2) := by decide +kernel
theorem dX11_link_84 : decode cX11_link 84 = .ok (.invokevirtual 153, 3) := by decide +kernel
theorem dX11_link_87 : decode cX11_link 87 = .ok (.aload 4, 2) := by decide +kernel
theorem dX11_link_89 : decode cX11_link 89 = .ok (.aload 7, 2) := by decide +kernel
theorem dX11_link_91 : decode cX11_link 91 = .ok (.invokevirtual 157, 3) := by decide +kernel
theorem dX11_link_94 : decode cX11_link 94 = .ok (.aload 7, 2) := by decide +kernel
theorem dX11_link_96 : decode cX11_link 96 = .ok (.invokestatic 161, 3) := by decide +kernel
theorem dX11_link_99 : decode cX11_link 99 = .ok (.ireturn, 1) := by decide +kernel
theorem dX1_noteReference_0 : decode cX1_noteReference 0 = .ok (.return_, 1) := by decide +kernel
theorem dX11_link_55 : decode cX11_link 55 = .ok (.getfield 26, 3) := by decide +kernel
theorem dX11_root_19 : decode cX11_root 19 = .ok (.astore_n 3, 1) := by decide +kernel
theorem dX11_root_20 : decode cX11_root 20 = .ok (.aload_n 0, 1) := by decide +kernel
theorem dX11_root_21 : decode cX11_root 21 = .ok (.iload_n 2, 1) := by decide +kernel
theorem dX11_root_22 : decode cX11_root 22 = .ok (.invokevirtual 142, 3) := by decide +kernel
theorem dX11_root_25 : decode cX11_root 25 = .ok (.astore 4, 2) := by decide +kernel
theorem dX11_root_27 : decode cX11_root 27 = .ok (.aload_n 0, 1) := by decide +kernel
theorem dX11_root_28 : decode cX11_root 28 = .ok (.aload_n 3, 1) := by decide +kernel
theorem dX11_root_29 : decode cX11_root 29 = .ok (.iload_n 1, 1) := by decide +kernel
theorem dX11_root_30 : decode cX11_root 30 = .ok (.aload 4, 2) := by decide +kernel
theorem dX11_root_32 : decode cX11_root 32 = .ok (.invokevirtual 169, 3) := by decide +kernel
theorem dX11_root_35 : decode cX11_root 35 = .ok (.invokestatic 161, 3) := by decide +kernel
theorem dX11_root_38 : decode cX11_root 38 = .ok (.ireturn, 1) := by decide +kernel
theorem dX11_strong_26 : decode cX11_strong 26 = .ok (.astore_n 3, 1) := by decide +kernel
theorem dX11_strong_27 : decode cX11_strong 27 = .ok (.aload_n 0, 1) := by decide +kernel
theorem dX11_strong_31 : decode cX11_strong 31 = .ok (.aload_n 0, 1) := by decide +kernel
theorem dX11_strong_38 : decode cX11_strong 38 = .ok (.iload_n 1, 1) := by decide +kernel
theorem dX11_strong_40 : decode cX11_strong 40 = .ok (.invokevirtual 176, 3) := by decide +kernel
theorem dX11_strong_43 : decode cX11_strong 43 = .ok (.astore 4, 2) := by decide +kernel
theorem dX11_strong_45 : decode cX11_strong 45 = .ok (.aload 4, 2) := by decide +kernel
theorem dX11_strong_47 : decode cX11_strong 47 = .ok (.ifnonnull 5, 3) := by decide +kernel
theorem dX11_strong_50 : decode cX11_strong 50 = .ok (.iconst (-1), 1) := by decide +kernel
theorem dX11_strong_51 : decode cX11_strong 51 = .ok (.ireturn, 1) := by decide +kernel
theorem dX11_strong_52 : decode cX11_strong 52 = .ok (.aload_n 0, 1) := by decide +kernel
theorem dX11_strong_53 : decode cX11_strong 53 = .ok (.aload_n 3, 1) := by decide +kernel
theorem dX11_strong_54 : decode cX11_strong 54 = .ok (.iload_n 2, 1) := by decide +kernel
theorem dX11_strong_55 : decode cX11_strong 55 = .ok (.aload 4, 2) := by decide +kernel
theorem dX11_strong_57 : decode cX11_strong 57 = .ok (.invokevirtual 169, 3) := by decide +kernel
theorem dX11_strong_60 : decode cX11_strong 60 = .ok (.pop, 1) := by decide +kernel
theorem dX11_strong_61 : decode cX11_strong 61 = .ok (.aload_n 3, 1) := by decide +kernel
theorem dX11_strong_62 : decode cX11_strong 62 = .ok (.aload 4, 2) := by decide +kernel
theorem dX11_strong_64 : decode cX11_strong 64 = .ok (.invokevirtual 179, 3) := by decide +kernel
theorem dX11_strong_67 : decode cX11_strong 67 = .ok (.aload 4, 2) := by decide +kernel
theorem dX11_strong_72 : decode cX11_strong 72 = .ok (.ireturn, 1) := by decide +kernel
theorem dX11_strong_69 : decode cX11_strong 69 = .ok (.getfield 182, 3) := by decide +kernel
theorem dX1_noteStrong_0 : decode cX1_noteStrong 0 = .ok (.return_, 1) := by decide +kernel
theorem dX11_strong_39 : decode cX11_strong 39 = .ok (.iaload, 1) := by decide +kernel
theorem dX11_strong_35 : decode cX11_strong 35 = .ok (.getfield 173, 3) := by decide +kernel
theorem dX11_strong_32 : decode cX11_strong 32 = .ok (.getfield 26, 3) := by decide +kernel
theorem dX11_strong_28 : decode cX11_strong 28 = .ok (.getfield 26, 3) := by decide +kernel
theorem dX11_hold_4 : decode cX11_hold 4 = .ok (.astore_n 3, 1) := by decide +kernel
theorem dX11_hold_5 : decode cX11_hold 5 = .ok (.aload_n 0, 1) := by decide +kernel
theorem dX11_hold_6 : decode cX11_hold 6 = .ok (.iload_n 1, 1) := by decide +kernel
theorem dX11_hold_7 : decode cX11_hold 7 = .ok (.invokevirtual 123, 3) := by decide +kernel
theorem dX11_hold_10 : decode cX11_hold 10 = .ok (.astore 4, 2) := by decide +kernel
theorem dX11_hold_12 : decode cX11_hold 12 = .ok (.aload_n 3, 1) := by decide +kernel
theorem dX11_hold_13 : decode cX11_hold 13 = .ok (.aload 4, 2) := by decide +kernel
theorem dX11_hold_15 : decode cX11_hold 15 = .ok (.invokevirtual 185, 3) := by decide +kernel
theorem dX1_canHold_0 : decode cX1_canHold 0 = .ok (.iconst 1, 1) := by decide +kernel
theorem dX11_hold_18 : decode cX11_hold 18 = .ok (.ifCond .eq 15, 3) := by decide +kernel
theorem dX11_hold_21 : decode cX11_hold 21 = .ok (.iload_n 2, 1) := by decide +kernel
theorem dX11_hold_41 : decode cX11_hold 41 = .ok (.aload_n 0, 1) := by decide +kernel
theorem dX11_hold_45 : decode cX11_hold 45 = .ok (.aload 4, 2) := by decide +kernel
theorem dX11_hold_47 : decode cX11_hold 47 = .ok (.iload_n 2, 1) := by decide +kernel
theorem dX11_hold_55 : decode cX11_hold 55 = .ok (.iconst (-1), 1) := by decide +kernel
theorem dX11_hold_56 : decode cX11_hold 56 = .ok (.invokevirtual 195, 3) := by decide +kernel
theorem dX11_hold_59 : decode cX11_hold 59 = .ok (.aload_n 3, 1) := by decide +kernel
theorem dX11_hold_60 : decode cX11_hold 60 = .ok (.aload 4, 2) := by decide +kernel
theorem dX11_hold_62 : decode cX11_hold 62 = .ok (.invokevirtual 157, 3) := by decide +kernel
theorem dX11_hold_65 : decode cX11_hold 65 = .ok (.aload 4, 2) := by decide +kernel
theorem dX11_hold_70 : decode cX11_hold 70 = .ok (.ireturn, 1) := by decide +kernel
theorem dX11_hold_67 : decode cX11_hold 67 = .ok (.getfield 189, 3) := by decide +kernel
theorem dX11_hold_51 : decode cX11_hold 51 = .ok (.iconst 1, 1) := by decide +kernel
theorem dX11_hold_52 : decode cX11_hold 52 = .ok (.goto 4, 3) := by decide +kernel
theorem dX11_hold_48 : decode cX11_hold 48 = .ok (.ifCond .eq 7, 3) := by decide +kernel
theorem dX11_hold_42 : decode cX11_hold 42 = .ok (.getfield 26, 3) := by decide +kernel
theorem dX11_hold_25 : decode cX11_hold 25 = .ok (.aload 4, 2) := by decide +kernel
theorem dX11_hold_33 : decode cX11_hold 33 = .ok (.new 192, 3) := by decide +kernel
theorem dX11_hold_36 : decode cX11_hold 36 = .ok (.dup, 1) := by decide +kernel
theorem dX11_hold_37 : decode cX11_hold 37 = .ok (.invokespecial 194, 3) := by decide +kernel
theorem dX11_hold_40 : decode cX11_hold 40 = .ok (.athrow, 1) := by decide +kernel
theorem dX11_hold_30 : decode cX11_hold 30 = .ok (.ifCond .ne 11, 3) := by decide +kernel
theorem dX11_hold_27 : decode cX11_hold 27 = .ok (.getfield 189, 3) := by decide +kernel
theorem dX11_hold_22 : decode cX11_hold 22 = .ok (.ifCond .ne 19, 3) := by decide +kernel
theorem dX1_canHold_1 : decode cX1_canHold 1 = .ok (.ireturn, 1) := by decide +kernel
theorem dX11_granted_19 : decode cX11_granted 19 = .ok (.astore_n 2, 1) := by decide +kernel
theorem dX11_granted_20 : decode cX11_granted 20 = .ok (.aload_n 0, 1) := by decide +kernel
theorem dX11_granted_24 : decode cX11_granted 24 = .ok (.invokevirtual 203, 3) := by decide +kernel
theorem dX11_granted_27 : decode cX11_granted 27 = .ok (.astore_n 3, 1) := by decide +kernel
theorem dX11_granted_28 : decode cX11_granted 28 = .ok (.aload_n 3, 1) := by decide +kernel
theorem dX11_granted_32 : decode cX11_granted 32 = .ok (.iconst (-1), 1) := by decide +kernel
theorem dX11_granted_33 : decode cX11_granted 33 = .ok (.ireturn, 1) := by decide +kernel
theorem dX11_granted_34 : decode cX11_granted 34 = .ok (.aload_n 0, 1) := by decide +kernel
theorem dX11_granted_35 : decode cX11_granted 35 = .ok (.aload_n 2, 1) := by decide +kernel
theorem dX11_granted_36 : decode cX11_granted 36 = .ok (.iload_n 1, 1) := by decide +kernel
theorem dX11_granted_37 : decode cX11_granted 37 = .ok (.aload_n 3, 1) := by decide +kernel
theorem dX11_granted_38 : decode cX11_granted 38 = .ok (.invokevirtual 169, 3) := by decide +kernel
theorem dX11_granted_41 : decode cX11_granted 41 = .ok (.pop, 1) := by decide +kernel
theorem dX11_granted_42 : decode cX11_granted 42 = .ok (.aload_n 3, 1) := by decide +kernel
theorem dX11_granted_46 : decode cX11_granted 46 = .ok (.ireturn, 1) := by decide +kernel
theorem dX11_granted_43 : decode cX11_granted 43 = .ok (.getfield 182, 3) := by decide +kernel
theorem dX11_granted_29 : decode cX11_granted 29 = .ok (.ifnonnull 5, 3) := by decide +kernel
theorem dX11_granted_21 : decode cX11_granted 21 = .ok (.getfield 26, 3) := by decide +kernel
theorem dX11_clean_4 : decode cX11_clean 4 = .ok (.invokevirtual 207, 3) := by decide +kernel
theorem dX11_clean_7 : decode cX11_clean 7 = .ok (.ireturn, 1) := by decide +kernel
theorem dX11_step_23 : decode cX11_step 23 = .ok (.astore_n 3, 1) := by decide +kernel
theorem dX11_step_24 : decode cX11_step 24 = .ok (.aload_n 3, 1) := by decide +kernel
theorem dX11_step_25 : decode cX11_step 25 = .ok (.instanceof 58, 3) := by decide +kernel
theorem dX11_step_28 : decode cX11_step 28 = .ok (.ifCond .eq 14, 3) := by decide +kernel
theorem dX11_step_42 : decode cX11_step 42 = .ok (.new 192, 3) := by decide +kernel
theorem dX11_step_45 : decode cX11_step 45 = .ok (.dup, 1) := by decide +kernel
theorem dX11_step_46 : decode cX11_step 46 = .ok (.invokespecial 194, 3) := by decide +kernel
theorem dX11_step_49 : decode cX11_step 49 = .ok (.athrow, 1) := by decide +kernel
theorem dX11_about_22 : decode cX11_about 22 = .ok (.astore_n 3, 1) := by decide +kernel
theorem dX11_about_23 : decode cX11_about 23 = .ok (.aload_n 0, 1) := by decide +kernel
theorem dX11_about_24 : decode cX11_about 24 = .ok (.iload_n 1, 1) := by decide +kernel
theorem dX11_about_25 : decode cX11_about 25 = .ok (.invokevirtual 123, 3) := by decide +kernel
theorem dX11_about_28 : decode cX11_about 28 = .ok (.astore 4, 2) := by decide +kernel
theorem dX11_about_30 : decode cX11_about 30 = .ok (.iload_n 2, 1) := by decide +kernel
theorem dX11_about_72 : decode cX11_about 72 = .ok (.aload 4, 2) := by decide +kernel
theorem dX11_about_77 : decode cX11_about 77 = .ok (.ireturn, 1) := by decide +kernel
theorem dX11_about_74 : decode cX11_about 74 = .ok (.getfield 214, 3) := by decide +kernel
theorem dX11_about_31 : decode cX11_about 31 = .ok (.tableswitch 85 0 6 #[41, 47, 53, 59, 65, 72, 79], 41) := by decide +kernel
theorem dX11_about_78 : decode cX11_about 78 = .ok (.aload 4, 2) := by decide +kernel
theorem dX11_about_83 : decode cX11_about 83 = .ok (.ireturn, 1) := by decide +kernel
theorem dX11_about_80 : decode cX11_about 80 = .ok (.getfield 217, 3) := by decide +kernel
theorem dX11_about_84 : decode cX11_about 84 = .ok (.aload 4, 2) := by decide +kernel
theorem dX11_about_89 : decode cX11_about 89 = .ok (.ireturn, 1) := by decide +kernel
theorem dX11_about_86 : decode cX11_about 86 = .ok (.getfield 220, 3) := by decide +kernel
theorem dX11_about_90 : decode cX11_about 90 = .ok (.aload 4, 2) := by decide +kernel
theorem dX11_about_95 : decode cX11_about 95 = .ok (.ireturn, 1) := by decide +kernel
theorem dX11_about_92 : decode cX11_about 92 = .ok (.getfield 223, 3) := by decide +kernel
theorem dX11_about_96 : decode cX11_about 96 = .ok (.aload_n 3, 1) := by decide +kernel
theorem dX11_about_97 : decode cX11_about 97 = .ok (.aload 4, 2) := by decide +kernel
theorem dX11_about_99 : decode cX11_about 99 = .ok (.invokevirtual 226, 3) := by decide +kernel
theorem dX1_countOf_0 : decode cX1_countOf 0 = .ok (.iconst 0, 1) := by decide +kernel
theorem dX11_about_102 : decode cX11_about 102 = .ok (.ireturn, 1) := by decide +kernel
theorem dX1_countOf_1 : decode cX1_countOf 1 = .ok (.ireturn, 1) := by decide +kernel
theorem dX11_about_103 : decode cX11_about 103 = .ok (.aload_n 3, 1) := by decide +kernel
theorem dX11_about_104 : decode cX11_about 104 = .ok (.aload 4, 2) := by decide +kernel
theorem dX11_about_106 : decode cX11_about 106 = .ok (.invokevirtual 229, 3) := by decide +kernel
theorem dX1_colourOf_0 : decode cX1_colourOf 0 = .ok (.iconst 0, 1) := by decide +kernel
theorem dX11_about_109 : decode cX11_about 109 = .ok (.ireturn, 1) := by decide +kernel
theorem dX1_colourOf_1 : decode cX1_colourOf 1 = .ok (.ireturn, 1) := by decide +kernel
theorem dX11_about_110 : decode cX11_about 110 = .ok (.aload 4, 2) := by decide +kernel
theorem dX11_about_115 : decode cX11_about 115 = .ok (.ireturn, 1) := by decide +kernel
theorem dX11_about_112 : decode cX11_about 112 = .ok (.getfield 189, 3) := by decide +kernel
theorem dX11_about_116 : decode cX11_about 116 = .ok (.aload 4, 2) := by decide +kernel
theorem dX11_about_128 : decode cX11_about 128 = .ok (.iconst 0, 1) := by decide +kernel
theorem dX11_about_129 : decode cX11_about 129 = .ok (.ireturn, 1) := by decide +kernel
theorem dX11_about_124 : decode cX11_about 124 = .ok (.iconst 1, 1) := by decide +kernel
theorem dX11_about_125 : decode cX11_about 125 = .ok (.goto 4, 3) := by decide +kernel
theorem dX11_about_121 : decode cX11_about 121 = .ok (.ifCond .eq 7, 3) := by decide +kernel
theorem dX11_about_118 : decode cX11_about 118 = .ok (.getfield 199, 3) := by decide +kernel
theorem dX11_block_21 : decode cX11_block 21 = .ok (.astore 4, 2) := by decide +kernel
theorem dX11_block_23 : decode cX11_block 23 = .ok (.aload 4, 2) := by decide +kernel
theorem dX11_block_25 : decode cX11_block 25 = .ok (.instanceof 41, 3) := by decide +kernel
theorem dX11_block_28 : decode cX11_block 28 = .ok (.ifCond .eq 49, 3) := by decide +kernel
theorem dX11_block_31 : decode cX11_block 31 = .ok (.aload 4, 2) := by decide +kernel
theorem dX11_block_33 : decode cX11_block 33 = .ok (.checkcast 41, 3) := by decide +kernel
theorem dX11_block_36 : decode cX11_block 36 = .ok (.astore_n 3, 1) := by decide +kernel
theorem dX11_block_37 : decode cX11_block 37 = .ok (.aload_n 3, 1) := by decide +kernel
theorem dX11_block_38 : decode cX11_block 38 = .ok (.iload_n 1, 1) := by decide +kernel
theorem dX11_block_39 : decode cX11_block 39 = .ok (.invokevirtual 232, 3) := by decide +kernel
theorem dX11_block_42 : decode cX11_block 42 = .ok (.istore 4, 2) := by decide +kernel
theorem dX11_block_44 : decode cX11_block 44 = .ok (.iload 4, 2) := by decide +kernel
theorem dX11_block_46 : decode cX11_block 46 = .ok (.iconst (-1), 1) := by decide +kernel
theorem dX11_block_58 : decode cX11_block 58 = .ok (.iload_n 2, 1) := by decide +kernel
theorem dX11_block_67 : decode cX11_block 67 = .ok (.aload_n 3, 1) := by decide +kernel
theorem dX11_block_68 : decode cX11_block 68 = .ok (.iload 4, 2) := by decide +kernel
theorem dX11_block_70 : decode cX11_block 70 = .ok (.invokevirtual 235, 3) := by decide +kernel
theorem dX11_block_73 : decode cX11_block 73 = .ok (.iload 4, 2) := by decide +kernel
theorem dX11_block_75 : decode cX11_block 75 = .ok (.isub, 1) := by decide +kernel
theorem dX11_block_76 : decode cX11_block 76 = .ok (.ireturn, 1) := by decide +kernel
theorem dX11_block_62 : decode cX11_block 62 = .ok (.iload 4, 2) := by decide +kernel
theorem dX11_block_64 : decode cX11_block 64 = .ok (.goto 12, 3) := by decide +kernel
theorem dX11_block_59 : decode cX11_block 59 = .ok (.ifCond .ne 8, 3) := by decide +kernel
theorem dX11_block_50 : decode cX11_block 50 = .ok (.new 72, 3) := by decide +kernel
theorem dX11_block_53 : decode cX11_block 53 = .ok (.dup, 1) := by decide +kernel
theorem dX11_block_54 : decode cX11_block 54 = .ok (.invokespecial 74, 3) := by decide +kernel
theorem dX11_block_57 : decode cX11_block 57 = .ok (.athrow, 1) := by decide +kernel
theorem dX11_block_47 : decode cX11_block 47 = .ok (.if_icmp .ne 11, 3) := by decide +kernel
theorem dX11_count_41 : decode cX11_count 41 = .ok (.astore_n 2, 1) := by decide +kernel
theorem dX11_count_42 : decode cX11_count 42 = .ok (.iload_n 1, 1) := by decide +kernel
theorem dX11_count_100 : decode cX11_count 100 = .ok (.aload_n 0, 1) := by decide +kernel
theorem dX11_count_107 : decode cX11_count 107 = .ok (.ireturn, 1) := by decide +kernel
theorem dX11_count_104 : decode cX11_count 104 = .ok (.getfield 238, 3) := by decide +kernel
theorem dX11_count_101 : decode cX11_count 101 = .ok (.getfield 26, 3) := by decide +kernel
theorem dX11_count_43 : decode cX11_count 43 = .ok (.tableswitch 144 2 12 #[57, 65, 73, 81, 89, 97, 105, 113, 121, 126, 131], 57) := by decide +kernel
theorem dX11_count_108 : decode cX11_count 108 = .ok (.aload_n 0, 1) := by decide +kernel
theorem dX11_count_115 : decode cX11_count 115 = .ok (.ireturn, 1) := by decide +kernel
theorem dX11_count_112 : decode cX11_count 112 = .ok (.getfield 241, 3) := by decide +kernel
theorem dX11_count_109 : decode cX11_count 109 = .ok (.getfield 26, 3) := by decide +kernel
theorem dX11_count_116 : decode cX11_count 116 = .ok (.aload_n 0, 1) := by decide +kernel
theorem dX11_count_123 : decode cX11_count 123 = .ok (.ireturn, 1) := by decide +kernel
theorem dX11_count_120 : decode cX11_count 120 = .ok (.getfield 244, 3) := by decide +kernel
theorem dX11_count_117 : decode cX11_count 117 = .ok (.getfield 26, 3) := by decide +kernel
theorem dX11_count_124 : decode cX11_count 124 = .ok (.aload_n 0, 1) := by decide +kernel
theorem dX11_count_131 : decode cX11_count 131 = .ok (.ireturn, 1) := by decide +kernel
theorem dX11_count_128 : decode cX11_count 128 = .ok (.getfield 247, 3) := by decide +kernel
theorem dX11_count_125 : decode cX11_count 125 = .ok (.getfield 26, 3) := by decide +kernel
theorem dX11_count_132 : decode cX11_count 132 = .ok (.aload_n 0, 1) := by decide +kernel
theorem dX11_count_139 : decode cX11_count 139 = .ok (.ireturn, 1) := by decide +kernel
theorem dX11_count_136 : decode cX11_count 136 = .ok (.getfield 250, 3) := by decide +kernel
theorem dX11_count_133 : decode cX11_count 133 = .ok (.getfield 26, 3) := by decide +kernel
theorem dX11_count_140 : decode cX11_count 140 = .ok (.aload_n 0, 1) := by decide +kernel
theorem dX11_count_147 : decode cX11_count 147 = .ok (.ireturn, 1) := by decide +kernel
theorem dX11_count_144 : decode cX11_count 144 = .ok (.getfield 253, 3) := by decide +kernel
theorem dX11_count_141 : decode cX11_count 141 = .ok (.getfield 26, 3) := by decide +kernel
theorem dX11_count_148 : decode cX11_count 148 = .ok (.aload_n 0, 1) := by decide +kernel
theorem dX11_count_155 : decode cX11_count 155 = .ok (.ireturn, 1) := by decide +kernel
theorem dX11_count_152 : decode cX11_count 152 = .ok (.getfield 256, 3) := by decide +kernel
theorem dX11_count_149 : decode cX11_count 149 = .ok (.getfield 26, 3) := by decide +kernel
theorem dX11_count_156 : decode cX11_count 156 = .ok (.aload_n 0, 1) := by decide +kernel
theorem dX11_count_163 : decode cX11_count 163 = .ok (.ireturn, 1) := by decide +kernel
theorem dX11_count_160 : decode cX11_count 160 = .ok (.getfield 259, 3) := by decide +kernel
theorem dX11_count_157 : decode cX11_count 157 = .ok (.getfield 26, 3) := by decide +kernel
theorem dX11_count_164 : decode cX11_count 164 = .ok (.aload_n 2, 1) := by decide +kernel
theorem dX11_count_165 : decode cX11_count 165 = .ok (.invokevirtual 262, 3) := by decide +kernel
theorem dX1_specials_0 : decode cX1_specials 0 = .ok (.iconst 0, 1) := by decide +kernel
theorem dX11_count_168 : decode cX11_count 168 = .ok (.ireturn, 1) := by decide +kernel
theorem dX1_specials_1 : decode cX1_specials 1 = .ok (.ireturn, 1) := by decide +kernel
theorem dX11_count_169 : decode cX11_count 169 = .ok (.aload_n 2, 1) := by decide +kernel
theorem dX11_count_170 : decode cX11_count 170 = .ok (.invokevirtual 265, 3) := by decide +kernel
theorem dX1_topPlace_0 : decode cX1_topPlace 0 = .ok (.iconst 0, 1) := by decide +kernel
theorem dX11_count_173 : decode cX11_count 173 = .ok (.ireturn, 1) := by decide +kernel
theorem dX1_topPlace_1 : decode cX1_topPlace 1 = .ok (.ireturn, 1) := by decide +kernel
theorem dX11_count_174 : decode cX11_count 174 = .ok (.aload_n 2, 1) := by decide +kernel
theorem dX11_count_175 : decode cX11_count 175 = .ok (.invokevirtual 268, 3) := by decide +kernel
theorem dX1_isMarking_0 : decode cX1_isMarking 0 = .ok (.iconst 0, 1) := by decide +kernel
theorem dX11_count_178 : decode cX11_count 178 = .ok (.ifCond .eq 7, 3) := by decide +kernel
theorem dX11_count_185 : decode cX11_count 185 = .ok (.iconst 0, 1) := by decide +kernel
theorem dX11_count_186 : decode cX11_count 186 = .ok (.ireturn, 1) := by decide +kernel
theorem dX1_isMarking_1 : decode cX1_isMarking 1 = .ok (.ireturn, 1) := by decide +kernel
theorem dX11_count_187 : decode cX11_count 187 = .ok (.aload_n 2, 1) := by decide +kernel
theorem dX11_count_188 : decode cX11_count 188 = .ok (.invokevirtual 272, 3) := by decide +kernel
theorem dX1_oldTopOrRegion_0 : decode cX1_oldTopOrRegion 0 = .ok (.iconst 0, 1) := by decide +kernel
theorem dX11_count_191 : decode cX11_count 191 = .ok (.ireturn, 1) := by decide +kernel
theorem dX1_oldTopOrRegion_1 : decode cX1_oldTopOrRegion 1 = .ok (.ireturn, 1) := by decide +kernel
theorem dX11_block_77 : decode cX11_block 77 = .ok (.new 192, 3) := by decide +kernel
theorem dX11_block_80 : decode cX11_block 80 = .ok (.dup, 1) := by decide +kernel
theorem dX11_block_81 : decode cX11_block 81 = .ok (.invokespecial 194, 3) := by decide +kernel
theorem dX11_block_84 : decode cX11_block 84 = .ok (.athrow, 1) := by decide +kernel
theorem dX3_canHold_0 : decode cX3_canHold 0 = .ok (.iconst 0, 1) := by decide +kernel
theorem dX3_canHold_1 : decode cX3_canHold 1 = .ok (.ireturn, 1) := by decide +kernel
theorem dX11_step_31 : decode cX11_step 31 = .ok (.aload_n 3, 1) := by decide +kernel
theorem dX11_step_32 : decode cX11_step 32 = .ok (.checkcast 58, 3) := by decide +kernel
theorem dX11_step_35 : decode cX11_step 35 = .ok (.astore_n 2, 1) := by decide +kernel
theorem dX11_step_36 : decode cX11_step 36 = .ok (.aload_n 2, 1) := by decide +kernel
theorem dX11_step_37 : decode cX11_step 37 = .ok (.iload_n 1, 1) := by decide +kernel
theorem dX11_step_38 : decode cX11_step 38 = .ok (.invokevirtual 210, 3) := by decide +kernel
theorem dX11_step_41 : decode cX11_step 41 = .ok (.ireturn, 1) := by decide +kernel
theorem dX11_count_181 : decode cX11_count 181 = .ok (.iconst 1, 1) := by decide +kernel
theorem dX11_count_182 : decode cX11_count 182 = .ok (.goto 4, 3) := by decide +kernel
theorem dX11_put_0 : decode cX11_put 0 = .ok (.aload_n 0, 1) := by decide +kernel
theorem dX11_put_1 : decode cX11_put 1 = .ok (.invokevirtual 119, 3) := by decide +kernel
theorem dX11_put_4 : decode cX11_put 4 = .ok (.pop, 1) := by decide +kernel
theorem dX11_put_5 : decode cX11_put 5 = .ok (.aload_n 0, 1) := by decide +kernel
theorem dX11_put_6 : decode cX11_put 6 = .ok (.iload_n 1, 1) := by decide +kernel
theorem dX11_put_7 : decode cX11_put 7 = .ok (.invokevirtual 123, 3) := by decide +kernel
theorem dX11_put_10 : decode cX11_put 10 = .ok (.astore 4, 2) := by decide +kernel
theorem dX11_put_12 : decode cX11_put 12 = .ok (.aload 4, 2) := by decide +kernel
theorem dX11_put_14 : decode cX11_put 14 = .ok (.iload_n 2, 1) := by decide +kernel
theorem dX11_put_15 : decode cX11_put 15 = .ok (.invokevirtual 127, 3) := by decide +kernel
theorem dX11_put_18 : decode cX11_put 18 = .ok (.ifCond .ne 11, 3) := by decide +kernel
theorem dX11_put_21 : decode cX11_put 21 = .ok (.new 72, 3) := by decide +kernel
theorem dX11_put_24 : decode cX11_put 24 = .ok (.dup, 1) := by decide +kernel
theorem dX11_put_25 : decode cX11_put 25 = .ok (.invokespecial 74, 3) := by decide +kernel
theorem dX11_put_28 : decode cX11_put 28 = .ok (.athrow, 1) := by decide +kernel
theorem dX11_put_29 : decode cX11_put 29 = .ok (.aload 4, 2) := by decide +kernel
theorem dX11_put_31 : decode cX11_put 31 = .ok (.iload_n 2, 1) := by decide +kernel
theorem dX11_put_32 : decode cX11_put 32 = .ok (.invokevirtual 132, 3) := by decide +kernel
theorem dX11_put_35 : decode cX11_put 35 = .ok (.ifCond .eq 11, 3) := by decide +kernel
theorem dX11_put_46 : decode cX11_put 46 = .ok (.aload_n 0, 1) := by decide +kernel
theorem dX11_put_50 : decode cX11_put 50 = .ok (.aload 4, 2) := by decide +kernel
theorem dX11_put_52 : decode cX11_put 52 = .ok (.iload_n 2, 1) := by decide +kernel
theorem dX11_put_53 : decode cX11_put 53 = .ok (.iload_n 3, 1) := by decide +kernel
theorem dX11_put_54 : decode cX11_put 54 = .ok (.invokevirtual 138, 3) := by decide +kernel
theorem dX11_put_57 : decode cX11_put 57 = .ok (.ireturn, 1) := by decide +kernel
theorem dX11_put_47 : decode cX11_put 47 = .ok (.getfield 26, 3) := by decide +kernel
theorem dX11_put_38 : decode cX11_put 38 = .ok (.new 135, 3) := by decide +kernel
theorem dX11_put_41 : decode cX11_put 41 = .ok (.dup, 1) := by decide +kernel
theorem dX11_put_42 : decode cX11_put 42 = .ok (.invokespecial 137, 3) := by decide +kernel
theorem dX11_put_45 : decode cX11_put 45 = .ok (.athrow, 1) := by decide +kernel
theorem dX11_get_0 : decode cX11_get 0 = .ok (.aload_n 0, 1) := by decide +kernel
theorem dX11_get_1 : decode cX11_get 1 = .ok (.invokevirtual 119, 3) := by decide +kernel
theorem dX11_get_4 : decode cX11_get 4 = .ok (.pop, 1) := by decide +kernel
theorem dX11_get_5 : decode cX11_get 5 = .ok (.aload_n 0, 1) := by decide +kernel
theorem dX11_get_6 : decode cX11_get 6 = .ok (.iload_n 1, 1) := by decide +kernel
theorem dX11_get_7 : decode cX11_get 7 = .ok (.invokevirtual 123, 3) := by decide +kernel
theorem dX11_get_10 : decode cX11_get 10 = .ok (.astore_n 3, 1) := by decide +kernel
theorem dX11_get_11 : decode cX11_get 11 = .ok (.aload_n 3, 1) := by decide +kernel
theorem dX11_get_12 : decode cX11_get 12 = .ok (.iload_n 2, 1) := by decide +kernel
theorem dX11_get_13 : decode cX11_get 13 = .ok (.invokevirtual 127, 3) := by decide +kernel
theorem dX11_get_16 : decode cX11_get 16 = .ok (.ifCond .ne 11, 3) := by decide +kernel
theorem dX11_get_19 : decode cX11_get 19 = .ok (.new 72, 3) := by decide +kernel
theorem dX11_get_22 : decode cX11_get 22 = .ok (.dup, 1) := by decide +kernel
theorem dX11_get_23 : decode cX11_get 23 = .ok (.invokespecial 74, 3) := by decide +kernel
theorem dX11_get_26 : decode cX11_get 26 = .ok (.athrow, 1) := by decide +kernel
theorem dX11_get_27 : decode cX11_get 27 = .ok (.aload_n 0, 1) := by decide +kernel
theorem dX11_get_31 : decode cX11_get 31 = .ok (.aload_n 3, 1) := by decide +kernel
theorem dX11_get_32 : decode cX11_get 32 = .ok (.iload_n 2, 1) := by decide +kernel
theorem dX11_get_33 : decode cX11_get 33 = .ok (.invokevirtual 165, 3) := by decide +kernel
theorem dX11_get_36 : decode cX11_get 36 = .ok (.ireturn, 1) := by decide +kernel
theorem dX11_get_28 : decode cX11_get 28 = .ok (.getfield 26, 3) := by decide +kernel
theorem dX11_weak_0 : decode cX11_weak 0 = .ok (.iload_n 1, 1) := by decide +kernel
theorem dX11_weak_1 : decode cX11_weak 1 = .ok (.invokestatic 109, 3) := by decide +kernel
theorem dX11_weak_4 : decode cX11_weak 4 = .ok (.ifCond .ne 11, 3) := by decide +kernel
theorem dX11_weak_7 : decode cX11_weak 7 = .ok (.new 79, 3) := by decide +kernel
theorem dX11_weak_10 : decode cX11_weak 10 = .ok (.dup, 1) := by decide +kernel
theorem dX11_weak_11 : decode cX11_weak 11 = .ok (.invokespecial 81, 3) := by decide +kernel
theorem dX11_weak_14 : decode cX11_weak 14 = .ok (.athrow, 1) := by decide +kernel
theorem dX11_weak_15 : decode cX11_weak 15 = .ok (.aload_n 0, 1) := by decide +kernel
theorem dX11_weak_16 : decode cX11_weak 16 = .ok (.invokevirtual 119, 3) := by decide +kernel
theorem dX11_weak_19 : decode cX11_weak 19 = .ok (.pop, 1) := by decide +kernel
theorem dX11_weak_20 : decode cX11_weak 20 = .ok (.aload_n 0, 1) := by decide +kernel
theorem dX11_weak_21 : decode cX11_weak 21 = .ok (.iload_n 2, 1) := by decide +kernel
theorem dX11_weak_22 : decode cX11_weak 22 = .ok (.invokevirtual 142, 3) := by decide +kernel
theorem dX11_weak_25 : decode cX11_weak 25 = .ok (.astore_n 3, 1) := by decide +kernel
theorem dX11_weak_26 : decode cX11_weak 26 = .ok (.aload_n 0, 1) := by decide +kernel
theorem dX11_weak_33 : decode cX11_weak 33 = .ok (.iload_n 1, 1) := by decide +kernel
theorem dX11_weak_35 : decode cX11_weak 35 = .ok (.istore 4, 2) := by decide +kernel
theorem dX11_weak_37 : decode cX11_weak 37 = .ok (.aload_n 0, 1) := by decide +kernel
theorem dX11_weak_44 : decode cX11_weak 44 = .ok (.iload_n 1, 1) := by decide +kernel
theorem dX11_weak_45 : decode cX11_weak 45 = .ok (.aload_n 3, 1) := by decide +kernel
theorem dX11_weak_46 : decode cX11_weak 46 = .ok (.invokestatic 161, 3) := by decide +kernel
theorem dX11_weak_50 : decode cX11_weak 50 = .ok (.iload 4, 2) := by decide +kernel
theorem dX11_weak_52 : decode cX11_weak 52 = .ok (.ireturn, 1) := by decide +kernel
theorem dX11_weak_49 : decode cX11_weak 49 = .ok (.iastore, 1) := by decide +kernel
theorem dX11_weak_41 : decode cX11_weak 41 = .ok (.getfield 173, 3) := by decide +kernel
theorem dX11_weak_38 : decode cX11_weak 38 = .ok (.getfield 26, 3) := by decide +kernel
theorem dX11_weak_34 : decode cX11_weak 34 = .ok (.iaload, 1) := by decide +kernel
theorem dX11_weak_30 : decode cX11_weak 30 = .ok (.getfield 173, 3) := by decide +kernel
theorem dX11_weak_27 : decode cX11_weak 27 = .ok (.getfield 26, 3) := by decide +kernel
theorem dX11_wish_0 : decode cX11_wish 0 = .ok (.aload_n 0, 1) := by decide +kernel
theorem dX11_wish_1 : decode cX11_wish 1 = .ok (.invokevirtual 119, 3) := by decide +kernel
theorem dX11_wish_4 : decode cX11_wish 4 = .ok (.pop, 1) := by decide +kernel
theorem dX11_wish_5 : decode cX11_wish 5 = .ok (.aload_n 0, 1) := by decide +kernel
theorem dX11_wish_6 : decode cX11_wish 6 = .ok (.iload_n 1, 1) := by decide +kernel
theorem dX11_wish_7 : decode cX11_wish 7 = .ok (.invokevirtual 123, 3) := by decide +kernel
theorem dX11_wish_10 : decode cX11_wish 10 = .ok (.astore_n 2, 1) := by decide +kernel
theorem dX11_wish_11 : decode cX11_wish 11 = .ok (.aload_n 2, 1) := by decide +kernel
theorem dX11_wish_22 : decode cX11_wish 22 = .ok (.iconst 1, 1) := by decide +kernel
theorem dX11_wish_23 : decode cX11_wish 23 = .ok (.istore_n 3, 1) := by decide +kernel
theorem dX11_wish_24 : decode cX11_wish 24 = .ok (.aload_n 2, 1) := by decide +kernel
theorem dX11_wish_25 : decode cX11_wish 25 = .ok (.iconst 1, 1) := by decide +kernel
theorem dX11_wish_29 : decode cX11_wish 29 = .ok (.iload_n 3, 1) := by decide +kernel
theorem dX11_wish_30 : decode cX11_wish 30 = .ok (.ireturn, 1) := by decide +kernel
theorem dX11_wish_26 : decode cX11_wish 26 = .ok (.putfield 199, 3) := by decide +kernel
theorem dX11_wish_18 : decode cX11_wish 18 = .ok (.iconst 0, 1) := by decide +kernel
theorem dX11_wish_19 : decode cX11_wish 19 = .ok (.goto 4, 3) := by decide +kernel
theorem dX11_wish_15 : decode cX11_wish 15 = .ok (.ifCond .eq 7, 3) := by decide +kernel
theorem dX11_wish_12 : decode cX11_wish 12 = .ok (.getfield 199, 3) := by decide +kernel
theorem dX11_kind_0 : decode cX11_kind 0 = .ok (.iload_n 1, 1) := by decide +kernel
theorem dX11_kind_21 : decode cX11_kind 21 = .ok (.new 79, 3) := by decide +kernel
theorem dX11_kind_24 : decode cX11_kind 24 = .ok (.dup, 1) := by decide +kernel
theorem dX11_kind_25 : decode cX11_kind 25 = .ok (.invokespecial 81, 3) := by decide +kernel
theorem dX11_kind_28 : decode cX11_kind 28 = .ok (.athrow, 1) := by decide +kernel
theorem dX11_kind_4 : decode cX11_kind 4 = .ok (.iload_n 1, 1) := by decide +kernel
theorem dX11_kind_5 : decode cX11_kind 5 = .ok (.bipush 8, 2) := by decide +kernel
theorem dX11_kind_10 : decode cX11_kind 10 = .ok (.iload_n 2, 1) := by decide +kernel
theorem dX11_kind_14 : decode cX11_kind 14 = .ok (.iload_n 2, 1) := by decide +kernel
theorem dX11_kind_15 : decode cX11_kind 15 = .ok (.iconst 1, 1) := by decide +kernel
theorem dX11_kind_16 : decode cX11_kind 16 = .ok (.iload_n 1, 1) := by decide +kernel
theorem dX11_kind_17 : decode cX11_kind 17 = .ok (.ishl, 1) := by decide +kernel
theorem dX11_kind_29 : decode cX11_kind 29 = .ok (.aload_n 0, 1) := by decide +kernel
theorem dX11_kind_33 : decode cX11_kind 33 = .ok (.bipush 16, 2) := by decide +kernel
theorem dX11_kind_46 : decode cX11_kind 46 = .ok (.aload_n 0, 1) := by decide +kernel
theorem dX11_kind_50 : decode cX11_kind 50 = .ok (.aload_n 0, 1) := by decide +kernel
theorem dX11_kind_54 : decode cX11_kind 54 = .ok (.iload_n 1, 1) := by decide +kernel
theorem dX11_kind_56 : decode cX11_kind 56 = .ok (.aload_n 0, 1) := by decide +kernel
theorem dX11_kind_60 : decode cX11_kind 60 = .ok (.aload_n 0, 1) := by decide +kernel
theorem dX11_kind_64 : decode cX11_kind 64 = .ok (.iload_n 2, 1) := by decide +kernel
theorem dX11_kind_66 : decode cX11_kind 66 = .ok (.aload_n 0, 1) := by decide +kernel
theorem dX11_kind_67 : decode cX11_kind 67 = .ok (.dup, 1) := by decide +kernel
theorem dX11_kind_71 : decode cX11_kind 71 = .ok (.iconst 1, 1) := by decide +kernel
theorem dX11_kind_72 : decode cX11_kind 72 = .ok (.iadd, 1) := by decide +kernel
theorem dX11_kind_76 : decode cX11_kind 76 = .ok (.aload_n 0, 1) := by decide +kernel
theorem dX11_kind_80 : decode cX11_kind 80 = .ok (.iconst 1, 1) := by decide +kernel
theorem dX11_kind_81 : decode cX11_kind 81 = .ok (.isub, 1) := by decide +kernel
theorem dX11_kind_82 : decode cX11_kind 82 = .ok (.ireturn, 1) := by decide +kernel
theorem dX11_kind_77 : decode cX11_kind 77 = .ok (.getfield 82, 3) := by decide +kernel
theorem dX11_kind_73 : decode cX11_kind 73 = .ok (.putfield 82, 3) := by decide +kernel
theorem dX11_kind_68 : decode cX11_kind 68 = .ok (.getfield 82, 3) := by decide +kernel
theorem dX11_kind_65 : decode cX11_kind 65 = .ok (.iastore, 1) := by decide +kernel
theorem dX11_kind_61 : decode cX11_kind 61 = .ok (.getfield 82, 3) := by decide +kernel
theorem dX11_kind_57 : decode cX11_kind 57 = .ok (.getfield 20, 3) := by decide +kernel
theorem dX11_kind_55 : decode cX11_kind 55 = .ok (.iastore, 1) := by decide +kernel
theorem dX11_kind_51 : decode cX11_kind 51 = .ok (.getfield 82, 3) := by decide +kernel
theorem dX11_kind_47 : decode cX11_kind 47 = .ok (.getfield 17, 3) := by decide +kernel
theorem dX11_kind_38 : decode cX11_kind 38 = .ok (.new 85, 3) := by decide +kernel
theorem dX11_kind_41 : decode cX11_kind 41 = .ok (.dup, 1) := by decide +kernel
theorem dX11_kind_42 : decode cX11_kind 42 = .ok (.invokespecial 87, 3) := by decide +kernel
theorem dX11_kind_45 : decode cX11_kind 45 = .ok (.athrow, 1) := by decide +kernel
theorem dX11_kind_35 : decode cX11_kind 35 = .ok (.if_icmp .lt 11, 3) := by decide +kernel
theorem dX11_kind_30 : decode cX11_kind 30 = .ok (.getfield 82, 3) := by decide +kernel
theorem dX11_kind_18 : decode cX11_kind 18 = .ok (.if_icmp .lt 11, 3) := by decide +kernel
theorem dX11_kind_11 : decode cX11_kind 11 = .ok (.ifCond .lt 10, 3) := by decide +kernel
theorem dX11_kind_7 : decode cX11_kind 7 = .ok (.if_icmp .gt 14, 3) := by decide +kernel
theorem dX11_kind_1 : decode cX11_kind 1 = .ok (.ifCond .lt 20, 3) := by decide +kernel
theorem dX11_addBytes_0 : decode cX11_addBytes 0 = .ok (.bipush 24, 2) := by decide +kernel
theorem dX11_addBytes_2 : decode cX11_addBytes 2 = .ok (.istore_n 2, 1) := by decide +kernel
theorem dX11_addBytes_3 : decode cX11_addBytes 3 = .ok (.iload_n 2, 1) := by decide +kernel
theorem dX11_addBytes_4 : decode cX11_addBytes 4 = .ok (.ifCond .lt 41, 3) := by decide +kernel
theorem dX11_addBytes_7 : decode cX11_addBytes 7 = .ok (.aload_n 0, 1) := by decide +kernel
theorem dX11_addBytes_11 : decode cX11_addBytes 11 = .ok (.bipush 100, 2) := by decide +kernel
theorem dX11_addBytes_45 : decode cX11_addBytes 45 = .ok (.return_, 1) := by decide +kernel
theorem dX11_addBytes_16 : decode cX11_addBytes 16 = .ok (.aload_n 0, 1) := by decide +kernel
theorem dX11_addBytes_20 : decode cX11_addBytes 20 = .ok (.aload_n 0, 1) := by decide +kernel
theorem dX11_addBytes_24 : decode cX11_addBytes 24 = .ok (.iload_n 1, 1) := by decide +kernel
theorem dX11_addBytes_25 : decode cX11_addBytes 25 = .ok (.iload_n 2, 1) := by decide +kernel
theorem dX11_addBytes_26 : decode cX11_addBytes 26 = .ok (.iushr, 1) := by decide +kernel
theorem dX11_addBytes_27 : decode cX11_addBytes 27 = .ok (.i2b, 1) := by decide +kernel
theorem dX11_addBytes_29 : decode cX11_addBytes 29 = .ok (.aload_n 0, 1) := by decide +kernel
theorem dX11_addBytes_30 : decode cX11_addBytes 30 = .ok (.dup, 1) := by decide +kernel
theorem dX11_addBytes_34 : decode cX11_addBytes 34 = .ok (.iconst 1, 1) := by decide +kernel
theorem dX11_addBytes_35 : decode cX11_addBytes 35 = .ok (.iadd, 1) := by decide +kernel
theorem dX11_addBytes_39 : decode cX11_addBytes 39 = .ok (.iinc 2 (-8), 3) := by decide +kernel
theorem dX11_addBytes_42 : decode cX11_addBytes 42 = .ok (.goto (-39), 3) := by decide +kernel
theorem dX11_addBytes_36 : decode cX11_addBytes 36 = .ok (.putfield 68, 3) := by decide +kernel
theorem dX11_addBytes_31 : decode cX11_addBytes 31 = .ok (.getfield 68, 3) := by decide +kernel
theorem dX11_addBytes_28 : decode cX11_addBytes 28 = .ok (.bastore, 1) := by decide +kernel
theorem dX11_addBytes_21 : decode cX11_addBytes 21 = .ok (.getfield 68, 3) := by decide +kernel
theorem dX11_addBytes_17 : decode cX11_addBytes 17 = .ok (.getfield 9, 3) := by decide +kernel
theorem dX11_addBytes_13 : decode cX11_addBytes 13 = .ok (.if_icmp .ge 32, 3) := by decide +kernel
theorem dX11_addBytes_8 : decode cX11_addBytes 8 = .ok (.getfield 68, 3) := by decide +kernel
theorem dX11_feed_0 : decode cX11_feed 0 = .ok (.aload_n 0, 1) := by decide +kernel
theorem dX11_feed_4 : decode cX11_feed 4 = .ok (.bipush 20, 2) := by decide +kernel
theorem dX11_feed_6 : decode cX11_feed 6 = .ok (.iadd, 1) := by decide +kernel
theorem dX11_feed_7 : decode cX11_feed 7 = .ok (.bipush 100, 2) := by decide +kernel
theorem dX11_feed_20 : decode cX11_feed 20 = .ok (.aload_n 0, 1) := by decide +kernel
theorem dX11_feed_21 : decode cX11_feed 21 = .ok (.iload_n 1, 1) := by decide +kernel
theorem dX11_feed_22 : decode cX11_feed 22 = .ok (.invokevirtual 75, 3) := by decide +kernel
theorem dX11_feed_25 : decode cX11_feed 25 = .ok (.aload_n 0, 1) := by decide +kernel
theorem dX11_feed_26 : decode cX11_feed 26 = .ok (.iload_n 2, 1) := by decide +kernel
theorem dX11_feed_27 : decode cX11_feed 27 = .ok (.invokevirtual 75, 3) := by decide +kernel
theorem dX11_feed_30 : decode cX11_feed 30 = .ok (.aload_n 0, 1) := by decide +kernel
theorem dX11_feed_31 : decode cX11_feed 31 = .ok (.iload_n 3, 1) := by decide +kernel
theorem dX11_feed_32 : decode cX11_feed 32 = .ok (.invokevirtual 75, 3) := by decide +kernel
theorem dX11_feed_35 : decode cX11_feed 35 = .ok (.aload_n 0, 1) := by decide +kernel
theorem dX11_feed_36 : decode cX11_feed 36 = .ok (.iload 4, 2) := by decide +kernel
theorem dX11_feed_38 : decode cX11_feed 38 = .ok (.invokevirtual 75, 3) := by decide +kernel
theorem dX11_feed_41 : decode cX11_feed 41 = .ok (.aload_n 0, 1) := by decide +kernel
theorem dX11_feed_42 : decode cX11_feed 42 = .ok (.iload 5, 2) := by decide +kernel
theorem dX11_feed_44 : decode cX11_feed 44 = .ok (.invokevirtual 75, 3) := by decide +kernel
theorem dX11_feed_47 : decode cX11_feed 47 = .ok (.aload_n 0, 1) := by decide +kernel
theorem dX11_feed_51 : decode cX11_feed 51 = .ok (.ireturn, 1) := by decide +kernel
theorem dX11_feed_48 : decode cX11_feed 48 = .ok (.getfield 68, 3) := by decide +kernel
theorem dX11_feed_12 : decode cX11_feed 12 = .ok (.new 72, 3) := by decide +kernel
theorem dX11_feed_15 : decode cX11_feed 15 = .ok (.dup, 1) := by decide +kernel
theorem dX11_feed_16 : decode cX11_feed 16 = .ok (.invokespecial 74, 3) := by decide +kernel
theorem dX11_feed_19 : decode cX11_feed 19 = .ok (.athrow, 1) := by decide +kernel
theorem dX11_feed_9 : decode cX11_feed 9 = .ok (.if_icmp .le 11, 3) := by decide +kernel
theorem dX11_feed_1 : decode cX11_feed 1 = .ok (.getfield 68, 3) := by decide +kernel
theorem dX11_end_0 : decode cX11_end 0 = .ok (.iload_n 1, 1) := by decide +kernel
theorem dX11_end_12 : decode cX11_end 12 = .ok (.new 79, 3) := by decide +kernel
theorem dX11_end_15 : decode cX11_end 15 = .ok (.dup, 1) := by decide +kernel
theorem dX11_end_16 : decode cX11_end 16 = .ok (.invokespecial 81, 3) := by decide +kernel
theorem dX11_end_19 : decode cX11_end 19 = .ok (.athrow, 1) := by decide +kernel
theorem dX11_end_4 : decode cX11_end 4 = .ok (.iload_n 1, 1) := by decide +kernel
theorem dX11_end_5 : decode cX11_end 5 = .ok (.aload_n 0, 1) := by decide +kernel
theorem dX11_end_20 : decode cX11_end 20 = .ok (.aload_n 0, 1) := by decide +kernel
theorem dX11_end_21 : decode cX11_end 21 = .ok (.iload_n 1, 1) := by decide +kernel
theorem dX11_end_25 : decode cX11_end 25 = .ok (.iload_n 1, 1) := by decide +kernel
theorem dX11_end_26 : decode cX11_end 26 = .ok (.ireturn, 1) := by decide +kernel
theorem dX11_end_22 : decode cX11_end 22 = .ok (.putfield 68, 3) := by decide +kernel
theorem dX11_end_9 : decode cX11_end 9 = .ok (.if_icmp .le 11, 3) := by decide +kernel
theorem dX11_end_6 : decode cX11_end 6 = .ok (.getfield 68, 3) := by decide +kernel
theorem dX11_end_1 : decode cX11_end 1 = .ok (.ifCond .lt 11, 3) := by decide +kernel
theorem dJ0_coder_7d493_0 : decode cJ0_coder_7d493 0 = .ok (.getstatic 38, 3) := by decide +kernel
theorem dJ0_coder_7d493_3 : decode cJ0_coder_7d493 3 = .ok (.ifCond .eq 10, 3) := by decide +kernel
theorem dJ0_coder_7d493_6 : decode cJ0_coder_7d493 6 = .ok (.aload_n 0, 1) := by decide +kernel
theorem dJ0_coder_7d493_7 : decode cJ0_coder_7d493 7 = .ok (.getfield 15, 3) := by decide +kernel
theorem dJ0_coder_7d493_10 : decode cJ0_coder_7d493 10 = .ok (.goto 4, 3) := by decide +kernel
theorem dJ0_coder_7d493_14 : decode cJ0_coder_7d493 14 = .ok (.ireturn, 1) := by decide +kernel
theorem dJ0_length_8abf5_0 : decode cJ0_length_8abf5 0 = .ok (.aload_n 0, 1) := by decide +kernel
theorem dJ0_length_8abf5_1 : decode cJ0_length_8abf5 1 = .ok (.getfield 9, 3) := by decide +kernel
theorem dJ0_length_8abf5_4 : decode cJ0_length_8abf5 4 = .ok (.arraylength, 1) := by decide +kernel
theorem dJ0_length_8abf5_5 : decode cJ0_length_8abf5 5 = .ok (.aload_n 0, 1) := by decide +kernel
theorem dJ0_length_8abf5_6 : decode cJ0_length_8abf5 6 = .ok (.invokevirtual 335, 3) := by decide +kernel
theorem dJ0_length_8abf5_9 : decode cJ0_length_8abf5 9 = .ok (.ishr, 1) := by decide +kernel
theorem dJ0_length_8abf5_10 : decode cJ0_length_8abf5 10 = .ok (.ireturn, 1) := by decide +kernel
theorem dJ0_isLatin1_aae02_0 : decode cJ0_isLatin1_aae02 0 = .ok (.getstatic 38, 3) := by decide +kernel
theorem dJ0_isLatin1_aae02_3 : decode cJ0_isLatin1_aae02 3 = .ok (.ifCond .eq 14, 3) := by decide +kernel
theorem dJ0_isLatin1_aae02_6 : decode cJ0_isLatin1_aae02 6 = .ok (.aload_n 0, 1) := by decide +kernel
theorem dJ0_isLatin1_aae02_7 : decode cJ0_isLatin1_aae02 7 = .ok (.getfield 15, 3) := by decide +kernel
theorem dJ0_isLatin1_aae02_10 : decode cJ0_isLatin1_aae02 10 = .ok (.ifCond .ne 7, 3) := by decide +kernel
theorem dJ0_isLatin1_aae02_13 : decode cJ0_isLatin1_aae02 13 = .ok (.iconst 1, 1) := by decide +kernel
theorem dJ0_isLatin1_aae02_14 : decode cJ0_isLatin1_aae02 14 = .ok (.goto 4, 3) := by decide +kernel
theorem dJ0_isLatin1_aae02_18 : decode cJ0_isLatin1_aae02 18 = .ok (.ireturn, 1) := by decide +kernel
theorem dJ3_checkIndex_8e157_0 : decode cJ3_checkIndex_8e157 0 = .ok (.iload_n 0, 1) := by decide +kernel
theorem dJ3_checkIndex_8e157_1 : decode cJ3_checkIndex_8e157 1 = .ok (.ifCond .lt 8, 3) := by decide +kernel
theorem dJ3_checkIndex_8e157_4 : decode cJ3_checkIndex_8e157 4 = .ok (.iload_n 0, 1) := by decide +kernel
theorem dJ3_checkIndex_8e157_5 : decode cJ3_checkIndex_8e157 5 = .ok (.iload_n 1, 1) := by decide +kernel
theorem dJ3_checkIndex_8e157_6 : decode cJ3_checkIndex_8e157 6 = .ok (.if_icmp .lt 10, 3) := by decide +kernel
theorem dJ3_checkIndex_8e157_16 : decode cJ3_checkIndex_8e157 16 = .ok (.iload_n 0, 1) := by decide +kernel
theorem dJ3_checkIndex_8e157_17 : decode cJ3_checkIndex_8e157 17 = .ok (.ireturn, 1) := by decide +kernel
theorem dJ0_checkIndex_df160_0 : decode cJ0_checkIndex_df160 0 = .ok (.iload_n 0, 1) := by decide +kernel
theorem dJ0_checkIndex_df160_1 : decode cJ0_checkIndex_df160 1 = .ok (.iload_n 1, 1) := by decide +kernel
theorem dJ0_checkIndex_df160_2 : decode cJ0_checkIndex_df160 2 = .ok (.getstatic 1053, 3) := by decide +kernel
theorem dJ0_checkIndex_df160_5 : decode cJ0_checkIndex_df160 5 = .ok (.invokestatic 1059, 3) := by decide +kernel
theorem dJ0_checkIndex_df160_8 : decode cJ0_checkIndex_df160 8 = .ok (.pop, 1) := by decide +kernel
theorem dJ0_checkIndex_df160_9 : decode cJ0_checkIndex_df160 9 = .ok (.return_, 1) := by decide +kernel
theorem dJ1_charAt_3b067_0 : decode cJ1_charAt_3b067 0 = .ok (.iload_n 1, 1) := by decide +kernel
theorem dJ1_charAt_3b067_1 : decode cJ1_charAt_3b067 1 = .ok (.aload_n 0, 1) := by decide +kernel
theorem dJ1_charAt_3b067_2 : decode cJ1_charAt_3b067 2 = .ok (.arraylength, 1) := by decide +kernel
theorem dJ1_charAt_3b067_3 : decode cJ1_charAt_3b067 3 = .ok (.invokestatic 9, 3) := by decide +kernel
theorem dJ1_charAt_3b067_6 : decode cJ1_charAt_3b067 6 = .ok (.aload_n 0, 1) := by decide +kernel
theorem dJ1_charAt_3b067_7 : decode cJ1_charAt_3b067 7 = .ok (.iload_n 1, 1) := by decide +kernel
theorem dJ1_charAt_3b067_8 : decode cJ1_charAt_3b067 8 = .ok (.baload, 1) := by decide +kernel
theorem dJ1_charAt_3b067_9 : decode cJ1_charAt_3b067 9 = .ok (.sipush 255, 3) := by decide +kernel
theorem dJ1_charAt_3b067_12 : decode cJ1_charAt_3b067 12 = .ok (.iand, 1) := by decide +kernel
theorem dJ1_charAt_3b067_13 : decode cJ1_charAt_3b067 13 = .ok (.i2c, 1) := by decide +kernel
theorem dJ1_charAt_3b067_14 : decode cJ1_charAt_3b067 14 = .ok (.ireturn, 1) := by decide +kernel
theorem dJ0_charAt_5068e_0 : decode cJ0_charAt_5068e 0 = .ok (.aload_n 0, 1) := by decide +kernel
theorem dJ0_charAt_5068e_1 : decode cJ0_charAt_5068e 1 = .ok (.invokevirtual 492, 3) := by decide +kernel
theorem dJ0_charAt_5068e_4 : decode cJ0_charAt_5068e 4 = .ok (.ifCond .eq 12, 3) := by decide +kernel
theorem dJ0_charAt_5068e_7 : decode cJ0_charAt_5068e 7 = .ok (.aload_n 0, 1) := by decide +kernel
theorem dJ0_charAt_5068e_8 : decode cJ0_charAt_5068e 8 = .ok (.getfield 9, 3) := by decide +kernel
theorem dJ0_charAt_5068e_11 : decode cJ0_charAt_5068e 11 = .ok (.iload_n 1, 1) := by decide +kernel
theorem dJ0_charAt_5068e_12 : decode cJ0_charAt_5068e 12 = .ok (.invokestatic 495, 3) := by decide +kernel
theorem dJ0_charAt_5068e_15 : decode cJ0_charAt_5068e 15 = .ok (.ireturn, 1) := by decide +kernel
theorem dX9_init_0 : decode cX9_init 0 = .ok (.aload_n 0, 1) := by decide +kernel
theorem dX9_init_1 : decode cX9_init 1 = .ok (.invokespecial 1, 3) := by decide +kernel
theorem dX9_init_4 : decode cX9_init 4 = .ok (.aload_n 0, 1) := by decide +kernel
theorem dX9_init_5 : decode cX9_init 5 = .ok (.iload_n 1, 1) := by decide +kernel
theorem dX9_init_6 : decode cX9_init 6 = .ok (.putfield 7, 3) := by decide +kernel
theorem dX9_init_9 : decode cX9_init 9 = .ok (.aload_n 0, 1) := by decide +kernel
theorem dX9_init_10 : decode cX9_init 10 = .ok (.iload_n 2, 1) := by decide +kernel
theorem dX9_init_11 : decode cX9_init 11 = .ok (.putfield 13, 3) := by decide +kernel
theorem dX9_init_14 : decode cX9_init 14 = .ok (.aload_n 0, 1) := by decide +kernel
theorem dX9_init_15 : decode cX9_init 15 = .ok (.iload_n 3, 1) := by decide +kernel
theorem dX9_init_16 : decode cX9_init 16 = .ok (.putfield 16, 3) := by decide +kernel
theorem dX9_init_19 : decode cX9_init 19 = .ok (.aload_n 0, 1) := by decide +kernel
theorem dX9_init_20 : decode cX9_init 20 = .ok (.lload 4, 2) := by decide +kernel
theorem dX9_init_22 : decode cX9_init 22 = .ok (.putfield 19, 3) := by decide +kernel
theorem dX9_init_25 : decode cX9_init 25 = .ok (.aload_n 0, 1) := by decide +kernel
theorem dX9_init_26 : decode cX9_init 26 = .ok (.iload 6, 2) := by decide +kernel
theorem dX9_init_28 : decode cX9_init 28 = .ok (.putfield 23, 3) := by decide +kernel
theorem dX9_init_31 : decode cX9_init 31 = .ok (.return_, 1) := by decide +kernel
theorem dX11_addObject_41 : decode cX11_addObject 41 = .ok (.new 128, 3) := by decide +kernel
theorem dX11_addObject_44 : decode cX11_addObject 44 = .ok (.dup, 1) := by decide +kernel
theorem dX11_addObject_45 : decode cX11_addObject 45 = .ok (.aload_n 0, 1) := by decide +kernel
theorem dX11_addObject_46 : decode cX11_addObject 46 = .ok (.getfield 26, 3) := by decide +kernel
theorem dX11_addObject_49 : decode cX11_addObject 49 = .ok (.getfield 244, 3) := by decide +kernel
theorem dX11_addObject_52 : decode cX11_addObject 52 = .ok (.iload_n 1, 1) := by decide +kernel
theorem dX11_addObject_53 : decode cX11_addObject 53 = .ok (.iload_n 2, 1) := by decide +kernel
theorem dX11_addObject_54 : decode cX11_addObject 54 = .ok (.iconst 1, 1) := by decide +kernel
theorem dX11_addObject_55 : decode cX11_addObject 55 = .ok (.iadd, 1) := by decide +kernel
theorem dX11_addObject_56 : decode cX11_addObject 56 = .ok (.lload_n 3, 1) := by decide +kernel
theorem dX11_addObject_57 : decode cX11_addObject 57 = .ok (.iload 7, 2) := by decide +kernel
theorem dX11_addObject_59 : decode cX11_addObject 59 = .ok (.invokespecial 370, 3) := by decide +kernel
theorem dX11_addObject_62 : decode cX11_addObject 62 = .ok (.astore 8, 2) := by decide +kernel
section TX1
variable {X : Nat × (Nat → Int32)} {d w M pc o nL : Nat} {L : ma_L} {st r : List ma_V} {S : ma_S} {y : MethodName} {cc : ByteArray} {ret : Option FieldType} {Q : Option ma_V ⊕ Nat → ma_S → Prop}
theorem tx_nis {c : Nat} (h : c < 64) : ma_is S c = false := by
  unfold ma_is
  rw [decide_eq_false (by omega), Bool.false_and]
theorem zw_txc (hm : ma_md M = some (o, y, cc, nL, ret)) {x t : Nat} (hd : decode cc pc = .ok (.ldc_w x, 3)) (h : ma_txi o x = some t) (k : ma_wp X d w M (pc + 3) L (.inr (.inr (some t)) :: st) S Q) : ma_wp X d w M pc L st S Q :=
  zw_one hm hd (by unfold ma_one; simp only [ma_push, ma_stk, ma_sto, ma_jmp, ma_hp, ma_sc, ma_ex, ma_al, ma_pr, ma_tx, h, Option.map_some]) k
theorem zw_txf (hm : ma_md M = some (17, y, cc, nL, ret)) {x c : Nat} (hd : decode cc pc = .ok (.getfield x, 3)) (hc : c < 19) {v : ma_V} (h : ma_tx X 17 (.getfield x) 3 (.inr (.inr (some c)) :: r) = some (v :: r)) (k : ma_wp X d w M (pc + 3) L (v :: r) S Q) : ma_wp X d w M pc L (.inr (.inr (some c)) :: r) S Q :=
  zw_one hm hd (by unfold ma_one; simp only [ma_push, ma_stk, ma_sto, ma_jmp, ma_hp, tx_nis (S := S) (by omega : c < 64), Bool.false_and, ma_sc, ma_ex, ma_al, ma_pr, h]; rfl) k
theorem zw_txs (hm : ma_md M = some (17, y, cc, nL, ret)) {x : Nat} (hd : decode cc pc = .ok (.getstatic x, 3)) {v : ma_V} (h : ma_tx X 17 (.getstatic x) 3 r = some (v :: r)) (k : ma_wp X d w M (pc + 3) L (v :: r) S Q) : ma_wp X d w M pc L r S Q :=
  zw_one hm hd (by unfold ma_one; simp only [ma_push, ma_stk, ma_sto, ma_jmp, ma_hp, ma_sc, ma_ex, ma_al, ma_pr, h]) k
theorem zw_txl (hm : ma_md M = some (o, y, cc, nL, ret)) {c : Nat} (hd : decode cc pc = .ok (.arraylength, 1)) (hc : c < 19) (k : ma_wp X d w M (pc + 1) L (.inl (Int32.ofNat (ma_txl.getD c 0)) :: r) S Q) : ma_wp X d w M pc L (.inr (.inr (some (32 + c))) :: r) S Q := by
  refine zw_one hm hd (st₉ := .inl (Int32.ofNat (ma_txl.getD c 0)) :: r) ?_ k
  have e1 : ma_hp o (decide (y.name = "<init>")) .arraylength 1 (.inr (.inr (some (32 + c))) :: r) S = none := by
    unfold ma_hp
    simp only [tx_nis (S := S) (by omega : 32 + c < 64), Bool.false_and]
    rfl
  have e2 : ma_sc X .arraylength 1 (.inr (.inr (some (32 + c))) :: r) = none := by
    unfold ma_sc
    split
    · next h => cases h
    · next h => simp only [List.cons.injEq, Sum.inr.injEq, Option.some.injEq] at h; omega
    · rfl
  have e3 : ma_tx X o .arraylength 1 (.inr (.inr (some (32 + c))) :: r) = some (.inl (Int32.ofNat (ma_txl.getD c 0)) :: r) := by
    unfold ma_tx
    simp only [show 32 ≤ 32 + c ∧ 32 + c < 32 + 19 from ⟨by omega, by omega⟩, and_self, if_true, Nat.add_sub_cancel_left]
  unfold ma_one
  simp only [ma_push, ma_stk, ma_sto, ma_jmp, e1, e2, ma_ex, ma_al, ma_pr, e3]
theorem zw_txb (hm : ma_md M = some (o, y, cc, nL, ret)) {c : Nat} {j : Int32} (hd : decode cc pc = .ok (.baload, 1)) (hc : c < 19) (hj : 0 ≤ j ∧ j.toNatClampNeg < ma_txl.getD c 0) (k : ma_wp X d w M (pc + 1) L (.inl ((ma_txb.getD c []).getD j.toNatClampNeg 0) :: r) S Q) : ma_wp X d w M pc L (.inl j :: .inr (.inr (some (32 + c))) :: r) S Q := by
  refine zw_one hm hd (st₉ := .inl ((ma_txb.getD c []).getD j.toNatClampNeg 0) :: r) ?_ k
  have e1 : ma_hp o (decide (y.name = "<init>")) .baload 1 (.inl j :: .inr (.inr (some (32 + c))) :: r) S = none := by
    unfold ma_hp
    simp only [tx_nis (S := S) (by omega : 32 + c < 64), Bool.false_and]
    rfl
  have e3 : ma_tx X o .baload 1 (.inl j :: .inr (.inr (some (32 + c))) :: r) = some (.inl ((ma_txb.getD c []).getD j.toNatClampNeg 0) :: r) := by
    unfold ma_tx
    simp only [Nat.add_sub_cancel_left, hj.1, hj.2, show 32 ≤ 32 + c from by omega, show 32 + c < 32 + 19 from by omega, and_self, if_true]
  unfold ma_one
  simp only [ma_push, ma_stk, ma_sto, ma_jmp, e1, ma_sc, ma_ex, ma_al, ma_pr, e3]
theorem zw_nret {ty : FieldType} (hm : ma_md M = some (o, y, cc, nL, some ty)) (hd : decode cc pc = .ok (.ireturn, 1)) {x : Int32} (hx : narrow ty (.int x) = .int x) (k : Q (.inl (some (.inl x))) S) : ma_wp X d w M pc L [.inl x] S Q := by
  refine zw_ret (v := some (.inl x)) hm hd ?_ (by unfold ma_ret; simp only [hx, if_true]) k
  unfold ma_one
  rfl
theorem tx_coder {c : Nat} (hc : c < 19) (K : Q (.inl (some (.inl 0))) S) : ma_wp X d w 278 0 [(0, .inr (.inr (some c)))] [] S Q := by
  refine zw_txs hm_278 dJ0_coder_7d493_0 (v := .inl 1) rfl ?_
  refine zw_if0 hm_278 dJ0_coder_7d493_3 (t := 13) rfl zc0_eq (fun z => absurd z (by decide)) (fun _ => ?_)
  refine zw_push hm_278 dJ0_coder_7d493_6 (v := .inr (.inr (some c))) rfl ?_
  refine zw_txf hm_278 dJ0_coder_7d493_7 hc (v := .inl 0) (by unfold ma_tx; simp only [hc, and_self, if_true]; rfl) ?_
  refine zw_goto hm_278 dJ0_coder_7d493_10 (t := 14) rfl ?_
  exact zw_nret hm_278 dJ0_coder_7d493_14 (by decide) K
theorem tx_len {c : Nat} (hc : c < 19) (hd : 1 ≤ d) (hw : 20 ≤ w) {v : Int32} (hv : Int32.ofNat (ma_txl.getD c 0) = v) (hs : v >>> (0 &&& 31) = v) (K : Q (.inl (some (.inl v))) S) : ma_wp X d w 277 0 [(0, .inr (.inr (some c)))] [] S Q := by
  refine zw_push hm_277 dJ0_length_8abf5_0 (v := .inr (.inr (some c))) rfl ?_
  refine zw_txf hm_277 dJ0_length_8abf5_1 hc (v := .inr (.inr (some (32 + c)))) (by unfold ma_tx; simp only [hc, and_self, if_true]) ?_
  refine zw_txl hm_277 dJ0_length_8abf5_4 hc ?_
  rw [hv]
  refine zw_push hm_277 dJ0_length_8abf5_5 (v := .inr (.inr (some c))) rfl ?_
  refine zw_cv hm_277 dJ0_length_8abf5_6 v_17_335_17 hm_278 [] [.inl v] rfl (if_pos hc) ⟨by omega, by omega⟩ rfl ?_
  refine tx_coder hc ?_
  show ma_wp X d w 277 9 [(0, .inr (.inr (some c)))] [.inl 0, .inl v] S Q
  refine zw_stk hm_277 dJ0_length_8abf5_9 (st₉ := [.inl (v >>> (0 &&& 31))]) rfl rfl ?_
  rw [hs]
  exact zw_iret hm_277 dJ0_length_8abf5_10 K
theorem tx_latin {c : Nat} (hc : c < 19) (K : Q (.inl (some (.inl 1))) S) : ma_wp X d w 280 0 [(0, .inr (.inr (some c)))] [] S Q := by
  refine zw_txs hm_280 dJ0_isLatin1_aae02_0 (v := .inl 1) rfl ?_
  refine zw_if0 hm_280 dJ0_isLatin1_aae02_3 (t := 17) rfl zc0_eq (fun z => absurd z (by decide)) (fun _ => ?_)
  refine zw_push hm_280 dJ0_isLatin1_aae02_6 (v := .inr (.inr (some c))) rfl ?_
  refine zw_txf hm_280 dJ0_isLatin1_aae02_7 hc (v := .inl 0) (by unfold ma_tx; simp only [hc, and_self, if_true]; rfl) ?_
  refine zw_if0 hm_280 dJ0_isLatin1_aae02_10 (t := 17) rfl zc0_ne (fun z => absurd rfl z) (fun _ => ?_)
  refine zw_push hm_280 dJ0_isLatin1_aae02_13 (v := .inl 1) rfl ?_
  refine zw_goto hm_280 dJ0_isLatin1_aae02_14 (t := 18) rfl ?_
  exact zw_bret hm_280 dJ0_isLatin1_aae02_18 (Or.inr rfl) K
theorem tx_chk {i n : Int32} {q : Option Nat} (h0 : 0 ≤ i) (h1 : i < n) (K : Q (.inl (some (.inl i))) S) : ma_wp X d w 283 0 [(0, .inl i), (1, .inl n), (2, .inr (.inr q))] [] S Q := by
  refine zw_push hm_283 dJ3_checkIndex_8e157_0 (v := .inl i) rfl ?_
  refine zw_if0 hm_283 dJ3_checkIndex_8e157_1 (t := 9) rfl zc0_lt (fun z => absurd z (Int32.not_lt.mpr h0)) (fun _ => ?_)
  refine zw_push hm_283 dJ3_checkIndex_8e157_4 (v := .inl i) rfl ?_
  refine zw_push hm_283 dJ3_checkIndex_8e157_5 (v := .inl n) rfl ?_
  refine zw_if2 hm_283 dJ3_checkIndex_8e157_6 (t := 16) rfl zc2_lt (fun _ => ?_) (fun z => absurd h1 z)
  refine zw_push hm_283 dJ3_checkIndex_8e157_16 (v := .inl i) rfl ?_
  exact zw_iret hm_283 dJ3_checkIndex_8e157_17 K
theorem tx_chk2 {i n : Int32} (hd : 1 ≤ d) (hw : 22 ≤ w) (h0 : 0 ≤ i) (h1 : i < n) (K : Q (.inl none) S) : ma_wp X d w 281 0 [(0, .inl i), (1, .inl n)] [] S Q := by
  refine zw_push hm_281 dJ0_checkIndex_df160_0 (v := .inl i) rfl ?_
  refine zw_push hm_281 dJ0_checkIndex_df160_1 (v := .inl n) rfl ?_
  refine zw_txs hm_281 dJ0_checkIndex_df160_2 (v := .inr (.inr (ma_fm X))) rfl ?_
  refine zw_cs hm_281 dJ0_checkIndex_df160_5 pn_17_1059 sl_17_1059 hm_283 [.inr (.inr (ma_fm X)), .inl n, .inl i] [] rfl ⟨by omega, by omega⟩ rfl ?_
  refine tx_chk h0 h1 ?_
  show ma_wp X d w 281 8 [(0, .inl i), (1, .inl n)] [.inl i] S Q
  refine zw_stk hm_281 dJ0_checkIndex_df160_8 (st₉ := []) rfl rfl ?_
  exact zw_vret hm_281 dJ0_checkIndex_df160_9 K
theorem tx_at {c : Nat} {i : Int32} (hc : c < 19) (hd : 2 ≤ d) (hw : 43 ≤ w) (hi : 0 ≤ i ∧ i.toNatClampNeg < ma_txl.getD c 0) (hl : ma_txl.getD c 0 < 100) {v : Int32} (hv : (((ma_txb.getD c []).getD i.toNatClampNeg 0 &&& 255).toUInt32 % 65536).toInt32 = v) (hv2 : narrow .char (.int v) = .int v) (K : Q (.inl (some (.inl v))) S) : ma_wp X d w 282 0 [(0, .inr (.inr (some (32 + c)))), (1, .inl i)] [] S Q := by
  refine zw_push hm_282 dJ1_charAt_3b067_0 (v := .inl i) rfl ?_
  refine zw_push hm_282 dJ1_charAt_3b067_1 (v := .inr (.inr (some (32 + c)))) rfl ?_
  refine zw_txl hm_282 dJ1_charAt_3b067_2 hc ?_
  refine zw_cs hm_282 dJ1_charAt_3b067_3 pn_18_9 sl_18_9 hm_281 [.inl (Int32.ofNat (ma_txl.getD c 0)), .inl i] [] rfl ⟨by omega, by omega⟩ rfl ?_
  refine tx_chk2 (by omega) (by omega) hi.1 ?_ ?_
  · rw [Int32.lt_iff_toInt_lt, Int32.toInt_ofNat_of_lt (by omega)]
    have h1 := Int32.le_iff_toInt_le.mp hi.1
    have h2 := hi.2
    have h3 : i.toNatClampNeg = i.toInt.toNat := rfl
    have h4 : (0 : Int32).toInt = 0 := rfl
    omega
  show ma_wp X d w 282 6 [(0, .inr (.inr (some (32 + c)))), (1, .inl i)] [] S Q
  refine zw_push hm_282 dJ1_charAt_3b067_6 (v := .inr (.inr (some (32 + c)))) rfl ?_
  refine zw_push hm_282 dJ1_charAt_3b067_7 (v := .inl i) rfl ?_
  refine zw_txb hm_282 dJ1_charAt_3b067_8 hc hi ?_
  refine zw_push hm_282 dJ1_charAt_3b067_9 (v := .inl 255) rfl ?_
  refine zw_stk hm_282 dJ1_charAt_3b067_12 (st₉ := [.inl ((ma_txb.getD c []).getD i.toNatClampNeg 0 &&& 255)]) rfl rfl ?_
  refine zw_stk hm_282 dJ1_charAt_3b067_13 (st₉ := [.inl (((ma_txb.getD c []).getD i.toNatClampNeg 0 &&& 255).toUInt32 % 65536).toInt32]) rfl rfl ?_
  rw [hv]
  exact zw_nret hm_282 dJ1_charAt_3b067_14 hv2 K
theorem tx_char {c : Nat} {i : Int32} (hc : c < 19) (hd : 3 ≤ d) (hw : 64 ≤ w) (hi : 0 ≤ i ∧ i.toNatClampNeg < ma_txl.getD c 0) (hl : ma_txl.getD c 0 < 100) {v : Int32} (hv : (((ma_txb.getD c []).getD i.toNatClampNeg 0 &&& 255).toUInt32 % 65536).toInt32 = v) (hv2 : narrow .char (.int v) = .int v) (K : Q (.inl (some (.inl v))) S) : ma_wp X d w 279 0 [(0, .inr (.inr (some c))), (1, .inl i)] [] S Q := by
  refine zw_push hm_279 dJ0_charAt_5068e_0 (v := .inr (.inr (some c))) rfl ?_
  refine zw_cv hm_279 dJ0_charAt_5068e_1 v_17_492_17 hm_280 [] [] rfl (if_pos hc) ⟨by omega, by omega⟩ rfl ?_
  refine tx_latin hc ?_
  show ma_wp X d w 279 4 [(0, .inr (.inr (some c))), (1, .inl i)] [.inl 1] S Q
  refine zw_if0 hm_279 dJ0_charAt_5068e_4 (t := 16) rfl zc0_eq (fun z => absurd z (by decide)) (fun _ => ?_)
  refine zw_push hm_279 dJ0_charAt_5068e_7 (v := .inr (.inr (some c))) rfl ?_
  refine zw_txf hm_279 dJ0_charAt_5068e_8 hc (v := .inr (.inr (some (32 + c)))) (by unfold ma_tx; simp only [hc, and_self, if_true]) ?_
  refine zw_push hm_279 dJ0_charAt_5068e_11 (v := .inl i) rfl ?_
  refine zw_cs hm_279 dJ0_charAt_5068e_12 pn_17_495 sl_17_495 hm_282 [.inl i, .inr (.inr (some (32 + c)))] [] rfl ⟨by omega, by omega⟩ rfl ?_
  refine tx_at hc (by omega) (by omega) hi hl hv hv2 ?_
  show ma_wp X d w 279 15 [(0, .inr (.inr (some c))), (1, .inl i)] [.inl v] S Q
  exact zw_nret hm_279 dJ0_charAt_5068e_15 hv2 K
end TX1
section MK1
variable {X : Nat × (Nat → Int32)} {d w M pc o nL : Nat} {L : ma_L} {st r : List ma_V} {S : ma_S} {y : MethodName} {cc : ByteArray} {ret : Option FieldType} {Q : Option ma_V ⊕ Nat → ma_S → Prop}
theorem zw_ccn (hm : ma_md M = some (o, y, cc, nL, ret)) {x M₉ m b nL₉ o₉ : Nat} {y₉ : MethodName} {cc₉ : ByteArray} (hd : decode cc pc = .ok (.invokespecial x, 3)) (hp : ma_prt o x = none) (hv : (ma_fd o x 0 true 6 9).map (fun q => q.2.1) = some (6, M₉, m)) (hm₉ : ma_md M₉ = some (o₉, y₉, cc₉, nL₉, none)) (asr rest : List ma_V) (hl : asr.length = m) (hs : ma_is S b = true) (ht : 1 ≤ (mH S b).1 ∧ (mH S b).1 ≤ 12) (hr : 1 ≤ d ∧ 19 + nL₉ ≤ w) (hz : (decide (ma_sz (.inr (.inr (some b)) :: asr.reverse) ≤ nL₉) && decide (ma_sz rest ≤ 8)) = true)
    (hk : ma_wp X (d - 1) (w - (19 + nL₉)) M₉ 0 (ma_args 0 (.inr (.inr (some b)) :: asr.reverse)) [] S (fun z S₉ => match z with
      | .inl v => ma_wp X d w M (pc + 3) L (v.toList ++ rest) S₉ Q
      | .inr x => 6 ≤ 1 ∧ Q (.inr x) S₉)) : ma_wp X d w M pc L (asr ++ .inr (.inr (some b)) :: rest) S Q := by
  rw [Bool.and_eq_true, decide_eq_true_eq, decide_eq_true_eq] at hz
  cases hq : ma_fd o x 0 true 6 9 with
  | none => rw [hq] at hv; cases hv
  | some q =>
    rw [hq] at hv
    have e : q.2.1 = (6, M₉, m) := Option.some.inj hv
    have h2 : ma_pr o d w (.invokespecial x) 3 (asr ++ .inr (.inr (some b)) :: rest) S = none := by
      unfold ma_pr
      split
      · next h _ _ => cases h; simp [hp]
      · next h _ _ => cases h
      · next h _ _ => cases h
      · rfl
    refine zw_call (as := .inr (.inr (some b)) :: asr.reverse) (rest := rest) (k := 6) (M₉ := M₉) hm hd ?_ rfl (ma_thr_no hd (fun _ h => by cases h)) ?_ hm₉ ⟨hr.1, hr.2, hz.1, hz.2⟩ hk
    · unfold ma_one
      rw [h2]
      rfl
    · unfold ma_cl
      simp only [hq, e, ← hl, List.drop_left, List.take_left]
      rw [if_pos ⟨by decide, hs, ht.1, ht.2, Or.inr (by rw [hm₉]; rfl)⟩]
theorem mk_112 {c : Nat} {nu kd sz pl : Int32} {rr : Int64} (hd : 1 ≤ d) (hw : 12 ≤ w) (hs : ma_is S c = true) (ht : (mH S c).1 = 9) (K : Q (.inl none) (ma_put (ma_put (ma_put (ma_put (ma_put S c 0 (.inl nu)) c 1 (.inl kd)) c 2 (.inl sz)) c 3 (.inr (.inl rr))) c 4 (.inl pl))) : ma_wp X d w 112 0 [(0, .inr (.inr (some c))), (1, .inl nu), (2, .inl kd), (3, .inl sz), (4, .inr (.inl rr)), (6, .inl pl)] [] S Q := by
  refine zw_push hm_112 dX9_init_0 (v := .inr (.inr (some c))) rfl ?_
  refine zw_obj hm_112 dX9_init_1 pr_9_1 hd (by show 0 + 12 ≤ w; omega) ?_
  refine zw_push hm_112 dX9_init_4 (v := .inr (.inr (some c))) rfl ?_
  refine zw_push hm_112 dX9_init_5 (v := .inl nu) rfl ?_
  refine zw_pfi hm_112 rfl dX9_init_6 hs ht pki_9_7_9 zk_int ?_
  refine zw_push hm_112 dX9_init_9 (v := .inr (.inr (some c))) rfl ?_
  refine zw_push hm_112 dX9_init_10 (v := .inl kd) rfl ?_
  refine zw_pfi hm_112 rfl dX9_init_11 hs ht pki_9_13_9 zk_int ?_
  refine zw_push hm_112 dX9_init_14 (v := .inr (.inr (some c))) rfl ?_
  refine zw_push hm_112 dX9_init_15 (v := .inl sz) rfl ?_
  refine zw_pfi hm_112 rfl dX9_init_16 hs ht pki_9_16_9 zk_int ?_
  refine zw_push hm_112 dX9_init_19 (v := .inr (.inr (some c))) rfl ?_
  refine zw_push hm_112 dX9_init_20 (v := .inr (.inl rr)) rfl ?_
  refine zw_pfi hm_112 rfl dX9_init_22 hs ht pki_9_19_9 zk_long ?_
  refine zw_push hm_112 dX9_init_25 (v := .inr (.inr (some c))) rfl ?_
  refine zw_push hm_112 dX9_init_26 (v := .inl pl) rfl ?_
  refine zw_pfi hm_112 rfl dX9_init_28 hs ht pki_9_23_9 zk_int ?_
  exact zw_vret hm_112 dX9_init_31 K
end MK1

/-! from 95.c25 -/
/-! the class behind (written by wip/tools/gen95c.py) -/
theorem g_161_64_p0_0 {X : Nat × (Nat → Int32)} {d w : Nat} {S : ma_S} {Q : Option ma_V ⊕ Nat → ma_S → Prop} (o : Int32) (wh : Int32) (hd : 7 ≤ d) (hw : 111 ≤ w) (hS : zT S) (h : if wh < 0 then (Q (.inr 2) (ma_bump S)) else (if wh ≤ (7 : Int32) then (mR S 64 11 = none ∧ (Q (.inr 3) (ma_bump S))) else (Q (.inr 2) (ma_bump S)))) : ma_wp X d w 161 0 [(0, .inr (.inr (some 64))), (1, .inl o), (2, .inl wh)] [] S Q := by
  refine zw_push hm_161 dX11_about_0 (v := .inl wh) rfl ?_
  refine zw_if0 hm_161 dX11_about_1 (t := 10) rfl zc0_lt ?_ ?_
  · intro hc
    rw [if_pos hc] at h
    exact zw_thr hm_161 dX11_about_10 dX11_about_13 dX11_about_14 dX11_about_17 x_11_79_81 n_11_79 (by omega) (by show 0 + 81 ≤ w; omega) h
  · intro hc
    rw [if_neg hc] at h
    refine zw_push hm_161 dX11_about_4 (v := .inl wh) rfl ?_
    refine zw_push hm_161 dX11_about_5 (v := .inl (7 : Int32)) rfl ?_
    refine zw_if2 hm_161 dX11_about_7 (t := 18) rfl zc2_le ?_ ?_
    · intro hc
      rw [if_pos hc] at h
      refine zw_push hm_161 dX11_about_18 (v := .inr (.inr (some 64))) rfl ?_
      refine zw_cv hm_161 dX11_about_19 v_11_119_11 hm_144 [] [] rfl (zT_rt hS s_64 rfl) ⟨by omega, by omega⟩ rfl ?_
      show ma_wp X (d - 1) (w - 20) 144 0 [(0, .inr (.inr (some 64)))] [] S _
      refine zw_push hm_144 dX11_needCollector_0 (v := .inr (.inr (some 64))) rfl ?_
      obtain ⟨hg, h⟩ := h
      refine zw_gf hm_144 dX11_needCollector_1 (v := .inr (.inr none)) (zT_is hS s_64) (zT_t hS s_64) rfl f_11_98_11 (congrArg (fun z => Sum.inr (Sum.inr z)) hg) ?_
      refine zw_ifnonnull hm_144 dX11_needCollector_4 (t := 15) rfl (fun _ => ?_) (fun _ z => by cases z)
      exact zw_thr hm_144 dX11_needCollector_7 dX11_needCollector_10 dX11_needCollector_11 dX11_needCollector_14 x_11_85_87 n_11_85 (by omega) (by show 0 + 81 ≤ (w - 20); omega) ⟨by decide, h⟩
    · intro hc
      rw [if_neg hc] at h
      exact zw_thr hm_161 dX11_about_10 dX11_about_13 dX11_about_14 dX11_about_17 x_11_79_81 n_11_79 (by omega) (by show 0 + 81 ≤ w; omega) h
theorem sp_161_64_p0 {X : Nat × (Nat → Int32)} {d w : Nat} {f : Nat → Nat → Int32} {r : Nat → Nat → Option Nat} {C Z N : Nat} {Q : Option ma_V ⊕ Nat → ma_S → Prop} {S : ma_S} (o : Int32) (wh : Int32) (hd : 7 ≤ d) (hw : 111 ≤ w) (hI : zB f r C Z N S) (hr : r 64 11 = none)  (K : ∀ v S₉, zB f r C Z N S₉ → (True) → Q (.inl (some (.inl v))) S₉) (KX : ∀ x S₉, (x = 2 ∨ x = 3 ∨ x = 4) → zB f r C Z N S₉ → Q (.inr x) (ma_bump S₉)) : ma_wp X d w 161 0 [(0, .inr (.inr (some 64))), (1, .inl o), (2, .inl wh)] [] S Q := by
  refine g_161_64_p0_0 o wh (by omega) (by omega) (zG_T hI) ?_
  have b1 := i_bd wh
  have li2 : (0 : Int32).toInt = 0 := rfl
  refine zd (fun h3 => ?_) (fun h3 => ?_)
  · skip
    have g4 := i_lt h3
    exact KX 2 _ (by decide) hI
  · skip
    have g5 := i_nlt h3
    have li6 : (7 : Int32).toInt = 7 := rfl
    refine zd (fun h7 => ?_) (fun h7 => ?_)
    · skip
      have g8 := i_le h7
      refine ⟨((zG_r hI (by decide)).trans hr), ?_⟩
      exact KX 3 _ (by decide) hI
    · skip
      have g9 := i_nle h7
      exact KX 2 _ (by decide) hI
theorem g_163_64_p0_0 {X : Nat × (Nat → Int32)} {d w : Nat} {S : ma_S} {Q : Option ma_V ⊕ Nat → ma_S → Prop} (wh : Int32) (hd : 7 ≤ d) (hw : 109 ≤ w) (hS : zT S) (h : if wh < 0 then (Q (.inr 2) (ma_bump S)) else (if wh ≤ (13 : Int32) then (if wh = 0 then (Q (.inl (some (.inl (mI S 64 1)))) S) else (if wh = (1 : Int32) then (Q (.inl (some (.inl (mI S 64 7)))) S) else (mR S 64 11 = none ∧ (Q (.inr 3) (ma_bump S))))) else (Q (.inr 2) (ma_bump S)))) : ma_wp X d w 163 0 [(0, .inr (.inr (some 64))), (1, .inl wh)] [] S Q := by
  refine zw_push hm_163 dX11_count_0 (v := .inl wh) rfl ?_
  refine zw_if0 hm_163 dX11_count_1 (t := 10) rfl zc0_lt ?_ ?_
  · intro hc
    rw [if_pos hc] at h
    exact zw_thr hm_163 dX11_count_10 dX11_count_13 dX11_count_14 dX11_count_17 x_11_79_81 n_11_79 (by omega) (by show 0 + 81 ≤ w; omega) h
  · intro hc
    rw [if_neg hc] at h
    refine zw_push hm_163 dX11_count_4 (v := .inl wh) rfl ?_
    refine zw_push hm_163 dX11_count_5 (v := .inl (13 : Int32)) rfl ?_
    refine zw_if2 hm_163 dX11_count_7 (t := 18) rfl zc2_le ?_ ?_
    · intro hc
      rw [if_pos hc] at h
      refine zw_push hm_163 dX11_count_18 (v := .inl wh) rfl ?_
      refine zw_if0 hm_163 dX11_count_19 (t := 27) rfl zc0_ne ?_ ?_
      · intro hc
        rw [if_neg hc] at h
        refine zw_push hm_163 dX11_count_27 (v := .inl wh) rfl ?_
        refine zw_push hm_163 dX11_count_28 (v := .inl (1 : Int32)) rfl ?_
        refine zw_if2 hm_163 dX11_count_29 (t := 37) rfl zc2_ne ?_ ?_
        · intro hc
          rw [if_neg hc] at h
          refine zw_push hm_163 dX11_count_37 (v := .inr (.inr (some 64))) rfl ?_
          refine zw_cv hm_163 dX11_count_38 v_11_119_11 hm_144 [] [] rfl (zT_rt hS s_64 rfl) ⟨by omega, by omega⟩ rfl ?_
          show ma_wp X (d - 1) (w - 20) 144 0 [(0, .inr (.inr (some 64)))] [] S _
          refine zw_push hm_144 dX11_needCollector_0 (v := .inr (.inr (some 64))) rfl ?_
          obtain ⟨hg, h⟩ := h
          refine zw_gf hm_144 dX11_needCollector_1 (v := .inr (.inr none)) (zT_is hS s_64) (zT_t hS s_64) rfl f_11_98_11 (congrArg (fun z => Sum.inr (Sum.inr z)) hg) ?_
          refine zw_ifnonnull hm_144 dX11_needCollector_4 (t := 15) rfl (fun _ => ?_) (fun _ z => by cases z)
          exact zw_thr hm_144 dX11_needCollector_7 dX11_needCollector_10 dX11_needCollector_11 dX11_needCollector_14 x_11_85_87 n_11_85 (by omega) (by show 0 + 81 ≤ (w - 20); omega) ⟨by decide, h⟩
        · intro hc
          rw [if_pos (Classical.not_not.mp hc)] at h
          refine zw_push hm_163 dX11_count_32 (v := .inr (.inr (some 64))) rfl ?_
          refine zw_gf hm_163 dX11_count_33 (v := .inl (mI S 64 7)) (zT_is hS s_64) (zT_t hS s_64) rfl f_11_82_11 rfl ?_
          exact zw_iret hm_163 dX11_count_36 h
      · intro hc
        rw [if_pos (Classical.not_not.mp hc)] at h
        refine zw_push hm_163 dX11_count_22 (v := .inr (.inr (some 64))) rfl ?_
        refine zw_gf hm_163 dX11_count_23 (v := .inl (mI S 64 1)) (zT_is hS s_64) (zT_t hS s_64) rfl f_11_68_11 rfl ?_
        exact zw_iret hm_163 dX11_count_26 h
    · intro hc
      rw [if_neg hc] at h
      exact zw_thr hm_163 dX11_count_10 dX11_count_13 dX11_count_14 dX11_count_17 x_11_79_81 n_11_79 (by omega) (by show 0 + 81 ≤ w; omega) h
theorem sp_163_64_p0 {X : Nat × (Nat → Int32)} {d w : Nat} {f : Nat → Nat → Int32} {r : Nat → Nat → Option Nat} {C Z N : Nat} {Q : Option ma_V ⊕ Nat → ma_S → Prop} {S : ma_S} (wh : Int32) (hd : 7 ≤ d) (hw : 109 ≤ w) (hI : zB f r C Z N S) (hr : r 64 11 = none)  (K : ∀ v S₉, zB f r C Z N S₉ → (True) → Q (.inl (some (.inl v))) S₉) (KX : ∀ x S₉, (x = 2 ∨ x = 3) → zB f r C Z N S₉ → Q (.inr x) (ma_bump S₉)) : ma_wp X d w 163 0 [(0, .inr (.inr (some 64))), (1, .inl wh)] [] S Q := by
  refine g_163_64_p0_0 wh (by omega) (by omega) (zG_T hI) ?_
  have b1 := i_bd wh
  have li2 : (0 : Int32).toInt = 0 := rfl
  refine zd (fun h3 => ?_) (fun h3 => ?_)
  · skip
    have g4 := i_lt h3
    exact KX 2 _ (by decide) hI
  · skip
    have g5 := i_nlt h3
    have li6 : (13 : Int32).toInt = 13 := rfl
    refine zd (fun h7 => ?_) (fun h7 => ?_)
    · skip
      have g8 := i_le h7
      refine zd (fun h9 => ?_) (fun h9 => ?_)
      · skip
        have g10 := i_eq h9
        have f11 := zG_s hI (0) (100) (c := 64) (k := 1) (by decide)
        exact K ((mI S 64 1)) _ hI trivial
      · skip
        have g12 := i_ne h9
        have li13 : (1 : Int32).toInt = 1 := rfl
        refine zd (fun h14 => ?_) (fun h14 => ?_)
        · skip
          have g15 := i_eq h14
          have f16 := zG_s hI (0) (16) (c := 64) (k := 7) (by decide)
          exact K ((mI S 64 7)) _ hI trivial
        · skip
          have g17 := i_ne h14
          refine ⟨((zG_r hI (by decide)).trans hr), ?_⟩
          exact KX 3 _ (by decide) hI
    · skip
      have g18 := i_nle h7
      exact KX 2 _ (by decide) hI
/-! from 95.d0 -/
/-! READING THE POLICY: what a text says, apart from both programs -/
section TK
variable {b : Bool} {t t₉ : Nat → Int32} {n p : Int}
/-- where a row of blanks (true) or of others (false) from p on ends -/
def tkf (b : Bool) (t : Nat → Int32) (n : Int) : Nat → Int → Int
  | 0, p => p
  | f + 1, p => if p < n ∧ decide (t p.toNat = 32) = b then tkf b t n f (p + 1) else p
def tk (b : Bool) (t : Nat → Int32) (n p : Int) : Int := tkf b t n (n - p).toNat p
theorem tk_go (h : p < n) (h2 : decide (t p.toNat = 32) = b) : tk b t n p = tk b t n (p + 1) := by
  unfold tk
  have e : (n - p).toNat = (n - (p + 1)).toNat + 1 := by omega
  rw [e]
  show (if p < n ∧ decide (t p.toNat = 32) = b then tkf b t n (n - (p + 1)).toNat (p + 1) else p) = _
  rw [if_pos ⟨h, h2⟩]
theorem tk_st (h : ¬ (p < n ∧ decide (t p.toNat = 32) = b)) : tk b t n p = p := by
  unfold tk
  cases e : (n - p).toNat with
  | zero => rfl
  | succ k =>
    show (if p < n ∧ decide (t p.toNat = 32) = b then tkf b t n k (p + 1) else p) = p
    rw [if_neg h]
theorem tkf_lo : ∀ (f : Nat) (p : Int), p ≤ tkf b t n f p := by
  intro f
  induction f with
  | zero => intro p; exact Int.le_refl p
  | succ k ih =>
    intro p
    show p ≤ (if p < n ∧ decide (t p.toNat = 32) = b then tkf b t n k (p + 1) else p)
    split
    · have := ih (p + 1)
      omega
    · exact Int.le_refl p
theorem tkf_hi : ∀ (f : Nat) (p : Int), p ≤ n → tkf b t n f p ≤ n := by
  intro f
  induction f with
  | zero => intro p h; exact h
  | succ k ih =>
    intro p h
    show (if p < n ∧ decide (t p.toNat = 32) = b then tkf b t n k (p + 1) else p) ≤ n
    split
    · next z => exact ih (p + 1) (by omega)
    · exact h
theorem tkf_sp : ∀ (f : Nat) (p : Int), (n - p).toNat ≤ f → n ≤ tkf b t n f p ∨ decide (t (tkf b t n f p).toNat = 32) ≠ b := by
  intro f
  induction f with
  | zero => intro p h; exact Or.inl (show n ≤ p by omega)
  | succ k ih =>
    intro p h
    by_cases c : p < n ∧ decide (t p.toNat = 32) = b
    · have e : tkf b t n (k + 1) p = tkf b t n k (p + 1) := if_pos c
      rw [e]
      exact ih (p + 1) (by omega)
    · have e : tkf b t n (k + 1) p = p := if_neg c
      rw [e]
      by_cases c2 : p < n
      · exact Or.inr (fun z => c ⟨c2, z⟩)
      · exact Or.inl (by omega)
theorem tkf_cg (h : ∀ k : Nat, (k : Int) < n → t k = t₉ k) : ∀ (f : Nat) (p : Int), 0 ≤ p → tkf b t n f p = tkf b t₉ n f p := by
  intro f
  induction f with
  | zero => intro p _; rfl
  | succ k ih =>
    intro p h0
    show (if p < n ∧ decide (t p.toNat = 32) = b then tkf b t n k (p + 1) else p) = (if p < n ∧ decide (t₉ p.toNat = 32) = b then tkf b t₉ n k (p + 1) else p)
    by_cases c : p < n
    · rw [h p.toNat (by omega), ih (p + 1) (by omega)]
    · rw [if_neg (fun z => c z.1), if_neg (fun z => c z.1)]
theorem tk_lo : p ≤ tk b t n p := tkf_lo _ _
theorem tk_hi (h : p ≤ n) : tk b t n p ≤ n := tkf_hi _ _ h
theorem tk_cg (h : ∀ k : Nat, (k : Int) < n → t k = t₉ k) (h0 : 0 ≤ p) : tk b t n p = tk b t₉ n p := tkf_cg h _ _ h0
theorem tk_sp : n ≤ tk b t n p ∨ decide (t (tk b t n p).toNat = 32) ≠ b := tkf_sp _ _ (Nat.le_refl _)
theorem tk_end {s e : Int} (hp : p ≤ n) (hs : s = tk true t n p) (he : e = tk false t n s) (h : e ≤ s) : s = n := by
  have h1 : s ≤ n := by rw [hs]; exact tk_hi hp
  by_cases c : s < n
  · have q : n ≤ tk true t n p ∨ decide (t (tk true t n p).toNat = 32) ≠ true := tk_sp
    rw [← hs] at q
    rcases q with q | q
    · omega
    · have q2 : decide (t s.toNat = 32) = false := by
        cases z : decide (t s.toNat = 32) with
        | false => rfl
        | true => exact absurd z q
      have g := tk_go (n := n) c q2
      have g2 : s + 1 ≤ tk false t n (s + 1) := tk_lo
      omega
  · omega
/-- one step of the two loops, as the programs test it -/
theorem tk_b1 {x : Int32} {q : Int} (h : p < n) (hx : x = t p.toNat) (hb : x = 32) (hq : q = p + 1) : tk true t n p = tk true t n q := by
  rw [hq]
  exact tk_go h (decide_eq_true (by rw [← hx]; exact hb))
theorem tk_b0 {x : Int32} (hx : x = t p.toNat) (hb : ¬ x = 32) : tk true t n p = p := tk_st (fun z => by
  have y := of_decide_eq_true z.2
  rw [← hx] at y
  exact hb y)
theorem tk_e {b : Bool} (h : n ≤ p) : tk b t n p = p := tk_st (fun z => by omega)
theorem tk_w1 {x : Int32} {q : Int} (h : p < n) (hx : x = t p.toNat) (hb : ¬ x = 32) (hq : q = p + 1) : tk false t n p = tk false t n q := by
  rw [hq]
  exact tk_go h (decide_eq_false (by rw [← hx]; exact hb))
theorem tk_w0 {x : Int32} (hx : x = t p.toNat) (hb : x = 32) : tk false t n p = p := tk_st (fun z => by
  have y := of_decide_eq_false z.2
  rw [← hx] at y
  exact y hb)
end TK
/-- digits from p up to e, v behind them; -1 at another byte -/
def zff (t : Nat → Int32) (e : Int) : Nat → Int → Int → Int
  | 0, _, v => v
  | f + 1, p, v => if p < e then (if 48 ≤ (t p.toNat).toInt ∧ (t p.toNat).toInt ≤ 57 then zff t e f (p + 1) (v * 10 + ((t p.toNat).toInt - 48)) else -1) else v
def zfo (t : Nat → Int32) (e p v : Int) : Int := zff t e (e - p).toNat p v
section ZFO
variable {t t₉ : Nat → Int32} {e p v n s lo hi : Int}
theorem zfo_un (h : p < e) : zfo t e p v = if 48 ≤ (t p.toNat).toInt ∧ (t p.toNat).toInt ≤ 57 then zfo t e (p + 1) (v * 10 + ((t p.toNat).toInt - 48)) else -1 := by
  unfold zfo
  have q : (e - p).toNat = (e - (p + 1)).toNat + 1 := by omega
  rw [q]
  show (if p < e then _ else v) = _
  rw [if_pos h]
theorem zfo_go {x : Int32} {q w : Int} (h : p < e) (hx : x = t p.toNat) (h1 : 48 ≤ x.toInt) (h2 : x.toInt ≤ 57) (hq : q = p + 1) (hw : w = v * 10 + (x.toInt - 48)) : zfo t e p v = zfo t e q w := by
  rw [zfo_un h, ← hx, if_pos ⟨h1, h2⟩, hq, hw]
theorem zfo_bad {x : Int32} (h : p < e) (hx : x = t p.toNat) (hb : x.toInt < 48 ∨ 57 < x.toInt) : zfo t e p v = -1 := by
  rw [zfo_un h, ← hx, if_neg (fun z => by omega)]
theorem zfo_end (h : e ≤ p) : zfo t e p v = v := by
  unfold zfo
  have q : (e - p).toNat = 0 := by omega
  rw [q]
  rfl
theorem zff_cg (h : ∀ k : Nat, (k : Int) < n → t k = t₉ k) (he : e ≤ n) : ∀ (f : Nat) (p v : Int), 0 ≤ p → zff t e f p v = zff t₉ e f p v := by
  intro f
  induction f with
  | zero => intro p v _; rfl
  | succ k ih =>
    intro p v h0
    show (if p < e then _ else v) = (if p < e then _ else v)
    by_cases c : p < e
    · rw [if_pos c, if_pos c, h p.toNat (by omega), ih (p + 1) _ (by omega)]
    · rw [if_neg c, if_neg c]
/-- the number that a token is, -1 if it is none within the bounds -/
def zNum (t : Nat → Int32) (s e lo hi : Int) : Int := if e ≤ s ∨ 5 < e - s then -1 else if 0 ≤ zfo t e s 0 ∧ lo ≤ zfo t e s 0 ∧ zfo t e s 0 ≤ hi then zfo t e s 0 else -1
theorem zNum_cg (h : ∀ k : Nat, (k : Int) < n → t k = t₉ k) (he : e ≤ n) (h0 : 0 ≤ s) : zNum t s e lo hi = zNum t₉ s e lo hi := by
  have q : zfo t e s 0 = zfo t₉ e s 0 := zff_cg h he _ _ _ h0
  unfold zNum
  rw [q]
theorem zNum_no (h : e ≤ s ∨ 5 < e - s) : zNum t s e lo hi = -1 := if_pos h
theorem zNum_bad (h : zfo t e s 0 = -1) : zNum t s e lo hi = -1 := by
  unfold zNum
  rw [h]
  split
  · rfl
  · exact if_neg (fun z => by omega)
theorem zNum_in (h : ¬ (e ≤ s ∨ 5 < e - s)) (hv : zfo t e s 0 = v) (h0 : 0 ≤ v) (h1 : lo ≤ v) (h2 : v ≤ hi) : zNum t s e lo hi = v := by
  unfold zNum
  rw [if_neg h, hv, if_pos ⟨h0, h1, h2⟩]
theorem zNum_out (hv : zfo t e s 0 = v) (h1 : v < lo ∨ hi < v) : zNum t s e lo hi = -1 := by
  unfold zNum
  rw [hv]
  split
  · rfl
  · exact if_neg (fun z => by omega)
/-- the smaller of 256 and a fourth -/
def zmn (a : Int) : Int := if a / 4 < 256 then a / 4 else 256
theorem zmn_of {x a : Int} (h1 : x ≤ 256) (h2 : x ≤ a / 4) (h3 : x = 256 ∨ x = a / 4) : x = zmn a := by
  unfold zmn
  split <;> omega
theorem zNum_z0 {a : Int} (h : zNum t s e 16 256 = -1) : zNum t s e 16 (zmn a) = -1 := by
  unfold zNum at h ⊢
  split
  · rfl
  · next c =>
    rw [if_neg c] at h
    split
    · next z =>
      have y : zmn a ≤ 256 := by unfold zmn; split <;> omega
      rw [if_pos ⟨z.1, z.2.1, by omega⟩] at h
      exact h
    · rfl
theorem zNum_z1 {a : Int} (hv : zNum t s e 16 256 = v) (h0 : 16 ≤ v) (h : a < 4 * v) : zNum t s e 16 (zmn a) = -1 := by
  unfold zNum at hv ⊢
  split
  · rfl
  · next c =>
    rw [if_neg c] at hv
    split
    · next z =>
      have y : zmn a ≤ a / 4 ∧ zmn a ≤ 256 := by unfold zmn; split <;> omega
      rw [if_pos ⟨z.1, z.2.1, by omega⟩] at hv
      omega
    · rfl
theorem zNum_z2 {a : Int} (hv : zNum t s e 16 256 = v) (h0 : 16 ≤ v) (h1 : v ≤ 256) (h : 4 * v ≤ a) : zNum t s e 16 (zmn a) = v := by
  unfold zNum at hv ⊢
  split
  · next c =>
    rw [if_pos c] at hv
    omega
  · next c =>
    rw [if_neg c] at hv
    split at hv
    · next z =>
      have y : v ≤ zmn a := by unfold zmn; split <;> omega
      rw [if_pos ⟨z.1, z.2.1, by omega⟩]
      exact hv
    · omega
/-- how large a number of so many digits is at most -/
def zpw : Nat → Int
  | 0 => 1
  | k + 1 => 10 * zpw k
def zok (s p v : Int) : Prop := 0 ≤ v ∧ v < zpw (p - s).toNat
theorem zok_0 : zok s s 0 := by
  unfold zok
  have q : (s - s).toNat = 0 := by omega
  rw [q]
  exact ⟨Int.le_refl 0, by decide⟩
theorem zok_st {d q w : Int} (h : zok s p v) (hs : s ≤ p) (h0 : 0 ≤ d) (h1 : d ≤ 9) (hq : q = p + 1) (hw : w = v * 10 + d) : zok s q w := by
  unfold zok at h ⊢
  have z : (q - s).toNat = (p - s).toNat + 1 := by omega
  rw [z]
  show 0 ≤ w ∧ w < 10 * zpw (p - s).toNat
  omega
theorem zok_4 (h : zok s p v) (h2 : p - s ≤ 4) : 0 ≤ v ∧ v ≤ 9999 := by
  obtain ⟨h0, h1⟩ := h
  have q : (p - s).toNat = 0 ∨ (p - s).toNat = 1 ∨ (p - s).toNat = 2 ∨ (p - s).toNat = 3 ∨ (p - s).toNat = 4 := by omega
  have e0 : zpw 0 = 1 := rfl
  have e1 : zpw 1 = 10 := rfl
  have e2 : zpw 2 = 100 := rfl
  have e3 : zpw 3 = 1000 := rfl
  have e4 : zpw 4 = 10000 := rfl
  rcases q with q | q | q | q | q <;> rw [q] at h1 <;> omega
theorem zok_5 (h : zok s p v) (h2 : p - s ≤ 5) : 0 ≤ v ∧ v ≤ 99999 := by
  by_cases c : p - s ≤ 4
  · have := zok_4 h c
    omega
  · obtain ⟨h0, h1⟩ := h
    have q : (p - s).toNat = 5 := by omega
    have e5 : zpw 5 = 100000 := rfl
    rw [q, e5] at h1
    omega
end ZFO
theorem i_dig (x : Int32) : (0 ≤ (x - (48 : Int32)).toInt ∧ (x - (48 : Int32)).toInt ≤ 9 ∧ x.toInt = (x - (48 : Int32)).toInt + 48) ∨ (((x - (48 : Int32)).toInt < 0 ∨ 9 < (x - (48 : Int32)).toInt) ∧ (x.toInt < 48 ∨ 57 < x.toInt)) := by
  have b := i_bd x
  by_cases h : 48 ≤ x.toInt ∧ x.toInt ≤ 57
  · have e : (x - (48 : Int32)).toInt = x.toInt - 48 := i_subk rfl (by omega) (by omega)
    exact Or.inl ⟨by omega, by omega, by omega⟩
  · refine Or.inr ⟨?_, by omega⟩
    by_cases c : (x - (48 : Int32)).toInt < 0 ∨ 9 < (x - (48 : Int32)).toInt
    · exact c
    · have e : ((x - (48 : Int32)) + (48 : Int32)).toInt = (x - (48 : Int32)).toInt + 48 := i_addk rfl (by omega) (by omega)
      rw [Int32.sub_add_cancel] at e
      omega
/-- a token is that word (its last letters may be lacking: 0) -/
abbrev zwd (t : Nat → Int32) (s : Int32) (z : Int) (a b c d e f g : Int32) : Prop :=
  z = (if e = 0 then 4 else if f = 0 then 5 else if g = 0 then 6 else 7) ∧ t (s + 0).toNatClampNeg = a ∧ t (s + 1).toNatClampNeg = b ∧ t (s + 2).toNatClampNeg = c ∧ t (s + 3).toNatClampNeg = d ∧ (e = 0 ∨ t (s + 4).toNatClampNeg = e) ∧ (e = 0 ∨ f = 0 ∨ t (s + 5).toNatClampNeg = f) ∧ (e = 0 ∨ f = 0 ∨ g = 0 ∨ t (s + 6).toNatClampNeg = g)
section ZW
variable {t t₉ : Nat → Int32} {s : Int32} {n z : Int} {a b c d e f g : Int32}
theorem zwd_im (h : ∀ k : Nat, (k : Int) < n → t k = t₉ k) (h0 : 0 ≤ s.toInt) (h1 : s.toInt + z ≤ n) (h2 : n ≤ 100) (q : zwd t s z a b c d e f g) : zwd t₉ s z a b c d e f g := by
  obtain ⟨z1, z2, z3, z4, z5, z6, z7, z8⟩ := q
  have ix : ∀ j : Int32, 0 ≤ j.toInt → j.toInt < z → t (s + j).toNatClampNeg = t₉ (s + j).toNatClampNeg := by
    intro j j0 j1
    have e1 : (s + j).toInt = s.toInt + j.toInt := i_add (by omega) (by omega)
    refine h _ ?_
    have e2 : (((s + j).toNatClampNeg : Nat) : Int) = (s + j).toInt := tn_cast (by omega)
    omega
  have k4 : 4 ≤ z := by rw [z1]; split <;> (try split) <;> (try split) <;> omega
  refine ⟨z1, ?_, ?_, ?_, ?_, ?_, ?_, ?_⟩
  · rw [← ix 0 (by decide) (show (0 : Int) < z by omega)]; exact z2
  · rw [← ix 1 (by decide) (show (1 : Int) < z by omega)]; exact z3
  · rw [← ix 2 (by decide) (show (2 : Int) < z by omega)]; exact z4
  · rw [← ix 3 (by decide) (show (3 : Int) < z by omega)]; exact z5
  · by_cases ce : e = 0
    · exact Or.inl ce
    · have k5 : 5 ≤ z := by rw [z1, if_neg ce]; split <;> (try split) <;> omega
      rw [← ix 4 (by decide) (show (4 : Int) < z by omega)]; exact z6
  · by_cases ce : e = 0
    · exact Or.inl ce
    · by_cases cf : f = 0
      · exact Or.inr (Or.inl cf)
      · have k6 : 6 ≤ z := by rw [z1, if_neg ce, if_neg cf]; split <;> omega
        rw [← ix 5 (by decide) (show (5 : Int) < z by omega)]; exact z7
  · by_cases ce : e = 0
    · exact Or.inl ce
    · by_cases cf : f = 0
      · exact Or.inr (Or.inl cf)
      · by_cases cg : g = 0
        · exact Or.inr (Or.inr (Or.inl cg))
        · have k7 : 7 ≤ z := by rw [z1, if_neg ce, if_neg cf, if_neg cg]; omega
          rw [← ix 6 (by decide) (show (6 : Int) < z by omega)]; exact z8
theorem zwd_cg (h : ∀ k : Nat, (k : Int) < n → t k = t₉ k) (h0 : 0 ≤ s.toInt) (h1 : s.toInt + z ≤ n) (h2 : n ≤ 100) : zwd t s z a b c d e f g ↔ zwd t₉ s z a b c d e f g := ⟨zwd_im h h0 h1 h2, zwd_im (fun k hk => (h k hk).symm) h0 h1 h2⟩
theorem zwd_ge (q : zwd t s z a b c d e f g) : 4 ≤ z := by
  rw [q.1]
  split <;> (try split) <;> (try split) <;> omega
theorem zwd_no (h : z ≤ 0) : ¬ zwd t s z a b c d e f g := fun q => by
  have := zwd_ge q
  omega
end ZW
theorem zif_cg {b c : Prop} [Decidable b] [Decidable c] {x y z : Int} (h : b ↔ c) (_ : x = x) (h2 : y = z) : (if b then x else y) = (if c then x else z) := by
  by_cases q : b
  · rw [if_pos q, if_pos (h.mp q)]
  · rw [if_neg q, if_neg (fun w => q (h.mpr w)), h2]
/-- the policies, forms and barriers by their words -/
def zPol (t : Nat → Int32) (s : Int32) (z : Int) : Int :=
  if zwd t s z 115 119 101 101 112 0 0 then 0 else if zwd t s z 115 108 105 100 101 0 0 then 1 else if zwd t s z 104 97 108 118 101 115 0 then 2 else if zwd t s z 97 103 101 115 0 0 0 then 3 else if zwd t s z 99 111 117 110 116 115 0 then 4 else if zwd t s z 115 116 101 112 115 0 0 then 5 else if zwd t s z 114 101 103 105 111 110 115 then 6 else -1
def zForm (t : Nat → Int32) (s : Int32) (z : Int) : Int :=
  if zwd t s z 102 105 114 115 116 0 0 then 0 else if zwd t s z 110 101 120 116 0 0 0 then 1 else if zwd t s z 98 101 115 116 0 0 0 then 2 else if zwd t s z 119 111 114 115 116 0 0 then 3 else -1
def zBar (t : Nat → Int32) (s : Int32) (z : Int) : Int :=
  if zwd t s z 112 105 99 116 117 114 101 then 0 else if zwd t s z 110 101 119 115 0 0 0 then 1 else -1
section ZPOL
variable {t t₉ : Nat → Int32} {s : Int32} {n z : Int}
theorem zPol_cg (h : ∀ k : Nat, (k : Int) < n → t k = t₉ k) (h0 : 0 ≤ s.toInt) (h1 : s.toInt + z ≤ n) (h2 : n ≤ 100) : zPol t s z = zPol t₉ s z := by
  unfold zPol
  exact (zif_cg (zwd_cg h h0 h1 h2) rfl (zif_cg (zwd_cg h h0 h1 h2) rfl (zif_cg (zwd_cg h h0 h1 h2) rfl (zif_cg (zwd_cg h h0 h1 h2) rfl (zif_cg (zwd_cg h h0 h1 h2) rfl (zif_cg (zwd_cg h h0 h1 h2) rfl (zif_cg (zwd_cg h h0 h1 h2) rfl rfl)))))))
theorem zForm_cg (h : ∀ k : Nat, (k : Int) < n → t k = t₉ k) (h0 : 0 ≤ s.toInt) (h1 : s.toInt + z ≤ n) (h2 : n ≤ 100) : zForm t s z = zForm t₉ s z := by
  unfold zForm
  exact (zif_cg (zwd_cg h h0 h1 h2) rfl (zif_cg (zwd_cg h h0 h1 h2) rfl (zif_cg (zwd_cg h h0 h1 h2) rfl (zif_cg (zwd_cg h h0 h1 h2) rfl rfl))))
theorem zBar_cg (h : ∀ k : Nat, (k : Int) < n → t k = t₉ k) (h0 : 0 ≤ s.toInt) (h1 : s.toInt + z ≤ n) (h2 : n ≤ 100) : zBar t s z = zBar t₉ s z := by
  unfold zBar
  exact (zif_cg (zwd_cg h h0 h1 h2) rfl (zif_cg (zwd_cg h h0 h1 h2) rfl rfl))
theorem zPol_0 (h : z ≤ 0) : zPol t s z = -1 := by
  unfold zPol
  rw [if_neg (zwd_no h), if_neg (zwd_no h), if_neg (zwd_no h), if_neg (zwd_no h), if_neg (zwd_no h), if_neg (zwd_no h), if_neg (zwd_no h)]
theorem zForm_0 (h : z ≤ 0) : zForm t s z = -1 := by
  unfold zForm
  rw [if_neg (zwd_no h), if_neg (zwd_no h), if_neg (zwd_no h), if_neg (zwd_no h)]
theorem zBar_0 (h : z ≤ 0) : zBar t s z = -1 := by
  unfold zBar
  rw [if_neg (zwd_no h), if_neg (zwd_no h)]
end ZPOL
/-- the parts behind the policy's name: 0 a room, 1 an age, 2 a card, 3 a rate, 4 a region's size, 5 a share, 6 a form, 7 a barrier -/
def zPart (c : Nat) (t : Nat → Int32) (s e a : Int) : Int := match c with
  | 0 => zNum t s e 16 1500
  | 1 => zNum t s e 1 7
  | 2 => zNum t s e 4 64
  | 3 => zNum t s e 1 50
  | 4 => zNum t s e 16 (zmn a)
  | 5 => zNum t s e 0 100
  | 6 => zForm t (Int32.ofInt s) (e - s)
  | _ => zBar t (Int32.ofInt s) (e - s)
def zPts (k : Int) : List Nat := if k = 0 then [0, 6] else if k = 1 then [0] else if k = 2 then [0] else if k = 3 then [0, 0, 1, 2] else if k = 4 then [0, 6] else if k = 5 then [0, 6, 3, 7] else [0, 4, 5]
/-- the words that the heap has in all -/
def zFin (k a b : Int) : Int := if k = 2 then 2 * a else if k = 3 then b + 2 * a else if k = 6 then a / b * b else a
def zEnd (t : Nat → Int32) (n k p a b : Int) : Int := if tk true t n p < tk false t n (tk true t n p) then -1 - tk true t n p else zFin k a b
def zRun (t : Nat → Int32) (n k : Int) : List Nat → Nat → Int → Int → Int → Int
  | [], _, p, a, b => zEnd t n k p a b
  | c :: cs, i, p, a, b => if zPart c t (tk true t n p) (tk false t n (tk true t n p)) a = -1 then -1 - tk true t n p else zRun t n k cs (i + 1) (tk false t n (tk true t n p)) (if i = 0 then zPart c t (tk true t n p) (tk false t n (tk true t n p)) a else a) (if i = 1 ∧ (k = 3 ∨ k = 6) then zPart c t (tk true t n p) (tk false t n (tk true t n p)) a else b)
/-- what heap answers to a text -/
def zAns (t : Nat → Int32) (n : Int) : Int := if zPol t (Int32.ofInt (tk true t n 0)) (tk false t n (tk true t n 0) - tk true t n 0) = -1 then -1 - tk true t n 0 else zRun t n (zPol t (Int32.ofInt (tk true t n 0)) (tk false t n (tk true t n 0) - tk true t n 0)) (zPts (zPol t (Int32.ofInt (tk true t n 0)) (tk false t n (tk true t n 0) - tk true t n 0))) 0 (tk false t n (tk true t n 0)) 0 0
section ZANS
variable {t t₉ : Nat → Int32} {n p k a b e x : Int} {s : Int32} {c i : Nat} {cs : List Nat}
theorem zAns_bad (hs : s.toInt = tk true t n 0) (he : e = tk false t n s.toInt) (hk : k = zPol t s (e - s.toInt)) (h : k = -1) : zAns t n = -1 - s.toInt := by
  unfold zAns
  rw [← hs, ← he, Int32.ofInt_toInt, ← hk, if_pos h]
theorem zAns_go (hs : s.toInt = tk true t n 0) (he : e = tk false t n s.toInt) (hk : k = zPol t s (e - s.toInt)) (h : k ≠ -1) : zAns t n = zRun t n k (zPts k) 0 e 0 0 := by
  unfold zAns
  rw [← hs, ← he, Int32.ofInt_toInt, ← hk, if_neg h]
theorem zRun_bad (hs : s.toInt = tk true t n p) (he : e = tk false t n s.toInt) (hx : x = zPart c t s.toInt e a) (h : x = -1) : zRun t n k (c :: cs) i p a b = -1 - s.toInt := by
  show (if zPart c t (tk true t n p) (tk false t n (tk true t n p)) a = -1 then -1 - tk true t n p else _) = _
  rw [← hs, ← he, ← hx, if_pos h]
theorem zRun_ok (hs : s.toInt = tk true t n p) (he : e = tk false t n s.toInt) (hx : x = zPart c t s.toInt e a) (h : x ≠ -1) : zRun t n k (c :: cs) i p a b = zRun t n k cs (i + 1) e (if i = 0 then x else a) (if i = 1 ∧ (k = 3 ∨ k = 6) then x else b) := by
  show (if zPart c t (tk true t n p) (tk false t n (tk true t n p)) a = -1 then -1 - tk true t n p else zRun t n k cs (i + 1) (tk false t n (tk true t n p)) (if i = 0 then zPart c t (tk true t n p) (tk false t n (tk true t n p)) a else a) (if i = 1 ∧ (k = 3 ∨ k = 6) then zPart c t (tk true t n p) (tk false t n (tk true t n p)) a else b)) = _
  rw [← hs, ← he, ← hx, if_neg h]
theorem zEnd_bad (hs : s.toInt = tk true t n p) (he : e = tk false t n s.toInt) (h : s.toInt < e) : zEnd t n k p a b = -1 - s.toInt := by
  unfold zEnd
  rw [← hs, ← he, if_pos h]
theorem zEnd_ok (hs : s.toInt = tk true t n p) (he : e = tk false t n s.toInt) (h : e ≤ s.toInt) : zEnd t n k p a b = zFin k a b := by
  unfold zEnd
  rw [← hs, ← he, if_neg (by omega)]
theorem zPart_f (h : x = zForm t s (e - s.toInt)) : x = zPart 6 t s.toInt e a := by
  show x = zForm t (Int32.ofInt s.toInt) (e - s.toInt)
  rw [Int32.ofInt_toInt]
  exact h
theorem zPart_b (h : x = zBar t s (e - s.toInt)) : x = zPart 7 t s.toInt e a := by
  show x = zBar t (Int32.ofInt s.toInt) (e - s.toInt)
  rw [Int32.ofInt_toInt]
  exact h
theorem zPart_cg {s : Int} (h : ∀ k : Nat, (k : Int) < n → t k = t₉ k) (h0 : 0 ≤ s) (h1 : s ≤ e) (h2 : e ≤ n) (h3 : n ≤ 100) : zPart c t s e a = zPart c t₉ s e a := by
  have q : (Int32.ofInt s).toInt = s := Int32.toInt_ofInt_of_le (by omega) (by omega)
  match c with
  | 0 => exact (zNum_cg h h2 h0 : zNum t s e 16 1500 = zNum t₉ s e 16 1500)
  | 1 => exact (zNum_cg h h2 h0 : zNum t s e 1 7 = zNum t₉ s e 1 7)
  | 2 => exact (zNum_cg h h2 h0 : zNum t s e 4 64 = zNum t₉ s e 4 64)
  | 3 => exact (zNum_cg h h2 h0 : zNum t s e 1 50 = zNum t₉ s e 1 50)
  | 4 => exact (zNum_cg h h2 h0 : zNum t s e 16 (zmn a) = zNum t₉ s e 16 (zmn a))
  | 5 => exact (zNum_cg h h2 h0 : zNum t s e 0 100 = zNum t₉ s e 0 100)
  | 6 => exact (zForm_cg h (by omega) (by omega) h3 : zForm t (Int32.ofInt s) (e - s) = zForm t₉ (Int32.ofInt s) (e - s))
  | j + 7 => exact (zBar_cg h (by omega) (by omega) h3 : zBar t (Int32.ofInt s) (e - s) = zBar t₉ (Int32.ofInt s) (e - s))
theorem zRun_cg (h : ∀ k : Nat, (k : Int) < n → t k = t₉ k) (h3 : n ≤ 100) : ∀ (cs : List Nat) (i : Nat) (p a b : Int), 0 ≤ p → p ≤ n → zRun t n k cs i p a b = zRun t₉ n k cs i p a b := by
  intro cs
  induction cs with
  | nil =>
    intro i p a b h0 h1
    show zEnd t n k p a b = zEnd t₉ n k p a b
    unfold zEnd
    have q1 : tk true t n p = tk true t₉ n p := tk_cg h h0
    have q0 : p ≤ tk true t₉ n p := tk_lo
    rw [q1, tk_cg (b := false) h (by omega)]
  | cons c cs ih =>
    intro i p a b h0 h1
    have q1 : tk true t n p = tk true t₉ n p := tk_cg h h0
    have q0 : p ≤ tk true t₉ n p := tk_lo
    have q2 : tk false t n (tk true t₉ n p) = tk false t₉ n (tk true t₉ n p) := tk_cg h (by omega)
    have q3 : tk true t₉ n p ≤ n := tk_hi h1
    have q4 : tk true t₉ n p ≤ tk false t₉ n (tk true t₉ n p) := tk_lo
    have q5 : tk false t₉ n (tk true t₉ n p) ≤ n := tk_hi q3
    have q6 : zPart c t (tk true t₉ n p) (tk false t₉ n (tk true t₉ n p)) a = zPart c t₉ (tk true t₉ n p) (tk false t₉ n (tk true t₉ n p)) a := zPart_cg h (by omega) q4 q5 h3
    show (if zPart c t (tk true t n p) (tk false t n (tk true t n p)) a = -1 then -1 - tk true t n p else zRun t n k cs (i + 1) (tk false t n (tk true t n p)) (if i = 0 then zPart c t (tk true t n p) (tk false t n (tk true t n p)) a else a) (if i = 1 ∧ (k = 3 ∨ k = 6) then zPart c t (tk true t n p) (tk false t n (tk true t n p)) a else b)) = (if zPart c t₉ (tk true t₉ n p) (tk false t₉ n (tk true t₉ n p)) a = -1 then -1 - tk true t₉ n p else zRun t₉ n k cs (i + 1) (tk false t₉ n (tk true t₉ n p)) (if i = 0 then zPart c t₉ (tk true t₉ n p) (tk false t₉ n (tk true t₉ n p)) a else a) (if i = 1 ∧ (k = 3 ∨ k = 6) then zPart c t₉ (tk true t₉ n p) (tk false t₉ n (tk true t₉ n p)) a else b))
    rw [q1, q2, q6, ih _ _ _ _ (by omega) q5]
theorem zAns_cg (h : ∀ k : Nat, (k : Int) < n → t k = t₉ k) (hn : 0 ≤ n) (h3 : n ≤ 100) : zAns t n = zAns t₉ n := by
  have q1 : tk true t n 0 = tk true t₉ n 0 := tk_cg h (by omega)
  have q0 : 0 ≤ tk true t₉ n 0 := tk_lo
  have q2 : tk false t n (tk true t₉ n 0) = tk false t₉ n (tk true t₉ n 0) := tk_cg h (by omega)
  have q3 : tk true t₉ n 0 ≤ n := tk_hi hn
  have q4 : tk true t₉ n 0 ≤ tk false t₉ n (tk true t₉ n 0) := tk_lo
  have q5 : tk false t₉ n (tk true t₉ n 0) ≤ n := tk_hi q3
  have q : (Int32.ofInt (tk true t₉ n 0)).toInt = tk true t₉ n 0 := Int32.toInt_ofInt_of_le (by omega) (by omega)
  have q6 : zPol t (Int32.ofInt (tk true t₉ n 0)) (tk false t₉ n (tk true t₉ n 0) - tk true t₉ n 0) = zPol t₉ (Int32.ofInt (tk true t₉ n 0)) (tk false t₉ n (tk true t₉ n 0) - tk true t₉ n 0) := zPol_cg h (by omega) (by omega) h3
  unfold zAns
  rw [q1, q2, q6, zRun_cg h h3 _ _ _ _ _ (by omega) q5]
end ZANS
/-- what a test answered -/
theorem zyes {v : Int32} {P : Prop} (h : (v = 1 ∧ P) ∨ (v = 0 ∧ ¬ P)) (h0 : ¬ v = 0) : P := h.elim (fun z => z.2) (fun z => absurd z.1 h0)
theorem zno {v : Int32} {P : Prop} (h : (v = 1 ∧ P) ∨ (v = 0 ∧ ¬ P)) (h0 : v = 0) : ¬ P := h.elim (fun z => absurd (z.1.symm.trans h0) (by decide)) (fun z => z.2)

/-! from 95.d1 -/
section ZRUN
variable {t : Nat → Int32} {n p p₉ k a a₉ b b₉ e x : Int} {s : Int32} {c i : Nat} {cs : List Nat}
theorem zRun_badp (hs : s.toInt = tk true t n p₉) (hp : p = p₉) (he : e = tk false t n s.toInt) (hx : x = zPart c t s.toInt e a) (h : x = -1) : zRun t n k (c :: cs) i p a b = -1 - s.toInt := by
  rw [hp]
  exact zRun_bad hs he hx h
theorem zRun_ok0 (hs : s.toInt = tk true t n p₉) (hp : p = p₉) (he : e = tk false t n s.toInt) (hx : x = zPart c t s.toInt e a) (h : x ≠ -1) : zRun t n k (c :: cs) 0 p a b = zRun t n k cs 1 e x b := by
  rw [hp, zRun_ok hs he hx h, if_pos rfl, if_neg (fun z => by omega)]
theorem zRun_ok1 (hs : s.toInt = tk true t n p₉) (hp : p = p₉) (he : e = tk false t n s.toInt) (hx : x = zPart c t s.toInt e a) (h : x ≠ -1) (hk : k = 3 ∨ k = 6) : zRun t n k (c :: cs) 1 p a b = zRun t n k cs 2 e a x := by
  rw [hp, zRun_ok hs he hx h, if_neg (by decide), if_pos ⟨rfl, hk⟩]
theorem zRun_okn (hs : s.toInt = tk true t n p₉) (hp : p = p₉) (he : e = tk false t n s.toInt) (hx : x = zPart c t s.toInt e a) (h : x ≠ -1) (hk : 2 ≤ i + 1 ∧ (2 ≤ i ∨ (k ≠ 3 ∧ k ≠ 6))) : zRun t n k (c :: cs) i p a b = zRun t n k cs (i + 1) e a b := by
  rw [hp, zRun_ok hs he hx h, if_neg (by omega), if_neg (fun z => by omega)]
theorem zEnd_badp (hs : s.toInt = tk true t n p₉) (hp : p = p₉) (he : e = tk false t n s.toInt) (h : s.toInt < e) : zEnd t n k p a b = -1 - s.toInt := by
  rw [hp]
  exact zEnd_bad hs he h
theorem zEnd_okp (hs : s.toInt = tk true t n p₉) (hp : p = p₉) (he : e = tk false t n s.toInt) (h : e ≤ s.toInt) : zEnd t n k p a b = zFin k a b := by
  rw [hp]
  exact zEnd_ok hs he h
theorem zFin_eq (ha : a = a₉) (hb : b = b₉ ∨ (k ≠ 3 ∧ k ≠ 6)) : zFin k a b = zFin k a₉ b₉ := by
  unfold zFin
  rw [ha]
  rcases hb with hb | hb
  · rw [hb]
  · by_cases c : k = 2
    · rw [if_pos c, if_pos c]
    · rw [if_neg c, if_neg c, if_neg hb.1, if_neg hb.1, if_neg hb.2, if_neg hb.2]
theorem zFin_0 (h : k = 0 ∨ k = 1 ∨ k = 4 ∨ k = 5) : zFin k a b = a := by
  unfold zFin
  rw [if_neg (by omega), if_neg (by omega), if_neg (by omega)]
theorem zFin_2 (h : k = 2) : zFin k a b = 2 * a := by
  unfold zFin
  rw [if_pos h]
theorem zFin_3 (h : k = 3) : zFin k a b = b + 2 * a := by
  unfold zFin
  rw [if_neg (by omega), if_pos h]
theorem zFin_6 (h : k = 6) : zFin k a b = a / b * b := by
  unfold zFin
  rw [if_neg (by omega), if_neg (by omega), if_pos h]
end ZRUN
/-! bytes -/
def zb (x s : Int32) : Int32 := vp_nar .byte ((x >>> (s &&& 31)).toInt8.toInt32)
theorem zb_bv (x : BitVec 32) (s : Nat) (h : s ≤ 24) : (x >>> s).signExtend 8 = (x.sshiftRight s).signExtend 8 := by
  apply BitVec.eq_of_getLsbD_eq
  intro i hi
  have h1 : i < 32 := by omega
  have h2 : s + i < 32 := by omega
  have h3 : ¬ 32 ≤ i := by omega
  rw [BitVec.getLsbD_signExtend, BitVec.getLsbD_signExtend, if_pos h1, if_pos h1, BitVec.getLsbD_ushiftRight, BitVec.getLsbD_sshiftRight, if_pos h2, decide_eq_false h3]
  simp
theorem zb_eq (x : Int32) (u : UInt32) (s : Int32) (k : Nat) (hk : k ≤ 24) (hu : u.toBitVec % 32 = BitVec.ofNat 32 k) (hs : s.toBitVec.smod 32 = BitVec.ofNat 32 k) : (x.toUInt32 >>> u).toInt32.toInt8 = (x >>> s).toInt8 := by
  apply Int8.toBitVec_inj.mp
  rw [Int32.toBitVec_toInt8, Int32.toBitVec_toInt8, Int32.toBitVec_shiftRight, hs]
  show ((x.toUInt32 >>> u).toBitVec).signExtend 8 = _
  rw [UInt32.toBitVec_shiftRight, hu]
  show (x.toBitVec >>> (BitVec.ofNat 32 k)).signExtend 8 = (x.toBitVec.sshiftRight (BitVec.ofNat 32 k).toNat).signExtend 8
  have e : (BitVec.ofNat 32 k).toNat = k := by
    rw [BitVec.toNat_ofNat]
    exact Nat.mod_eq_of_lt (by omega)
  rw [BitVec.ushiftRight_eq', e]
  exact zb_bv _ _ hk
theorem zb_24 (x : Int32) : vp_nar .byte (((x.toUInt32 >>> ((24 : Int32).toUInt32 &&& Int32.toUInt32 31)).toInt32).toInt8.toInt32) = zb x 24 := by
  unfold zb
  rw [zb_eq x _ ((24 : Int32) &&& 31) 24 (by decide) (by decide +kernel) (by decide +kernel)]
theorem zb_16 (x : Int32) : vp_nar .byte (((x.toUInt32 >>> ((16 : Int32).toUInt32 &&& Int32.toUInt32 31)).toInt32).toInt8.toInt32) = zb x 16 := by
  unfold zb
  rw [zb_eq x _ ((16 : Int32) &&& 31) 16 (by decide) (by decide +kernel) (by decide +kernel)]
theorem zb_8 (x : Int32) : vp_nar .byte (((x.toUInt32 >>> ((8 : Int32).toUInt32 &&& Int32.toUInt32 31)).toInt32).toInt8.toInt32) = zb x 8 := by
  unfold zb
  rw [zb_eq x _ ((8 : Int32) &&& 31) 8 (by decide) (by decide +kernel) (by decide +kernel)]
theorem zb_0 (x : Int32) : vp_nar .byte (((x.toUInt32 >>> ((0 : Int32).toUInt32 &&& Int32.toUInt32 31)).toInt32).toInt8.toInt32) = zb x 0 := by
  unfold zb
  rw [zb_eq x _ ((0 : Int32) &&& 31) 0 (by decide) (by decide +kernel) (by decide +kernel)]
/-- four bytes more -/
def zFq (r r₉ : Nat → Int32) (n : Int) (x : Int32) : Prop := (∀ k : Nat, (k : Int) < n → r₉ k = r k) ∧ r₉ n.toNat = zb x 24 ∧ r₉ (n + 1).toNat = zb x 16 ∧ r₉ (n + 2).toNat = zb x 8 ∧ r₉ (n + 3).toNat = zb x 0
def zFd (r r₉ : Nat → Int32) (n : Int) (j : Nat) (w : Nat → Int32) : Prop := (∀ k : Nat, (k : Int) < n → r₉ k = r k) ∧ ∀ i : Nat, i < j → r₉ (n + 4 * i).toNat = zb (w i) 24 ∧ r₉ (n + 4 * i + 1).toNat = zb (w i) 16 ∧ r₉ (n + 4 * i + 2).toNat = zb (w i) 8 ∧ r₉ (n + 4 * i + 3).toNat = zb (w i) 0
def zw5 (a b c d e : Int32) (i : Nat) : Int32 := if i = 0 then a else if i = 1 then b else if i = 2 then c else if i = 3 then d else e
section FD
variable {r r1 r2 r₉ q q₉ : Nat → Int32} {n m : Int} {x : Int32} {j : Nat} {w : Nat → Int32}
theorem fq_of {i0 i1 i2 i3 : Nat} {b0 b1 b2 b3 : Int32} (h : ∀ k, r₉ k = if k = i3 then b3 else if k = i2 then b2 else if k = i1 then b1 else if k = i0 then b0 else r k) (e0 : (i0 : Int) = n) (e1 : (i1 : Int) = n + 1) (e2 : (i2 : Int) = n + 2) (e3 : (i3 : Int) = n + 3) (h0 : b0 = zb x 24) (h1 : b1 = zb x 16) (h2 : b2 = zb x 8) (h3 : b3 = zb x 0) : zFq r r₉ n x := by
  refine ⟨fun k hk => ?_, ?_, ?_, ?_, ?_⟩
  · rw [h, if_neg (by omega), if_neg (by omega), if_neg (by omega), if_neg (by omega)]
  · rw [h, if_neg (by omega), if_neg (by omega), if_neg (by omega), if_pos (by omega), h0]
  · rw [h, if_neg (by omega), if_neg (by omega), if_pos (by omega), h1]
  · rw [h, if_neg (by omega), if_pos (by omega), h2]
  · rw [h, if_pos (by omega), h3]
theorem fd_0 : zFd r r n 0 w := ⟨fun _ _ => rfl, fun _ h => absurd h (Nat.not_lt_zero _)⟩
theorem fd_s (h : zFd r r1 n j w) (hn : 0 ≤ n) (y : zFq r1 r2 m x) (hm : m = n + 4 * j) (hw : w j = x) : zFd r r2 n (j + 1) w := by
  refine ⟨fun k hk => (y.1 k (by omega)).trans (h.1 k hk), fun i hi => ?_⟩
  by_cases c : i < j
  · have z := h.2 i c
    rw [y.1 _ (by omega), y.1 _ (by omega), y.1 _ (by omega), y.1 _ (by omega)]
    exact z
  · have e : i = j := by omega
    subst e
    rw [← hm, hw]
    exact y.2
theorem fd_al (h : zFd r r₉ n 5 w) (y : zFd q q₉ n 5 w) (hn : 0 ≤ n) (ha : ∀ k : Nat, (k : Int) < n → r k = q k) : ∀ k : Nat, (k : Int) < n + 20 → r₉ k = q₉ k := by
  intro k hk
  by_cases c : (k : Int) < n
  · rw [h.1 k c, y.1 k c]
    exact ha k c
  · have z : ∃ i : Nat, i < 5 ∧ (k = (n + 4 * i).toNat ∨ k = (n + 4 * i + 1).toNat ∨ k = (n + 4 * i + 2).toNat ∨ k = (n + 4 * i + 3).toNat) := ⟨((k : Int) - n).toNat / 4, by omega, by omega⟩
    obtain ⟨i, hi, z⟩ := z
    have u1 := h.2 i hi
    have u2 := y.2 i hi
    rcases z with z | z | z | z <;> rw [z]
    · rw [u1.1, u2.1]
    · rw [u1.2.1, u2.2.1]
    · rw [u1.2.2.1, u2.2.2.1]
    · rw [u1.2.2.2, u2.2.2.2]
end FD
theorem pr_o {S : ma_S} {x : Int32} : mI (ma_put S 64 1 (.inl x)) 65 = mI S 65 := funext (fun k => show (if 65 = 64 ∧ k = 1 then x else mI S 65 k) = mI S 65 k from if_neg (fun z => absurd z.1 (by decide)))
theorem pr_s {S : ma_S} {i k : Nat} {x : Int32} : mI (ma_put S 65 i (.inl x)) 65 k = if k = i then x else mI S 65 k := by
  show (if 65 = 65 ∧ k = i then x else mI S 65 k) = _
  by_cases c : k = i
  · rw [if_pos ⟨rfl, c⟩, if_pos c]
  · rw [if_neg (fun z => c z.2), if_neg c]
theorem hp_good {v : Int32} {W V : Prop} (h : (v.toInt = -1 ∧ W) ∨ (v.toInt ≠ -1 ∧ V)) (hv : v.toInt ≠ -1) : V := by
  rcases h with h | h
  · exact absurd h.1 hv
  · exact h.2
theorem hp_neg {v : Int32} {W : Prop} (h : v.toInt = -1 ∨ (0 ≤ v.toInt ∧ v.toInt ≤ 6 ∧ W)) (hn : v.toInt < 0 ∨ 6 < v.toInt) : v.toInt = -1 := by
  rcases h with h | h
  · exact h
  · omega
/-! levels of the texts -/
def zY0_f (c k : Nat) : Bool := zfz c k
def zY0_s : List (Nat × Nat × Int × Int) := [(69, 5, 0, 512), (69, 6, 0, 512), (75, 3, 0, 512), (75, 4, 0, 512), (88, 3, 0, 512), (88, 4, 0, 512), (64, 1, 0, 100), (64, 2, 0, 100), (64, 3, 0, 100), (64, 7, 0, 16)]
def zY0_a : List (Nat × Nat × Int × Int) := []
def zY0_r : List Nat := [70]
def zY0_x (_ : Nat → Nat → Int32) : Prop := True
abbrev zY0 (f : Nat → Nat → Int32) (r : Nat → Nat → Option Nat) (C Z N : Nat) (S : ma_S) : Prop := zG zY0_f zY0_s zY0_a zY0_r zY0_x f r C Z N S
def zY_f (c k : Nat) : Bool := zfz c k && (decide (c ≠ 64) || decide (k = 1) || decide (k = 7))
def zY_s : List (Nat × Nat × Int × Int) := [(69, 5, 0, 512), (69, 6, 0, 512), (75, 3, 0, 512), (75, 4, 0, 512), (88, 3, 0, 512), (88, 4, 0, 512), (64, 1, 0, 100), (64, 2, 0, 100), (64, 3, 0, 100), (64, 7, 0, 16)]
def zY_a : List (Nat × Nat × Int × Int) := []
def zY_r : List Nat := [70]
def zY_x (_ : Nat → Nat → Int32) : Prop := True
abbrev zY (f : Nat → Nat → Int32) (r : Nat → Nat → Option Nat) (C Z N : Nat) (S : ma_S) : Prop := zG zY_f zY_s zY_a zY_r zY_x f r C Z N S
def zR_f (c k : Nat) : Bool := zfz c k && (decide (c ≠ 64) || decide (k = 1) || decide (k = 7)) && decide (c ≠ 66)
def zR_s : List (Nat × Nat × Int × Int) := [(69, 5, 0, 512), (69, 6, 0, 512), (75, 3, 0, 512), (75, 4, 0, 512), (88, 3, 0, 512), (88, 4, 0, 512), (64, 1, 0, 100), (64, 2, 0, 100), (64, 3, 0, 100), (64, 7, 0, 16)]
def zR_a : List (Nat × Nat × Int × Int) := [(66, 4, -1, 1500)]
def zR_r : List Nat := [70]
def zR_x (_ : Nat → Nat → Int32) : Prop := True
abbrev zR (f : Nat → Nat → Int32) (r : Nat → Nat → Option Nat) (C Z N : Nat) (S : ma_S) : Prop := zG zR_f zR_s zR_a zR_r zR_x f r C Z N S
def zKd_f (c k : Nat) : Bool := zfz c k && decide (c ≠ 64) && decide (c ≠ 67) && decide (c ≠ 68)
def zKd_s : List (Nat × Nat × Int × Int) := [(69, 5, 0, 512), (69, 6, 0, 512), (75, 3, 0, 512), (75, 4, 0, 512), (88, 3, 0, 512), (88, 4, 0, 512), (64, 1, 0, 100), (64, 2, 0, 100), (64, 3, 0, 100), (64, 7, 0, 16)]
def zKd_a : List (Nat × Nat × Int × Int) := [(67, 16, 0, 8)]
def zKd_r : List Nat := [70]
def zKd_x (_ : Nat → Nat → Int32) : Prop := True
abbrev zKd (f : Nat → Nat → Int32) (r : Nat → Nat → Option Nat) (C Z N : Nat) (S : ma_S) : Prop := zG zKd_f zKd_s zKd_a zKd_r zKd_x f r C Z N S
def zFe_f (c k : Nat) : Bool := zfz c k && (decide (c ≠ 64) || decide (k = 7)) && decide (c ≠ 65)
def zFe_s : List (Nat × Nat × Int × Int) := [(69, 5, 0, 512), (69, 6, 0, 512), (75, 3, 0, 512), (75, 4, 0, 512), (88, 3, 0, 512), (88, 4, 0, 512), (64, 1, 0, 100), (64, 2, 0, 100), (64, 3, 0, 100), (64, 7, 0, 16)]
def zFe_a : List (Nat × Nat × Int × Int) := []
def zFe_r : List Nat := [70]
def zFe_x (_ : Nat → Nat → Int32) : Prop := True
abbrev zFe (f : Nat → Nat → Int32) (r : Nat → Nat → Option Nat) (C Z N : Nat) (S : ma_S) : Prop := zG zFe_f zFe_s zFe_a zFe_r zFe_x f r C Z N S
def zM92_f (c k : Nat) : Bool := zfz c k && decide (c ≠ 92)
def zM92_s : List (Nat × Nat × Int × Int) := [(69, 5, 0, 512), (69, 6, 0, 512), (75, 3, 0, 512), (75, 4, 0, 512), (88, 3, 0, 512), (88, 4, 0, 512)]
def zM92_a : List (Nat × Nat × Int × Int) := [(92, 93, 0, 3000)]
def zM92_r : List Nat := [70]
def zM92_x (_ : Nat → Nat → Int32) : Prop := True
abbrev zM92 (f : Nat → Nat → Int32) (r : Nat → Nat → Option Nat) (C Z N : Nat) (S : ma_S) : Prop := zG zM92_f zM92_s zM92_a zM92_r zM92_x f r C Z N S
theorem zR_dn_zY {f : Nat → Nat → Int32} {r : Nat → Nat → Option Nat} {C Z N : Nat} {S : ma_S} (h : zR f r C Z N S) : zY (mI S) (mR S) C Z N S := zG_dn h (by decide) (by decide) (by decide) (fun _ => trivial)
theorem zR_up_zY {f : Nat → Nat → Int32} {r : Nat → Nat → Option Nat} {C Z N : Nat} {S S1 : ma_S} (h : zR f r C Z N S) (h1 : zY (mI S) (mR S) C Z N S1) : zR f r C Z N S1 := by
  refine zG_up h h1 (fun c k z => ?_) (by decide) ?_ (by decide) (fun g q h => ?_)
  · have z0 : zfz c k = true := by
      simp only [zR_f, Bool.and_eq_true] at z
      simp only [z]
    simp only [zR_f, Bool.and_eq_true, Bool.or_eq_true, decide_eq_true_eq] at z
    simp only [zY_f, Bool.and_eq_true, Bool.or_eq_true, decide_eq_true_eq]
    exact ⟨z0, by omega⟩
  · intro q hq
    have e : q = (66, 4, -1, 1500) := by simpa [zR_a] using hq
    rcases e with rfl
    · exact Or.inr (fun _ => rfl)
  · exact trivial
theorem zR_dn_zY0 {f : Nat → Nat → Int32} {r : Nat → Nat → Option Nat} {C Z N : Nat} {S : ma_S} (h : zR f r C Z N S) : zY0 (mI S) (mR S) C Z N S := zG_dn h (by decide) (by decide) (by decide) (fun _ => trivial)
theorem zR_up_zY0 {f : Nat → Nat → Int32} {r : Nat → Nat → Option Nat} {C Z N : Nat} {S S1 : ma_S} (h : zR f r C Z N S) (h1 : zY0 (mI S) (mR S) C Z N S1) : zR f r C Z N S1 := by
  refine zG_up h h1 (fun c k z => ?_) (by decide) ?_ (by decide) (fun g q h => ?_)
  · have z0 : zfz c k = true := by
      simp only [zR_f, Bool.and_eq_true] at z
      simp only [z]
    simp only [zR_f, Bool.and_eq_true, Bool.or_eq_true, decide_eq_true_eq] at z
    exact z0
  · intro q hq
    have e : q = (66, 4, -1, 1500) := by simpa [zR_a] using hq
    rcases e with rfl
    · exact Or.inr (fun _ => rfl)
  · exact trivial
theorem zA_dn_zR {f : Nat → Nat → Int32} {r : Nat → Nat → Option Nat} {C Z N : Nat} {S : ma_S} (h : zA f r C Z N S) : zR (mI S) (mR S) C Z N S := zG_dn h (by decide) (by decide) (by decide) (fun _ => trivial)
theorem zA_up_zR {f : Nat → Nat → Int32} {r : Nat → Nat → Option Nat} {C Z N : Nat} {S S1 : ma_S} (h : zA f r C Z N S) (h1 : zR (mI S) (mR S) C Z N S1) : zA f r C Z N S1 := by
  refine zG_up h h1 (fun c k z => ?_) (by decide) ?_ (by decide) (fun g q h => ?_)
  · have z0 : zfz c k = true := by
      simp only [zA_f, Bool.and_eq_true] at z
      simp only [z]
    simp only [zA_f, Bool.and_eq_true, Bool.or_eq_true, decide_eq_true_eq] at z
    simp only [zR_f, Bool.and_eq_true, Bool.or_eq_true, decide_eq_true_eq]
    exact ⟨⟨z0, by omega⟩, by omega⟩
  · intro q hq
    have e : q = (66, 4, -1, 1500) ∨ q = (67, 16, 0, 8) ∨ q = (92, 93, 0, 3000) := by simpa [zA_a] using hq
    rcases e with rfl | rfl | rfl
    · exact Or.inl (by decide)
    · exact Or.inr (fun _ => rfl)
    · exact Or.inr (fun _ => rfl)
  · unfold zA_x at h ⊢
    rw [g 81 2 rfl, g 81 3 rfl, g 82 2 rfl, g 82 3 rfl, g 82 7 rfl]
    exact h
theorem zAn_dn_zKd {f : Nat → Nat → Int32} {r : Nat → Nat → Option Nat} {C Z N : Nat} {S : ma_S} (h : zAn f r C Z N S) : zKd (mI S) (mR S) C Z N S := zG_dn h (by decide) (by decide) (by decide) (fun _ => trivial)
theorem zAn_up_zKd {f : Nat → Nat → Int32} {r : Nat → Nat → Option Nat} {C Z N : Nat} {S S1 : ma_S} (h : zAn f r C Z N S) (h1 : zKd (mI S) (mR S) C Z N S1) : zAn f r C Z N S1 := by
  refine zG_up h h1 (fun c k z => ?_) (by decide) ?_ (by decide) (fun g q h => ?_)
  · have z0 : zfz c k = true := by
      simp only [zAn_f, Bool.and_eq_true] at z
      simp only [z]
    simp only [zAn_f, Bool.and_eq_true, Bool.or_eq_true, decide_eq_true_eq] at z
    simp only [zKd_f, Bool.and_eq_true, Bool.or_eq_true, decide_eq_true_eq]
    exact ⟨⟨⟨z0, by omega⟩, by omega⟩, by omega⟩
  · intro q hq
    have e : q = (66, 4, -1, 1500) ∨ q = (67, 16, 0, 8) ∨ q = (92, 93, 0, 3000) := by simpa [zAn_a] using hq
    rcases e with rfl | rfl | rfl
    · exact Or.inr (fun _ => rfl)
    · exact Or.inl (by decide)
    · exact Or.inr (fun _ => rfl)
  · unfold zAn_x at h ⊢
    rw [g 81 2 rfl, g 81 3 rfl, g 82 2 rfl, g 82 3 rfl, g 82 7 rfl]
    exact h
theorem zA_dn_zFe {f : Nat → Nat → Int32} {r : Nat → Nat → Option Nat} {C Z N : Nat} {S : ma_S} (h : zA f r C Z N S) : zFe (mI S) (mR S) C Z N S := zG_dn h (by decide) (by decide) (by decide) (fun _ => trivial)
theorem zA_up_zFe {f : Nat → Nat → Int32} {r : Nat → Nat → Option Nat} {C Z N : Nat} {S S1 : ma_S} (h : zA f r C Z N S) (h1 : zFe (mI S) (mR S) C Z N S1) : zA f r C Z N S1 := by
  refine zG_up h h1 (fun c k z => ?_) (by decide) ?_ (by decide) (fun g q h => ?_)
  · have z0 : zfz c k = true := by
      simp only [zA_f, Bool.and_eq_true] at z
      simp only [z]
    simp only [zA_f, Bool.and_eq_true, Bool.or_eq_true, decide_eq_true_eq] at z
    simp only [zFe_f, Bool.and_eq_true, Bool.or_eq_true, decide_eq_true_eq]
    exact ⟨⟨z0, by omega⟩, by omega⟩
  · intro q hq
    have e : q = (66, 4, -1, 1500) ∨ q = (67, 16, 0, 8) ∨ q = (92, 93, 0, 3000) := by simpa [zA_a] using hq
    rcases e with rfl | rfl | rfl
    · exact Or.inr (fun _ => rfl)
    · exact Or.inr (fun _ => rfl)
    · exact Or.inr (fun _ => rfl)
  · unfold zA_x at h ⊢
    rw [g 81 2 rfl, g 81 3 rfl, g 82 2 rfl, g 82 3 rfl, g 82 7 rfl]
    exact h
theorem zL91_dn_zM92 {f : Nat → Nat → Int32} {r : Nat → Nat → Option Nat} {C Z N : Nat} {S : ma_S} (h : zL91 f r C Z N S) : zM92 (mI S) (mR S) C Z N S := zG_dn h (by decide) (by decide) (by decide) (fun _ => trivial)
theorem zL91_up_zM92 {f : Nat → Nat → Int32} {r : Nat → Nat → Option Nat} {C Z N : Nat} {S S1 : ma_S} (h : zL91 f r C Z N S) (h1 : zM92 (mI S) (mR S) C Z N S1) : zL91 f r C Z N S1 := by
  refine zG_up h h1 (fun c k z => ?_) (by decide) ?_ (by decide) (fun g q h => ?_)
  · have z0 : zfz c k = true := by
      simp only [zL91_f, Bool.and_eq_true] at z
      simp only [z]
    simp only [zL91_f, Bool.and_eq_true, Bool.or_eq_true, decide_eq_true_eq] at z
    simp only [zM92_f, Bool.and_eq_true, Bool.or_eq_true, decide_eq_true_eq]
    exact ⟨z0, by omega⟩
  · intro q hq
    have e : q = (92, 93, 0, 3000) := by simpa [zL91_a] using hq
    rcases e with rfl
    · exact Or.inl (by decide)
  · exact trivial
/-! tables -/


/-! from 95.d2 -/
/-! the reference's stages -/
section ZJ
variable {T : Nat → Int32} {N K p p₉ ny no ro si e e1 e2 z x x1 x2 k Z : Int} {s s1 s2 : Int32}
theorem zAns_goz (hs : s.toInt = tk true T N 0) (he : e = tk false T N s.toInt) (hk : k = zPol T s z) (hz : z = e - s.toInt) (h : k ≠ -1) : zAns T N = zRun T N k (zPts k) 0 e 0 0 := zAns_go hs he (by rw [← hz]; exact hk) h
theorem zAns_badz (hs : s.toInt = tk true T N 0) (he : e = tk false T N s.toInt) (hk : k = zPol T s z) (hz : z = e - s.toInt) (h : k = -1) : zAns T N = -1 - s.toInt := zAns_bad hs he (by rw [← hz]; exact hk) h
theorem zPart_fz {a : Int} (h : x = zForm T s z) (hz : z = e - s.toInt) : x = zPart 6 T s.toInt e a := zPart_f (by rw [← hz]; exact h)
theorem zPart_bz {a : Int} (h : x = zBar T s z) (hz : z = e - s.toInt) : x = zPart 7 T s.toInt e a := zPart_b (by rw [← hz]; exact h)
/-- what is left behind the room -/
def zTl (K : Int) : List Nat := if K = 0 then [6] else if K = 4 then [6] else if K = 5 then [6, 3, 7] else if K = 6 then [4, 5] else []
theorem zPts_tl (h0 : 0 ≤ K) (h6 : K ≤ 6) (h3 : K ≠ 3) : zPts K = 0 :: zTl K := by
  have q : K = 0 ∨ K = 1 ∨ K = 2 ∨ K = 4 ∨ K = 5 ∨ K = 6 := by omega
  rcases q with q | q | q | q | q | q <;> rw [q] <;> rfl
def zJ1 (T : Nat → Int32) (N K p ny no ro : Int) : Prop := (K = 3 ∧ zAns T N = zEnd T N K p ny no) ∨ (K ≠ 3 ∧ zAns T N = zRun T N K (zTl K) 1 p ro 0)
def zJ2 (T : Nat → Int32) (N K p ny no ro : Int) : Prop := (K = 3 ∧ zAns T N = zEnd T N K p ny no) ∨ (K = 5 ∧ zAns T N = zRun T N K [3, 7] 2 p ro 0) ∨ (K = 6 ∧ zAns T N = zRun T N K [4, 5] 1 p ro 0) ∨ (K ≠ 3 ∧ K ≠ 5 ∧ K ≠ 6 ∧ zAns T N = zEnd T N K p ro 0)
def zJ3 (T : Nat → Int32) (N K p ny no ro : Int) : Prop := (K = 3 ∧ zAns T N = zEnd T N K p ny no) ∨ (K = 6 ∧ zAns T N = zRun T N K [4, 5] 1 p ro 0) ∨ (K ≠ 3 ∧ K ≠ 6 ∧ zAns T N = zEnd T N K p ro 0)
def zJ4 (T : Nat → Int32) (N K p ny no ro si : Int) : Prop := (K = 3 ∧ zAns T N = zEnd T N K p ny no) ∨ (K = 6 ∧ zAns T N = zEnd T N K p ro si) ∨ (K ≠ 3 ∧ K ≠ 6 ∧ zAns T N = zEnd T N K p ro 0)
def zJ5 (Z K ny no ro si : Int) : Prop := (K = 3 ∧ Z = zFin K ny no) ∨ (K = 6 ∧ Z = zFin K ro si) ∨ (K ≠ 3 ∧ K ≠ 6 ∧ Z = zFin K ro 0)
theorem J1_r (q : zAns T N = zRun T N K (zPts K) 0 p 0 0) (h0 : 0 ≤ K) (h6 : K ≤ 6) (h3 : K ≠ 3) (hs : s.toInt = tk true T N p) (he : e = tk false T N s.toInt) (hx : ro = zNum T s.toInt e 16 1500) (h : ro ≠ -1) : zJ1 T N K e ny no ro := by
  refine Or.inr ⟨h3, ?_⟩
  rw [zPts_tl h0 h6 h3] at q
  exact q.trans (zRun_ok0 hs rfl he (show ro = zPart 0 T s.toInt e 0 from hx) h)
theorem J1_rb (q : zAns T N = zRun T N K (zPts K) 0 p 0 0) (h0 : 0 ≤ K) (h6 : K ≤ 6) (h3 : K ≠ 3) (hs : s.toInt = tk true T N p) (he : e = tk false T N s.toInt) (hx : zNum T s.toInt e 16 1500 = -1) : zAns T N = -1 - s.toInt := by
  rw [zPts_tl h0 h6 h3] at q
  exact q.trans (zRun_badp hs rfl he (show zNum T s.toInt e 16 1500 = zPart 0 T s.toInt e 0 from rfl) hx)
theorem J12_q (h : zJ1 T N K p ny no ro) (hK : K = 0 ∨ K = 4 ∨ K = 5) : zAns T N = zRun T N K (6 :: (if K = 5 then [3, 7] else [])) 1 p ro 0 := by
  rcases h with h | h
  · omega
  · have e : zTl K = 6 :: (if K = 5 then [3, 7] else []) := by rcases hK with q | q | q <;> rw [q] <;> rfl
    rw [← e]
    exact h.2
theorem J12_f (h : zJ1 T N K p ny no ro) (hK : K = 0 ∨ K = 4 ∨ K = 5) (hs : s.toInt = tk true T N p) (he : e = tk false T N s.toInt) (hx : x = zForm T s z) (hz : z = e - s.toInt) (hn : x ≠ -1) : zJ2 T N K e ny no ro := by
  have q := (J12_q h hK).trans (zRun_okn hs rfl he (zPart_fz hx hz) hn (by omega))
  by_cases c : K = 5
  · rw [if_pos c] at q
    exact Or.inr (Or.inl ⟨c, q⟩)
  · rw [if_neg c] at q
    exact Or.inr (Or.inr (Or.inr ⟨by omega, c, by omega, q⟩))
theorem J12_b (h : zJ1 T N K p ny no ro) (hK : K = 0 ∨ K = 4 ∨ K = 5) (hs : s.toInt = tk true T N p) (he : e = tk false T N s.toInt) (hx : zForm T s z = -1) (hz : z = e - s.toInt) : zAns T N = -1 - s.toInt := (J12_q h hK).trans (zRun_badp hs rfl he (zPart_fz rfl hz) hx)
theorem J12_n (h : zJ1 T N K p ny no ro) (h0 : 0 ≤ K) (h6 : K ≤ 6) (hK : K ≠ 0 ∧ K ≠ 4 ∧ K ≠ 5) : zJ2 T N K p ny no ro := by
  rcases h with h | h
  · exact Or.inl h
  · by_cases c : K = 6
    · have q := h.2
      have e : zTl K = [4, 5] := by rw [c]; rfl
      rw [e] at q
      exact Or.inr (Or.inr (Or.inl ⟨c, q⟩))
    · have q := h.2
      have e : zTl K = [] := by
        have y : K = 1 ∨ K = 2 := by have := h.1; omega
        rcases y with y | y <;> rw [y] <;> rfl
      rw [e] at q
      exact Or.inr (Or.inr (Or.inr ⟨h.1, hK.2.2, c, q⟩))
theorem J23_q (h : zJ2 T N K p ny no ro) (hK : K = 5) : zAns T N = zRun T N K [3, 7] 2 p ro 0 := by
  rcases h with h | h | h | h
  · omega
  · exact h.2
  · omega
  · omega
theorem J23_1 (h : zJ2 T N K p ny no ro) (hK : K = 5) (hs : s1.toInt = tk true T N p) (he : e1 = tk false T N s1.toInt) (hx : zNum T s1.toInt e1 1 50 = -1) : zAns T N = -1 - s1.toInt := (J23_q h hK).trans (zRun_badp hs rfl he (show zNum T s1.toInt e1 1 50 = zPart 3 T s1.toInt e1 ro from rfl) hx)
theorem J23_2 (h : zJ2 T N K p ny no ro) (hK : K = 5) (hs : s1.toInt = tk true T N p) (he : e1 = tk false T N s1.toInt) (hx : x1 = zNum T s1.toInt e1 1 50) (hn : x1 ≠ -1) : zAns T N = zRun T N K [7] 3 e1 ro 0 := (J23_q h hK).trans (zRun_okn hs rfl he (show x1 = zPart 3 T s1.toInt e1 ro from hx) hn (by omega))
theorem J23_3 (q : zAns T N = zRun T N K [7] 3 e1 ro 0) (hs : s2.toInt = tk true T N e1) (he : e2 = tk false T N s2.toInt) (hx : zBar T s2 z = -1) (hz : z = e2 - s2.toInt) : zAns T N = -1 - s2.toInt := q.trans (zRun_badp hs rfl he (zPart_bz rfl hz) hx)
theorem J23_4 (q : zAns T N = zRun T N K [7] 3 e1 ro 0) (hK : K = 5) (hs : s2.toInt = tk true T N e1) (he : e2 = tk false T N s2.toInt) (hx : x = zBar T s2 z) (hz : z = e2 - s2.toInt) (hn : x ≠ -1) : zJ3 T N K e2 ny no ro := Or.inr (Or.inr ⟨by omega, by omega, q.trans (zRun_okn hs rfl he (zPart_bz hx hz) hn (by omega))⟩)
theorem J23_n (h : zJ2 T N K p ny no ro) (hK : K ≠ 5) : zJ3 T N K p ny no ro := by
  rcases h with h | h | h | h
  · exact Or.inl h
  · exact absurd h.1 hK
  · exact Or.inr (Or.inl h)
  · exact Or.inr (Or.inr ⟨h.1, h.2.2.1, h.2.2.2⟩)
theorem J34_q (h : zJ3 T N K p ny no ro) (hK : K = 6) : zAns T N = zRun T N K [4, 5] 1 p ro 0 := by
  rcases h with h | h | h
  · omega
  · exact h.2
  · omega
theorem J34_1 (h : zJ3 T N K p ny no ro) (hK : K = 6) (hs : s1.toInt = tk true T N p) (he : e1 = tk false T N s1.toInt) (hx : zNum T s1.toInt e1 16 (zmn ro) = -1) : zAns T N = -1 - s1.toInt := (J34_q h hK).trans (zRun_badp hs rfl he (show zNum T s1.toInt e1 16 (zmn ro) = zPart 4 T s1.toInt e1 ro from rfl) hx)
theorem J34_2 (h : zJ3 T N K p ny no ro) (hK : K = 6) (hs : s1.toInt = tk true T N p) (he : e1 = tk false T N s1.toInt) (hx : si = zNum T s1.toInt e1 16 (zmn ro)) (hn : si ≠ -1) : zAns T N = zRun T N K [5] 2 e1 ro si := (J34_q h hK).trans (zRun_ok1 hs rfl he (show si = zPart 4 T s1.toInt e1 ro from hx) hn (by omega))
theorem J34_3 (q : zAns T N = zRun T N K [5] 2 e1 ro si) (hs : s2.toInt = tk true T N e1) (he : e2 = tk false T N s2.toInt) (hx : zNum T s2.toInt e2 0 100 = -1) : zAns T N = -1 - s2.toInt := q.trans (zRun_badp hs rfl he (show zNum T s2.toInt e2 0 100 = zPart 5 T s2.toInt e2 ro from rfl) hx)
theorem J34_4 (q : zAns T N = zRun T N K [5] 2 e1 ro si) (hK : K = 6) (hs : s2.toInt = tk true T N e1) (he : e2 = tk false T N s2.toInt) (hx : x = zNum T s2.toInt e2 0 100) (hn : x ≠ -1) : zJ4 T N K e2 ny no ro si := Or.inr (Or.inl ⟨hK, q.trans (zRun_okn hs rfl he (show x = zPart 5 T s2.toInt e2 ro from hx) hn (by omega))⟩)
theorem J34_n (h : zJ3 T N K p ny no ro) (hK : K ≠ 6) : zJ4 T N K p ny no ro si := by
  rcases h with h | h | h
  · exact Or.inl h
  · exact absurd h.1 hK
  · exact Or.inr (Or.inr h)
theorem J45_b (h : zJ4 T N K p ny no ro si) (hs : s.toInt = tk true T N p) (he : e = tk false T N s.toInt) (hl : s.toInt < e) : zAns T N = -1 - s.toInt := by
  rcases h with h | h | h
  · exact h.2.trans (zEnd_bad hs he hl)
  · exact h.2.trans (zEnd_bad hs he hl)
  · exact h.2.2.trans (zEnd_bad hs he hl)
theorem J45_o (h : zJ4 T N K p ny no ro si) (hs : s.toInt = tk true T N p) (he : e = tk false T N s.toInt) (hl : e ≤ s.toInt) : zJ5 (zAns T N) K ny no ro si := by
  rcases h with h | h | h
  · exact Or.inl ⟨h.1, h.2.trans (zEnd_ok hs he hl)⟩
  · exact Or.inr (Or.inl ⟨h.1, h.2.trans (zEnd_ok hs he hl)⟩)
  · exact Or.inr (Or.inr ⟨h.1, h.2.1, h.2.2.trans (zEnd_ok hs he hl)⟩)
theorem J5_0 (h : zJ5 Z K ny no ro si) (hK : K = 0 ∨ K = 1 ∨ K = 4 ∨ K = 5) : Z = ro := by
  rcases h with h | h | h
  · omega
  · omega
  · exact h.2.2.trans (zFin_0 hK)
theorem J5_2 (h : zJ5 Z K ny no ro si) (hK : K = 2) : Z = 2 * ro := by
  rcases h with h | h | h
  · omega
  · omega
  · exact h.2.2.trans (zFin_2 hK)
theorem J5_3 (h : zJ5 Z K ny no ro si) (hK : K = 3) : Z = no + 2 * ny := by
  rcases h with h | h | h
  · exact h.2.trans (zFin_3 hK)
  · omega
  · omega
theorem J5_6 (h : zJ5 Z K ny no ro si) (hK : K = 6) : Z = ro / si * si := by
  rcases h with h | h | h
  · omega
  · exact h.2.trans (zFin_6 hK)
  · omega
theorem rg_tot {r s x : Int32} (hx : x = r / s) (h0 : 0 ≤ r.toInt) (h1 : r.toInt ≤ 1500) (h2 : 16 ≤ s.toInt) (h3 : s.toInt ≤ 256) (hr : r.toInt = ro) (hs : s.toInt = si) (z : Z = ro / si * si) : (x * s).toInt = Z := by
  have d := i_div (x := r) (y := s) h0 (by omega)
  have d2 : 0 ≤ x.toInt ∧ x.toInt ≤ 1500 ∧ x.toInt = ro / si := by rw [hx, ← hr, ← hs]; exact ⟨d.1, by omega, d.2.2.1⟩
  have e := (i_muln (x := x) (y := s) d2.1 d2.2.1 (by omega) (by omega)).2.2
  rw [e, z, d2.2.2, hs]
end ZJ
/-- the reference's loop over digits -/
def zGB (T : Nat → Int32) (s e g v k : Int) : Prop := (g = 1 ∧ e - s ≤ 5 ∧ zfo T e (s + k) v = zfo T e s 0 ∧ zok s (s + k) v) ∨ (g = 0 ∧ ∀ lo hi : Int, zNum T s e lo hi = -1)
section GB
variable {T : Nat → Int32} {s e g v k g₉ v₉ k₉ : Int} {x : Int32}
theorem GB_1 (hg : g = 1) (hv : v = 0) (hk : k = 0) (h : e - s ≤ 5) : zGB T s e g v k := by
  refine Or.inl ⟨hg, h, ?_, ?_⟩
  · rw [hv, hk, Int.add_zero]
  · rw [hv, hk, Int.add_zero]
    exact zok_0
theorem GB_0 (hg : g = 0) (h : 5 < e - s) : zGB T s e g v k := Or.inr ⟨hg, fun _ _ => zNum_no (Or.inr h)⟩
theorem GB_go (h : zGB T s e g v k) (hg : g ≠ 0) (hk : s + k < e) (hk0 : 0 ≤ k) (hx : x = T (s + k).toNat) (h1 : 48 ≤ x.toInt) (h2 : x.toInt ≤ 57) (hg₉ : g₉ = 1) (hv : v₉ = v * 10 + (x.toInt - 48)) (hk₉ : k₉ = k + 1) : zGB T s e g₉ v₉ k₉ := by
  rcases h with h | h
  · refine Or.inl ⟨hg₉, h.2.1, ?_, ?_⟩
    · exact (zfo_go hk hx h1 h2 (by omega) hv).symm.trans h.2.2.1
    · exact zok_st h.2.2.2 (by omega) (show 0 ≤ x.toInt - 48 by omega) (by omega) (by omega) hv
  · exact absurd h.1 hg
theorem GB_bad (h : zGB T s e g v k) (hg : g ≠ 0) (hk : s + k < e) (hx : x = T (s + k).toNat) (hb : x.toInt < 48 ∨ 57 < x.toInt) (hg₉ : g₉ = 0) : zGB T s e g₉ v₉ k₉ := by
  rcases h with h | h
  · exact Or.inr ⟨hg₉, fun _ _ => zNum_bad (h.2.2.1.symm.trans (zfo_bad hk hx hb))⟩
  · exact absurd h.1 hg
theorem GB_4 (h : zGB T s e g v k) (hg : g ≠ 0) (hk : k ≤ 4) : 0 ≤ v ∧ v ≤ 9999 := by
  rcases h with h | h
  · exact zok_4 h.2.2.2 (by omega)
  · exact absurd h.1 hg
theorem GB_nn (h : zGB T s e g v k) (hg : g ≠ 0) : 0 ≤ v ∧ e - s ≤ 5 := by
  rcases h with h | h
  · exact ⟨h.2.2.2.1, h.2.1⟩
  · exact absurd h.1 hg
theorem GB_end (h : zGB T s e g v k) (hg : g ≠ 0) (he : e ≤ s + k) : zfo T e s 0 = v := by
  rcases h with h | h
  · exact h.2.2.1.symm.trans (zfo_end he)
  · exact absurd h.1 hg
theorem GB_no (h : zGB T s e g v k) (hg : g = 0) (lo hi : Int) : zNum T s e lo hi = -1 := by
  rcases h with h | h
  · omega
  · exact h.2 lo hi
end GB
/-- some of four bytes -/
def zFp (r r₉ : Nat → Int32) (n : Int) (x : Int32) (j : Int) : Prop := (∀ k : Nat, (k : Int) < n → r₉ k = r k) ∧ (1 ≤ j → r₉ n.toNat = zb x 24) ∧ (2 ≤ j → r₉ (n + 1).toNat = zb x 16) ∧ (3 ≤ j → r₉ (n + 2).toNat = zb x 8) ∧ (4 ≤ j → r₉ (n + 3).toNat = zb x 0)
section FP
variable {r : Nat → Int32} {m : Nat → Nat → Int32} {n j j₉ : Int} {x s b : Int32} {i : Nat}
theorem fp_0 (h : j = 0) : zFp r r n x j := ⟨fun _ _ => rfl, fun z => by omega, fun z => by omega, fun z => by omega, fun z => by omega⟩
theorem fp_s (h : zFp r (m 95) n x j) (hn : 0 ≤ n) (h0 : 0 ≤ j) (hi : (i : Int) = n + j) (hb : b = zb x s) (hs : (j = 0 ∧ s.toInt = 24) ∨ (j = 1 ∧ s.toInt = 16) ∨ (j = 2 ∧ s.toInt = 8) ∨ (j = 3 ∧ s.toInt = 0)) (hj : j₉ = j + 1) : zFp r (ma_u m 95 i b 95) n x j₉ := by
  have rd : ∀ k, ma_u m 95 i b 95 k = if k = i then b else m 95 k := by
    intro k
    show (if 95 = 95 ∧ k = i then b else m 95 k) = _
    by_cases c : k = i
    · rw [if_pos ⟨rfl, c⟩, if_pos c]
    · rw [if_neg (fun z => c z.2), if_neg c]
  have sh : ∀ q : Int32, s.toInt = q.toInt → b = zb x q := fun q z => by rw [hb, Int32.toInt_inj.mp z]
  refine ⟨fun k hk => ?_, fun z => ?_, fun z => ?_, fun z => ?_, fun z => ?_⟩
  · rw [rd, if_neg (by omega)]
    exact h.1 k hk
  · rw [rd]
    by_cases c : j = 0
    · rw [if_pos (by omega)]
      exact sh 24 (show s.toInt = 24 by omega)
    · rw [if_neg (by omega)]
      exact h.2.1 (by omega)
  · rw [rd]
    by_cases c : j = 1
    · rw [if_pos (by omega)]
      exact sh 16 (show s.toInt = 16 by omega)
    · rw [if_neg (by omega)]
      exact h.2.2.1 (by omega)
  · rw [rd]
    by_cases c : j = 2
    · rw [if_pos (by omega)]
      exact sh 8 (show s.toInt = 8 by omega)
    · rw [if_neg (by omega)]
      exact h.2.2.2.1 (by omega)
  · rw [rd]
    by_cases c : j = 3
    · rw [if_pos (by omega)]
      exact sh 0 (show s.toInt = 0 by omega)
    · rw [if_neg (by omega)]
      exact h.2.2.2.2 (by omega)
theorem fp_e {r₉ : Nat → Int32} (h : zFp r r₉ n x j) (hj : 4 ≤ j) : zFq r r₉ n x := ⟨h.1, h.2.1 (by omega), h.2.2.1 (by omega), h.2.2.2.1 (by omega), h.2.2.2.2 hj⟩
end FP
theorem zb_nar {x s : Int32} : vp_nar .byte (zb x s) = zb x s := by
  unfold zb
  rw [vp_nar_byte, vp_nar_byte, Int8.toInt8_toInt32, Int8.toInt8_toInt32]
theorem fd_by {r r₉ : Nat → Int32} {n : Int} {w : Nat → Int32} (h : zFd r r₉ n 5 w) (hn : 0 ≤ n) (hb : ∀ k : Nat, (k : Int) < n → vp_nar .byte (r k) = r k) : ∀ k : Nat, (k : Int) < n + 20 → vp_nar .byte (r₉ k) = r₉ k := by
  intro k hk
  by_cases c : (k : Int) < n
  · rw [h.1 k c]
    exact hb k c
  · have z : ∃ i : Nat, i < 5 ∧ (k = (n + 4 * i).toNat ∨ k = (n + 4 * i + 1).toNat ∨ k = (n + 4 * i + 2).toNat ∨ k = (n + 4 * i + 3).toNat) := ⟨((k : Int) - n).toNat / 4, by omega, by omega⟩
    obtain ⟨i, hi, z⟩ := z
    have u1 := h.2 i hi
    rcases z with z | z | z | z <;> rw [z]
    · rw [u1.1]; exact zb_nar
    · rw [u1.2.1]; exact zb_nar
    · rw [u1.2.2.1]; exact zb_nar
    · rw [u1.2.2.2]; exact zb_nar
theorem sr_put {m : Nat → Nat → Int32} {l1 : Int32} {q : Int} (h : ∀ k : Nat, (k : Int) < l1.toInt → m 96 k = m 95 k) (b : vp_nar .byte (m 95 l1.toNatClampNeg) = m 95 l1.toNatClampNeg) (h0 : 0 ≤ l1.toInt) (hq : q = l1.toInt + 1) : ∀ k : Nat, (k : Int) < q → ma_u m 96 l1.toNatClampNeg (vp_nar .byte (m 95 l1.toNatClampNeg)) 96 k = m 95 k := by
  intro k hk
  show (if 96 = 96 ∧ k = l1.toNatClampNeg then _ else m 96 k) = _
  have e : ((l1.toNatClampNeg : Nat) : Int) = l1.toInt := tn_cast h0
  by_cases c : k = l1.toNatClampNeg
  · rw [if_pos ⟨rfl, c⟩, b, c]
  · rw [if_neg (fun z => c z.2)]
    exact h k (by omega)

/-! from 95.d9 -/
/-! what the reference's readers answered, closed (the arithmetic is not to take them apart) -/
def zNU (v : Int32) (x z b s : Int) : Prop := (v.toInt = 1 ∧ x = z) ∨ (v.toInt = 0 ∧ z = -1 ∧ b = s)
def zFO (v : Int32) (x z b s : Int) : Prop := (v.toInt = 1 ∧ x = z ∧ 0 ≤ x) ∨ (v.toInt = 0 ∧ z = -1 ∧ b = s)
def zRPr (v : Int32) (b Z : Int) (J : Prop) : Prop := (v.toInt = 0 ∧ -1 - b = Z) ∨ (v.toInt = 1 ∧ J)
def zZW (v : Int32) (P : Prop) : Prop := (v = 1 ∧ P) ∨ (v = 0 ∧ ¬ P)
section NU
variable {v : Int32} {x z b s Z : Int} {J : Prop}
theorem NU_ok (h : zNU v x z b s) (hv : v.toInt ≠ 0) : x = z := h.elim (fun q => q.2) (fun q => absurd q.1 hv)
theorem NU_no (h : zNU v x z b s) (hv : v.toInt = 0) : z = -1 := by
  rcases h with h | h
  · omega
  · exact h.2.1
theorem NU_br (h : zNU v x z b s) (hv : v.toInt = 0) : b = s := by
  rcases h with h | h
  · omega
  · exact h.2.2
theorem FO_ok (h : zFO v x z b s) (hv : v.toInt ≠ 0) : x = z ∧ 0 ≤ x := h.elim (fun q => q.2) (fun q => absurd q.1 hv)
theorem FO_no (h : zFO v x z b s) (hv : v.toInt = 0) : z = -1 := by
  rcases h with h | h
  · omega
  · exact h.2.1
theorem FO_br (h : zFO v x z b s) (hv : v.toInt = 0) : b = s := by
  rcases h with h | h
  · omega
  · exact h.2.2
theorem RP_no (h : zRPr v b Z J) (hv : v.toInt = 0) : -1 - b = Z := by
  rcases h with h | h
  · exact h.2
  · omega
theorem RP_ok (h : zRPr v b Z J) (hv : v.toInt ≠ 0) : J := h.elim (fun q => absurd q.1 hv) (fun q => q.2)
end NU
theorem hp_sub {s : Int32} {Z : Int} (r : -1 - s.toInt = Z) (h0 : 0 ≤ s.toInt) (h1 : s.toInt ≤ 100) : ((-1 : Int32) - s).toInt = Z := by
  have l : (-1 : Int32).toInt = -1 := rfl
  have e : ((-1 : Int32) - s).toInt = (-1 : Int32).toInt - s.toInt := i_sub (by omega) (by omega)
  rw [e, l]
  exact r

/-! from 95.e00 -/
/-! the reference: texts (written by wip/tools/gen94n.py) -/
theorem lp_173n_46 {X : Nat × (Nat → Int32)} {P : Option ma_V → (Nat → Nat → Int32) → Prop} {m0 : Nat → Nat → Int32} (h0 : zV m0) (K : ∀ v m₉, zF wr_173 m0 m₉ → zV m₉ → (v = 0 ∨ v = 1) → ((m₉ 94 67).toInt ≤ (m₉ 94 4).toInt) → ((m₉ 94 68).toInt + (m₉ 94 69).toInt = (m₉ 94 67).toInt) → ((v.toInt = 1 ∧ 1 ≤ (m₉ 94 69).toInt) ∨ (v.toInt = 0 ∧ (m₉ 94 69).toInt = 0)) → ((m₉ 94 68).toInt = tk true (m₉ 96) (m₉ 94 4).toInt (m0 94 67).toInt) → ((m₉ 94 67).toInt = tk false (m₉ 96) (m₉ 94 4).toInt (m₉ 94 68).toInt) → P (some (.inl v)) m₉) : ∀ (n : Nat) (m : Nat → Nat → Int32) , ((m 94 4).toInt - (m 94 67).toInt).toNat = n → zF wr_173 m0 m → zV m → ((m 94 67).toInt ≤ (m 94 4).toInt) → ((m 94 68).toInt ≤ (m 94 67).toInt) → ((m 94 68).toInt = tk true (m 96) (m 94 4).toInt (m0 94 67).toInt) → (tk false (m 96) (m 94 4).toInt (m 94 67).toInt = tk false (m 96) (m 94 4).toInt (m 94 68).toInt) → zm X 0 0 173 46 [(0, .inr (.inr (some 94)))] m P := by
  intro n
  induction n using Nat.strongRecOn with
  | _ n IH =>
    intro m  hmu hF hV hi0 hi1 r_TS r_TB
    refine g_173_46  ?_
    have f1 : 0 ≤ (m 94 67).toInt ∧ (m 94 67).toInt ≤ 100 := rs_94_67 (m := m) hV
    have f2 : 0 ≤ (m 94 4).toInt ∧ (m 94 4).toInt ≤ 100 := rs_94_4 (m := m) hV
    have f3 : 0 ≤ (m 94 68).toInt ∧ (m 94 68).toInt ≤ 100 := rs_94_68 (m := m) hV
    refine zd (fun (h4 : (m 94 4) ≤ (m 94 67)) => ?_) (fun (h4 : ¬ (m 94 4) ≤ (m 94 67)) => ?_)
    · skip
      have g5 := i_le h4
      first | have e6 : ((m 94 67) - (m 94 68)).toInt = (m 94 67).toInt - (m 94 68).toInt := i_sub (by omega) (by omega) | have b7 := i_bd ((m 94 67) - (m 94 68))
      have li8 : (0 : Int32).toInt = 0 := rfl
      refine zd (fun (h9 : ((m 94 67) - (m 94 68)) ≤ (0 : Int32)) => ?_) (fun (h9 : ¬ ((m 94 67) - (m 94 68)) ≤ (0 : Int32)) => ?_)
      · skip
        have g10 := i_le h9
        have hV11 : zV (ma_u m 94 69 ((m 94 67) - (m 94 68))) := us_94_69 hV (by omega) (by omega)
        exact K ((0 : Int32)) _ (zF_u hF rfl) hV11 (by decide) (show (m 94 67).toInt ≤ (m 94 4).toInt from by omega) (show (m 94 68).toInt + ((m 94 67) - (m 94 68)).toInt = (m 94 67).toInt from by omega) (show ((0 : Int32).toInt = 1 ∧ 1 ≤ ((m 94 67) - (m 94 68)).toInt) ∨ ((0 : Int32).toInt = 0 ∧ ((m 94 67) - (m 94 68)).toInt = 0) from by omega) (show (m 94 68).toInt = tk true (m 96) (m 94 4).toInt (m0 94 67).toInt from by first | (exact r_TS) | (exfalso; omega; done) | (exfalso; contradiction; done)) (show (m 94 67).toInt = tk false (m 96) (m 94 4).toInt (m 94 68).toInt from by first | (exact ((tk_e (by omega)).symm.trans r_TB)) | (exact ((tk_w0 (x := (m 96 (m 94 67).toNatClampNeg)) rfl (by assumption)).symm.trans r_TB)) | (exfalso; omega; done) | (exfalso; contradiction; done))
      · skip
        have g12 := i_nle h9
        have hV13 : zV (ma_u m 94 69 ((m 94 67) - (m 94 68))) := us_94_69 hV (by omega) (by omega)
        have li14 : (1 : Int32).toInt = 1 := rfl
        exact K ((1 : Int32)) _ (zF_u hF rfl) hV13 (by decide) (show (m 94 67).toInt ≤ (m 94 4).toInt from by omega) (show (m 94 68).toInt + ((m 94 67) - (m 94 68)).toInt = (m 94 67).toInt from by omega) (show ((1 : Int32).toInt = 1 ∧ 1 ≤ ((m 94 67) - (m 94 68)).toInt) ∨ ((1 : Int32).toInt = 0 ∧ ((m 94 67) - (m 94 68)).toInt = 0) from by omega) (show (m 94 68).toInt = tk true (m 96) (m 94 4).toInt (m0 94 67).toInt from by first | (exact r_TS) | (exfalso; omega; done) | (exfalso; contradiction; done)) (show (m 94 67).toInt = tk false (m 96) (m 94 4).toInt (m 94 68).toInt from by first | (exact ((tk_e (by omega)).symm.trans r_TB)) | (exact ((tk_w0 (x := (m 96 (m 94 67).toNatClampNeg)) rfl (by assumption)).symm.trans r_TB)) | (exfalso; omega; done) | (exfalso; contradiction; done))
    · skip
      have g15 := i_nle h4
      have hg16 : (0 ≤ (m 94 67) ∧ (m 94 67).toNatClampNeg < 100) := i_ix (by omega) (by omega)
      refine ⟨hg16, ?_⟩
      have b17 := i_bd (m 96 (m 94 67).toNatClampNeg)
      have li18 : (32 : Int32).toInt = 32 := rfl
      refine zd (fun (h19 : (m 96 (m 94 67).toNatClampNeg) = (32 : Int32)) => ?_) (fun (h19 : ¬ (m 96 (m 94 67).toNatClampNeg) = (32 : Int32)) => ?_)
      · skip
        have g20 := i_eq h19
        first | have e21 : ((m 94 67) - (m 94 68)).toInt = (m 94 67).toInt - (m 94 68).toInt := i_sub (by omega) (by omega) | have b22 := i_bd ((m 94 67) - (m 94 68))
        have li23 : (0 : Int32).toInt = 0 := rfl
        refine zd (fun (h24 : ((m 94 67) - (m 94 68)) ≤ (0 : Int32)) => ?_) (fun (h24 : ¬ ((m 94 67) - (m 94 68)) ≤ (0 : Int32)) => ?_)
        · skip
          have g25 := i_le h24
          have hV26 : zV (ma_u m 94 69 ((m 94 67) - (m 94 68))) := us_94_69 hV (by omega) (by omega)
          exact K ((0 : Int32)) _ (zF_u hF rfl) hV26 (by decide) (show (m 94 67).toInt ≤ (m 94 4).toInt from by omega) (show (m 94 68).toInt + ((m 94 67) - (m 94 68)).toInt = (m 94 67).toInt from by omega) (show ((0 : Int32).toInt = 1 ∧ 1 ≤ ((m 94 67) - (m 94 68)).toInt) ∨ ((0 : Int32).toInt = 0 ∧ ((m 94 67) - (m 94 68)).toInt = 0) from by omega) (show (m 94 68).toInt = tk true (m 96) (m 94 4).toInt (m0 94 67).toInt from by first | (exact r_TS) | (exfalso; omega; done) | (exfalso; contradiction; done)) (show (m 94 67).toInt = tk false (m 96) (m 94 4).toInt (m 94 68).toInt from by first | (exact ((tk_e (by omega)).symm.trans r_TB)) | (exact ((tk_w0 (x := (m 96 (m 94 67).toNatClampNeg)) rfl (by assumption)).symm.trans r_TB)) | (exfalso; omega; done) | (exfalso; contradiction; done))
        · skip
          have g27 := i_nle h24
          have hV28 : zV (ma_u m 94 69 ((m 94 67) - (m 94 68))) := us_94_69 hV (by omega) (by omega)
          have li29 : (1 : Int32).toInt = 1 := rfl
          exact K ((1 : Int32)) _ (zF_u hF rfl) hV28 (by decide) (show (m 94 67).toInt ≤ (m 94 4).toInt from by omega) (show (m 94 68).toInt + ((m 94 67) - (m 94 68)).toInt = (m 94 67).toInt from by omega) (show ((1 : Int32).toInt = 1 ∧ 1 ≤ ((m 94 67) - (m 94 68)).toInt) ∨ ((1 : Int32).toInt = 0 ∧ ((m 94 67) - (m 94 68)).toInt = 0) from by omega) (show (m 94 68).toInt = tk true (m 96) (m 94 4).toInt (m0 94 67).toInt from by first | (exact r_TS) | (exfalso; omega; done) | (exfalso; contradiction; done)) (show (m 94 67).toInt = tk false (m 96) (m 94 4).toInt (m 94 68).toInt from by first | (exact ((tk_e (by omega)).symm.trans r_TB)) | (exact ((tk_w0 (x := (m 96 (m 94 67).toNatClampNeg)) rfl (by assumption)).symm.trans r_TB)) | (exfalso; omega; done) | (exfalso; contradiction; done))
      · skip
        have g30 := i_ne h19
        first | have e32 : ((m 94 67) + (1 : Int32)).toInt = (m 94 67).toInt + (1) := i_addk rfl (by omega) (by omega) | have b33 := i_bd ((m 94 67) + (1 : Int32))
        have hV31 : zV (ma_u m 94 67 ((m 94 67) + (1 : Int32))) := us_94_67 hV (by omega) (by omega)
        exact IH ((m 94 4).toInt - ((m 94 67) + (1 : Int32)).toInt).toNat (by omega) _  rfl (zF_u hF rfl) hV31 (show ((m 94 67) + (1 : Int32)).toInt ≤ (m 94 4).toInt from by omega) (show (m 94 68).toInt ≤ ((m 94 67) + (1 : Int32)).toInt from by omega) r_TS (show tk false (m 96) (m 94 4).toInt ((m 94 67) + (1 : Int32)).toInt = tk false (m 96) (m 94 4).toInt (m 94 68).toInt from by first | (exact rfl) | (exact (tk_w1 (p := (m 94 67).toInt) (x := (m 96 (m 94 67).toNatClampNeg)) (by omega) rfl (by assumption) (by omega)).symm.trans r_TB) | (exfalso; omega; done) | (exfalso; contradiction; done))
theorem lp_173n_0 {X : Nat × (Nat → Int32)} {P : Option ma_V → (Nat → Nat → Int32) → Prop} {m0 : Nat → Nat → Int32} (h0 : zV m0) (K : ∀ v m₉, zF wr_173 m0 m₉ → zV m₉ → (v = 0 ∨ v = 1) → ((m₉ 94 67).toInt ≤ (m₉ 94 4).toInt) → ((m₉ 94 68).toInt + (m₉ 94 69).toInt = (m₉ 94 67).toInt) → ((v.toInt = 1 ∧ 1 ≤ (m₉ 94 69).toInt) ∨ (v.toInt = 0 ∧ (m₉ 94 69).toInt = 0)) → ((m₉ 94 68).toInt = tk true (m₉ 96) (m₉ 94 4).toInt (m0 94 67).toInt) → ((m₉ 94 67).toInt = tk false (m₉ 96) (m₉ 94 4).toInt (m₉ 94 68).toInt) → P (some (.inl v)) m₉) : ∀ (n : Nat) (m : Nat → Nat → Int32) , ((m 94 4).toInt - (m 94 67).toInt).toNat = n → zF wr_173 m0 m → zV m → ((m 94 67).toInt ≤ (m 94 4).toInt) → (tk true (m 96) (m 94 4).toInt (m 94 67).toInt = tk true (m 96) (m 94 4).toInt (m0 94 67).toInt) → zm X 0 0 173 0 [(0, .inr (.inr (some 94)))] m P := by
  intro n
  induction n using Nat.strongRecOn with
  | _ n IH =>
    intro m  hmu hF hV hi0 r_TA
    refine g_173_0  ?_
    have f1 : 0 ≤ (m 94 67).toInt ∧ (m 94 67).toInt ≤ 100 := rs_94_67 (m := m) hV
    have f2 : 0 ≤ (m 94 4).toInt ∧ (m 94 4).toInt ≤ 100 := rs_94_4 (m := m) hV
    refine zd (fun (h3 : (m 94 4) ≤ (m 94 67)) => ?_) (fun (h3 : ¬ (m 94 4) ≤ (m 94 67)) => ?_)
    · skip
      have g4 := i_le h3
      have hV5 : zV (ma_u m 94 68 (m 94 67)) := us_94_68 hV (by omega) (by omega)
      exact lp_173n_46 h0 K _ _  rfl (zF_u hF rfl) hV5 (show (m 94 67).toInt ≤ (m 94 4).toInt from by omega) (show (m 94 67).toInt ≤ (m 94 67).toInt from by omega) (show (m 94 67).toInt = tk true (m 96) (m 94 4).toInt (m0 94 67).toInt from by first | (exact ((tk_e (by omega)).symm.trans r_TA)) | (exact ((tk_b0 (x := (m 96 (m 94 67).toNatClampNeg)) rfl (by assumption)).symm.trans r_TA)) | (exfalso; omega; done) | (exfalso; contradiction; done)) (show tk false (m 96) (m 94 4).toInt (m 94 67).toInt = tk false (m 96) (m 94 4).toInt (m 94 67).toInt from by first | (exact rfl) | (exfalso; omega; done) | (exfalso; contradiction; done))
    · skip
      have g6 := i_nle h3
      have hg7 : (0 ≤ (m 94 67) ∧ (m 94 67).toNatClampNeg < 100) := i_ix (by omega) (by omega)
      refine ⟨hg7, ?_⟩
      have b8 := i_bd (m 96 (m 94 67).toNatClampNeg)
      have li9 : (32 : Int32).toInt = 32 := rfl
      refine zd (fun (h10 : (m 96 (m 94 67).toNatClampNeg) = (32 : Int32)) => ?_) (fun (h10 : ¬ (m 96 (m 94 67).toNatClampNeg) = (32 : Int32)) => ?_)
      · skip
        have g11 := i_eq h10
        first | have e13 : ((m 94 67) + (1 : Int32)).toInt = (m 94 67).toInt + (1) := i_addk rfl (by omega) (by omega) | have b14 := i_bd ((m 94 67) + (1 : Int32))
        have hV12 : zV (ma_u m 94 67 ((m 94 67) + (1 : Int32))) := us_94_67 hV (by omega) (by omega)
        exact IH ((m 94 4).toInt - ((m 94 67) + (1 : Int32)).toInt).toNat (by omega) _  rfl (zF_u hF rfl) hV12 (show ((m 94 67) + (1 : Int32)).toInt ≤ (m 94 4).toInt from by omega) (show tk true (m 96) (m 94 4).toInt ((m 94 67) + (1 : Int32)).toInt = tk true (m 96) (m 94 4).toInt (m0 94 67).toInt from by first | (exact rfl) | (exact (tk_b1 (p := (m 94 67).toInt) (x := (m 96 (m 94 67).toNatClampNeg)) (by omega) rfl (by assumption) (by omega)).symm.trans r_TA) | (exfalso; omega; done) | (exfalso; contradiction; done))
      · skip
        have g15 := i_ne h10
        have hV16 : zV (ma_u m 94 68 (m 94 67)) := us_94_68 hV (by omega) (by omega)
        exact lp_173n_46 h0 K _ _  rfl (zF_u hF rfl) hV16 (show (m 94 67).toInt ≤ (m 94 4).toInt from by omega) (show (m 94 67).toInt ≤ (m 94 67).toInt from by omega) (show (m 94 67).toInt = tk true (m 96) (m 94 4).toInt (m0 94 67).toInt from by first | (exact ((tk_e (by omega)).symm.trans r_TA)) | (exact ((tk_b0 (x := (m 96 (m 94 67).toNatClampNeg)) rfl (by assumption)).symm.trans r_TA)) | (exfalso; omega; done) | (exfalso; contradiction; done)) (show tk false (m 96) (m 94 4).toInt (m 94 67).toInt = tk false (m 96) (m 94 4).toInt (m 94 67).toInt from by first | (exact rfl) | (exfalso; omega; done) | (exfalso; contradiction; done))
theorem sp_173n {X : Nat × (Nat → Int32)} {P : Option ma_V → (Nat → Nat → Int32) → Prop} {m : Nat → Nat → Int32}  (hV : zV m) (hpre0 : (m 94 67).toInt ≤ (m 94 4).toInt) (KZ : ∀ v m₉, zV (zov wr_173 m m₉) → (v = 0 ∨ v = 1) → ((m₉ 94 67).toInt ≤ (m 94 4).toInt) → ((m₉ 94 68).toInt + (m₉ 94 69).toInt = (m₉ 94 67).toInt) → ((v.toInt = 1 ∧ 1 ≤ (m₉ 94 69).toInt) ∨ (v.toInt = 0 ∧ (m₉ 94 69).toInt = 0)) → ((m₉ 94 68).toInt = tk true (m 96) (m 94 4).toInt (m 94 67).toInt) → ((m₉ 94 67).toInt = tk false (m 96) (m 94 4).toInt (m₉ 94 68).toInt) → P (some (.inl v)) (zov wr_173 m m₉)) : zm X 0 0 173 0 [(0, .inr (.inr (some 94)))] m P := by
  have K : ∀ v m₉, zF wr_173 m m₉ → zV m₉ → (v = 0 ∨ v = 1) → ((m₉ 94 67).toInt ≤ (m₉ 94 4).toInt) → ((m₉ 94 68).toInt + (m₉ 94 69).toInt = (m₉ 94 67).toInt) → ((v.toInt = 1 ∧ 1 ≤ (m₉ 94 69).toInt) ∨ (v.toInt = 0 ∧ (m₉ 94 69).toInt = 0)) → ((m₉ 94 68).toInt = tk true (m₉ 96) (m₉ 94 4).toInt (m 94 67).toInt) → ((m₉ 94 67).toInt = tk false (m₉ 96) (m₉ 94 4).toInt (m₉ 94 68).toInt) → P (some (.inl v)) m₉ := by
    intro v m₉ hf z q0 q1 q2 q3 q4 q5
    have e := zov_eq hf
    rw [e] at z ⊢
    try rw [e] at q0
    try rw [e] at q1
    try rw [e] at q2
    try rw [e] at q3
    try rw [e] at q4
    try rw [e] at q5
    exact KZ v m₉ z q0 q1 q2 q3 q4 q5
  have f1 : 0 ≤ (m 94 67).toInt ∧ (m 94 67).toInt ≤ 100 := rs_94_67 (m := m) hV
  have f2 : 0 ≤ (m 94 4).toInt ∧ (m 94 4).toInt ≤ 100 := rs_94_4 (m := m) hV
  exact lp_173n_0 hV K _ _  rfl zF_rfl hV (show (m 94 67).toInt ≤ (m 94 4).toInt from by omega) (show tk true (m 96) (m 94 4).toInt (m 94 67).toInt = tk true (m 96) (m 94 4).toInt (m 94 67).toInt from by first | (exact rfl) | (exfalso; omega; done) | (exfalso; contradiction; done))

