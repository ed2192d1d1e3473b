/-! the reference opens a heap (written by wip/tools/gen15w.py) -/
/-! what the text says of the moving policies -/
def qT1 (K ro : Int) (t : Nat → Int32) (n : Int) : Prop := (K = 1 ∨ K = 2) → ro = zVal t n 0 1
def qT3 (K yo ol ag cd : Int) (t : Nat → Int32) (n : Int) : Prop := K = 3 → (yo = zVal t n 0 1 ∧ ol = zVal t n 0 2 ∧ ag = zVal t n 1 3 ∧ cd = zVal t n 2 4)
def qTa (K ro e : Int) (t : Nat → Int32) (n : Int) : Prop := K = 6 → (ro = zVal t n 0 1 ∧ e = zte t n 1)
def qT6 (K ro si sh : Int) (t : Nat → Int32) (n : Int) : Prop := K = 6 → (ro = zVal t n 0 1 ∧ si = zV4 t n ∧ sh = zVal t n 5 3)
theorem zV4_cg {t t' : Nat → Int32} {n : Int} (h : ∀ k : Nat, (k : Int) < n → t k = t' k) (hn : 0 ≤ n) (h3 : n ≤ 100) : zV4 t n = zV4 t' n := by
  have q := zt_cg h hn 2
  unfold zV4
  rw [zVal_cg h hn h3, q.1, q.2.1]
  exact zPart_cg h q.2.2.1 q.2.2.2.1 q.2.2.2.2 h3
theorem jm_cg {t t' : Nat → Int32} {n K ro yo ol ag cd si sh : Int} (h : qT1 K ro t n ∧ qT3 K yo ol ag cd t n ∧ qT6 K ro si sh t n) (hs : ∀ k : Nat, (k : Int) < n → t k = t' k) (hn : 0 ≤ n) (h3 : n ≤ 100) : qT1 K ro t' n ∧ qT3 K yo ol ag cd t' n ∧ qT6 K ro si sh t' n := by
  obtain ⟨h1, h2, h6⟩ := h
  unfold qT1 qT3 qT6 at *
  rw [← zVal_cg (c := 0) (k := 1) hs hn h3, ← zVal_cg (c := 0) (k := 2) hs hn h3, ← zVal_cg (c := 1) (k := 3) hs hn h3, ← zVal_cg (c := 2) (k := 4) hs hn h3, ← zVal_cg (c := 5) (k := 3) hs hn h3, ← zV4_cg hs hn h3]
  exact ⟨h1, h2, h6⟩
