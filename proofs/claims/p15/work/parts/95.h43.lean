/-! the reference by numbers (written by wip/tools/gen18r.py) -/
/-! A HEAP IS OPENED: what the text says of steps -/
def qPo (t : Nat → Int32) (n : Int) : Int := zPol t (Int32.ofInt (zts t n 0)) (zte t n 0 - zts t n 0)
def qV (t : Nat → Int32) (n : Int) (ro fo ra : Int) (pi : Int32) : Prop := ro = zVal t n 0 1 ∧ fo = zVal t n 6 2 ∧ ra = zVal t n 3 3 ∧ ((pi ≠ 0 ∧ zVal t n 7 4 = 0) ∨ (pi = 0 ∧ zVal t n 7 4 = 1)) ∧ 0 ≤ ra
section QH
variable {t t' : Nat → Int32} {n z e v : Int} {s pi : Int32} {k c : Nat}
theorem zt_pz (hs : s.toInt = tk true t n 0) (he : e = tk false t n s.toInt) (h : v = zPol t s z) (hz : z = e - s.toInt) : v = qPo t n := zt_p hs he (by rw [← hz]; exact h)
theorem zt_cg (h : ∀ k : Nat, (k : Int) < n → t k = t' k) (hn : 0 ≤ n) : ∀ k, zts t n k = zts t' n k ∧ zte t n k = zte t' n k ∧ 0 ≤ zts t' n k ∧ zts t' n k ≤ zte t' n k ∧ zte t' n k ≤ n := by
  have st : ∀ p : Int, 0 ≤ p → p ≤ n → tk true t n p = tk true t' n p ∧ tk false t n (tk true t n p) = tk false t' n (tk true t' n p) ∧ 0 ≤ tk true t' n p ∧ tk true t' n p ≤ tk false t' n (tk true t' n p) ∧ tk false t' n (tk true t' n p) ≤ n := fun p h0 h1 => by
    have q1 : tk true t n p = tk true t' n p := tk_cg h h0
    have q0 : p ≤ tk true t' n p := tk_lo
    have q2 : tk false t n (tk true t' n p) = tk false t' n (tk true t' n p) := tk_cg h (by omega)
    have q3 : tk true t' n p ≤ n := tk_hi h1
    have q4 : tk true t' n p ≤ tk false t' n (tk true t' n p) := tk_lo
    have q5 : tk false t' n (tk true t' n p) ≤ n := tk_hi q3
    exact ⟨q1, by rw [q1, q2], by omega, q4, q5⟩
  intro k
  induction k with
  | zero => exact st 0 (by omega) hn
  | succ k ih =>
    have q := st (zte t' n k) (by omega) ih.2.2.2.2
    show tk true t n (zte t n k) = tk true t' n (zte t' n k) ∧ tk false t n (tk true t n (zte t n k)) = tk false t' n (tk true t' n (zte t' n k)) ∧ _
    rw [ih.2.1]
    exact q
theorem zVal_cg (h : ∀ k : Nat, (k : Int) < n → t k = t' k) (hn : 0 ≤ n) (h3 : n ≤ 100) : zVal t n c k = zVal t' n c k := by
  have q := zt_cg h hn k
  unfold zVal
  rw [q.1, q.2.1]
  exact zPart_cg h q.2.2.1 q.2.2.2.1 q.2.2.2.2 h3
theorem qPo_cg (h : ∀ k : Nat, (k : Int) < n → t k = t' k) (hn : 0 ≤ n) (h3 : n ≤ 100) : qPo t n = qPo t' n := by
  have q := zt_cg h hn 0
  have e : (Int32.ofInt (zts t' n 0)).toInt = zts t' n 0 := Int32.toInt_ofInt_of_le (by have := q.2.2; omega) (by have := q.2.2; omega)
  unfold qPo
  rw [q.1, q.2.1]
  exact zPol_cg h (by have := q.2.2; omega) (by have := q.2.2; omega) h3
theorem qV_cg {ro fo ra : Int} (h : ∀ k : Nat, (k : Int) < n → t k = t' k) (hn : 0 ≤ n) (h3 : n ≤ 100) (w : qV t n ro fo ra pi) : qV t' n ro fo ra pi := by
  unfold qV at w ⊢
  rw [zVal_cg h hn h3, zVal_cg (c := 6) h hn h3, zVal_cg (c := 3) h hn h3, zVal_cg (c := 7) h hn h3] at w
  exact w
theorem J5_nn {Z K ny no ro si : Int} (h : zJ5 Z K ny no ro si) (h1 : 0 ≤ ny) (h2 : 0 ≤ no) (h3 : 0 ≤ ro) (h4 : 0 ≤ si) : 0 ≤ Z := by
  have f : ∀ a b : Int, 0 ≤ a → 0 ≤ b → 0 ≤ zFin K a b := fun a b ha hb => by
    unfold zFin
    split
    · omega
    · split
      · omega
      · split
        · exact Int.mul_nonneg (Int.ediv_nonneg ha hb) hb
        · exact ha
  rcases h with h | h | h
  · rw [h.2]
    exact f _ _ h1 h2
  · rw [h.2]
    exact f _ _ h3 h4
  · rw [h.2.2]
    exact f _ _ h3 (by omega)
theorem Fin_nn {K a b : Int} (ha : 0 ≤ a) (hb : K = 3 → 0 ≤ b) (h6 : K = 6 → 0 ≤ b) : 0 ≤ zFin K a b := by
  unfold zFin
  split
  · omega
  · split
    · rename_i w
      have := hb w
      omega
    · split
      · rename_i w
        exact Int.mul_nonneg (Int.ediv_nonneg ha (h6 w)) (h6 w)
      · exact ha
end QH
theorem jq_cg {t t' : Nat → Int32} {n K ro fo ra : Int} {pi : Int32} (h : K = qPo t n ∧ (K = 5 → qV t n ro fo ra pi)) (hs : ∀ k : Nat, (k : Int) < n → t k = t' k) (hn : 0 ≤ n) (h3 : n ≤ 100) : K = qPo t' n ∧ (K = 5 → qV t' n ro fo ra pi) := ⟨by rw [← qPo_cg hs hn h3]; exact h.1, fun w => qV_cg hs hn h3 (h.2 w)⟩
theorem qV_e {t : Nat → Int32} {n a b c a' b' c' : Int} {d d' : Int32} (h : qV t n a b c d) (h1 : a' = a) (h2 : b' = b) (h3 : c' = c) (h4 : d' = d) : qV t n a' b' c' d' := by
  rw [h1, h2, h3, h4]
  exact h
theorem mu_up {m : Nat → Nat → Int32} {c k : Nat} {x : Int32} : ma_u m c k x c = zUp (m c) k x := by
  funext j
  show (if c = c ∧ j = k then x else m c j) = if j = k then x else m c j
  by_cases h : j = k
  · rw [if_pos ⟨rfl, h⟩, if_pos h]
  · rw [if_neg (fun z => h z.2), if_neg h]
theorem fl_neg {b Z : Int} (h : -1 - b = Z) (hb : 0 ≤ b) : Z < 0 := by omega
