/-! A TEXT IS READ: all but the house's own cells stays -/
def zFm (I : Nat → Nat → Int32) (L : Nat → Nat → Int64) (R : Nat → Option Nat) (S : ma_S) : Prop := mR S 70 = R ∧ mL S = L ∧ ∀ c k, 69 ≤ c → mI S c k = I c k
section FM
variable {I : Nat → Nat → Int32} {L : Nat → Nat → Int64} {R : Nat → Option Nat} {S S0 : ma_S} {c k n W : Nat} {x : Int32} {ab : Nat → Nat → Int32}
theorem fn9_0 : zFm (mI S) (mL S) (mR S 70) S := ⟨rfl, rfl, fun _ _ _ => rfl⟩
theorem fn9_p (h : zFm I L R S) (hc : c < 69) : zFm I L R (ma_put S c k (.inl x)) := ⟨h.1, h.2.1, fun c' k' h1 => by
  show (if c' = c ∧ k' = k then x else mI S c' k') = I c' k'
  rw [if_neg (by omega)]
  exact h.2.2 c' k' h1⟩
theorem fn9_aS (h : zFm (mI S0) (mL S0) (mR S0 70) S) (hR : ∀ n b, mR S0 70 n = some b → 126 ≤ b) : aS 88 S = aS 88 S0 := by
  unfold aS
  rw [h.1, h.2.1]
  funext c1 k1
  by_cases b : zrl c1 k1 = true
  · have w := zcw_lt (W := 88) (Or.inr rfl) b
    have p := zrl_p b
    rw [aF_I b, aF_I b]
    refine h.2.2 _ _ ?_
    unfold zcw
    split <;> omega
  · unfold aF
    rw [if_neg b, if_neg b]
    split
    · rfl
    · split
      · rfl
      · split
        · split
          · unfold aTf
            split
            · cases e : mR S0 70 k1 with
              | none => rfl
              | some q =>
                have := hR _ _ e
                exact h.2.2 q _ (by omega)
            · rfl
          · rfl
        · rfl
theorem fn9_xB (h : zFm (mI S0) (mL S0) (mR S0 70) S) (hB : xB S0 (mR S0 70)) : xB S (mR S 70) := ⟨rfl, fun n t hn e => by
  rw [h.1] at e
  have q := hB.2 n t hn e
  exact ⟨q.1, by rw [h.2.2 t 0 (by omega)]; exact q.2⟩⟩
theorem aS_64 {q : Option Nat} : aS W (ma_put S 64 11 (.inr (.inr q))) = aS W S := rfl
theorem xB_64 {q : Option Nat} (h : xB S (mR S 70)) : xB (ma_put S 64 11 (.inr (.inr q))) (mR (ma_put S 64 11 (.inr (.inr q))) 70) := h
theorem aS_n0 : aS W (ma_put S 70 n (.inr (.inr none))) = zNo (aS W S) n := by
  have e : mR (ma_put S 70 n (.inr (.inr none))) 70 = zRu (mR S 70) n none := by
    funext k'
    show (if 70 = 70 ∧ k' = n then none else mR S 70 k') = if k' = n then none else mR S 70 k'
    by_cases z : k' = n
    · rw [if_pos ⟨rfl, z⟩, if_pos z]
    · rw [if_neg (fun q => z q.2), if_neg z]
  unfold aS
  rw [e]
  exact aF_R (W := W) (I := mI S) (R := mR S 70) (L := mL S) (n := n)
def zNt (S : ma_S) (p : Int) : Prop := ∀ n : Nat, (n : Int) < p → mR S 70 n = none
theorem Nt_0 : zNt S 0 := fun n h => by omega
theorem Nt_s {j : Int32} (h : zNt S j.toInt) (h0 : 0 ≤ j.toInt) (h1 : j.toInt < 2147483647) : zNt (ma_put S 70 j.toNatClampNeg (.inr (.inr none))) (j + 1).toInt := fun n hn => by
  have e := i_p1 h1
  have e2 := tn_cast h0
  show (if 70 = 70 ∧ n = j.toNatClampNeg then none else mR S 70 n) = none
  by_cases z : n = j.toNatClampNeg
  · rw [if_pos ⟨rfl, z⟩]
  · rw [if_neg (fun q => z q.2)]
    exact h n (by omega)
theorem Nt_e (h : zNt S 512) : xB S (mR S 70) := ⟨rfl, fun n t hn e => by
  rw [h n (by omega)] at e
  cases e⟩
end FM
