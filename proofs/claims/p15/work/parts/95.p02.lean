/-! SWEEP and COUNTS: the class's heap behind what is no matter of it -/
section E2
variable {S S' : ma_S} {f : Nat → Nat → Int32} {r : Nat → Nat → Option Nat} {C Z N P : Nat} {m' a b : Nat → Nat → Int32} {K : Nat → Int32} {B : Int}
theorem aF_c5 {I I' : Nat → Nat → Int32} {R : Nat → Option Nat} {L L' : Nat → Nat → Int64} (h : ∀ c k, c < 94 ∨ 124 < c → I c k = I' c k) (hL : ∀ c, 126 ≤ c → L c 3 = L' c 3) (hR : ∀ n b, R n = some b → 126 ≤ b) : aF 75 I R L = aF 75 I' R L' := by
  funext c1 k1
  by_cases b : zrl c1 k1 = true
  · have p := zrl_p b
    rw [aF_I b, aF_I b]
    refine h _ _ (Or.inl ?_)
    unfold zcw
    split <;> omega
  · unfold aF
    rw [if_neg b, if_neg b]
    split
    · rfl
    · split
      · rfl
      · split
        · split
          · unfold aTf
            split
            · cases e : R k1 with
              | none => rfl
              | some q =>
                have := hR _ _ e
                exact h q _ (Or.inr (by omega))
            · rfl
          · rfl
        · unfold aTr
          split
          · cases e : R (c1 - 1000) with
            | none => rfl
            | some q =>
              show zbit (L q 3) _ = zbit (L' q 3) _
              rw [hL q (hR _ _ e)]
          · rfl
theorem zf_cg (hP : P < 94) (h : ∀ c k, c < 94 ∨ 124 < c → m' c k = mI S c k) : zfP P m' = zfP P (mI S) := by
  funext j
  unfold zfP
  rw [h 79 _ (Or.inl (by decide)), h P _ (Or.inl hP)]
theorem T_cg {R : Nat → Option Nat} (ha : aS 75 S' = aS 75 S) (hf : zfP P (mI S') = zfP P (mI S)) : aT P S' = aT P S := by
  unfold aT
  rw [ha, hf]
theorem S_o5 (h : zA f r C Z N S) {x : Int64} : aS 75 (ma_put S 125 0 (.inr (.inl x))) = aS 75 S := aF_c5 (fun _ _ _ => rfl) (fun c hc => by
  show (if c = 125 ∧ 3 = 0 then x else mL S c 3) = mL S c 3
  rw [if_neg (by omega)]) (h70 h)
theorem T_o5 (h : zA f r C Z N S) {x : Int64} : aT P (ma_put S 125 0 (.inr (.inl x))) = aT P S := T_cg (R := fun _ => none) (S_o5 h) rfl
theorem T_zst (hP : P < 94) (h : zA f r C Z N S) (ho : ∀ c k, c < 94 ∨ 124 < c → m' c k = mI S c k) : aT P (zst S m') = aT P S := T_cg (R := fun _ => none) (aF_c5 ho (fun _ _ => rfl) (fun n b e => h70 (S := S) h n b e)) (zf_cg hP ho)
theorem kC_zst (h : zA f r C Z N S) (ho : ∀ c k, c < 94 ∨ 124 < c → m' c k = mI S c k) : kC (zst S m') = kC S := by
  funext k
  show aTf m' (mR S 70) 6 k = aTf (mI S) (mR S 70) 6 k
  unfold aTf
  split
  · cases e : mR S 70 k with
    | none => rfl
    | some q =>
      have := h70 (S := S) h _ _ e
      exact ho q 6 (Or.inr (by omega))
  · rfl
/-- kept whole -/
def zKp (S S' : ma_S) : Prop := aS 88 S' = aS 88 S ∧ (xB S (mR S 70) → xB S' (mR S' 70)) ∧ (aT 79 S' = aT 79 S) ∧ (aT 84 S' = aT 84 S) ∧ kC S' = kC S
theorem fm_75 (h : zFm (mI S) (mL S) (mR S 70) S') (hR : ∀ n b, mR S 70 n = some b → 126 ≤ b) : aS 75 S' = aS 75 S := by
  unfold aS
  rw [h.1, h.2.1]
  funext c1 k1
  by_cases b : zrl c1 k1 = true
  · have w := zcw_lt (W := 75) (Or.inl rfl) b
    have p := zrl_p b
    rw [aF_I b, aF_I b]
    refine h.2.2 _ _ ?_
    unfold zcw
    split <;> omega
  · unfold aF
    rw [if_neg b, if_neg b]
    split
    · rfl
    · split
      · rfl
      · split
        · split
          · unfold aTf
            split
            · cases e : mR S 70 k1 with
              | none => rfl
              | some q =>
                have := hR _ _ e
                exact h.2.2 q _ (by omega)
            · rfl
          · rfl
        · rfl
theorem fm_kp (h : zFm (mI S) (mL S) (mR S 70) S') (hA : zA f r C Z N S) : zKp S S' := by
  have hR := h70 hA
  have e5 := fm_75 h hR
  have zf : ∀ P, 69 ≤ P → zfP P (mI S') = zfP P (mI S) := fun P hP => by
    funext j
    unfold zfP
    rw [h.2.2 79 _ (by decide), h.2.2 P _ hP]
  refine ⟨fn9_aS h hR, fun b => fn9_xB h b, T_cg (R := fun _ => none) e5 (zf 79 (by decide)), T_cg (R := fun _ => none) e5 (zf 84 (by decide)), ?_⟩
  funext k
  unfold kC
  rw [h.1]
  unfold aTf
  split
  · cases e : mR S 70 k with
    | none => rfl
    | some q =>
      have := hR _ _ e
      exact h.2.2 q 6 (by omega)
  · rfl
theorem kp_o5 {f' : Nat → Nat → Int32} {r' : Nat → Nat → Option Nat} {C' Z' N' : Nat} (h : zKp S S') (hA : zA f' r' C' Z' N' S') {x : Int64} : zKp S (ma_put S' 125 0 (.inr (.inl x))) := ⟨(aS_o hA).trans h.1, fun b => h.2.1 b, (T_o5 hA).trans h.2.2.1, (T_o5 hA).trans h.2.2.2.1, h.2.2.2.2⟩
theorem C_up (h : cC a [] K B) : cC a [] K (B + 1) := by
  obtain ⟨q1, q2, q3, q5, qk⟩ := C0_un h
  refine C0_mk q1 q2 (fun n hn => ?_) q5 qk
  have q := q3 n hn
  exact ⟨q.1, by omega⟩
theorem I_q (h : zQ a b) (hI : qI a) (h6 : 0 ≤ (b 87 6).toInt) : qI b := by
  have rr : ∀ c, c ≠ 75 → c ≠ 76 → c ≠ 77 → c ≠ 87 → b c = a c := fun c h1 h2 h3 h4 => funext (fun k => (Q_c h h1 h2 h3 h4).symm)
  have e126 := rr 126 (by decide) (by decide) (by decide) (by decide)
  have e128 := rr 128 (by decide) (by decide) (by decide) (by decide)
  have e130 := rr 130 (by decide) (by decide) (by decide) (by decide)
  have e71 := rr 71 (by decide) (by decide) (by decide) (by decide)
  have e69 := rr 69 (by decide) (by decide) (by decide) (by decide)
  have k0 : b 87 0 = a 87 0 := (Q_k h (by decide)).symm
  have k2 : b 87 2 = a 87 2 := (Q_k h (by decide)).symm
  have al : xAl b = xAl a := by
    funext n
    unfold xAl
    rw [e126]
  obtain ⟨i1, i2, i3, i4, i5, i6⟩ := hI
  refine ⟨?_, ?_, ?_, ?_, ?_, ?_⟩
  · unfold qI1
    rw [al, e69, e130, e128, k0, e71]
    exact i1
  · unfold qI2
    rw [al, e130, e128]
    exact i2
  · unfold qI3
    rw [al, e130, e128, e71]
    exact i3
  · unfold qI4 qGd
    rw [al, e69, e130, e128, k0, k2]
    exact ⟨i4.1, i4.2.1, i4.2.2.1, i4.2.2.2.1, i4.2.2.2.2.1, h6⟩
  · rw [e69, i5, Su_z (a := a) (b := b) 512 (fun x _ => ⟨by rw [e126], by rw [e128]⟩)]
  · intro n hn k
    rw [al] at hn
    rw [rr (1000 + n) (by omega) (by omega) (by omega) (by omega)]
    exact i6 n hn k
theorem T_6 : 0 ≤ (aT P S 87 6).toInt := by
  rw [T_7]
  show 0 ≤ (if 6 < 3 then _ else (0 : Int32)).toInt
  rw [if_neg (by decide)]
  decide
end E2
