/-! THE VALUE OF A RUN: what a run of the small machine comes to, without fuel; its equations -/
abbrev ma_R : Type := (Option ma_V ⊕ (Nat × Nat)) × ma_S
def ma_body (X : Nat × (Nat → Int32)) (rc : Nat → Nat → Nat → Nat → ma_L → List ma_V → ma_S → Option ma_R) (d w M pc : Nat) (L : ma_L) (st : List ma_V) (S : ma_S) : Option ma_R := match ma_md M with
  | none => none
  | some (o, y, cc, nL, ret) => match decode cc pc with
    | .error _ => none
    | .ok (i, n) => match ma_one X o (decide (y.name = "<init>")) nL d w i n pc L st S with
      | some (pc', L', st', S') => rc d w M pc' L' st' S'
      | none => match ma_ret ret i n st with
        | some v => some (.inl v, S)
        | none => match ma_thr o cc pc with
          | some x => if 6 ≤ d ∧ ma_sz st + 81 ≤ w then some (.inr (x, pc), ma_bump S) else none
          | none => match ma_cl o i n st S with
            | none => none
            | some ((k, M'), as, rest) => match ma_md M' with
              | none => none
              | some (_, _, _, nL', _) => if 1 ≤ d ∧ 19 + nL' ≤ w ∧ ma_sz as ≤ nL' ∧ ma_sz rest ≤ 8 then (match rc (d - 1) (w - (19 + nL')) M' 0 (ma_args 0 as) [] S with
                | some (.inl v, S') => rc d w M (pc + 3) L (v.toList ++ rest) S'
                | some (.inr (x, _), S') => if k ≤ 1 then some (.inr (x, pc), S') else none
                | none => none) else none
theorem ma_run_s (X : Nat × (Nat → Int32)) (f d w M pc : Nat) (L : ma_L) (st : List ma_V) (S : ma_S) : ma_run X (f + 1) d w M pc L st S = ma_body X (ma_run X f) d w M pc L st S := rfl
theorem ma_run_up {X : Nat × (Nat → Int32)} : ∀ (f d w M pc : Nat) (L : ma_L) (st : List ma_V) (S : ma_S) (r : ma_R), ma_run X f d w M pc L st S = some r → ma_run X (f + 1) d w M pc L st S = some r := by
  intro f
  induction f with
  | zero => intro d w M pc L st S r h; cases h
  | succ f ih =>
    intro d w M pc L st S r h
    rw [ma_run_s] at h ⊢
    unfold ma_body at h ⊢
    split at h
    · cases h
    · next o y cc nL ret hmd =>
      split at h
      · cases h
      · next i n hd =>
        split at h
        · exact ih _ _ _ _ _ _ _ _ h
        · split at h
          · exact h
          · split at h
            · exact h
            · split at h
              · cases h
              · split at h
                · cases h
                · split at h
                  · next hroom =>
                    rw [if_pos hroom]
                    split at h
                    · next v2 S1 hr =>
                      rw [ih _ _ _ _ _ _ _ _ hr]
                      exact ih _ _ _ _ _ _ _ _ h
                    · next x2 px S1 hr =>
                      rw [ih _ _ _ _ _ _ _ _ hr]
                      exact h
                    · cases h
                  · cases h
theorem ma_run_le {X : Nat × (Nat → Int32)} {f g d w M pc : Nat} {L : ma_L} {st : List ma_V} {S : ma_S} {r : ma_R} (hfg : f ≤ g) (h : ma_run X f d w M pc L st S = some r) : ma_run X g d w M pc L st S = some r := by
  induction hfg with
  | refl => exact h
  | step _ ih => exact ma_run_up _ _ _ _ _ _ _ _ _ ih
