/-! THE VALUE OF A RUN: what a run of the small machine comes to, without fuel; its equations -/
abbrev ma_R : Type := (Option ma_V ⊕ (Nat × Nat)) × ma_S
def ma_body (X : Nat × (Nat → Int32)) (rc : Nat → Nat → Nat → Nat → ma_L → List ma_V → ma_S → Option ma_R) (d w M pc : Nat) (L : ma_L) (st : List ma_V) (S : ma_S) : Option ma_R := match ma_md M with
  | none => none
  | some (o, y, cc, nL, ret) => match decode cc pc with
    | .error _ => none
    | .ok (i, n) => match ma_one X o (decide (y.name = "<init>")) nL d w i n pc L st S with
      | some (pc', L', st', S') => rc d w M pc' L' st' S'
      | none => match ma_ret ret i n st with
        | some v => some (.inl v, S)
        | none => match ma_thr o cc pc with
          | some x => if 6 ≤ d ∧ ma_sz st + 81 ≤ w then some (.inr (x, pc), ma_bump S) else none
          | none => match ma_cl o i n st S with
            | none => none
            | some ((k, M'), as, rest) => match ma_md M' with
              | none => none
              | some (_, _, _, nL', _) => if 1 ≤ d ∧ 19 + nL' ≤ w ∧ ma_sz as ≤ nL' ∧ ma_sz rest ≤ 8 then (match rc (d - 1) (w - (19 + nL')) M' 0 (ma_args 0 as) [] S with
                | some (.inl v, S') => rc d w M (pc + 3) L (v.toList ++ rest) S'
                | some (.inr (x, _), S') => if k ≤ 1 then some (.inr (x, pc), S') else none
                | none => none) else none
theorem ma_run_s (X : Nat × (Nat → Int32)) (f d w M pc : Nat) (L : ma_L) (st : List ma_V) (S : ma_S) : ma_run X (f + 1) d w M pc L st S = ma_body X (ma_run X f) d w M pc L st S := rfl
theorem ma_run_up {X : Nat × (Nat → Int32)} : ∀ (f d w M pc : Nat) (L : ma_L) (st : List ma_V) (S : ma_S) (r : ma_R), ma_run X f d w M pc L st S = some r → ma_run X (f + 1) d w M pc L st S = some r := by
  intro f
  induction f with
  | zero => intro d w M pc L st S r h; cases h
  | succ f ih =>
    intro d w M pc L st S r h
    rw [ma_run_s] at h ⊢
    unfold ma_body at h ⊢
    split at h
    · cases h
    · next o y cc nL ret hmd =>
      split at h
      · cases h
      · next i n hd =>
        split at h
        · exact ih _ _ _ _ _ _ _ _ h
        · split at h
          · exact h
          · split at h
            · exact h
            · split at h
              · cases h
              · split at h
                · cases h
                · split at h
                  · next hroom =>
                    rw [if_pos hroom]
                    split at h
                    · next v2 S1 hr =>
                      rw [ih _ _ _ _ _ _ _ _ hr]
                      exact ih _ _ _ _ _ _ _ _ h
                    · next x2 px S1 hr =>
                      rw [ih _ _ _ _ _ _ _ _ hr]
                      exact h
                    · cases h
                  · cases h
theorem ma_run_le {X : Nat × (Nat → Int32)} {f g d w M pc : Nat} {L : ma_L} {st : List ma_V} {S : ma_S} {r : ma_R} (hfg : f ≤ g) (h : ma_run X f d w M pc L st S = some r) : ma_run X g d w M pc L st S = some r := by
  induction hfg with
  | refl => exact h
  | step _ ih => exact ma_run_up _ _ _ _ _ _ _ _ _ ih
theorem ma_run_one {X : Nat × (Nat → Int32)} {f g d w M pc : Nat} {L : ma_L} {st : List ma_V} {S : ma_S} {r r' : ma_R} (h : ma_run X f d w M pc L st S = some r) (h' : ma_run X g d w M pc L st S = some r') : r = r' := by
  have a := ma_run_le (Nat.le_max_left f g) h
  have b := ma_run_le (Nat.le_max_right f g) h'
  exact Option.some.inj (a.symm.trans b)
noncomputable def ma_ev (X : Nat × (Nat → Int32)) (d w M pc : Nat) (L : ma_L) (st : List ma_V) (S : ma_S) : Option ma_R :=
  haveI := Classical.propDecidable (∃ r : ma_R, ∃ f, ma_run X f d w M pc L st S = some r)
  if h : ∃ r : ma_R, ∃ f, ma_run X f d w M pc L st S = some r then some (Classical.choose h) else none
theorem ma_ev_iff {X : Nat × (Nat → Int32)} {d w M pc : Nat} {L : ma_L} {st : List ma_V} {S : ma_S} {r : ma_R} : ma_ev X d w M pc L st S = some r ↔ ∃ f, ma_run X f d w M pc L st S = some r := by
  unfold ma_ev
  constructor
  · intro h
    split at h
    · next hh =>
      obtain ⟨f, hf⟩ := Classical.choose_spec hh
      rw [Option.some.inj h] at hf
      exact ⟨f, hf⟩
    · cases h
  · intro ⟨f, hf⟩
    have hh : ∃ r : ma_R, ∃ f, ma_run X f d w M pc L st S = some r := ⟨r, f, hf⟩
    rw [dif_pos hh]
    obtain ⟨g, hg⟩ := Classical.choose_spec hh
    rw [ma_run_one hg hf]
theorem ma_ev_ext {X : Nat × (Nat → Int32)} {d w M pc : Nat} {L : ma_L} {st : List ma_V} {S : ma_S} {v : Option ma_R} (h : ∀ r, (∃ f, ma_run X f d w M pc L st S = some r) ↔ v = some r) : ma_ev X d w M pc L st S = v := by
  apply Option.ext
  intro r
  rw [ma_ev_iff]
  exact h r
section MA15
variable {X : Nat × (Nat → Int32)} {d w M pc : Nat} {L : ma_L} {st : List ma_V} {S : ma_S} {o nL : Nat} {y : MethodName} {cc : ByteArray} {ret : Option FieldType} {i : Instr} {n : Nat}
/-- a step that is no call -/
theorem ma_ev_one (hm : ma_md M = some (o, y, cc, nL, ret)) (hd : decode cc pc = .ok (i, n)) {pc' : Nat} {L' : ma_L} {st' : List ma_V} {S' : ma_S} (h : ma_one X o (decide (y.name = "<init>")) nL d w i n pc L st S = some (pc', L', st', S')) : ma_ev X d w M pc L st S = ma_ev X d w M pc' L' st' S' := by
  have key : ∀ f, ma_run X (f + 1) d w M pc L st S = ma_run X f d w M pc' L' st' S' := by
    intro f
    rw [ma_run_s]
    simp only [ma_body, hm, hd, h]
  apply ma_ev_ext
  intro r
  rw [ma_ev_iff]
  constructor
  · intro ⟨f, hf⟩
    cases f with
    | zero => cases hf
    | succ f => exact ⟨f, (key f).symm.trans hf⟩
  · intro ⟨f, hf⟩
    exact ⟨f + 1, (key f).trans hf⟩
theorem ma_ev_ret (hm : ma_md M = some (o, y, cc, nL, ret)) (hd : decode cc pc = .ok (i, n)) (h1 : ma_one X o (decide (y.name = "<init>")) nL d w i n pc L st S = none) {v : Option ma_V} (h : ma_ret ret i n st = some v) : ma_ev X d w M pc L st S = some (.inl v, S) := by
  refine ma_ev_iff.mpr ⟨1, ?_⟩
  rw [ma_run_s]
  simp only [ma_body, hm, hd, h1, h]
theorem ma_ev_thr (hm : ma_md M = some (o, y, cc, nL, ret)) (hd : decode cc pc = .ok (i, n)) (h1 : ma_one X o (decide (y.name = "<init>")) nL d w i n pc L st S = none) (h2 : ma_ret ret i n st = none) {x : Nat} (h : ma_thr o cc pc = some x) (h6 : 6 ≤ d ∧ ma_sz st + 81 ≤ w) : ma_ev X d w M pc L st S = some (.inr (x, pc), ma_bump S) := by
  refine ma_ev_iff.mpr ⟨1, ?_⟩
  rw [ma_run_s]
  simp only [ma_body, hm, hd, h1, h2, h]
  rw [if_pos h6]
/-- a call: the callee's value, then what follows -/
theorem ma_ev_call (hm : ma_md M = some (o, y, cc, nL, ret)) (hd : decode cc pc = .ok (i, n)) (h1 : ma_one X o (decide (y.name = "<init>")) nL d w i n pc L st S = none) (h2 : ma_ret ret i n st = none) (h3 : ma_thr o cc pc = none) {k M' : Nat} {as rest : List ma_V} (h4 : ma_cl o i n st S = some ((k, M'), as, rest)) {o' nL' : Nat} {y' : MethodName} {cc' : ByteArray} {ret' : Option FieldType} (hm' : ma_md M' = some (o', y', cc', nL', ret')) (hr : 1 ≤ d ∧ 19 + nL' ≤ w ∧ ma_sz as ≤ nL' ∧ ma_sz rest ≤ 8) :
    ma_ev X d w M pc L st S = (match ma_ev X (d - 1) (w - (19 + nL')) M' 0 (ma_args 0 as) [] S with
      | some (.inl v, S') => ma_ev X d w M (pc + 3) L (v.toList ++ rest) S'
      | some (.inr (x, _), S') => if k ≤ 1 then some (.inr (x, pc), S') else none
      | none => none) := by
  have key : ∀ f, ma_run X (f + 1) d w M pc L st S = (match ma_run X f (d - 1) (w - (19 + nL')) M' 0 (ma_args 0 as) [] S with
      | some (.inl v, S') => ma_run X f d w M (pc + 3) L (v.toList ++ rest) S'
      | some (.inr (x, _), S') => if k ≤ 1 then some (.inr (x, pc), S') else none
      | none => none) := by
    intro f
    rw [ma_run_s]
    simp only [ma_body, hm, hd, h1, h2, h3, h4, hm']
    rw [if_pos hr]
    rfl
  apply ma_ev_ext
  intro r
  constructor
  · intro ⟨f, hf⟩
    cases f with
    | zero => cases hf
    | succ f =>
      rw [key] at hf
      split at hf
      · next v S1 hc =>
        rw [ma_ev_iff.mpr ⟨f, hc⟩]
        exact ma_ev_iff.mpr ⟨f, hf⟩
      · next x px S1 hc =>
        rw [ma_ev_iff.mpr ⟨f, hc⟩]
        exact hf
      · cases hf
  · intro hf
    split at hf
    · next v S1 hc =>
      obtain ⟨f1, h5⟩ := ma_ev_iff.mp hc
      obtain ⟨f2, h6⟩ := ma_ev_iff.mp hf
      refine ⟨max f1 f2 + 1, ?_⟩
      rw [key, ma_run_le (Nat.le_max_left f1 f2) h5]
      exact ma_run_le (Nat.le_max_right f1 f2) h6
    · next x px S1 hc =>
      obtain ⟨f1, h5⟩ := ma_ev_iff.mp hc
      refine ⟨f1 + 1, ?_⟩
      rw [key, h5]
      exact hf
    · cases hf
end MA15
