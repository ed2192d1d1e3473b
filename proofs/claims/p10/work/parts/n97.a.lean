/-! HOW IT BEGINS: runs that need no script, as closed terms: the kernel runs the constructors -/
def ma_tx9 (o : Nat) (i : Instr) (n : Nat) (st : List ma_V) : Option (List ma_V) := match i with
  | .getstatic x => if x = 38 then ma_tx (0, fun _ => 0) o (.getstatic x) n st else none
  | i => ma_tx (0, fun _ => 0) o i n st
def ma_one9 (o : Nat) (ini : Bool) (nL d w : Nat) (i : Instr) (n pc : Nat) (L : ma_L) (st : List ma_V) (S : ma_S) : Option (Nat × ma_L × List ma_V × ma_S) :=
  match ma_push i n L with
  | some v => some (pc + n, L, v :: st, S)
  | none => match ma_stk i n st with
    | some st₉ => some (pc + n, L, st₉, S)
    | none => match ma_sto i n nL L st with
      | some (L₉, st₉) => some (pc + n, L₉, st₉, S)
      | none => match ma_jmp i n pc st with
        | some (t, st₉) => some (t, L, st₉, S)
        | none => match ma_hp o ini i n st S with
          | some (st₉, S₉) => some (pc + n, L, st₉, S₉)
          | none => match ma_ex o i n st S with
            | some (st₉, S₉) => some (pc + n, L, st₉, S₉)
            | none => match ma_al o i n st S with
              | some (st₉, S₉) => some (pc + n, L, st₉, S₉)
              | none => match ma_pr o d w i n st S with
                | some (st₉, S₉) => some (pc + n, L, st₉, S₉)
                | none => match ma_sc (0, fun _ => 0) i n st with
                  | some _ => none
                  | none => match ma_tx9 o i n st with
                    | some st₉ => some (pc + n, L, st₉, S)
                    | none => none
section ZB1
variable {X : Nat × (Nat → Int32)} {d w M pc : Nat} {L : ma_L} {st : List ma_V} {S : ma_S} {o nL : Nat} {ini : Bool} {i : Instr} {n : Nat}
theorem ma_tx_38 : ma_tx X o (.getstatic 38) n st = ma_tx (0, fun _ => 0) o (.getstatic 38) n st := by
  match n with
  | 0 => rfl
  | 1 => rfl
  | 2 => rfl
  | 3 =>
    show (if o = 17 ∧ 38 = 38 then some (.inl 1 :: st) else if o = 17 ∧ 38 = 1053 then some (.inr (.inr (ma_fm X)) :: st) else none) = (if o = 17 ∧ 38 = 38 then some (.inl 1 :: st) else if o = 17 ∧ 38 = 1053 then some (.inr (.inr (ma_fm (0, fun _ => 0))) :: st) else none)
    rw [if_neg (c := o = 17 ∧ 38 = 1053) (by omega), if_neg (c := o = 17 ∧ 38 = 1053) (by omega)]
  | m + 4 => rfl
theorem ma_tx9_X {z : List ma_V} (h : ma_tx9 o i n st = some z) : ma_tx X o i n st = some z := by
  unfold ma_tx9 at h
  split at h
  · split at h
    · next hx =>
      subst hx
      rw [ma_tx_38]
      exact h
    · cases h
  · next hne =>
    unfold ma_tx at h ⊢
    split at h
    · exact h
    · exact h
    · next r x => exact absurd rfl (hne x)
    · exact h
    · exact h
    · cases h
/-- the script alone: nothing else does it -/
theorem ma_sc_only {z : List ma_V} (h : ma_sc X i n st = some z) : ma_ex o i n st S = none ∧ ma_al o i n st S = none ∧ ma_pr o d w i n st S = none ∧ (∃ z₉, ma_sc (0, fun _ => 0) i n st = some z₉) ∨ ma_ex o i n st S = none ∧ ma_al o i n st S = none ∧ ma_pr o d w i n st S = none ∧ i = .iaload := by
  unfold ma_sc at h
  split at h
  · exact Or.inr ⟨rfl, rfl, rfl, rfl⟩
  · exact Or.inl ⟨rfl, rfl, rfl, _, rfl⟩
  · cases h
theorem ma_one9_X {z : Nat × ma_L × List ma_V × ma_S} (h : ma_one9 o ini nL d w i n pc L st S = some z) : ma_one X o ini nL d w i n pc L st S = some z := by
  unfold ma_one9 at h
  unfold ma_one
  cases h1 : ma_push i n L with
  | some v => rw [h1] at h; exact h
  | none =>
    simp only [h1] at h ⊢
    cases h2 : ma_stk i n st with
    | some v => rw [h2] at h; exact h
    | none =>
      simp only [h2] at h ⊢
      cases h3 : ma_sto i n nL L st with
      | some v => rw [h3] at h; exact h
      | none =>
        simp only [h3] at h ⊢
        cases h4 : ma_jmp i n pc st with
        | some v => rw [h4] at h; exact h
        | none =>
          simp only [h4] at h ⊢
          cases h5 : ma_hp o ini i n st S with
          | some v => rw [h5] at h; exact h
          | none =>
            simp only [h5] at h ⊢
            cases h6 : ma_sc X i n st with
            | some v =>
              rcases ma_sc_only (o := o) (S := S) (d := d) (w := w) h6 with ⟨a1, a2, a3, z₉, a4⟩ | ⟨a1, a2, a3, a4⟩
              · simp only [a1, a2, a3, a4] at h
                cases h
              · subst a4
                simp only [a1, a2, a3] at h
                have h7 : ma_tx9 o .iaload n st = none := by
                  unfold ma_tx9
                  rfl
                rw [h7] at h
                split at h <;> cases h
            | none =>
              simp only
              cases h7 : ma_ex o i n st S with
              | some v => rw [h7] at h; exact h
              | none =>
                simp only [h7] at h ⊢
                cases h8 : ma_al o i n st S with
                | some v => rw [h8] at h; exact h
                | none =>
                  simp only [h8] at h ⊢
                  cases h9 : ma_pr o d w i n st S with
                  | some v => rw [h9] at h; exact h
                  | none =>
                    simp only [h9] at h ⊢
                    split at h
                    · cases h
                    · split at h
                      · next hh => rw [ma_tx9_X hh]; exact h
                      · cases h
theorem ma_tx_only {z : List ma_V} (h : ma_tx X o i n st = some z) (ret : Option FieldType) : ma_ret ret i n st = none ∧ ma_cl o i n st S = none ∧ ∀ ik, i ≠ .new ik := by
  unfold ma_tx at h
  split at h
  all_goals first | (cases h; done) | exact ⟨rfl, rfl, fun ik h => by cases h⟩
theorem ma_one9_no (h : ma_one9 o ini nL d w i n pc L st S = none) (ret : Option FieldType) : ma_one X o ini nL d w i n pc L st S = none ∨ (ma_ret ret i n st = none ∧ ma_cl o i n st S = none ∧ ∀ ik, i ≠ .new ik) := by
  unfold ma_one9 at h
  unfold ma_one
  cases h1 : ma_push i n L with
  | some v => rw [h1] at h; cases h
  | none =>
    simp only [h1] at h ⊢
    cases h2 : ma_stk i n st with
    | some v => rw [h2] at h; cases h
    | none =>
      simp only [h2] at h ⊢
      cases h3 : ma_sto i n nL L st with
      | some v => rw [h3] at h; cases h
      | none =>
        simp only [h3] at h ⊢
        cases h4 : ma_jmp i n pc st with
        | some v => rw [h4] at h; cases h
        | none =>
          simp only [h4] at h ⊢
          cases h5 : ma_hp o ini i n st S with
          | some v => rw [h5] at h; cases h
          | none =>
            simp only [h5] at h ⊢
            cases h6 : ma_sc X i n st with
            | some v =>
              refine Or.inr ?_
              unfold ma_sc at h6
              split at h6
              · exact ⟨rfl, rfl, fun ik h => by cases h⟩
              · exact ⟨rfl, rfl, fun ik h => by cases h⟩
              · cases h6
            | none =>
              simp only
              cases h7 : ma_ex o i n st S with
              | some v => rw [h7] at h; cases h
              | none =>
                simp only [h7] at h ⊢
                cases h8 : ma_al o i n st S with
                | some v => rw [h8] at h; cases h
                | none =>
                  simp only [h8] at h ⊢
                  cases h9 : ma_pr o d w i n st S with
                  | some v => rw [h9] at h; cases h
                  | none =>
                    simp only
                    cases ht : ma_tx X o i n st with
                    | some v => exact Or.inr (ma_tx_only ht ret)
                    | none =>
                      simp only
                      cases ha : ma_ac i n pc st with
                      | none => exact Or.inl rfl
                      | some v =>
                        refine Or.inr ?_
                        unfold ma_ac at ha
                        split at ha
                        · exact ⟨rfl, rfl, fun ik h => by cases h⟩
                        · cases ha
end ZB1
def ma_run9 : Nat → Nat → Nat → Nat → Nat → ma_L → List ma_V → ma_S → Option ((Option ma_V ⊕ (Nat × Nat)) × ma_S)
  | 0, _, _, _, _, _, _, _ => none
  | f + 1, d, w, M, pc, L, st, S => match ma_md M with
    | none => none
    | some (o, y, cc, nL, ret) => match decode cc pc with
      | .error _ => none
      | .ok (i, n) => match ma_one9 o (decide (y.name = "<init>")) nL d w i n pc L st S with
        | some (pc₉, L₉, st₉, S₉) => ma_run9 f d w M pc₉ L₉ st₉ S₉
        | none => match ma_ret ret i n st with
          | some v => some (.inl v, S)
          | none => match ma_thr o cc pc with
            | some x => if 6 ≤ d ∧ ma_sz st + 81 ≤ w then some (.inr (x, pc), ma_bump S) else none
            | none => match ma_cl o i n st S with
              | none => none
              | some ((k, M₉), as, rest) => match ma_md M₉ with
                | none => none
                | some (_, _, _, nL₉, _) => if 1 ≤ d ∧ 19 + nL₉ ≤ w ∧ ma_sz as ≤ nL₉ ∧ ma_sz rest ≤ 8 then (match ma_run9 f (d - 1) (w - (19 + nL₉)) M₉ 0 (ma_args 0 as) [] S with
                  | some (.inl v, S₉) => ma_run9 f d w M (pc + 3) L (v.toList ++ rest) S₉
                  | some (.inr (x, _), S₉) => if k ≤ 1 then some (.inr (x, pc), S₉) else none
                  | none => none) else none
theorem ma_run9_X {X : Nat × (Nat → Int32)} : ∀ (f d w M pc : Nat) (L : ma_L) (st : List ma_V) (S : ma_S) (r : ma_R), ma_run9 f d w M pc L st S = some r → ma_run X f d w M pc L st S = some r := by
  intro f
  induction f with
  | zero => intro d w M pc L st S r h; cases h
  | succ f ih =>
    intro d w M pc L st S r h
    rw [ma_run_s]
    unfold ma_run9 at h
    unfold ma_body
    split at h
    · cases h
    · next o y cc nL ret hmd =>
      split at h
      · cases h
      · next i n hd =>
        split at h
        · next pc1 L1 st1 S1 h1 =>
          simp only [hmd, hd, ma_one9_X (X := X) h1]
          exact ih _ _ _ _ _ _ _ _ h
        · next h1 =>
          rcases ma_one9_no (X := X) h1 ret with b1 | ⟨a4, a5, a6⟩
          · simp only [hmd, hd, b1]
            split at h
            · next hv => simp only [hv]; exact h
            · next hv =>
              simp only [hv]
              split at h
              · next hx => simp only [hx]; exact h
              · next hx =>
                simp only [hx]
                split at h
                · cases h
                · next hc =>
                  simp only [hc]
                  split at h
                  · cases h
                  · next hm2 =>
                    simp only [hm2]
                    split at h
                    · next hroom =>
                      rw [if_pos hroom]
                      split at h
                      · next v2 S2 hr =>
                        rw [ih _ _ _ _ _ _ _ _ hr]
                        exact ih _ _ _ _ _ _ _ _ h
                      · next x2 px S2 hr =>
                        rw [ih _ _ _ _ _ _ _ _ hr]
                        exact h
                      · cases h
                    · cases h
          · rw [a4, ma_thr_no hd a6, a5] at h
            cases h
def ma_st9 (z : Option ma_R) : ma_S := match z with
  | some (_, S) => S
  | none => ma_S0
/-- what a closed run answers, and that it comes to an end -/
theorem ma_wp9 {X : Nat × (Nat → Int32)} {f d w M pc : Nat} {L : ma_L} {st : List ma_V} {S : ma_S} {v : Option ma_V} (h : (ma_run9 f d w M pc L st S).map (fun z => ma_oc z.1) = some (.inl v)) {Q : Option ma_V ⊕ Nat → ma_S → Prop} (q : Q (.inl v) (ma_st9 (ma_run9 f d w M pc L st S))) : ma_wp X d w M pc L st S Q := by
  cases hr : ma_run9 f d w M pc L st S with
  | none => rw [hr] at h; cases h
  | some z =>
    rw [hr] at h q
    obtain ⟨o, S₉⟩ := z
    refine ⟨f, o, S₉, ma_run9_X _ _ _ _ _ _ _ _ _ hr, ?_⟩
    have e : ma_oc o = .inl v := Option.some.inj h
    rw [e]
    exact q
/-- a test of the house -/
def zOc (S : ma_S) : Bool := (List.range zshp.length).all (fun j => match zshp[j]? with
  | some q => ma_is S (j + 64) && decide (mH S (j + 64) = q)
  | none => true) && zfl.all (fun q => decide (mR S q.1 q.2.1 = some q.2.2))
theorem zO_of {S : ma_S} (h : zOc S = true) : zO S := by
  unfold zOc at h
  rw [Bool.and_eq_true, List.all_eq_true, List.all_eq_true] at h
  refine ⟨fun c t n e => ?_, fun c k r e => ?_⟩
  · unfold zs at e
    split at e
    · next h64 =>
      have hlt : c - 64 < zshp.length := (List.getElem?_eq_some_iff.mp e).1
      have := h.1 (c - 64) (List.mem_range.mpr hlt)
      rw [e] at this
      simp only [Bool.and_eq_true, decide_eq_true_eq] at this
      rw [Nat.sub_add_cancel h64] at this
      exact this
    · cases e
  · unfold zfi at e
    cases hf : zfl.find? (fun q => q.1 == c && q.2.1 == k) with
    | none => rw [hf] at e; cases e
    | some q =>
      rw [hf] at e
      have h1 := List.find?_some hf
      simp only [Bool.and_eq_true, beq_iff_eq] at h1
      have h2 := of_decide_eq_true (h.2 q (List.mem_of_find?_eq_some hf))
      rw [← h1.1, ← h1.2, h2]
      exact e
/-- the same, but no row of ints is written, and no row of Things -/
def ma_no8 (i : Instr) (st : List ma_V) (S : ma_S) : Bool := match i, st with
  | .iastore, _ => true
  | .bastore, _ => true
  | .invokestatic _, _ => true
  | .aastore, _ :: _ :: .inr (.inr (some c)) :: _ => decide ((mH S c).1 = 24)
  | _, _ => false
def ma_run8 : Nat → Nat → Nat → Nat → Nat → ma_L → List ma_V → ma_S → Option ((Option ma_V ⊕ (Nat × Nat)) × ma_S)
  | 0, _, _, _, _, _, _, _ => none
  | f + 1, d, w, M, pc, L, st, S => match ma_md M with
    | none => none
    | some (o, y, cc, nL, ret) => match decode cc pc with
      | .error _ => none
      | .ok (i, n) => if ma_no8 i st S then none else match ma_one9 o (decide (y.name = "<init>")) nL d w i n pc L st S with
        | some (pc₉, L₉, st₉, S₉) => ma_run8 f d w M pc₉ L₉ st₉ S₉
        | none => match ma_ret ret i n st with
          | some v => some (.inl v, S)
          | none => match ma_thr o cc pc with
            | some x => if 6 ≤ d ∧ ma_sz st + 81 ≤ w then some (.inr (x, pc), ma_bump S) else none
            | none => match ma_cl o i n st S with
              | none => none
              | some ((k, M₉), as, rest) => match ma_md M₉ with
                | none => none
                | some (_, _, _, nL₉, _) => if 1 ≤ d ∧ 19 + nL₉ ≤ w ∧ ma_sz as ≤ nL₉ ∧ ma_sz rest ≤ 8 then (match ma_run8 f (d - 1) (w - (19 + nL₉)) M₉ 0 (ma_args 0 as) [] S with
                  | some (.inl v, S₉) => ma_run8 f d w M (pc + 3) L (v.toList ++ rest) S₉
                  | some (.inr (x, _), S₉) => if k ≤ 1 then some (.inr (x, pc), S₉) else none
                  | none => none) else none
theorem ma_run8_9 : ∀ (f d w M pc : Nat) (L : ma_L) (st : List ma_V) (S : ma_S) (r : ma_R), ma_run8 f d w M pc L st S = some r → ma_run9 f d w M pc L st S = some r := by
  intro f
  induction f with
  | zero => intro d w M pc L st S r h; cases h
  | succ f ih =>
    intro d w M pc L st S r h
    unfold ma_run8 at h
    split at h
    · cases h
    · next o y cc nL ret hmd =>
      simp only [ma_run9, hmd]
      split at h
      · cases h
      · next i n hd =>
        try simp only [hd]
        split at h
        · cases h
        · split at h
          · next h1 => (try simp only [h1]); exact ih _ _ _ _ _ _ _ _ h
          · next h1 =>
            try simp only [h1]
            split at h
            · next hv => (try simp only [hv]); exact h
            · next hv =>
              try simp only [hv]
              split at h
              · next hx => (try simp only [hx]); exact h
              · next hx =>
                try simp only [hx]
                split at h
                · cases h
                · next hc =>
                  try simp only [hc]
                  split at h
                  · cases h
                  · next hm2 =>
                    try simp only [hm2]
                    split at h
                    · next hroom =>
                      try rw [if_pos hroom]
                      split at h
                      · next v2 S2 hr =>
                        (try rw [ih _ _ _ _ _ _ _ _ hr])
                        (try simp only [ih _ _ _ _ _ _ _ _ hr])
                        exact ih _ _ _ _ _ _ _ _ h
                      · next x2 px S2 hr =>
                        (try rw [ih _ _ _ _ _ _ _ _ hr])
                        (try simp only [ih _ _ _ _ _ _ _ _ hr])
                        exact h
                      · cases h
                    · cases h
/-- rows of ints hold 0, rows of Things nothing -/
def zAr (S : ma_S) : Prop := ∀ c, 20 ≤ (mH S c).1 → (∀ k, mI S c k = 0) ∧ ((mH S c).1 = 24 → ∀ k, mR S c k = none)
section AR1
variable {S S₉ : ma_S} {c k t n : Nat} {v : ma_V} {o d w pc pc₉ nL : Nat} {ini : Bool} {i : Instr} {st st₉ : List ma_V} {L L₉ : ma_L}
theorem ar_put (h : zAr S) (hc : (mH S c).1 ≤ 12) : zAr (ma_put S c k v) := by
  intro c₉ hc₉
  have e : mH (ma_put S c k v) = mH S := by
    rcases v with v | v | v <;> rfl
  rw [e] at hc₉ ⊢
  have ne : c₉ ≠ c := fun z => by rw [z] at hc₉; omega
  have q := h c₉ hc₉
  have eI : ∀ k₉, mI (ma_put S c k v) c₉ k₉ = mI S c₉ k₉ := by
    intro k₉
    rcases v with v | v | v
    · exact if_neg (fun z => ne z.1)
    · rfl
    · rfl
  have eR : ∀ k₉, mR (ma_put S c k v) c₉ k₉ = mR S c₉ k₉ := by
    intro k₉
    rcases v with v | v | v
    · rfl
    · rfl
    · exact if_neg (fun z => ne z.1)
  exact ⟨fun k₉ => by rw [eI]; exact q.1 k₉, fun z k₉ => by rw [eR]; exact q.2 z k₉⟩
theorem ar_p25 (h : zAr S) {q : Option Nat} (hc : (mH S c).1 = 25) : zAr (ma_put S c k (.inr (.inr q))) := by
  intro c₉ hc₉
  have hc2 : 20 ≤ (mH S c₉).1 := hc₉
  have a := h c₉ hc2
  refine ⟨a.1, fun z k₉ => ?_⟩
  have z2 : (mH S c₉).1 = 24 := z
  have ne : c₉ ≠ c := fun z => by rw [z] at z2; omega
  have eR : mR (ma_put S c k (.inr (.inr q))) c₉ k₉ = mR S c₉ k₉ := if_neg (fun z => ne z.1)
  rw [eR]
  exact a.2 z2 k₉
theorem ar_new (h : zAr S) : zAr (ma_new S t n) := by
  intro c hc
  by_cases z : c = mN S
  · subst z
    refine ⟨fun k => ?_, fun _ k => ?_⟩
    · show (ma_uc (mI S) (mN S) (fun _ => 0)) (mN S) k = 0
      unfold ma_uc
      rw [if_pos rfl]
    · show (ma_uc (mR S) (mN S) (fun _ => none)) (mN S) k = none
      unfold ma_uc
      rw [if_pos rfl]
  · have eH : mH (ma_new S t n) c = mH S c := by
      show (ma_uc (mH S) (mN S) (t, n)) c = mH S c
      unfold ma_uc
      rw [if_neg z]
    rw [eH] at hc ⊢
    have a := h c hc
    refine ⟨fun k => ?_, fun y k => ?_⟩
    · show (ma_uc (mI S) (mN S) (fun _ => 0)) c k = 0
      unfold ma_uc
      rw [if_neg z]
      exact a.1 k
    · show (ma_uc (mR S) (mN S) (fun _ => none)) c k = none
      unfold ma_uc
      rw [if_neg z]
      exact a.2 y k
theorem ar_hp (h : ma_hp o ini i n st S = some (st₉, S₉)) (hn : ma_no8 i st S = false) (ha : zAr S) : zAr S₉ := by
  unfold ma_hp at h
  split at h
  · split at h
    · simp only [Option.map_eq_some_iff] at h
      obtain ⟨k, _, e⟩ := h
      cases e
      exact ha
    · cases h
  · split at h
    · next hk =>
      simp only [Bool.and_eq_true, decide_eq_true_eq] at hk
      split at h
      · split at h
        · cases h
          exact ar_put ha hk.2
        · cases h
      · cases h
    · cases h
  · split at h
    · cases h; exact ha
    · cases h
  · split at h
    · cases h; exact ha
    · cases h
  · split at h
    · cases h; exact ha
    · cases h
  · split at h
    · cases h; exact ha
    · cases h
  · cases hn
  · cases hn
  · split at h
    · cases h; exact ha
    · cases h
  · split at h
    · next hk =>
      simp only [Bool.and_eq_true, decide_eq_true_eq] at hk
      have hn2 := of_decide_eq_false hn
      exact absurd hk.1.2 hn2
    · cases h
  · split at h
    · cases h; exact ha
    · cases h
  · cases h
theorem ar_ex (h : ma_ex o i n st S = some (st₉, S₉)) (ha : zAr S) : zAr S₉ := by
  unfold ma_ex at h
  split at h
  · simp only [Option.map_eq_some_iff] at h
    obtain ⟨k, _, e⟩ := h
    cases e
    exact ha
  · simp only [Option.map_eq_some_iff] at h
    obtain ⟨k, _, e⟩ := h
    cases e
    exact ha
  · cases h; exact ha
  · split at h
    · simp only [Option.map_eq_some_iff] at h
      obtain ⟨k, _, e⟩ := h
      cases e
      exact ha
    · cases h
  · cases h; exact ha
  · split at h
    · cases h; exact ha
    · cases h
  · split at h
    · next hk =>
      simp only [Bool.and_eq_true, decide_eq_true_eq] at hk
      cases h
      exact ar_p25 ha (by omega)
    · cases h
  · cases h
theorem ar_al (h : ma_al o i n st S = some (st₉, S₉)) (ha : zAr S) : zAr S₉ := by
  unfold ma_al at h
  split at h
  · simp only [Option.map_eq_some_iff] at h
    obtain ⟨k, _, e⟩ := h
    cases e
    exact ar_new ha
  · split at h
    · simp only [Option.map_eq_some_iff] at h
      obtain ⟨k, _, e⟩ := h
      cases e
      exact ar_new ha
    · cases h
  · split at h
    · simp only [Option.map_eq_some_iff] at h
      obtain ⟨k, _, e⟩ := h
      cases e
      exact ar_new ha
    · cases h
  · cases h
theorem ar_pr (h : ma_pr o d w i n st S = some (st₉, S₉)) (hn : ma_no8 i st S = false) (ha : zAr S) : zAr S₉ := by
  unfold ma_pr at h
  split at h
  · split at h
    · cases h; exact ha
    · cases h
  · cases hn
  · cases hn
  · cases h
theorem ar_one (h : ma_one9 o ini nL d w i n pc L st S = some (pc₉, L₉, st₉, S₉)) (hn : ma_no8 i st S = false) (ha : zAr S) : zAr S₉ := by
  unfold ma_one9 at h
  split at h
  · cases h; exact ha
  · split at h
    · cases h; exact ha
    · split at h
      · cases h; exact ha
      · split at h
        · cases h; exact ha
        · split at h
          · next hh => cases h; exact ar_hp hh hn ha
          · split at h
            · next hh => cases h; exact ar_ex hh ha
            · split at h
              · next hh => cases h; exact ar_al hh ha
              · split at h
                · next hh => cases h; exact ar_pr hh hn ha
                · split at h
                  · cases h
                  · split at h
                    · cases h; exact ha
                    · cases h
end AR1
theorem ar_run : ∀ (f d w M pc : Nat) (L : ma_L) (st : List ma_V) (S : ma_S) (r : ma_R), ma_run8 f d w M pc L st S = some r → zAr S → zAr r.2 := by
  intro f
  induction f with
  | zero => intro d w M pc L st S r h; cases h
  | succ f ih =>
    intro d w M pc L st S r h ha
    unfold ma_run8 at h
    split at h
    · cases h
    · split at h
      · cases h
      · split at h
        · cases h
        · next hno =>
          have hn : ma_no8 _ st S = false := Bool.not_eq_true _ ▸ hno
          split at h
          · next h1 => exact ih _ _ _ _ _ _ _ _ h (ar_one h1 hn ha)
          · split at h
            · cases h; exact ha
            · split at h
              · split at h
                · cases h; exact ha
                · cases h
              · split at h
                · cases h
                · split at h
                  · cases h
                  · split at h
                    · split at h
                      · next hr => exact ih _ _ _ _ _ _ _ _ h (ih _ _ _ _ _ _ _ _ hr ha)
                      · next hr =>
                        split at h
                        · have q := ih _ _ _ _ _ _ _ _ hr ha; cases h; exact q
                        · cases h
                      · cases h
                    · cases h
theorem ma_wp8 {X : Nat × (Nat → Int32)} {f d w M pc : Nat} {L : ma_L} {st : List ma_V} {S : ma_S} {v : Option ma_V} (h : (ma_run8 f d w M pc L st S).map (fun z => ma_oc z.1) = some (.inl v)) {Q : Option ma_V ⊕ Nat → ma_S → Prop} (q : Q (.inl v) (ma_st9 (ma_run8 f d w M pc L st S))) : ma_wp X d w M pc L st S Q := by
  cases hr : ma_run8 f d w M pc L st S with
  | none => rw [hr] at h; cases h
  | some z =>
    rw [hr] at h q
    have h9 := ma_run8_9 _ _ _ _ _ _ _ _ _ hr
    refine ma_wp9 (f := f) (v := v) ?_ ?_
    · rw [h9]; exact h
    · rw [h9]; exact q
theorem ar_st {f d w M pc : Nat} {L : ma_L} {st : List ma_V} {S : ma_S} {v : Option ma_V ⊕ Nat} (h : (ma_run8 f d w M pc L st S).map (fun z => ma_oc z.1) = some v) (ha : zAr S) : zAr (ma_st9 (ma_run8 f d w M pc L st S)) := by
  cases hr : ma_run8 f d w M pc L st S with
  | none => rw [hr] at h; cases h
  | some z => exact ar_run _ _ _ _ _ _ _ _ _ hr ha
/-- behind new; behind the class's constructor; the reference; its constructor; the row for answers -/
def yA : ma_S := ma_new ma_S0 11 12
def yB : ma_S := ma_st9 (ma_run8 1000 12 474 126 0 [(0, .inr (.inr (some 64)))] [] yA)
def yC : ma_S := ma_new yB 12 85
def yD : ma_S := ma_st9 (ma_run8 1000 12 474 165 0 [(0, .inr (.inr (some 94)))] [] yC)
def yE : ma_S := ma_new yD 23 1
theorem y_l {a b : Bool} (h : (a && b) = true) : a = true := by
  cases a
  · exact h
  · rfl
theorem y_r {a b : Bool} (h : (a && b) = true) : b = true := by
  cases a
  · exact absurd h (by simp)
  · exact h
/-- all that is decided of the start, in one run of the constructors -/
theorem y_all : (decide ((ma_run8 1000 12 474 126 0 [(0, .inr (.inr (some 64)))] [] yA).map (fun z => ma_oc z.1) = some (.inl none)) && (decide ((ma_run8 1000 12 474 165 0 [(0, .inr (.inr (some 94)))] [] yC).map (fun z => ma_oc z.1) = some (.inl none)) && (decide ((decide (mN yA = 65) && decide (mN yB = 94) && decide (mN yD = 125) && decide (mN yE = 126)) = true) && (decide (zOc yE = true) && (decide (∀ q ∈ zA_s, q.2.2.1 ≤ (mI yE q.1 q.2.1).toInt ∧ (mI yE q.1 q.2.1).toInt ≤ q.2.2.2) && (decide (∀ q ∈ zV_s, q.2.2.1 ≤ (mI yE q.1 q.2.1).toInt ∧ (mI yE q.1 q.2.1).toInt ≤ q.2.2.2) && (decide (∀ q ∈ zV_a, 20 ≤ (mH yE q.1).1 ∧ q.2.2.1 ≤ 0 ∧ 0 ≤ q.2.2.2) && (decide (∀ q ∈ zA_a, 20 ≤ (mH yE q.1).1 ∧ q.2.2.1 ≤ 0 ∧ 0 ≤ q.2.2.2) && (decide (∀ c ∈ zA_r, (mH yE c).1 = 24) && (decide (20 ≤ (mH yE 102).1 ∧ 20 ≤ (mH yE 109).1) && (decide (mR yE 64 11 = none) && (decide ((mI yE 94 8).toInt = 0 ∧ (mI yE 94 55).toInt = 0 ∧ mI yE 64 1 = mI yE 94 3 ∧ mI yE 64 7 = mI yE 94 7 ∧ (mI yE 94 3).toInt = 0 ∧ (mI yE 94 7).toInt = 0) && (decide (mC yE + 1200 ≤ 601024 ∧ mZ yE + 9000 ≤ 7293034) && (decide ((mI yE 94 17).toInt = 0 ∧ (mI yE 94 27).toInt = 0) && (decide ((0 ≤ (mI yE 81 3).toInt ∧ (mI yE 81 3).toInt ≤ (mI yE 81 2).toInt) ∧ ((mI yE 82 3).toInt ≤ (mI yE 82 7).toInt ∧ (mI yE 82 7).toInt ≤ (mI yE 82 3).toInt + (mI yE 82 2).toInt)) && (decide ((ma_is yC 94 && decide (1 ≤ (mH yC 94).1) && decide ((mH yC 94).1 ≤ 12)) = true))))))))))))))))) = true := by decide +kernel
theorem yB_ok : (ma_run8 1000 12 474 126 0 [(0, .inr (.inr (some 64)))] [] yA).map (fun z => ma_oc z.1) = some (.inl none) := of_decide_eq_true (y_l y_all)
theorem yD_ok : (ma_run8 1000 12 474 165 0 [(0, .inr (.inr (some 94)))] [] yC).map (fun z => ma_oc z.1) = some (.inl none) := of_decide_eq_true (y_l (y_r y_all))
theorem yN_ok : (decide (mN yA = 65) && decide (mN yB = 94) && decide (mN yD = 125) && decide (mN yE = 126)) = true := of_decide_eq_true (y_l (y_r (y_r y_all)))
theorem y_oc : zOc yE = true := of_decide_eq_true (y_l (y_r (y_r (y_r y_all))))
theorem yE_sc : ∀ q ∈ zA_s, q.2.2.1 ≤ (mI yE q.1 q.2.1).toInt ∧ (mI yE q.1 q.2.1).toInt ≤ q.2.2.2 := of_decide_eq_true (y_l (y_r (y_r (y_r (y_r y_all)))))
theorem yE_vs : ∀ q ∈ zV_s, q.2.2.1 ≤ (mI yE q.1 q.2.1).toInt ∧ (mI yE q.1 q.2.1).toInt ≤ q.2.2.2 := of_decide_eq_true (y_l (y_r (y_r (y_r (y_r (y_r y_all))))))
theorem yE_va : ∀ q ∈ zV_a, 20 ≤ (mH yE q.1).1 ∧ q.2.2.1 ≤ 0 ∧ 0 ≤ q.2.2.2 := of_decide_eq_true (y_l (y_r (y_r (y_r (y_r (y_r (y_r y_all)))))))
theorem yE_sa : ∀ q ∈ zA_a, 20 ≤ (mH yE q.1).1 ∧ q.2.2.1 ≤ 0 ∧ 0 ≤ q.2.2.2 := of_decide_eq_true (y_l (y_r (y_r (y_r (y_r (y_r (y_r (y_r y_all))))))))
theorem yE_rf : ∀ c ∈ zA_r, (mH yE c).1 = 24 := of_decide_eq_true (y_l (y_r (y_r (y_r (y_r (y_r (y_r (y_r (y_r y_all)))))))))
theorem yE_k : 20 ≤ (mH yE 102).1 ∧ 20 ≤ (mH yE 109).1 := of_decide_eq_true (y_l (y_r (y_r (y_r (y_r (y_r (y_r (y_r (y_r (y_r y_all))))))))))
theorem yE_p : mR yE 64 11 = none := of_decide_eq_true (y_l (y_r (y_r (y_r (y_r (y_r (y_r (y_r (y_r (y_r (y_r y_all)))))))))))
theorem yE_8 : (mI yE 94 8).toInt = 0 ∧ (mI yE 94 55).toInt = 0 ∧ mI yE 64 1 = mI yE 94 3 ∧ mI yE 64 7 = mI yE 94 7 ∧ (mI yE 94 3).toInt = 0 ∧ (mI yE 94 7).toInt = 0 := of_decide_eq_true (y_l (y_r (y_r (y_r (y_r (y_r (y_r (y_r (y_r (y_r (y_r (y_r y_all))))))))))))
theorem yE_c : mC yE + 1200 ≤ 601024 ∧ mZ yE + 9000 ≤ 7293034 := of_decide_eq_true (y_l (y_r (y_r (y_r (y_r (y_r (y_r (y_r (y_r (y_r (y_r (y_r (y_r y_all)))))))))))))
theorem yE_17 : (mI yE 94 17).toInt = 0 ∧ (mI yE 94 27).toInt = 0 := of_decide_eq_true (y_l (y_r (y_r (y_r (y_r (y_r (y_r (y_r (y_r (y_r (y_r (y_r (y_r (y_r y_all))))))))))))))
theorem yE_x : zA_x (mI yE) := (show (0 ≤ (mI yE 81 3).toInt ∧ (mI yE 81 3).toInt ≤ (mI yE 81 2).toInt) ∧ ((mI yE 82 3).toInt ≤ (mI yE 82 7).toInt ∧ (mI yE 82 7).toInt ≤ (mI yE 82 3).toInt + (mI yE 82 2).toInt) from of_decide_eq_true (y_l (y_r (y_r (y_r (y_r (y_r (y_r (y_r (y_r (y_r (y_r (y_r (y_r (y_r (y_r y_all))))))))))))))))
theorem y_sC : (ma_is yC 94 && decide (1 ≤ (mH yC 94).1) && decide ((mH yC 94).1 ≤ 12)) = true := of_decide_eq_true (y_r (y_r (y_r (y_r (y_r (y_r (y_r (y_r (y_r (y_r (y_r (y_r (y_r (y_r (y_r y_all)))))))))))))))
theorem yE_ok : zO yE := zO_of y_oc
