/-! Runs know of the locals only what they read: more locals do no harm -/
def ma_nd (L : ma_L) : Prop := (L.map (·.1)).Nodup
def ma_le (L L' : ma_L) : Prop := ∀ k v, ma_get L k = some v → ma_get L' k = some v
theorem ma_le_nil (L : ma_L) : ma_le [] L := fun k v h => by cases h
theorem ma_le_cons {L T : ma_L} {k : Nat} {v : ma_V} (h : ma_get L k = some v) (t : ma_le T L) : ma_le ((k, v) :: T) L := by
  intro j u hj
  unfold ma_get at hj
  by_cases e : k = j
  · rw [List.find?_cons_of_pos (by simpa using e)] at hj
    rw [← Option.some.inj hj, ← e]
    exact h
  · rw [List.find?_cons_of_neg (by simpa using e)] at hj
    exact t j u hj
theorem ma_find_filter (p : Nat × ma_V → Bool) (k : Nat) : ∀ L : ma_L, ma_nd L → (L.filter p).find? (fun q => q.1 == k) = (L.find? (fun q => q.1 == k)).filter p := by
  intro L
  induction L with
  | nil => intro _; rfl
  | cons q T ih =>
    intro hn
    have hn' : q.1 ∉ T.map (·.1) ∧ (T.map (·.1)).Nodup := List.nodup_cons.mp hn
    by_cases hq : q.1 = k
    · have hq' : (q.1 == k) = true := by simpa using hq
      rw [List.find?_cons_of_pos (p := fun q : Nat × ma_V => q.1 == k) hq']
      cases hp : p q with
      | true =>
        rw [List.filter_cons_of_pos hp, List.find?_cons_of_pos (p := fun q : Nat × ma_V => q.1 == k) hq']
        simp [Option.filter, hp]
      | false =>
        rw [List.filter_cons_of_neg (by simp [hp])]
        simp only [Option.filter, hp]
        refine List.find?_eq_none.mpr ?_
        intro z hz hk
        have hz1 : z ∈ T := (List.mem_filter.mp hz).1
        have hk1 : z.1 = k := by simpa using hk
        exact hn'.1 (by rw [hq, ← hk1]; exact List.mem_map.mpr ⟨z, hz1, rfl⟩)
    · have hq' : ¬ (q.1 == k) = true := by simpa using hq
      rw [List.find?_cons_of_neg (p := fun q : Nat × ma_V => q.1 == k) hq']
      cases hp : p q with
      | true => rw [List.filter_cons_of_pos hp, List.find?_cons_of_neg (p := fun q : Nat × ma_V => q.1 == k) hq']; exact ih hn'.2
      | false => rw [List.filter_cons_of_neg (by simp [hp])]; exact ih hn'.2
theorem ma_find_key {L : ma_L} {k : Nat} {q : Nat × ma_V} (h : L.find? (fun q => q.1 == k) = some q) : q.1 = k := by
  have := List.find?_some h
  simpa using this
theorem ma_get_st {L : ma_L} (hn : ma_nd L) {i k : Nat} {u v : ma_V} (hk : k ≠ i) : ma_get (ma_st L i v) k = some u ↔ (ma_get L k = some u ∧ ¬ (k + 1 = i ∧ ma_2 u = true)) := by
  unfold ma_st
  unfold ma_get
  rw [List.find?_cons_of_neg (by simp; exact fun z => hk z.symm), ma_find_filter _ _ _ hn]
  cases hf : L.find? (fun q => q.1 == k) with
  | none => simp [Option.filter]
  | some q =>
    have e := ma_find_key hf
    simp only [Option.filter, Option.map_some, Option.some.injEq]
    by_cases hp : (!(q.1 == i) && !(q.1 + 1 == i && ma_2 q.2)) = true
    · rw [if_pos hp]
      simp only [Option.map_some, Option.some.injEq]
      constructor
      · intro h
        refine ⟨h, fun z => ?_⟩
        rw [e, h] at hp
        simp [z.1, z.2] at hp
      · intro h; exact h.1
    · rw [if_neg hp]
      constructor
      · intro h; cases h
      · intro h
        refine absurd ?_ hp
        rw [e, h.1]
        have h1 : (k == i) = false := by simpa using hk
        rw [h1]
        cases hm : ma_2 u with
        | false => simp
        | true =>
          have : (k + 1 == i) = false := by
            simp only [beq_eq_false_iff_ne]
            exact fun z => h.2 ⟨z, hm⟩
          simp [this]
theorem ma_nd_st {L : ma_L} (hn : ma_nd L) (i : Nat) (v : ma_V) : ma_nd (ma_st L i v) := by
  unfold ma_nd ma_st
  rw [List.map_cons, List.nodup_cons]
  refine ⟨?_, ?_⟩
  · intro h
    obtain ⟨q, h1, h2⟩ := List.mem_map.mp h
    have h3 := (List.mem_filter.mp h1).2
    have h4 : q.1 = i := h2
    simp [h4] at h3
  · exact List.Nodup.sublist (List.Sublist.map _ List.filter_sublist) hn
theorem ma_le_st {L L' : ma_L} (hn : ma_nd L) (hn' : ma_nd L') (h : ma_le L L') (i : Nat) (v : ma_V) : ma_le (ma_st L i v) (ma_st L' i v) := by
  intro k u hk
  by_cases e : k = i
  · subst e
    rw [ma_get_self] at hk ⊢
    exact hk
  · rw [ma_get_st hn e] at hk
    rw [ma_get_st hn' e]
    exact ⟨h k u hk.1, hk.2⟩
section ZL1
variable {X : Nat × (Nat → Int32)} {d w M pc : Nat} {L L' L1 : ma_L} {st st1 : List ma_V} {S S1 : ma_S} {o nL : Nat} {ini : Bool} {i : Instr} {n : Nat}
theorem ma_push_le (hle : ma_le L L') {v : ma_V} (h : ma_push i n L = some v) : ma_push i n L' = some v := by
  unfold ma_push at h ⊢
  split at h
  · exact h
  · exact h
  · exact h
  · exact h
  · exact h
  · split at h
    · next hg => simp only [hle _ _ hg]; exact h
    · cases h
  · split at h
    · next hg => simp only [hle _ _ hg]; exact h
    · cases h
  · split at h
    · next hg => simp only [hle _ _ hg]; exact h
    · cases h
  · split at h
    · next hg => simp only [hle _ _ hg]; exact h
    · cases h
  · split at h
    · next hg => simp only [hle _ _ hg]; exact h
    · cases h
  · split at h
    · next hg => simp only [hle _ _ hg]; exact h
    · cases h
  · cases h
theorem ma_sto_le (hn : ma_nd L) (hn' : ma_nd L') (hle : ma_le L L') (h : ma_sto i n nL L st = some (L1, st1)) : ∃ L2, ma_sto i n nL L' st = some (L2, st1) ∧ ma_le L1 L2 ∧ ma_nd L1 ∧ ma_nd L2 := by
  unfold ma_sto at h ⊢
  split at h
  · split at h
    · next hk => cases h; exact ⟨_, if_pos hk, ma_le_st hn hn' hle _ _, ma_nd_st hn _ _, ma_nd_st hn' _ _⟩
    · cases h
  · split at h
    · next hk => cases h; exact ⟨_, if_pos hk, ma_le_st hn hn' hle _ _, ma_nd_st hn _ _, ma_nd_st hn' _ _⟩
    · cases h
  · split at h
    · next hk => cases h; exact ⟨_, if_pos hk, ma_le_st hn hn' hle _ _, ma_nd_st hn _ _, ma_nd_st hn' _ _⟩
    · cases h
  · split at h
    · next hk => cases h; exact ⟨_, if_pos hk, ma_le_st hn hn' hle _ _, ma_nd_st hn _ _, ma_nd_st hn' _ _⟩
    · cases h
  · split at h
    · next hg =>
      split at h
      · next hk => cases h; exact ⟨_, by simp only [hle _ _ hg, if_pos hk], ma_le_st hn hn' hle _ _, ma_nd_st hn _ _, ma_nd_st hn' _ _⟩
      · cases h
    · cases h
  · cases h
/-- the families that know nothing of the locals -/
def ma_rest (X : Nat × (Nat → Int32)) (o : Nat) (ini : Bool) (d w : Nat) (i : Instr) (n pc : Nat) (st : List ma_V) (S : ma_S) : Option (Nat × List ma_V × ma_S) :=
  match ma_jmp i n pc st with
  | some (t, st') => some (t, st', S)
  | none => match ma_hp o ini i n st S with
    | some (st', S') => some (pc + n, st', S')
    | none => match ma_sc X i n st with
      | some st' => some (pc + n, st', S)
      | none => match ma_ex o i n st S with
        | some (st', S') => some (pc + n, st', S')
        | none => match ma_al o i n st S with
          | some (st', S') => some (pc + n, st', S')
          | none => match ma_pr o d w i n st S with
            | some (st', S') => some (pc + n, st', S')
            | none => match ma_tx X o i n st with
              | some st' => some (pc + n, st', S)
              | none => match ma_ac i n pc st with
                | some (t, st') => some (t, st', S)
                | none => none
theorem ma_one_eq : ma_one X o ini nL d w i n pc L st S = (match ma_push i n L with
    | some v => some (pc + n, L, v :: st, S)
    | none => match ma_stk i n st with
      | some st' => some (pc + n, L, st', S)
      | none => match ma_sto i n nL L st with
        | some (L', st') => some (pc + n, L', st', S)
        | none => (ma_rest X o ini d w i n pc st S).map (fun z => (z.1, L, z.2.1, z.2.2))) := by
  unfold ma_one ma_rest
  cases ma_push i n L with
  | some z => rfl
  | none =>
    cases ma_stk i n st with
    | some z => rfl
    | none =>
      cases ma_sto i n nL L st with
      | some z => rfl
      | none =>
        cases ma_jmp i n pc st with
        | some z => rfl
        | none =>
          cases ma_hp o ini i n st S with
          | some z => rfl
          | none =>
            cases ma_sc X i n st with
            | some z => rfl
            | none =>
              cases ma_ex o i n st S with
              | some z => rfl
              | none =>
                cases ma_al o i n st S with
                | some z => rfl
                | none =>
                  cases ma_pr o d w i n st S with
                  | some z => rfl
                  | none =>
                    cases ma_tx X o i n st with
                    | some z => rfl
                    | none =>
                      cases ma_ac i n pc st with
                      | some z => rfl
                      | none =>
                        rfl
/-- what reads a local does nothing else -/
theorem ma_load_only {v : ma_V} (h : ma_push i n L = none) (h' : ma_push i n L' = some v) (ret : Option FieldType) : ma_stk i n st = none ∧ ma_sto i n nL L st = none ∧ ma_rest X o ini d w i n pc st S = none ∧ ma_ret ret i n st = none ∧ ma_cl o i n st S = none ∧ ∀ ik, i ≠ .new ik ∧ i ≠ .invokestatic ik := by
  unfold ma_push at h'
  split at h'
  · cases h
  · cases h
  · cases h
  · cases h
  · cases h
  all_goals first | (cases h'; done) | exact ⟨rfl, rfl, rfl, rfl, rfl, fun ik => ⟨fun h => (by cases h), fun h => (by cases h)⟩⟩
theorem ma_inc_only {z : ma_L × List ma_V} (h : ma_sto i n nL L st = none) (h' : ma_sto i n nL L' st = some z) (ret : Option FieldType) : ma_rest X o ini d w i n pc st S = none ∧ ma_ret ret i n st = none ∧ ma_cl o i n st S = none ∧ ∀ ik, i ≠ .new ik ∧ i ≠ .invokestatic ik := by
  unfold ma_sto at h'
  split at h'
  all_goals first | (cases h'; done) | exact ⟨rfl, rfl, rfl, fun ik => ⟨fun h => (by cases h), fun h => (by cases h)⟩⟩
theorem ma_one_le (hn : ma_nd L) (hn' : ma_nd L') (hle : ma_le L L') {pc1 : Nat} (h : ma_one X o ini nL d w i n pc L st S = some (pc1, L1, st1, S1)) : ∃ L2, ma_one X o ini nL d w i n pc L' st S = some (pc1, L2, st1, S1) ∧ ma_le L1 L2 ∧ ma_nd L1 ∧ ma_nd L2 := by
  rw [ma_one_eq] at h ⊢
  split at h
  · next v hv =>
    cases h
    rw [ma_push_le hle hv]
    exact ⟨L', rfl, hle, hn, hn'⟩
  · next hp =>
    cases hp' : ma_push i n L' with
    | some v' =>
      obtain ⟨a1, a2, a3, -⟩ := ma_load_only (X := X) (d := d) (w := w) (pc := pc) (st := st) (S := S) (o := o) (nL := nL) (ini := ini) hp hp' none
      rw [a1, a2, a3] at h
      cases h
    | none =>
      simp only
      split at h
      · next hs => cases h; exact ⟨L', rfl, hle, hn, hn'⟩
      · split at h
        · next hs =>
          cases h
          obtain ⟨L2, b1, b2, b3, b4⟩ := ma_sto_le hn hn' hle hs
          rw [b1]
          exact ⟨L2, rfl, b2, b3, b4⟩
        · next hs =>
          cases hs' : ma_sto i n nL L' st with
          | some z =>
            obtain ⟨a1, -⟩ := ma_inc_only (X := X) (d := d) (w := w) (pc := pc) (S := S) (o := o) (ini := ini) hs hs' none
            rw [a1] at h
            cases h
          | none =>
            cases hr : ma_rest X o ini d w i n pc st S with
            | none => rw [hr] at h; cases h
            | some z => rw [hr] at h; cases h; exact ⟨L', rfl, hle, hn, hn'⟩
theorem ma_one_no (hle : ma_le L L') (h : ma_one X o ini nL d w i n pc L st S = none) (ret : Option FieldType) : ma_one X o ini nL d w i n pc L' st S = none ∨ (ma_ret ret i n st = none ∧ ma_cl o i n st S = none ∧ ∀ ik, i ≠ .new ik ∧ i ≠ .invokestatic ik) := by
  rw [ma_one_eq] at h ⊢
  split at h
  · cases h
  · next hp =>
    cases hp' : ma_push i n L' with
    | some v' =>
      obtain ⟨-, -, -, a4, a5, a6⟩ := ma_load_only (X := X) (d := d) (w := w) (pc := pc) (st := st) (S := S) (o := o) (nL := nL) (ini := ini) hp hp' ret
      exact Or.inr ⟨a4, a5, a6⟩
    | none =>
      simp only
      split at h
      · cases h
      · split at h
        · cases h
        · next hs =>
          cases hs' : ma_sto i n nL L' st with
          | some z =>
            obtain ⟨-, a4, a5, a6⟩ := ma_inc_only (X := X) (d := d) (w := w) (pc := pc) (S := S) (o := o) (ini := ini) hs hs' ret
            exact Or.inr ⟨a4, a5, a6⟩
          | none =>
            cases hr : ma_rest X o ini d w i n pc st S with
            | none => exact Or.inl rfl
            | some z => rw [hr] at h; cases h
end ZL1
theorem ma_run_sub {X : Nat × (Nat → Int32)} : ∀ (f d w M pc : Nat) (L L' : ma_L) (st : List ma_V) (S : ma_S) (r : ma_R), ma_nd L → ma_nd L' → ma_le L L' → ma_run X f d w M pc L st S = some r → ma_run X f d w M pc L' st S = some r := by
  intro f
  induction f with
  | zero => intro d w M pc L L' st S r _ _ _ h; cases h
  | succ f ih =>
    intro d w M pc L L' st S r hn hn' hle h
    rw [ma_run_s] at h ⊢
    unfold ma_body at h ⊢
    split at h
    · cases h
    · next o y cc nL ret hmd =>
      split at h
      · cases h
      · next i n hd =>
        split at h
        · next pc1 L1 st1 S1 h1 =>
          obtain ⟨L2, b1, b2, b3, b4⟩ := ma_one_le hn hn' hle h1
          simp only [b1]
          exact ih _ _ _ _ _ _ _ _ _ b3 b4 b2 h
        · next h1 =>
          rcases ma_one_no hle h1 ret with b1 | ⟨a4, a5, a6⟩
          · simp only [b1]
            split at h
            · exact h
            · split at h
              · exact h
              · split at h
                · cases h
                · split at h
                  · cases h
                  · split at h
                    · next hroom =>
                      rw [if_pos hroom]
                      split at h
                      · next v2 S2 hr =>
                        skip
                        exact ih _ _ _ _ _ _ _ _ _ hn hn' hle h
                      · next x2 px S2 hr =>
                        skip
                        exact h
                      · cases h
                    · cases h
          · rw [a4, ma_thr_no hd (fun ik => (a6 ik).1), a5] at h
            cases h
theorem zw_sub {X : Nat × (Nat → Int32)} {d w M pc : Nat} {L L' : ma_L} {st : List ma_V} {S : ma_S} {Q : Option ma_V ⊕ Nat → ma_S → Prop} (hn : ma_nd L) (hn' : ma_nd L') (hle : ma_le L L') (h : ma_wp X d w M pc L st S Q) : ma_wp X d w M pc L' st S Q := by
  obtain ⟨f, z, S', h1, h2⟩ := h
  exact ⟨f, z, S', ma_run_sub _ _ _ _ _ _ _ _ _ _ hn hn' hle h1, h2⟩
