/-! from 90.house -/
/-! THE HOUSE: the cells that stand behind the constructors, by number; and the law's frames, reasoned of backwards -/
def zshp : List (Nat × Nat) := [(11, 12), (21, 100), (20, 4), (20, 16), (20, 16), (7, 13), (24, 512), (20, 4500), (20, 16), (20, 16), (20, 512), (10, 6), (20, 512), (20, 512), (25, 7), (8, 5), (5, 4), (3, 5), (1, 10), (20, 375), (2, 8), (24, 512), (20, 512), (6, 9), (10, 6), (20, 512), (20, 512), (4, 9), (20, 93), (20, 93), (12, 85), (21, 100), (21, 100), (20, 16), (20, 16), (22, 3100), (20, 3100), (20, 3100), (20, 3100), (20, 3100), (20, 3100), (20, 3100), (20, 3100), (20, 3100), (20, 186000), (22, 3100), (22, 3100), (20, 4600), (20, 16), (20, 16), (20, 3100), (20, 3100), (20, 128), (22, 512), (20, 3100), (20, 3100), (20, 3100), (20, 3100), (20, 128), (22, 128), (22, 128), (23, 1)]
def zs (c : Nat) : Option (Nat × Nat) := if 64 ≤ c then zshp[c - 64]? else none
def zfl : List (Nat × Nat × Nat) := [(64, 0, 65), (64, 4, 66), (64, 5, 67), (64, 6, 68), (64, 8, 69), (64, 9, 75), (64, 10, 78), (69, 0, 70), (69, 1, 71), (69, 2, 72), (69, 3, 73), (69, 4, 74), (75, 0, 69), (75, 1, 76), (75, 2, 77), (78, 0, 79), (78, 1, 80), (78, 2, 81), (78, 3, 82), (78, 4, 84), (78, 5, 87), (78, 6, 91), (79, 0, 69), (79, 1, 75), (80, 0, 69), (80, 1, 75), (81, 0, 69), (81, 1, 75), (82, 0, 69), (82, 1, 75), (82, 9, 83), (84, 3, 69), (84, 4, 75), (84, 5, 85), (84, 6, 86), (87, 3, 69), (87, 4, 75), (87, 5, 88), (88, 0, 69), (88, 1, 89), (88, 2, 90), (91, 0, 69), (91, 1, 75), (91, 7, 92), (91, 8, 93), (94, 1, 95), (94, 2, 96), (94, 5, 97), (94, 6, 98), (94, 31, 99), (94, 32, 100), (94, 33, 101), (94, 34, 102), (94, 35, 103), (94, 36, 104), (94, 37, 105), (94, 38, 106), (94, 39, 107), (94, 40, 108), (94, 41, 109), (94, 42, 110), (94, 43, 111), (94, 51, 112), (94, 52, 113), (94, 53, 114), (94, 54, 115), (94, 65, 116), (94, 66, 117), (94, 72, 118), (94, 74, 119), (94, 78, 120), (94, 79, 121), (94, 81, 122), (94, 82, 123), (94, 83, 124)]
def zfi (c k : Nat) : Option Nat := (zfl.find? (fun q => q.1 == c && q.2.1 == k)).map (fun q => q.2.2)
/-- all of them are there, of their kinds and lengths, and the fields that never change have what they had -/
def zO (S : ma_S) : Prop := (∀ c t n, zs c = some (t, n) → ma_is S c = true ∧ mH S c = (t, n)) ∧ ∀ c k r, zfi c k = some r → mR S c k = some r
section ZO1
variable {S : ma_S} {c k r t n : Nat}
theorem zO_is (h : zO S) (e : zs c = some (t, n)) : ma_is S c = true := (h.1 _ _ _ e).1
theorem zO_h (h : zO S) (e : zs c = some (t, n)) : mH S c = (t, n) := (h.1 _ _ _ e).2
theorem zO_t (h : zO S) (e : zs c = some (t, n)) : (mH S c).1 = t := by rw [(h.1 _ _ _ e).2]
theorem zO_rt (h : zO S) (e : zs c = some (t, n)) (ht : (decide (1 ≤ t) && decide (t ≤ 12)) = true) : ma_rt S c = some t := by
  have h1 := zO_is h e
  have h2 := zO_t h e
  rw [Bool.and_eq_true] at ht
  unfold ma_rt
  have h64 : ¬ c < 19 := by
    unfold ma_is at h1
    rw [Bool.and_eq_true, decide_eq_true_eq] at h1
    omega
  rw [if_neg h64]
  simp only [h1, h2, ht.1, ht.2, Bool.and_self, if_true]
theorem zO_f (h : zO S) (e : zfi c k = some r) : (Sum.inr (Sum.inr (mR S c k)) : ma_V) = .inr (.inr (some r)) := by rw [h.2 _ _ _ e]
theorem zO_pr (h : zO S) {q : Option Nat} (e : zfi c k = none) : zO (ma_put S c k (.inr (.inr q))) := by
  refine ⟨h.1, fun c₉ k₉ r₉ e₉ => ?_⟩
  show ma_u (mR S) c k q c₉ k₉ = some r₉
  unfold ma_u
  rw [if_neg (fun z => by rw [z.1, z.2, e] at e₉; cases e₉)]
  exact h.2 _ _ _ e₉
end ZO1
theorem zc0_lt {x : Int32} : ma_c0 .lt x = true ↔ x < 0 := decide_eq_true_iff
theorem zc0_ge {x : Int32} : ma_c0 .ge x = true ↔ 0 ≤ x := decide_eq_true_iff
theorem zc0_eq {x : Int32} : ma_c0 .eq x = true ↔ x = 0 := decide_eq_true_iff
theorem zc0_ne {x : Int32} : ma_c0 .ne x = true ↔ ¬ x = 0 := decide_eq_true_iff
theorem zc0_gt {x : Int32} : ma_c0 .gt x = true ↔ 0 < x := decide_eq_true_iff
theorem zc0_le {x : Int32} : ma_c0 .le x = true ↔ x ≤ 0 := decide_eq_true_iff
theorem zc2_lt {x z : Int32} : ma_c2 .lt x z = true ↔ x < z := decide_eq_true_iff
theorem zc2_ge {x z : Int32} : ma_c2 .ge x z = true ↔ z ≤ x := decide_eq_true_iff
theorem zc2_eq {x z : Int32} : ma_c2 .eq x z = true ↔ x = z := decide_eq_true_iff
theorem zc2_ne {x z : Int32} : ma_c2 .ne x z = true ↔ ¬ x = z := decide_eq_true_iff
theorem zc2_gt {x z : Int32} : ma_c2 .gt x z = true ↔ z < x := decide_eq_true_iff
theorem zc2_le {x z : Int32} : ma_c2 .le x z = true ↔ x ≤ z := decide_eq_true_iff
theorem ma_nd_of {L : ma_L} {ks : List Nat} (h : L.map (·.1) = ks) (hk : ks.Nodup) : ma_nd L := by
  unfold ma_nd; rw [h]; exact hk
theorem zi_go {K : Int32 → ma_S → Prop} {E : Nat → ma_S → Prop} {G : Option ma_V ⊕ Nat → ma_S → Prop} (h1 : ∀ v S, K v S → G (.inl (some (.inl v))) S) (h2 : ∀ x S, E x S → G (.inr x) S) : ∀ z S, zi K E z S → G z S := by
  intro z S h
  rcases z with v | x
  · rcases v with _ | v
    · exact h.elim
    · rcases v with v | v
      · exact h1 _ _ h
      · rcases v with v | v <;> exact h.elim
  · exact h2 _ _ h
theorem zo_go {K : Option Nat → ma_S → Prop} {E : Nat → ma_S → Prop} {G : Option ma_V ⊕ Nat → ma_S → Prop} (h1 : ∀ v S, K v S → G (.inl (some (.inr (.inr v)))) S) (h2 : ∀ x S, E x S → G (.inr x) S) : ∀ z S, zo K E z S → G z S := by
  intro z S h
  rcases z with v | x
  · rcases v with _ | v
    · exact h.elim
    · rcases v with v | v
      · exact h.elim
      · rcases v with v | v
        · exact h.elim
        · exact h1 _ _ h
  · exact h2 _ _ h
theorem zv_go {K : ma_S → Prop} {E : Nat → ma_S → Prop} {G : Option ma_V ⊕ Nat → ma_S → Prop} (h1 : ∀ S, K S → G (.inl none) S) (h2 : ∀ x S, E x S → G (.inr x) S) : ∀ z S, zv K E z S → G z S := by
  intro z S h
  rcases z with v | x
  · rcases v with _ | v
    · exact h1 _ h
    · exact h.elim
  · exact h2 _ _ h
/-! the law's frames -/
def ma_fp (X : Nat × (Nat → Int32)) (k d w pc : Nat) (L : ma_L) (st : List ma_V) (S : ma_S) (Q : Option ma_V → ma_S → Prop) : Prop := ∃ f v S₉, ma_frun X f k d w pc L st S = some (v, S₉) ∧ Q v S₉
def zfi_ (K : Int32 → ma_S → Prop) : Option ma_V → ma_S → Prop := fun o S => match o with
  | some (.inl v) => K v S
  | _ => False
theorem zfi_go {K : Int32 → ma_S → Prop} {G : Option ma_V → ma_S → Prop} (h1 : ∀ v S, K v S → G (some (.inl v)) S) : ∀ z S, zfi_ K z S → G z S := by
  intro z S h
  rcases z with _ | v
  · exact h.elim
  · rcases v with v | v
    · exact h1 _ _ h
    · exact h.elim
theorem ma_frun_up {X : Nat × (Nat → Int32)} : ∀ (f k d w pc : Nat) (L : ma_L) (st : List ma_V) (S : ma_S) (r : Option ma_V × ma_S), ma_frun X f k d w pc L st S = some r → ma_frun X (f + 1) k d w pc L st S = some r := by
  intro f
  induction f with
  | zero => intro k d w pc L st S r h; cases h
  | succ f ih =>
    intro k d w pc L st S r h
    unfold ma_frun at h ⊢
    split at h
    · cases h
    · next cc nL ret hh hfi =>
      split at h
      · cases h
      · next i n hd =>
        split at h
        · exact ih _ _ _ _ _ _ _ _ h
        · split at h
          · exact h
          · split at h
            · split at h
              · cases h
              · split at h
                · next hroom =>
                  rw [if_pos hroom]
                  split at h
                  · next v2 S1 hr =>
                    rw [ma_run_up _ _ _ _ _ _ _ _ _ hr]
                    exact ih _ _ _ _ _ _ _ _ h
                  · next x2 px S1 hr =>
                    rw [ma_run_up _ _ _ _ _ _ _ _ _ hr]
                    exact h
                  · cases h
                · cases h
            · split at h
              · cases h
              · split at h
                · cases h
                · split at h
                  · next hroom =>
                    rw [if_pos hroom]
                    split at h
                    · next v2 S1 hr =>
                      rw [ih _ _ _ _ _ _ _ _ hr]
                      exact ih _ _ _ _ _ _ _ _ h
                    · cases h
                  · cases h
theorem ma_frun_le {X : Nat × (Nat → Int32)} {f g k d w pc : Nat} {L : ma_L} {st : List ma_V} {S : ma_S} {r : Option ma_V × ma_S} (hfg : f ≤ g) (h : ma_frun X f k d w pc L st S = some r) : ma_frun X g k d w pc L st S = some r := by
  induction hfg with
  | refl => exact h
  | step _ ih => exact ma_frun_up _ _ _ _ _ _ _ _ _ ih
def ma_fbody (X : Nat × (Nat → Int32)) (f k d w pc : Nat) (L : ma_L) (st : List ma_V) (S : ma_S) : Option (Option ma_V × ma_S) := match ma_fi k with
    | none => none
    | some (cc, nL, ret, hh) => match decode cc pc with
      | .error _ => none
      | .ok (i, n) => match ma_one X 14 false nL d w i n pc L st S with
        | some (pc₉, L₉, st₉, S₉) => ma_frun X f k d w pc₉ L₉ st₉ S₉
        | none => match ma_ret ret i n st with
          | some v => some (v, S)
          | none => match ma_cl 14 i n st S with
            | some ((kd, M₉), as, rest) => (match ma_md M₉ with
              | none => none
              | some (_, _, _, nL₉, _) => if 1 ≤ d ∧ 19 + nL₉ ≤ w ∧ ma_sz as ≤ nL₉ ∧ ma_sz rest ≤ 8 then (match ma_run X f (d - 1) (w - (19 + nL₉)) M₉ 0 (ma_args 0 as) [] S with
                | some (.inl v, S₉) => ma_frun X f k d w (pc + 3) L (v.toList ++ rest) S₉
                | some (.inr (x, _), S₉) => if kd ≤ 1 ∧ ret = some .int then (ma_hd cc nL x pc hh).map (fun c => (some (.inl c), S₉)) else none
                | none => none) else none)
            | none => match ma_cw i n st with
              | none => none
              | some (k₉, as, rest) => match ma_fi k₉ with
                | none => none
                | some (_, nL₉, _, _) => if 1 ≤ d ∧ 19 + nL₉ ≤ w ∧ ma_sz as ≤ nL₉ ∧ ma_sz rest ≤ 8 then (match ma_frun X f k₉ (d - 1) (w - (19 + nL₉)) 0 (ma_args 0 as) [] S with
                  | some (v, S₉) => ma_frun X f k d w (pc + 3) L (v.toList ++ rest) S₉
                  | none => none) else none
theorem ma_frun_s (X : Nat × (Nat → Int32)) (f k d w pc : Nat) (L : ma_L) (st : List ma_V) (S : ma_S) : ma_frun X (f + 1) k d w pc L st S = ma_fbody X f k d w pc L st S := rfl
section ZF1
variable {X : Nat × (Nat → Int32)} {d w k pc : Nat} {L : ma_L} {st r : List ma_V} {S : ma_S} {o nL : Nat} {ini : Bool} {cc : ByteArray} {ret : Option FieldType} {hh : List (Nat × Nat × Nat × Nat)} {i : Instr} {n : Nat} {Q Q₉ : Option ma_V → ma_S → Prop}
theorem zf_mono (h : ma_fp X k d w pc L st S Q) (g : ∀ o S₉, Q o S₉ → Q₉ o S₉) : ma_fp X k d w pc L st S Q₉ := by
  obtain ⟨f, o, S₉, h1, h2⟩ := h
  exact ⟨f, o, S₉, h1, g _ _ h2⟩
theorem zf_one (hm : ma_fi k = some (cc, nL, ret, hh)) (hd : decode cc pc = .ok (i, n)) {pc₉ : Nat} {L₉ : ma_L} {st₉ : List ma_V} {S₉ : ma_S} (h : ma_one X 14 false nL d w i n pc L st S = some (pc₉, L₉, st₉, S₉)) (K : ma_fp X k d w pc₉ L₉ st₉ S₉ Q) : ma_fp X k d w pc L st S Q := by
  obtain ⟨f, o₉, S1, h1, h2⟩ := K
  refine ⟨f + 1, o₉, S1, ?_, h2⟩
  rw [ma_frun_s]
  simp only [ma_fbody, hm, hd, h]
  exact h1
theorem zf_push (hm : ma_fi k = some (cc, nL, ret, hh)) (hd : decode cc pc = .ok (i, n)) {v : ma_V} (h : ma_push i n L = some v) (K : ma_fp X k d w (pc + n) L (v :: st) S Q) : ma_fp X k d w pc L st S Q :=
  zf_one hm hd (by unfold ma_one; rw [h]) K
theorem zf_stk (hm : ma_fi k = some (cc, nL, ret, hh)) (hd : decode cc pc = .ok (i, n)) {st₉ : List ma_V} (h0 : ma_push i n L = none) (h : ma_stk i n st = some st₉) (K : ma_fp X k d w (pc + n) L st₉ S Q) : ma_fp X k d w pc L st S Q :=
  zf_one hm hd (by unfold ma_one; rw [h0, h]) K
theorem zf_sto (hm : ma_fi k = some (cc, nL, ret, hh)) (hd : decode cc pc = .ok (i, n)) (L₉ : ma_L) {st₉ : List ma_V} (h0 : ma_push i n L = none) (h1 : ma_stk i n st = none) (h : ma_sto i n nL L st = some (L₉, st₉)) (K : ma_fp X k d w (pc + n) L₉ st₉ S Q) : ma_fp X k d w pc L st S Q :=
  zf_one hm hd (by unfold ma_one; rw [h0, h1]; simp only [h]) K
theorem zf_jmp (hm : ma_fi k = some (cc, nL, ret, hh)) (hd : decode cc pc = .ok (i, n)) {t : Nat} {st₉ : List ma_V} (h0 : ma_push i n L = none) (h1 : ma_stk i n st = none) (h2 : ma_sto i n nL L st = none) (h : ma_jmp i n pc st = some (t, st₉)) (K : ma_fp X k d w t L st₉ S Q) : ma_fp X k d w pc L st S Q :=
  zf_one hm hd (by unfold ma_one; rw [h0, h1]; simp only [h2, h]) K
theorem zf_goto (hm : ma_fi k = some (cc, nL, ret, hh)) {off : Int} (hd : decode cc pc = .ok (.goto off, 3)) {t : Nat} (ht : ma_to pc off = some t) (K : ma_fp X k d w t L st S Q) : ma_fp X k d w pc L st S Q :=
  zf_jmp hm hd rfl rfl rfl (by unfold ma_jmp; simp only [ht, Option.map_some]) K
theorem zf_if0 (hm : ma_fi k = some (cc, nL, ret, hh)) {c : ClassFile.Cond} {off : Int} (hd : decode cc pc = .ok (.ifCond c off, 3)) {t : Nat} (ht : ma_to pc off = some t) {x : Int32} {P : Prop} (hP : ma_c0 c x = true ↔ P) (k1 : P → ma_fp X k d w t L r S Q) (k2 : ¬ P → ma_fp X k d w (pc + 3) L r S Q) : ma_fp X k d w pc L (.inl x :: r) S Q := by
  refine zf_jmp (t := if ma_c0 c x = true then t else pc + 3) (st₉ := r) hm hd rfl rfl rfl (by unfold ma_jmp; simp only [ht, Option.map_some]) ?_
  by_cases h : ma_c0 c x = true
  · rw [if_pos h]; exact k1 (hP.mp h)
  · rw [if_neg h]; exact k2 (fun z => h (hP.mpr z))
theorem zf_if2 (hm : ma_fi k = some (cc, nL, ret, hh)) {c : ClassFile.Cond} {off : Int} (hd : decode cc pc = .ok (.if_icmp c off, 3)) {t : Nat} (ht : ma_to pc off = some t) {x z : Int32} {P : Prop} (hP : ma_c2 c x z = true ↔ P) (k1 : P → ma_fp X k d w t L r S Q) (k2 : ¬ P → ma_fp X k d w (pc + 3) L r S Q) : ma_fp X k d w pc L (.inl z :: .inl x :: r) S Q := by
  refine zf_jmp (t := if ma_c2 c x z = true then t else pc + 3) (st₉ := r) hm hd rfl rfl rfl (by unfold ma_jmp; simp only [ht, Option.map_some]) ?_
  by_cases h : ma_c2 c x z = true
  · rw [if_pos h]; exact k1 (hP.mp h)
  · rw [if_neg h]; exact k2 (fun z => h (hP.mpr z))
theorem oo_sc {j : Int32} (hg : 0 ≤ j ∧ j.toNatClampNeg < X.1) : ma_one X o ini nL d w .iaload 1 pc L (.inl j :: .inr (.inr (some 30)) :: r) S = some (pc + 1, L, .inl (X.2 j.toNatClampNeg) :: r, S) := by
  have h1 : ma_hp o ini .iaload 1 (.inl j :: .inr (.inr (some 30)) :: r) S = none := by
    unfold ma_hp
    simp only [ma_is30 (S := S) (c := 30) (by decide), Bool.false_and, Bool.false_eq_true, if_false]
  have h2 : ma_sc X .iaload 1 (.inl j :: .inr (.inr (some 30)) :: r) = some (.inl (X.2 j.toNatClampNeg) :: r) := by
    unfold ma_sc
    simp only [hg.1, hg.2, decide_true, Bool.and_self, if_true]
  unfold ma_one
  simp only [ma_push, ma_stk, ma_sto, ma_jmp, h1, h2]
theorem oo_sl : ma_one X o ini nL d w .arraylength 1 pc L (.inr (.inr (some 30)) :: r) S = some (pc + 1, L, .inl (Int32.ofNat X.1) :: r, S) := by
  have h1 : ma_hp o ini .arraylength 1 (.inr (.inr (some 30)) :: r) S = none := by
    unfold ma_hp
    simp only [ma_is30 (S := S) (c := 30) (by decide), Bool.false_and, Bool.false_eq_true, if_false]
  have h2 : ma_sc X .arraylength 1 (.inr (.inr (some 30)) :: r) = some (.inl (Int32.ofNat X.1) :: r) := rfl
  unfold ma_one
  simp only [ma_push, ma_stk, ma_sto, ma_jmp, h1, h2]
theorem oo_la {c N a : Nat} {j : Int32} (hs : ma_is S c = true) (ht : mH S c = (23, N)) (ha : j.toNatClampNeg = a) (hj : 0 ≤ j ∧ a < N) : ma_one X o ini nL d w .laload 1 pc L (.inl j :: .inr (.inr (some c)) :: r) S = some (pc + 1, L, .inr (.inl (mL S c a)) :: r, S) := by
  subst ha
  have h1 : ma_hp o ini .laload 1 (.inl j :: .inr (.inr (some c)) :: r) S = some (.inr (.inl (mL S c j.toNatClampNeg)) :: r, S) := by
    unfold ma_hp ma_ix
    simp only [hs, ht, hj.1, hj.2, decide_true, Bool.and_self, if_true]
  unfold ma_one
  simp only [ma_push, ma_stk, ma_sto, ma_jmp, h1]
theorem oo_las {c N a : Nat} {j : Int32} {x : Int64} (hs : ma_is S c = true) (ht : mH S c = (23, N)) (ha : j.toNatClampNeg = a) (hj : 0 ≤ j ∧ a < N) : ma_one X o ini nL d w .lastore 1 pc L (.inr (.inl x) :: .inl j :: .inr (.inr (some c)) :: r) S = some (pc + 1, L, r, ma_put S c a (.inr (.inl x))) := by
  subst ha
  have h1 : ma_hp o ini .lastore 1 (.inr (.inl x) :: .inl j :: .inr (.inr (some c)) :: r) S = some (r, ma_put S c j.toNatClampNeg (.inr (.inl x))) := by
    unfold ma_hp ma_ix
    simp only [hs, ht, hj.1, hj.2, decide_true, Bool.and_self, if_true]
  unfold ma_one
  simp only [ma_push, ma_stk, ma_sto, ma_jmp, h1]
theorem zf_ret (hm : ma_fi k = some (cc, nL, ret, hh)) (hd : decode cc pc = .ok (i, n)) (h1 : ma_one X 14 false nL d w i n pc L st S = none) {v : Option ma_V} (h : ma_ret ret i n st = some v) (q : Q v S) : ma_fp X k d w pc L st S Q := by
  refine ⟨1, v, S, ?_, q⟩
  rw [ma_frun_s]
  simp only [ma_fbody, hm, hd, h1, h]
theorem zf_iret (hm : ma_fi k = some (cc, nL, some .int, hh)) (hd : decode cc pc = .ok (.ireturn, 1)) {x : Int32} (q : Q (some (.inl x)) S) : ma_fp X k d w pc L [.inl x] S Q := by
  refine zf_ret (v := some (.inl x)) hm hd ?_ (by unfold ma_ret; simp [narrow]) q
  unfold ma_one
  rfl
theorem zf_bret (hm : ma_fi k = some (cc, nL, some .boolean, hh)) (hd : decode cc pc = .ok (.ireturn, 1)) {x : Int32} (hx : x = 0 ∨ x = 1) (q : Q (some (.inl x)) S) : ma_fp X k d w pc L [.inl x] S Q := by
  refine zf_ret (v := some (.inl x)) hm hd ?_ (by unfold ma_ret; rcases hx with rfl | rfl <;> simp [narrow]) q
  unfold ma_one
  rfl
/-- a call of a method of the class or of the reference -/
theorem zf_cv (hm : ma_fi k = some (cc, nL, ret, hh)) {x t kd M₉ m b nL₉ o₉ : Nat} {y₉ : MethodName} {cc₉ : ByteArray} {ret₉ : Option FieldType} (hd : decode cc pc = .ok (.invokevirtual x, 3)) (hv : ma_vl 14 x t = some (kd, M₉, m)) (hm₉ : ma_md M₉ = some (o₉, y₉, cc₉, nL₉, ret₉)) (asr rest : List ma_V) (hl : asr.length = m) (hrt : ma_rt S b = some t) (hr : 1 ≤ d ∧ 19 + nL₉ ≤ w) (hz : (decide (ma_sz (.inr (.inr (some b)) :: asr.reverse) ≤ nL₉) && decide (ma_sz rest ≤ 8)) = true)
    (hk : ma_wp X (d - 1) (w - (19 + nL₉)) M₉ 0 (ma_args 0 (.inr (.inr (some b)) :: asr.reverse)) [] S (fun z S₉ => match z with
      | .inl v => ma_fp X k d w (pc + 3) L (v.toList ++ rest) S₉ Q
      | .inr x => (kd ≤ 1 ∧ ret = some .int) ∧ ∃ c, ma_hd cc nL x pc hh = some c ∧ Q (some (.inl c)) S₉)) : ma_fp X k d w pc L (asr ++ .inr (.inr (some b)) :: rest) S Q := by
  rw [Bool.and_eq_true, decide_eq_true_eq, decide_eq_true_eq] at hz
  have h1 : ma_one X 14 false nL d w (.invokevirtual x) 3 pc L (asr ++ .inr (.inr (some b)) :: rest) S = none := by
    unfold ma_one
    rfl
  have h2 : ma_ret ret (.invokevirtual x) 3 (asr ++ .inr (.inr (some b)) :: rest) = none := rfl
  obtain ⟨f, z, S1, e1, e2⟩ := hk
  rcases z with v | ⟨x, px⟩
  · obtain ⟨g, z2, S2, e3, e4⟩ := (e2 : ma_fp X k d w (pc + 3) L (v.toList ++ rest) S1 Q)
    refine ⟨max f g + 1, z2, S2, ?_, e4⟩
    rw [ma_frun_s]
    simp only [ma_fbody, hm, hd, h1, h2, ma_vl_cl hv hl hrt, hm₉]
    rw [if_pos ⟨hr.1, hr.2, hz.1, hz.2⟩, ma_run_le (Nat.le_max_left f g) e1]
    exact ma_frun_le (Nat.le_max_right f g) e3
  · obtain ⟨e5, c, e6, e7⟩ := (e2 : (kd ≤ 1 ∧ ret = some .int) ∧ ∃ c, ma_hd cc nL x pc hh = some c ∧ Q (some (.inl c)) S1)
    refine ⟨f + 1, some (.inl c), S1, ?_, e7⟩
    rw [ma_frun_s]
    simp only [ma_fbody, hm, hd, h1, h2, ma_vl_cl hv hl hrt, hm₉]
    rw [if_pos ⟨hr.1, hr.2, hz.1, hz.2⟩, e1]
    simp only [if_pos e5, e6, Option.map_some]
def ma_cwl (x : Nat) : Option (Nat × Nat) := match ma_fd 14 x 0 true 5 8, ma_prt 14 x, ma_cwh.find? (fun q => q.1.1 == x) with
  | none, none, some q => some (q.1.2.1, q.1.2.2)
  | _, _, _ => none
/-- a call of a frame that catches -/
theorem zf_cw (hm : ma_fi k = some (cc, nL, ret, hh)) {x k₉ m nL₉ : Nat} {cc₉ : ByteArray} {ret₉ : Option FieldType} {hh₉ : List (Nat × Nat × Nat × Nat)} (hd : decode cc pc = .ok (.invokestatic x, 3)) (hv : ma_cwl x = some (k₉, m)) (hm₉ : ma_fi k₉ = some (cc₉, nL₉, ret₉, hh₉)) (asr rest : List ma_V) (hl : asr.length = m) (hr1 : 1 ≤ d) (hr2 : 19 + nL₉ ≤ w) (hz : (decide (ma_sz asr.reverse ≤ nL₉) && decide (ma_sz rest ≤ 8)) = true)
    (hk : ma_fp X k₉ (d - 1) (w - (19 + nL₉)) 0 (ma_args 0 asr.reverse) [] S (fun v S₉ => ma_fp X k d w (pc + 3) L (v.toList ++ rest) S₉ Q)) : ma_fp X k d w pc L (asr ++ rest) S Q := by
  rw [Bool.and_eq_true, decide_eq_true_eq, decide_eq_true_eq] at hz
  unfold ma_cwl at hv
  split at hv
  · next q g1 g2 g3 =>
    have e0 : (q.1.2.1, q.1.2.2) = (k₉, m) := Option.some.inj hv
    have e1 : q.1.2.1 = k₉ := congrArg Prod.fst e0
    have e2 : q.1.2.2 = m := congrArg Prod.snd e0
    have h1 : ma_one X 14 false nL d w (.invokestatic x) 3 pc L (asr ++ rest) S = none := by
      unfold ma_one
      rw [ma_pr_st g2]
      rfl
    have h2 : ma_ret ret (.invokestatic x) 3 (asr ++ rest) = none := rfl
    have h3 : ma_cl 14 (.invokestatic x) 3 (asr ++ rest) S = none := by
      unfold ma_cl
      simp only [g1]
    have h4 : ma_cw (.invokestatic x) 3 (asr ++ rest) = some (k₉, asr.reverse, rest) := by
      unfold ma_cw
      simp only [g3, e2, ← hl, List.take_left, List.drop_left, e1]
      rw [if_pos (by rw [List.length_append]; omega)]
    obtain ⟨f, v, S1, e3, e4⟩ := hk
    obtain ⟨g, z2, S2, e5, e6⟩ := e4
    refine ⟨max f g + 1, z2, S2, ?_, e6⟩
    rw [ma_frun_s]
    simp only [ma_fbody, hm, hd, h1, h2, h3, h4, hm₉]
    rw [if_pos ⟨hr1, hr2, hz.1, hz.2⟩, ma_frun_le (Nat.le_max_left f g) e3]
    exact ma_frun_le (Nat.le_max_right f g) e5
  · cases hv
end ZF1
theorem ma_frun_sub {X : Nat × (Nat → Int32)} : ∀ (f k d w pc : Nat) (L L₉ : ma_L) (st : List ma_V) (S : ma_S) (r : Option ma_V × ma_S), ma_nd L → ma_nd L₉ → ma_le L L₉ → ma_frun X f k d w pc L st S = some r → ma_frun X f k d w pc L₉ st S = some r := by
  intro f
  induction f with
  | zero => intro k d w pc L L₉ st S r _ _ _ h; cases h
  | succ f ih =>
    intro k d w pc L L₉ st S r hn hn₉ hle h
    rw [ma_frun_s] at h ⊢
    unfold ma_fbody at h ⊢
    split at h
    · cases h
    · next cc nL ret hh hfi =>
      split at h
      · cases h
      · next i n hd =>
        split at h
        · next pc1 L1 st1 S1 h1 =>
          obtain ⟨L2, b1, b2, b3, b4⟩ := ma_one_le hn hn₉ hle h1
          simp only [b1]
          exact ih _ _ _ _ _ _ _ _ _ b3 b4 b2 h
        · next h1 =>
          rcases ma_one_no hle h1 ret with b1 | ⟨a4, a5, a6⟩
          · simp only [b1]
            split at h
            · exact h
            · split at h
              · split at h
                · cases h
                · split at h
                  · next hroom =>
                    rw [if_pos hroom]
                    split at h
                    · exact ih _ _ _ _ _ _ _ _ _ hn hn₉ hle h
                    · exact h
                    · cases h
                  · cases h
              · split at h
                · cases h
                · split at h
                  · cases h
                  · split at h
                    · next hroom =>
                      rw [if_pos hroom]
                      split at h
                      · exact ih _ _ _ _ _ _ _ _ _ hn hn₉ hle h
                      · cases h
                    · cases h
          · rw [a4, a5] at h
            simp only at h
            split at h
            · cases h
            · next k₉ as rest hcw =>
              unfold ma_cw at hcw
              split at hcw
              · exact absurd rfl (a6 _).2
              · cases hcw
theorem zf_sub {X : Nat × (Nat → Int32)} {k d w pc : Nat} {L L₉ : ma_L} {st : List ma_V} {S : ma_S} {Q : Option ma_V → ma_S → Prop} (hn : ma_nd L) (hn₉ : ma_nd L₉) (hle : ma_le L L₉) (h : ma_fp X k d w pc L st S Q) : ma_fp X k d w pc L₉ st S Q := by
  obtain ⟨f, z, S₉, h1, h2⟩ := h
  exact ⟨f, z, S₉, ma_frun_sub _ _ _ _ _ _ _ _ _ _ hn hn₉ hle h1, h2⟩

/-! from 91.more -/
/-! more of the backward rows: constants out of the pool, switches, constructors -/
section ZW2
variable {X : Nat × (Nat → Int32)} {d w M pc : Nat} {L : ma_L} {st r : List ma_V} {S : ma_S} {o nL : Nat} {y : MethodName} {cc : ByteArray} {ret : Option FieldType} {i : Instr} {n : Nat} {Q Q₉ : Option ma_V ⊕ Nat → ma_S → Prop}
theorem zw_l2 (hm : ma_md M = some (o, y, cc, nL, ret)) {x : Nat} (hd : decode cc pc = .ok (.ldc2_w x, 3)) {v : Int64} (h : ma_l2t o x = some v) (k : ma_wp X d w M (pc + 3) L (.inr (.inl v) :: st) S Q) : ma_wp X d w M pc L st S Q :=
  zw_one hm hd (by unfold ma_one; simp only [ma_push, ma_stk, ma_sto, ma_jmp, ma_hp, ma_sc, ma_ex, h, Option.map_some]) k
theorem zw_lc (hm : ma_md M = some (o, y, cc, nL, ret)) {x : Nat} (hd : decode cc pc = .ok (.ldc x, 2)) {v : Int32} (h : ma_lct o x = some v) (k : ma_wp X d w M (pc + 2) L (.inl v :: st) S Q) : ma_wp X d w M pc L st S Q :=
  zw_one hm hd (by unfold ma_one; simp only [ma_push, ma_stk, ma_sto, ma_jmp, ma_hp, ma_sc, ma_ex, h, Option.map_some]) k
end ZW2
def ma_tsw (df lo hi : Int) (offs : Array Int) (pc : Nat) (x : Int32) : Option Nat := if x.toInt < lo ∨ hi < x.toInt then ma_to pc df else match offs[(x.toInt - lo).toNat]? with
  | some o => ma_to pc o
  | none => none
theorem ma_jmp_tab {df lo hi : Int} {offs : Array Int} {n pc t : Nat} {x : Int32} {r : List ma_V} (h : ma_tsw df lo hi offs pc x = some t) : ma_jmp (.tableswitch df lo hi offs) n pc (.inl x :: r) = some (t, r) := by
  unfold ma_tsw at h
  unfold ma_jmp
  simp only
  split at h
  · next hc => rw [if_pos hc, h]; rfl
  · next hc =>
    rw [if_neg hc]
    split at h
    · next o ho => rw [ho]; simp only [h, Option.map_some]
    · cases h
theorem ma_jmp_def {df lo hi : Int} {offs : Array Int} {n pc t m : Nat} {x : Int32} {r : List ma_V} (hb : hi = lo + m - 1) (h : ∀ j, j < m → ¬ x = Int32.ofInt (lo + (j : Int))) (ht : ma_to pc df = some t) : ma_jmp (.tableswitch df lo hi offs) n pc (.inl x :: r) = some (t, r) := by
  refine ma_jmp_tab ?_
  unfold ma_tsw
  rw [if_pos]
  · exact ht
  · refine Classical.byContradiction (fun hc => ?_)
    have h1 : lo ≤ x.toInt ∧ x.toInt ≤ hi := by omega
    refine h (x.toInt - lo).toNat (by omega) ?_
    have e : lo + ((x.toInt - lo).toNat : Int) = x.toInt := by omega
    rw [e, Int32.ofInt_toInt]

/-! from 91.z -/
/-! THE HOUSE WITH THINGS: behind the constructors all new cells are Things; more backward rows -/
def zT (S : ma_S) : Prop := zO S ∧ 126 ≤ mN S ∧ ∀ c, 126 ≤ c → c < mN S → mH S c = (9, 9)
section ZT1
variable {S : ma_S} {c k r t n : Nat}
theorem zT_is (h : zT S) (e : zs c = some (t, n)) : ma_is S c = true := zO_is h.1 e
theorem zT_h (h : zT S) (e : zs c = some (t, n)) : mH S c = (t, n) := zO_h h.1 e
theorem zT_t (h : zT S) (e : zs c = some (t, n)) : (mH S c).1 = t := zO_t h.1 e
theorem zT_rt (h : zT S) (e : zs c = some (t, n)) (ht : (decide (1 ≤ t) && decide (t ≤ 12)) = true) : ma_rt S c = some t := zO_rt h.1 e ht
theorem zT_f (h : zT S) (e : zfi c k = some r) : (Sum.inr (Sum.inr (mR S c k)) : ma_V) = .inr (.inr (some r)) := zO_f h.1 e
theorem zT_r (h : zT S) (e : zfi c k = some r) : mR S c k = some r := h.1.2 _ _ _ e
theorem zT_pi (h : zT S) {x : Int32} : zT (ma_put S c k (.inl x)) := h
theorem zT_pr (h : zT S) {q : Option Nat} (e : zfi c k = none) : zT (ma_put S c k (.inr (.inr q))) := ⟨zO_pr h.1 e, h.2⟩
theorem zT_cp (h : zT S) {f : Nat → Int32} : zT (ma_cp S c f) := h
theorem zT_tis (h : zT S) (hc : 126 ≤ c ∧ c < mN S) : ma_is S c = true := by
  unfold ma_is
  rw [Bool.and_eq_true, decide_eq_true_eq, decide_eq_true_eq]
  exact ⟨by omega, hc.2⟩
theorem zT_tt (h : zT S) (hc : 126 ≤ c ∧ c < mN S) : (mH S c).1 = 9 := by rw [h.2.2 c hc.1 hc.2]
theorem zT_trt (h : zT S) (hc : 126 ≤ c ∧ c < mN S) : ma_rt S c = some 9 := by
  unfold ma_rt
  rw [if_neg (by omega)]
  simp only [zT_tis h hc, zT_tt h hc]
  rfl
/-- no field that never changes is one of a Thing, or of the rows that hold them -/
theorem zfi_th (h : 126 ≤ c) : zfi c k = none := by
  unfold zfi
  cases hf : zfl.find? (fun q => q.1 == c && q.2.1 == k) with
  | none => rfl
  | some q =>
    have h1 := List.find?_some hf
    have h2 := List.mem_of_find?_eq_some hf
    simp only [Bool.and_eq_true, beq_iff_eq] at h1
    have h3 : zfl.all (fun q => decide (q.1 < 126)) = true := by decide +kernel
    have h4 := of_decide_eq_true (List.all_eq_true.mp h3 q h2)
    omega
def zfr (c : Nat) : Bool := zfl.all (fun q => !(q.1 == c))
theorem zfi_row (h : zfr c = true) : zfi c k = none := by
  unfold zfi
  cases hf : zfl.find? (fun q => q.1 == c && q.2.1 == k) with
  | none => rfl
  | some q =>
    have h1 := List.find?_some hf
    have h2 := List.mem_of_find?_eq_some hf
    simp only [Bool.and_eq_true, beq_iff_eq] at h1
    have h4 := List.all_eq_true.mp h q h2
    simp [h1.1] at h4
end ZT1
section ZW3
variable {X : Nat × (Nat → Int32)} {d w M pc : Nat} {L : ma_L} {st r : List ma_V} {S : ma_S} {o nL : Nat} {y : MethodName} {cc : ByteArray} {ret : Option FieldType} {i : Instr} {n : Nat} {Q Q₉ : Option ma_V ⊕ Nat → ma_S → Prop}
/-- a row of Things is written -/
theorem zw_aas (hm : ma_md M = some (o, y, cc, nL, ret)) (hd : decode cc pc = .ok (.aastore, 1)) {c N a : Nat} {j : Int32} {x : Option Nat} (hs : ma_is S c = true) (ht : mH S c = (24, N)) (ha : j.toNatClampNeg = a) (hj : 0 ≤ j ∧ a < N) (hx : ∀ b, x = some b → ma_is S b = true ∧ (mH S b).1 = 9) (K : ma_wp X d w M (pc + 1) L r (ma_put S c a (.inr (.inr x))) Q) : ma_wp X d w M pc L (.inr (.inr x) :: .inl j :: .inr (.inr (some c)) :: r) S Q := by
  subst ha
  refine zw_hp hm hd rfl rfl rfl rfl ?_ K
  unfold ma_hp ma_ix
  simp only [hs, ht, hj.1, hj.2, decide_true, Bool.and_self, if_true]
  cases x with
  | none => rfl
  | some b =>
    have := hx b rfl
    simp only [this.1, this.2, decide_true, Bool.and_self, if_true]
theorem zw_ex (hm : ma_md M = some (o, y, cc, nL, ret)) (hd : decode cc pc = .ok (i, n)) {st₉ : List ma_V} {S₉ : ma_S} (h0 : ma_push i n L = none) (h1 : ma_stk i n st = none) (h2 : ma_sto i n nL L st = none) (h3 : ma_jmp i n pc st = none) (h4 : ma_hp o (decide (y.name = "<init>")) i n st S = none) (h5 : ma_sc X i n st = none) (h : ma_ex o i n st S = some (st₉, S₉)) (k : ma_wp X d w M (pc + n) L st₉ S₉ Q) : ma_wp X d w M pc L st S Q :=
  zw_one hm hd (by unfold ma_one; simp only [h0, h1, h2, h3, h4, h5, h]) k
theorem zw_iof (hm : ma_md M = some (o, y, cc, nL, ret)) {x : Nat} (hd : decode cc pc = .ok (.instanceof x, 3)) {c t : Nat} {b : Bool} {v : Int32} (hs : ma_is S c = true) (ht : (mH S c).1 = t) (h1 : (decide (1 ≤ t) && decide (t ≤ 12)) = true) (hf : ma_ctt o x t = some b) (hv : (if b then 1 else 0) = v) (K : ma_wp X d w M (pc + 3) L (.inl v :: r) S Q) : ma_wp X d w M pc L (.inr (.inr (some c)) :: r) S Q := by
  subst hv
  rw [Bool.and_eq_true] at h1
  refine zw_ex hm hd rfl rfl rfl rfl rfl rfl ?_ K
  unfold ma_ex
  simp only [hs, ht, h1.1, h1.2, Bool.and_self, if_true, hf, Option.map_some]
theorem zw_cast (hm : ma_md M = some (o, y, cc, nL, ret)) {x : Nat} (hd : decode cc pc = .ok (.checkcast x, 3)) {c t : Nat} (hs : ma_is S c = true) (ht : (mH S c).1 = t) (h1 : (decide (1 ≤ t) && decide (t ≤ 12)) = true) (hf : ma_ctt o x t = some true) (K : ma_wp X d w M (pc + 3) L (.inr (.inr (some c)) :: r) S Q) : ma_wp X d w M pc L (.inr (.inr (some c)) :: r) S Q := by
  rw [Bool.and_eq_true] at h1
  refine zw_ex hm hd rfl rfl rfl rfl rfl rfl ?_ K
  unfold ma_ex
  simp only [hs, ht, h1.1, h1.2, Bool.and_self, if_true, hf, decide_true]
/-- a new Thing -/
theorem zw_new (hm : ma_md M = some (o, y, cc, nL, ret)) {x : Nat} (hd : decode cc pc = .ok (.new x, 3)) (h : ma_nwt o x = some 9) (K : ma_wp X d w M (pc + 3) L (.inr (.inr (some (mN S))) :: st) (ma_new S 9 9) Q) : ma_wp X d w M pc L st S Q :=
  zw_one hm hd (by unfold ma_one; simp only [ma_push, ma_stk, ma_sto, ma_jmp, ma_hp, ma_sc, ma_ex, ma_al, h, Option.map_some]; rfl) K
theorem zw_pr (hm : ma_md M = some (o, y, cc, nL, ret)) (hd : decode cc pc = .ok (i, n)) {st₉ : List ma_V} {S₉ : ma_S} (h0 : ma_push i n L = none) (h1 : ma_stk i n st = none) (h2 : ma_sto i n nL L st = none) (h3 : ma_jmp i n pc st = none) (h4 : ma_hp o (decide (y.name = "<init>")) i n st S = none) (h5 : ma_sc X i n st = none) (h6 : ma_ex o i n st S = none) (h7 : ma_al o i n st S = none) (h : ma_pr o d w i n st S = some (st₉, S₉)) (k : ma_wp X d w M (pc + n) L st₉ S₉ Q) : ma_wp X d w M pc L st S Q :=
  zw_one hm hd (by unfold ma_one; simp only [h0, h1, h2, h3, h4, h5, h6, h7, h]) k
theorem zw_max (hm : ma_md M = some (o, y, cc, nL, ret)) {x : Nat} (hd : decode cc pc = .ok (.invokestatic x, 3)) (hp : ma_prt o x = some 1) (h1 : 1 ≤ d) (hw : ma_sz r + 13 ≤ w) {a b : Int32} (hr : ∀ c a2 c0 r2, r ≠ .inr (.inr (some c)) :: .inl a2 :: .inr (.inr (some c0)) :: r2) (K : ma_wp X d w M (pc + 3) L (.inl (if a < b then b else a) :: r) S Q) : ma_wp X d w M pc L (.inl b :: .inl a :: r) S Q := by
  refine zw_pr hm hd rfl rfl rfl rfl rfl rfl rfl rfl ?_ K
  unfold ma_pr
  split
  · next e _ _ => cases e
  · next h => cases h; exact (hr _ _ _ _ rfl).elim
  · next e _ h =>
    cases e
    cases h
    simp only [h1, hw, decide_true, Bool.and_self, if_true, hp]
  · next n1 n2 n3 => exact (n3 _ _ _ _ rfl rfl rfl).elim
theorem zw_min (hm : ma_md M = some (o, y, cc, nL, ret)) {x : Nat} (hd : decode cc pc = .ok (.invokestatic x, 3)) (hp : ma_prt o x = some 2) (h1 : 1 ≤ d) (hw : ma_sz r + 13 ≤ w) {a b : Int32} (hr : ∀ c a2 c0 r2, r ≠ .inr (.inr (some c)) :: .inl a2 :: .inr (.inr (some c0)) :: r2) (K : ma_wp X d w M (pc + 3) L (.inl (if b < a then b else a) :: r) S Q) : ma_wp X d w M pc L (.inl b :: .inl a :: r) S Q := by
  refine zw_pr hm hd rfl rfl rfl rfl rfl rfl rfl rfl ?_ K
  unfold ma_pr
  split
  · next e _ _ => cases e
  · next h => cases h; exact (hr _ _ _ _ rfl).elim
  · next e _ h =>
    cases e
    cases h
    simp only [h1, hw, decide_true, Bool.and_self, if_true, hp]
  · next n1 n2 n3 => exact (n3 _ _ _ _ rfl rfl rfl).elim
theorem zw_acp (hm : ma_md M = some (o, y, cc, nL, ret)) {x : Nat} (hd : decode cc pc = .ok (.invokestatic x, 3)) (hp : ma_prt o x = some 3) (h1 : 1 ≤ d) (hw : ma_sz r + (nativeFrameWords "java/lang/System" "arraycopy" 5 + 11) ≤ w) {c N : Nat} {z b a : Int32} (hs : ma_is S c = true) (ht : mH S c = (20, N)) (ha : 0 ≤ a) (hb : 0 ≤ b) (hz : 0 ≤ z) (h3 : a.toNatClampNeg + z.toNatClampNeg ≤ N) (h4 : b.toNatClampNeg + z.toNatClampNeg ≤ N) (K : ma_wp X d w M (pc + 3) L r (ma_cp S c (va_cpy (mI S c) (mI S c) a.toNatClampNeg b.toNatClampNeg z.toNatClampNeg)) Q) : ma_wp X d w M pc L (.inl z :: .inl b :: .inr (.inr (some c)) :: .inl a :: .inr (.inr (some c)) :: r) S Q := by
  refine zw_pr hm hd rfl rfl rfl rfl rfl rfl rfl rfl ?_ K
  unfold ma_pr
  simp only [hp, h1, hw, hs, ht, ha, hb, hz, h3, h4, decide_true, Bool.and_self, if_true]
theorem zw_obj (hm : ma_md M = some (o, y, cc, nL, ret)) {x : Nat} (hd : decode cc pc = .ok (.invokespecial x, 3)) (hp : ma_prt o x = some 0) (h1 : 1 ≤ d) (hw : ma_sz r + 12 ≤ w) {c : Nat} (K : ma_wp X d w M (pc + 3) L r S Q) : ma_wp X d w M pc L (.inr (.inr (some c)) :: r) S Q := by
  refine zw_pr hm hd rfl rfl rfl rfl rfl rfl rfl rfl ?_ K
  unfold ma_pr
  simp only [hp, h1, hw, decide_true, Bool.and_self, if_true]
/-- a field in a constructor -/
def ma_pki (o x t k : Nat) : Bool := match vwCl[t]? with
  | some (_, T, _) => decide (ma_fld o x t = some k) && decide ((T k).1 = ma_cn o) && decide (1 ≤ t) && decide (t ≤ 12)
  | none => false
theorem zw_pfi (hm : ma_md M = some (o, y, cc, nL, ret)) (hy : y.name = "<init>") {x : Nat} (hd : decode cc pc = .ok (.putfield x, 3)) {c t k : Nat} {v : ma_V} (hs : ma_is S c = true) (ht : (mH S c).1 = t) (hp : ma_pki o x t k = true) (hv : ma_ok (ma_ft t k) v = true) (K : ma_wp X d w M (pc + 3) L r (ma_put S c k v) Q) : ma_wp X d w M pc L (v :: .inr (.inr (some c)) :: r) S Q := by
  refine zw_hp hm hd rfl rfl rfl rfl ?_ K
  unfold ma_pki at hp
  split at hp
  · next C T N hc =>
    simp only [Bool.and_eq_true, decide_eq_true_eq] at hp
    unfold ma_hp
    simp only [hs, ht, hp.1.2, hp.2, decide_true, Bool.and_self, if_true, hp.1.1.1, hc, hp.1.1.2, hv, hy, Bool.or_true]
  · cases hp
theorem zk_long {x : Int64} : ma_ok .long (.inr (.inl x)) = true := by simp [ma_ok]
/-- are two references the same -/
theorem zw_acmp (hm : ma_md M = some (o, y, cc, nL, ret)) {off : Int} (hd : decode cc pc = .ok (.if_acmp .eq off, 3)) {t : Nat} (ht : ma_to pc off = some t) {p q : Option Nat} (hp : ∀ b, p = some b → 64 ≤ b) (hq : ∀ b, q = some b → 64 ≤ b) (k1 : p = q → ma_wp X d w M t L r S Q) (k2 : ¬ p = q → ma_wp X d w M (pc + 3) L r S Q) : ma_wp X d w M pc L (.inr (.inr q) :: .inr (.inr p) :: r) S Q := by
  have hg : (p.all (fun b => decide (64 ≤ b)) && q.all (fun b => decide (64 ≤ b))) = true := by
    rw [Bool.and_eq_true]
    refine ⟨?_, ?_⟩
    · cases p with
      | none => rfl
      | some b => exact decide_eq_true (hp b rfl)
    · cases q with
      | none => rfl
      | some b => exact decide_eq_true (hq b rfl)
  have h : ma_one X o (decide (y.name = "<init>")) nL d w (.if_acmp .eq off) 3 pc L (.inr (.inr q) :: .inr (.inr p) :: r) S = some (if p = q then t else pc + 3, L, r, S) := by
    unfold ma_one
    simp only [ma_push, ma_stk, ma_sto, ma_jmp, ma_hp, ma_sc, ma_ex, ma_al, ma_pr, ma_tx, ma_ac, hg, if_true, ht, Option.map_some]
  refine zw_one hm hd h ?_
  by_cases e : p = q
  · rw [if_pos e]; exact k1 e
  · rw [if_neg e]; exact k2 e
/-- a method of the class above -/
theorem zw_csp (hm : ma_md M = some (o, y, cc, nL, ret)) {x M₉ m b nL₉ o₉ : Nat} {y₉ : MethodName} {cc₉ : ByteArray} {ret₉ : Option FieldType} (hd : decode cc pc = .ok (.invokespecial x, 3)) (hp : ma_prt o x = none) (hv : (ma_fd o x 0 true 6 9).map (fun q => q.2.1) = some (7, M₉, m)) (hm₉ : ma_md M₉ = some (o₉, y₉, cc₉, nL₉, ret₉)) (asr rest : List ma_V) (hl : asr.length = m) (hs : ma_is S b = true) (ht : 1 ≤ (mH S b).1 ∧ (mH S b).1 ≤ 12) (hr : 1 ≤ d ∧ 19 + nL₉ ≤ w) (hz : (decide (ma_sz (.inr (.inr (some b)) :: asr.reverse) ≤ nL₉) && decide (ma_sz rest ≤ 8)) = true)
    (hk : ma_wp X (d - 1) (w - (19 + nL₉)) M₉ 0 (ma_args 0 (.inr (.inr (some b)) :: asr.reverse)) [] S (fun z S₉ => match z with
      | .inl v => ma_wp X d w M (pc + 3) L (v.toList ++ rest) S₉ Q
      | .inr x => 7 ≤ 1 ∧ Q (.inr x) S₉)) : ma_wp X d w M pc L (asr ++ .inr (.inr (some b)) :: rest) S Q := by
  rw [Bool.and_eq_true, decide_eq_true_eq, decide_eq_true_eq] at hz
  cases hq : ma_fd o x 0 true 6 9 with
  | none => rw [hq] at hv; cases hv
  | some q =>
    rw [hq] at hv
    have e : q.2.1 = (7, M₉, m) := Option.some.inj hv
    have h2 : ma_pr o d w (.invokespecial x) 3 (asr ++ .inr (.inr (some b)) :: rest) S = none := by
      unfold ma_pr
      split
      · next h _ _ => cases h; simp [hp]
      · next h _ _ => cases h
      · next h _ _ => cases h
      · rfl
    refine zw_call (as := .inr (.inr (some b)) :: asr.reverse) (rest := rest) (k := 7) (M₉ := M₉) hm hd ?_ rfl (ma_thr_no hd (fun _ h => by cases h)) ?_ hm₉ ⟨hr.1, hr.2, hz.1, hz.2⟩ hk
    · unfold ma_one
      rw [h2]
      rfl
    · unfold ma_cl
      simp only [hq, e, ← hl, List.drop_left, List.take_left]
      rw [if_pos ⟨by decide, hs, ht.1, ht.2, Or.inl (by first | trivial | rfl)⟩]
end ZW3

/-! from 91.zz -/
/-! INTS as integers, and what store and walk keep -/
theorem zt {c A B : Prop} [Decidable c] (hc : c) (h : A) : if c then A else B := by rw [if_pos hc]; exact h
theorem zf {c A B : Prop} [Decidable c] (hc : ¬ c) (h : B) : if c then A else B := by rw [if_neg hc]; exact h
theorem zd {c A B : Prop} [Decidable c] (h1 : c → A) (h2 : ¬ c → B) : if c then A else B := by
  by_cases hc : c
  · exact zt hc (h1 hc)
  · exact zf hc (h2 hc)
theorem zi_x {K : Int32 → ma_S → Prop} {E : Nat → ma_S → Prop} {x : Nat} {S : ma_S} (h : E x S) : zi K E (.inr x) S := h
theorem zi_n {K : Int32 → ma_S → Prop} {E : Nat → ma_S → Prop} {v : Int32} {S : ma_S} (h : K v S) : zi K E (.inl (some (.inl v))) S := h
theorem zo_n {K : Option Nat → ma_S → Prop} {E : Nat → ma_S → Prop} {v : Option Nat} {S : ma_S} (h : K v S) : zo K E (.inl (some (.inr (.inr v)))) S := h
theorem zv_n {K : ma_S → Prop} {E : Nat → ma_S → Prop} {S : ma_S} (h : K S) : zv K E (.inl none) S := h
theorem zfi_n {K : Int32 → ma_S → Prop} {v : Int32} {S : ma_S} (h : K v S) : zfi_ K (some (.inl v)) S := h
theorem i_add {x y : Int32} (h1 : -2147483648 ≤ x.toInt + y.toInt) (h2 : x.toInt + y.toInt ≤ 2147483647) : (x + y).toInt = x.toInt + y.toInt := by
  rw [Int32.toInt_add]
  exact Int.bmod_eq_of_le (by omega) (by omega)
theorem i_sub {x y : Int32} (h1 : -2147483648 ≤ x.toInt - y.toInt) (h2 : x.toInt - y.toInt ≤ 2147483647) : (x - y).toInt = x.toInt - y.toInt := by
  rw [Int32.toInt_sub]
  exact Int.bmod_eq_of_le (by omega) (by omega)
theorem i_mul {x y : Int32} (h1 : -2147483648 ≤ x.toInt * y.toInt) (h2 : x.toInt * y.toInt ≤ 2147483647) : (x * y).toInt = x.toInt * y.toInt := by
  rw [Int32.toInt_mul]
  exact Int.bmod_eq_of_le (by omega) (by omega)
theorem i_addk {x y : Int32} {k : Int} (hk : y.toInt = k) (h1 : -2147483648 ≤ x.toInt + k) (h2 : x.toInt + k ≤ 2147483647) : (x + y).toInt = x.toInt + k := by
  rw [← hk] at h1 h2 ⊢
  exact i_add h1 h2
theorem i_subk {x y : Int32} {k : Int} (hk : y.toInt = k) (h1 : -2147483648 ≤ x.toInt - k) (h2 : x.toInt - k ≤ 2147483647) : (x - y).toInt = x.toInt - k := by
  rw [← hk] at h1 h2 ⊢
  exact i_sub h1 h2
theorem i_lt {x y : Int32} (h : x < y) : x.toInt < y.toInt := Int32.lt_iff_toInt_lt.mp h
theorem i_le {x y : Int32} (h : x ≤ y) : x.toInt ≤ y.toInt := Int32.le_iff_toInt_le.mp h
theorem i_eq {x y : Int32} (h : x = y) : x.toInt = y.toInt := by rw [h]
theorem i_nlt {x y : Int32} (h : ¬ x < y) : y.toInt ≤ x.toInt := Int32.le_iff_toInt_le.mp (Int32.not_lt.mp h)
theorem i_nle {x y : Int32} (h : ¬ x ≤ y) : y.toInt < x.toInt := Int32.lt_iff_toInt_lt.mp (Int32.not_le.mp h)
theorem i_ne {x y : Int32} (h : ¬ x = y) : x.toInt ≠ y.toInt := fun z => h (Int32.toInt_inj.mp z)
theorem i_ix {x : Int32} {n : Nat} (h1 : 0 ≤ x.toInt) (h2 : x.toInt < (n : Int)) : 0 ≤ x ∧ x.toNatClampNeg < n := by
  refine ⟨Int32.le_iff_toInt_le.mpr h1, ?_⟩
  show x.toInt.toNat < n
  omega
theorem i_bd (x : Int32) : -2147483648 ≤ x.toInt ∧ x.toInt ≤ 2147483647 := by
  have h1 := x.le_toInt
  have h2 := x.toInt_lt
  constructor
  · exact h1
  · omega
theorem i_bool {x : Int32} (h1 : 0 ≤ x.toInt) (h2 : x.toInt ≤ 1) : x = 0 ∨ x = 1 := by
  have h : x.toInt = 0 ∨ x.toInt = 1 := by omega
  rcases h with h | h
  · exact Or.inl (Int32.toInt_inj.mp (h.trans (rfl : (0 : Int32).toInt = 0).symm))
  · exact Or.inr (Int32.toInt_inj.mp (h.trans (rfl : (1 : Int32).toInt = 1).symm))
theorem i_div {x y : Int32} (h1 : 0 ≤ x.toInt) (h2 : 1 ≤ y.toInt) : 0 ≤ (x / y).toInt ∧ (x / y).toInt ≤ x.toInt ∧ (x / y).toInt = x.toInt / y.toInt ∧ (x / y).toInt * y.toInt ≤ x.toInt := by
  have e : (x / y).toInt = x.toInt / y.toInt := by
    rw [Int32.toInt_div, Int.tdiv_eq_ediv_of_nonneg h1]
    have h3 : x.toInt / y.toInt ≤ x.toInt := Int.ediv_le_self _ h1
    have h4 : 0 ≤ x.toInt / y.toInt := Int.ediv_nonneg h1 (by omega)
    have := i_bd x
    exact Int.bmod_eq_of_le (by omega) (by omega)
  have h3 : x.toInt / y.toInt ≤ x.toInt := Int.ediv_le_self _ h1
  have h4 : 0 ≤ x.toInt / y.toInt := Int.ediv_nonneg h1 (by omega)
  refine ⟨by omega, by omega, e, ?_⟩
  rw [e]
  exact Int.ediv_mul_le _ (by omega)
theorem i_muln {x y : Int32} (h1 : 0 ≤ x.toInt) (h2 : x.toInt ≤ 1500) (h3 : 0 ≤ y.toInt) (h4 : y.toInt ≤ 3000) : 0 ≤ (x * y).toInt ∧ (x * y).toInt ≤ x.toInt * 3000 ∧ (x * y).toInt = x.toInt * y.toInt := by
  have a : 0 ≤ x.toInt * y.toInt := Int.mul_nonneg h1 h3
  have b : x.toInt * y.toInt ≤ x.toInt * 3000 := Int.mul_le_mul_of_nonneg_left h4 h1
  have e := i_mul (x := x) (y := y) (by omega) (by omega)
  refine ⟨by omega, by omega, e⟩
theorem i_nz {x : Int32} (h : x.toInt ≠ 0) : x ≠ 0 := fun z => h (by rw [z]; rfl)
theorem i_max (a b : Int32) : a.toInt ≤ (if a < b then b else a).toInt ∧ b.toInt ≤ (if a < b then b else a).toInt ∧ ((if a < b then b else a).toInt = a.toInt ∨ (if a < b then b else a).toInt = b.toInt) := by
  split
  · next h => have := i_lt h; omega
  · next h => have := i_nlt h; omega
theorem i_min (a b : Int32) : (if b < a then b else a).toInt ≤ a.toInt ∧ (if b < a then b else a).toInt ≤ b.toInt ∧ ((if b < a then b else a).toInt = a.toInt ∨ (if b < a then b else a).toInt = b.toInt) := by
  split
  · next h => have := i_lt h; omega
  · next h => have := i_nlt h; omega
theorem i_copy {a b z : Int32} {n : Nat} (h1 : 0 ≤ a.toInt) (h2 : 0 ≤ b.toInt) (h3 : 0 ≤ z.toInt) (h4 : a.toInt + z.toInt ≤ (n : Int)) (h5 : b.toInt + z.toInt ≤ (n : Int)) : 0 ≤ a ∧ 0 ≤ b ∧ 0 ≤ z ∧ a.toNatClampNeg + z.toNatClampNeg ≤ n ∧ b.toNatClampNeg + z.toNatClampNeg ≤ n := by
  refine ⟨Int32.le_iff_toInt_le.mpr h1, Int32.le_iff_toInt_le.mpr h2, Int32.le_iff_toInt_le.mpr h3, ?_, ?_⟩
  · show a.toInt.toNat + z.toInt.toNat ≤ n
    omega
  · show b.toInt.toNat + z.toInt.toNat ≤ n
    omega
/-- what they may not touch: the house, its rows, how many were given, the collectors, the reference, the law's row -/
def zfz (c k : Nat) : Bool := (decide (64 ≤ c) && decide (c ≤ 68)) || (decide (c = 69) && decide (k = 6)) || (decide (78 ≤ c) && decide (c ≤ 87)) || (decide (91 ≤ c) && decide (c ≤ 125))
/-- AN INVARIANT: which ints may not change, fields with bounds, rows with bounds, rows of Things, one thing more; what the ints and references were, how much was made -/
def zG (fz : Nat → Nat → Bool) (sc : List (Nat × Nat × Int × Int)) (sa : List (Nat × Nat × Int × Int)) (rf : List Nat) (ex : (Nat → Nat → Int32) → Prop) (f : Nat → Nat → Int32) (r : Nat → Nat → Option Nat) (C Z N : Nat) (S : ma_S) : Prop :=
  zT S ∧ (mC S = C ∧ mZ S = Z ∧ mN S = N) ∧ (∀ c k, fz c k = true → mI S c k = f c k) ∧ (∀ c k, c ∉ rf → mR S c k = r c k) ∧ ex (mI S) ∧
  (∀ q ∈ sc, q.2.2.1 ≤ (mI S q.1 q.2.1).toInt ∧ (mI S q.1 q.2.1).toInt ≤ q.2.2.2) ∧ (∀ q ∈ sa, ∀ k, k < q.2.1 → q.2.2.1 ≤ (mI S q.1 k).toInt ∧ (mI S q.1 k).toInt ≤ q.2.2.2) ∧ (∀ c ∈ rf, ∀ i b, mR S c i = some b → 126 ≤ b ∧ b < N) ∧
  ∀ c, 126 ≤ c → c < N → (0 ≤ (mI S c 0).toInt ∧ (mI S c 0).toInt ≤ 511) ∧ (1 ≤ (mI S c 2).toInt ∧ (mI S c 2).toInt ≤ 61) ∧ (0 ≤ (mI S c 4).toInt ∧ (mI S c 4).toInt ≤ 200000)
section ZG1
variable {fz : Nat → Nat → Bool} {sc sa : List (Nat × Nat × Int × Int)} {rf : List Nat} {ex : (Nat → Nat → Int32) → Prop} {f : Nat → Nat → Int32} {r : Nat → Nat → Option Nat} {C Z N : Nat} {S : ma_S} {c k : Nat} {x : Int32}
theorem zG_T (h : zG fz sc sa rf ex f r C Z N S) : zT S := h.1
theorem zG_N (h : zG fz sc sa rf ex f r C Z N S) : mN S = N := h.2.1.2.2
theorem zG_n (h : zG fz sc sa rf ex f r C Z N S) (hc : 126 ≤ c ∧ c < N) : 126 ≤ c ∧ c < mN S := by rw [h.2.1.2.2]; exact hc
theorem zG_s (h : zG fz sc sa rf ex f r C Z N S) (lo hi : Int) (m : (c, k, lo, hi) ∈ sc) : lo ≤ (mI S c k).toInt ∧ (mI S c k).toInt ≤ hi := h.2.2.2.2.2.1 _ m
theorem zG_a (h : zG fz sc sa rf ex f r C Z N S) (n : Nat) (lo hi : Int) (m : (c, n, lo, hi) ∈ sa) (hk : k < n) : lo ≤ (mI S c k).toInt ∧ (mI S c k).toInt ≤ hi := h.2.2.2.2.2.2.1 _ m k hk
theorem zG_z (h : zG fz sc sa rf ex f r C Z N S) (hz : fz c k = true) : mI S c k = f c k := h.2.2.1 c k hz
theorem zG_zi (h : zG fz sc sa rf ex f r C Z N S) (hz : fz c k = true) : (mI S c k).toInt = (f c k).toInt := by rw [zG_z h hz]
theorem zG_r (h : zG fz sc sa rf ex f r C Z N S) (hz : c ∉ rf) : mR S c k = r c k := h.2.2.2.1 c k hz
theorem zG_x (h : zG fz sc sa rf ex f r C Z N S) : ex (mI S) := h.2.2.2.2.1
theorem zG_70 (h : zG fz sc sa rf ex f r C Z N S) {i b : Nat} (hc : c ∈ rf) (e : mR S c i = some b) : 126 ≤ b ∧ b < N := h.2.2.2.2.2.2.2.1 _ hc _ _ e
theorem zG_th (h : zG fz sc sa rf ex f r C Z N S) (hc : 126 ≤ c ∧ c < N) : (0 ≤ (mI S c 0).toInt ∧ (mI S c 0).toInt ≤ 511) ∧ (1 ≤ (mI S c 2).toInt ∧ (mI S c 2).toInt ≤ 61) ∧ (0 ≤ (mI S c 4).toInt ∧ (mI S c 4).toInt ≤ 200000) := h.2.2.2.2.2.2.2.2 c hc.1 hc.2
theorem zG_pi (h : zG fz sc sa rf ex f r C Z N S) (h1 : fz c k = false) (h2 : ∀ q ∈ sc, q.1 = c → q.2.1 = k → q.2.2.1 ≤ x.toInt ∧ x.toInt ≤ q.2.2.2) (h4 : ∀ q ∈ sa, q.1 = c → q.2.2.1 ≤ x.toInt ∧ x.toInt ≤ q.2.2.2) (hx : ex (mI (ma_put S c k (.inl x)))) (h3 : 126 ≤ c → (k = 0 → 0 ≤ x.toInt ∧ x.toInt ≤ 511) ∧ (k = 2 → 1 ≤ x.toInt ∧ x.toInt ≤ 61) ∧ (k = 4 → 0 ≤ x.toInt ∧ x.toInt ≤ 200000)) : zG fz sc sa rf ex f r C Z N (ma_put S c k (.inl x)) := by
  obtain ⟨a1, a2, a3, a4, a5, a6, a9, a7, a8⟩ := h
  have rd : ∀ c₉ k₉, mI (ma_put S c k (.inl x)) c₉ k₉ = if c₉ = c ∧ k₉ = k then x else mI S c₉ k₉ := fun _ _ => rfl
  refine ⟨a1, a2, fun c₉ k₉ hz => ?_, a4, hx, fun q hq => ?_, fun q hq k₉ hk => ?_, a7, fun c₉ hc1 hc2 => ?_⟩
  · rw [rd, if_neg (fun z => by rw [z.1, z.2, h1] at hz; cases hz)]
    exact a3 c₉ k₉ hz
  · rw [rd]
    split
    · next z => exact h2 q hq z.1 z.2
    · exact a6 q hq
  · rw [rd]
    split
    · next z => exact h4 q hq z.1
    · exact a9 q hq k₉ hk
  · have := a8 c₉ hc1 hc2
    rw [rd, rd, rd]
    refine ⟨?_, ?_, ?_⟩
    · split
      · next z => exact (h3 (z.1 ▸ hc1)).1 z.2.symm
      · exact this.1
    · split
      · next z => exact (h3 (z.1 ▸ hc1)).2.1 z.2.symm
      · exact this.2.1
    · split
      · next z => exact (h3 (z.1 ▸ hc1)).2.2 z.2.symm
      · exact this.2.2
/-- a row, or a field, without bounds -/
theorem zG_fr (h : zG fz sc sa rf ex f r C Z N S) (e : fz c k = false) (e2 : ∀ q ∈ sc, q.1 ≠ c ∨ q.2.1 ≠ k) (e3 : ∀ q ∈ sa, q.1 ≠ c) (hc : c < 126) (hx : ex (mI (ma_put S c k (.inl x)))) : zG fz sc sa rf ex f r C Z N (ma_put S c k (.inl x)) :=
  zG_pi h e (fun q hq h1 h2 => (e2 q hq).elim (fun z => absurd h1 z) (fun z => absurd h2 z)) (fun q hq h1 => absurd h1 (e3 q hq)) hx (fun h1 => by omega)
theorem zG_fa (h : zG fz sc sa rf ex f r C Z N S) (e : fz c k = false) (e2 : ∀ q ∈ sc, q.1 ≠ c) (e3 : ∀ q ∈ sa, q.1 ≠ c) (hc : c < 126) (hx : ex (mI (ma_put S c k (.inl x)))) : zG fz sc sa rf ex f r C Z N (ma_put S c k (.inl x)) :=
  zG_pi h e (fun q hq h1 h2 => absurd h1 (e2 q hq)) (fun q hq h1 => absurd h1 (e3 q hq)) hx (fun h1 => by omega)
/-- a field, or a row, with bounds -/
theorem zG_sp (h : zG fz sc sa rf ex f r C Z N S) (lo hi : Int) (e : fz c k = false) (e2 : ∀ q ∈ sc, q.1 = c → q.2.1 = k → q.2.2.1 = lo ∧ q.2.2.2 = hi) (e3 : ∀ q ∈ sa, q.1 ≠ c) (hc : c < 126) (hx : ex (mI (ma_put S c k (.inl x)))) (h1 : lo ≤ x.toInt) (h2 : x.toInt ≤ hi) : zG fz sc sa rf ex f r C Z N (ma_put S c k (.inl x)) :=
  zG_pi h e (fun q hq g1 g2 => by rw [(e2 q hq g1 g2).1, (e2 q hq g1 g2).2]; exact ⟨h1, h2⟩) (fun q hq h1 => absurd h1 (e3 q hq)) hx (fun h1 => by omega)
theorem zG_sa (h : zG fz sc sa rf ex f r C Z N S) (lo hi : Int) (e : fz c k = false) (e2 : ∀ q ∈ sc, q.1 ≠ c) (e3 : ∀ q ∈ sa, q.1 = c → q.2.2.1 = lo ∧ q.2.2.2 = hi) (hc : c < 126) (hx : ex (mI (ma_put S c k (.inl x)))) (h1 : lo ≤ x.toInt) (h2 : x.toInt ≤ hi) : zG fz sc sa rf ex f r C Z N (ma_put S c k (.inl x)) :=
  zG_pi h e (fun q hq g1 _ => absurd g1 (e2 q hq)) (fun q hq g1 => by rw [(e3 q hq g1).1, (e3 q hq g1).2]; exact ⟨h1, h2⟩) hx (fun h1 => by omega)
theorem zG_tf (h : zG fz sc sa rf ex f r C Z N S) (hc : 126 ≤ c) (e : ∀ c k, 126 ≤ c → fz c k = false) (e2 : ∀ q ∈ sc, q.1 < 126) (e3 : ∀ q ∈ sa, q.1 < 126) (hx : ex (mI (ma_put S c k (.inl x)))) (h0 : k ≠ 0) (h2 : k ≠ 2) (h4 : k ≠ 4) : zG fz sc sa rf ex f r C Z N (ma_put S c k (.inl x)) :=
  zG_pi h (e c k hc) (fun q hq g1 g2 => by have := e2 q hq; omega) (fun q hq g1 => by have := e3 q hq; omega) hx (fun _ => ⟨fun z => absurd z h0, fun z => absurd z h2, fun z => absurd z h4⟩)
theorem zG_t4 (h : zG fz sc sa rf ex f r C Z N S) (hc : 126 ≤ c) (e : ∀ c k, 126 ≤ c → fz c k = false) (e2 : ∀ q ∈ sc, q.1 < 126) (e3 : ∀ q ∈ sa, q.1 < 126) (hx : ex (mI (ma_put S c 4 (.inl x)))) (h1 : 0 ≤ x.toInt) (h2 : x.toInt ≤ 200000) : zG fz sc sa rf ex f r C Z N (ma_put S c 4 (.inl x)) :=
  zG_pi h (e c 4 hc) (fun q hq g1 g2 => by have := e2 q hq; omega) (fun q hq g1 => by have := e3 q hq; omega) hx (fun _ => ⟨fun z => (by cases z), fun z => (by cases z), fun _ => ⟨h1, h2⟩⟩)
theorem zG_rf (h : zG fz sc sa rf ex f r C Z N S) {q : Option Nat} (hc : c ∈ rf) (hz : zfr c = true) (hx : ∀ b, q = some b → 126 ≤ b ∧ b < N) : zG fz sc sa rf ex f r C Z N (ma_put S c k (.inr (.inr q))) := by
  obtain ⟨a1, a2, a3, a4, a5, a6, a9, a7, a8⟩ := h
  have rd : ∀ c₉ k₉, mR (ma_put S c k (.inr (.inr q))) c₉ k₉ = if c₉ = c ∧ k₉ = k then q else mR S c₉ k₉ := fun _ _ => rfl
  refine ⟨zT_pr a1 (zfi_row hz), a2, a3, fun c₉ k₉ hn => ?_, a5, a6, a9, fun c₉ hc₉ i b e => ?_, a8⟩
  · rw [rd, if_neg (fun z : c₉ = c ∧ k₉ = k => hn (by rw [z.1]; exact hc))]
    exact a4 c₉ k₉ hn
  · rw [rd] at e
    split at e
    · exact hx b e
    · exact a7 c₉ hc₉ i b e
theorem zG_cp (h : zG fz sc sa rf ex f r C Z N S) {g : Nat → Int32} (e : ∀ k, fz c k = false) (e2 : ∀ q ∈ sc, q.1 ≠ c) (e3 : ∀ q ∈ sa, q.1 ≠ c) (hc : c < 126) (hx : ex (mI (ma_cp S c g))) : zG fz sc sa rf ex f r C Z N (ma_cp S c g) := by
  obtain ⟨a1, a2, a3, a4, a5, a6, a9, a7, a8⟩ := h
  have rd : ∀ c₉, c₉ ≠ c → mI (ma_cp S c g) c₉ = mI S c₉ := fun c₉ hn => if_neg hn
  refine ⟨a1, a2, fun c₉ k₉ hz => ?_, a4, hx, fun q hq => ?_, fun q hq k₉ hk => ?_, a7, fun c₉ hc1 hc2 => ?_⟩
  · rw [rd c₉ (fun z => by rw [z, e] at hz; cases hz)]
    exact a3 c₉ k₉ hz
  · rw [rd q.1 (e2 q hq)]
    exact a6 q hq
  · rw [rd q.1 (e3 q hq)]
    exact a9 q hq k₉ hk
  · rw [rd c₉ (by omega)]
    exact a8 c₉ hc1 hc2
end ZG1
section ZG2
variable {fA fB : Nat → Nat → Bool} {scA scB saA saB : List (Nat × Nat × Int × Int)} {rfA rfB : List Nat} {exA exB : (Nat → Nat → Int32) → Prop} {f : Nat → Nat → Int32} {r : Nat → Nat → Option Nat} {C Z N : Nat} {S S1 : ma_S}
/-- down to what a callee keeps -/
theorem zG_dn (h : zG fA scA saA rfA exA f r C Z N S) (hs : ∀ q ∈ scB, q ∈ scA) (ha : ∀ q ∈ saB, q ∈ saA) (hr : ∀ c ∈ rfB, c ∈ rfA) (he : exA (mI S) → exB (mI S)) : zG fB scB saB rfB exB (mI S) (mR S) C Z N S := by
  obtain ⟨a1, a2, a3, a4, a5, a6, a9, a7, a8⟩ := h
  exact ⟨a1, a2, fun _ _ _ => rfl, fun _ _ _ => rfl, he a5, fun q hq => a6 q (hs q hq), fun q hq => a9 q (ha q hq), fun c hc => a7 c (hr c hc), a8⟩
/-- and up again behind the call -/
theorem zG_up (h : zG fA scA saA rfA exA f r C Z N S) (h1 : zG fB scB saB rfB exB (mI S) (mR S) C Z N S1) (hf : ∀ c k, fA c k = true → fB c k = true) (hs : ∀ q ∈ scA, q ∈ scB ∨ fB q.1 q.2.1 = true) (ha : ∀ q ∈ saA, q ∈ saB ∨ ∀ k, fB q.1 k = true) (hr : ∀ c ∈ rfB, c ∈ rfA) (he : (∀ c k, fB c k = true → mI S1 c k = mI S c k) → exB (mI S1) → exA (mI S) → exA (mI S1)) : zG fA scA saA rfA exA f r C Z N S1 := by
  obtain ⟨a1, a2, a3, a4, a5, a6, a9, a7, a8⟩ := h
  obtain ⟨b1, b2, b3, b4, b5, b6, b9, b7, b8⟩ := h1
  refine ⟨b1, b2, fun c k hz => (b3 c k (hf c k hz)).trans (a3 c k hz), fun c k hn => (b4 c k (fun z => hn (hr c z))).trans (a4 c k hn), he b3 b5 a5, fun q hq => ?_, fun q hq k hk => ?_, fun c hc i b e => ?_, b8⟩
  · rcases hs q hq with z | z
    · exact b6 q z
    · rw [b3 _ _ z]; exact a6 q hq
  · rcases ha q hq with z | z
    · exact b9 q z k hk
    · rw [b3 _ _ (z k)]; exact a9 q hq k hk
  · by_cases hz : c ∈ rfB
    · exact b7 c hz i b e
    · rw [b4 c i hz] at e; exact a7 c hc i b e
end ZG2

/-! from 91.zzz -/
/-! the levels of the class -/
def zI_f (c k : Nat) : Bool := zfz c k
def zI_s : List (Nat × Nat × Int × Int) := [(69, 5, 0, 512), (69, 6, 0, 512), (75, 3, 0, 512), (75, 4, 0, 512), (88, 3, 0, 512), (88, 4, 0, 512)]
def zI_a : List (Nat × Nat × Int × Int) := []
def zI_r : List Nat := [70]
def zI_x (_ : Nat → Nat → Int32) : Prop := True
abbrev zI (f : Nat → Nat → Int32) (r : Nat → Nat → Option Nat) (C Z N : Nat) (S : ma_S) : Prop := zG zI_f zI_s zI_a zI_r zI_x f r C Z N S
theorem zI_t (c k : Nat) (h : 126 ≤ c) : zI_f c k = false := by
  unfold zI_f zfz
  simp only [Bool.and_eq_false_iff, Bool.or_eq_false_iff, decide_eq_false_iff_not]
  omega
def zJ79_f (c k : Nat) : Bool := zfz c k && decide (c ≠ 79)
def zJ79_s : List (Nat × Nat × Int × Int) := [(69, 5, 0, 512), (69, 6, 0, 512), (75, 3, 0, 512), (75, 4, 0, 512), (88, 3, 0, 512), (88, 4, 0, 512), (79, 2, 0, 1500), (79, 4, 0, 400000)]
def zJ79_a : List (Nat × Nat × Int × Int) := []
def zJ79_r : List Nat := [70]
def zJ79_x (_ : Nat → Nat → Int32) : Prop := True
abbrev zJ79 (f : Nat → Nat → Int32) (r : Nat → Nat → Option Nat) (C Z N : Nat) (S : ma_S) : Prop := zG zJ79_f zJ79_s zJ79_a zJ79_r zJ79_x f r C Z N S
theorem zJ79_dn {f : Nat → Nat → Int32} {r : Nat → Nat → Option Nat} {C Z N : Nat} {S : ma_S} (h : zJ79 f r C Z N S) : zI (mI S) (mR S) C Z N S := zG_dn h (by decide) (by decide) (by decide) (fun _ => trivial)
theorem zJ79_up {f : Nat → Nat → Int32} {r : Nat → Nat → Option Nat} {C Z N : Nat} {S S1 : ma_S} (h : zJ79 f r C Z N S) (h1 : zI (mI S) (mR S) C Z N S1) : zJ79 f r C Z N S1 := by
  refine zG_up h h1 (fun c k z => ?_) (by decide) ?_ (by decide) (fun _ _ h => h)
  · unfold zJ79_f at z
    unfold zI_f
    simp only [Bool.and_eq_true] at z
    exact z.1
  · intro q hq
    cases hq
def zJ84_f (c k : Nat) : Bool := zfz c k && decide (c ≠ 84) && decide (c ≠ 85) && decide (c ≠ 86)
def zJ84_s : List (Nat × Nat × Int × Int) := [(69, 5, 0, 512), (69, 6, 0, 512), (75, 3, 0, 512), (75, 4, 0, 512), (88, 3, 0, 512), (88, 4, 0, 512), (84, 0, 0, 1500), (84, 2, 0, 400000), (84, 7, 0, 512)]
def zJ84_a : List (Nat × Nat × Int × Int) := []
def zJ84_r : List Nat := [70, 85]
def zJ84_x (_ : Nat → Nat → Int32) : Prop := True
abbrev zJ84 (f : Nat → Nat → Int32) (r : Nat → Nat → Option Nat) (C Z N : Nat) (S : ma_S) : Prop := zG zJ84_f zJ84_s zJ84_a zJ84_r zJ84_x f r C Z N S
theorem zJ84_dn {f : Nat → Nat → Int32} {r : Nat → Nat → Option Nat} {C Z N : Nat} {S : ma_S} (h : zJ84 f r C Z N S) : zI (mI S) (mR S) C Z N S := zG_dn h (by decide) (by decide) (by decide) (fun _ => trivial)
theorem zJ84_up {f : Nat → Nat → Int32} {r : Nat → Nat → Option Nat} {C Z N : Nat} {S S1 : ma_S} (h : zJ84 f r C Z N S) (h1 : zI (mI S) (mR S) C Z N S1) : zJ84 f r C Z N S1 := by
  refine zG_up h h1 (fun c k z => ?_) (by decide) ?_ (by decide) (fun _ _ h => h)
  · unfold zJ84_f at z
    unfold zI_f
    simp only [Bool.and_eq_true] at z
    exact z.1.1.1
  · intro q hq
    cases hq
def zJ87_f (c k : Nat) : Bool := zfz c k && decide (c ≠ 87)
def zJ87_s : List (Nat × Nat × Int × Int) := [(69, 5, 0, 512), (69, 6, 0, 512), (75, 3, 0, 512), (75, 4, 0, 512), (88, 3, 0, 512), (88, 4, 0, 512), (87, 0, 0, 1500), (87, 2, 0, 400000), (87, 6, -1, 1500), (87, 8, 0, 1)]
def zJ87_a : List (Nat × Nat × Int × Int) := []
def zJ87_r : List Nat := [70]
def zJ87_x (_ : Nat → Nat → Int32) : Prop := True
abbrev zJ87 (f : Nat → Nat → Int32) (r : Nat → Nat → Option Nat) (C Z N : Nat) (S : ma_S) : Prop := zG zJ87_f zJ87_s zJ87_a zJ87_r zJ87_x f r C Z N S
theorem zJ87_dn {f : Nat → Nat → Int32} {r : Nat → Nat → Option Nat} {C Z N : Nat} {S : ma_S} (h : zJ87 f r C Z N S) : zI (mI S) (mR S) C Z N S := zG_dn h (by decide) (by decide) (by decide) (fun _ => trivial)
theorem zJ87_up {f : Nat → Nat → Int32} {r : Nat → Nat → Option Nat} {C Z N : Nat} {S S1 : ma_S} (h : zJ87 f r C Z N S) (h1 : zI (mI S) (mR S) C Z N S1) : zJ87 f r C Z N S1 := by
  refine zG_up h h1 (fun c k z => ?_) (by decide) ?_ (by decide) (fun _ _ h => h)
  · unfold zJ87_f at z
    unfold zI_f
    simp only [Bool.and_eq_true] at z
    exact z.1
  · intro q hq
    cases hq
def zJ80_f (c k : Nat) : Bool := zfz c k && decide (c ≠ 80)
def zJ80_s : List (Nat × Nat × Int × Int) := [(69, 5, 0, 512), (69, 6, 0, 512), (75, 3, 0, 512), (75, 4, 0, 512), (88, 3, 0, 512), (88, 4, 0, 512), (80, 2, 0, 1500), (80, 3, 0, 400000)]
def zJ80_a : List (Nat × Nat × Int × Int) := []
def zJ80_r : List Nat := [70]
def zJ80_x (_ : Nat → Nat → Int32) : Prop := True
abbrev zJ80 (f : Nat → Nat → Int32) (r : Nat → Nat → Option Nat) (C Z N : Nat) (S : ma_S) : Prop := zG zJ80_f zJ80_s zJ80_a zJ80_r zJ80_x f r C Z N S
theorem zJ80_dn {f : Nat → Nat → Int32} {r : Nat → Nat → Option Nat} {C Z N : Nat} {S : ma_S} (h : zJ80 f r C Z N S) : zI (mI S) (mR S) C Z N S := zG_dn h (by decide) (by decide) (by decide) (fun _ => trivial)
theorem zJ80_up {f : Nat → Nat → Int32} {r : Nat → Nat → Option Nat} {C Z N : Nat} {S S1 : ma_S} (h : zJ80 f r C Z N S) (h1 : zI (mI S) (mR S) C Z N S1) : zJ80 f r C Z N S1 := by
  refine zG_up h h1 (fun c k z => ?_) (by decide) ?_ (by decide) (fun _ _ h => h)
  · unfold zJ80_f at z
    unfold zI_f
    simp only [Bool.and_eq_true] at z
    exact z.1
  · intro q hq
    cases hq
def zJ81_f (c k : Nat) : Bool := zfz c k && decide (c ≠ 81)
def zJ81_s : List (Nat × Nat × Int × Int) := [(69, 5, 0, 512), (69, 6, 0, 512), (75, 3, 0, 512), (75, 4, 0, 512), (88, 3, 0, 512), (88, 4, 0, 512), (81, 2, 0, 1500), (81, 3, 0, 1500), (81, 4, 0, 400000)]
def zJ81_a : List (Nat × Nat × Int × Int) := []
def zJ81_r : List Nat := [70]
def zJ81_x (m : Nat → Nat → Int32) : Prop := 0 ≤ (m 81 3).toInt ∧ (m 81 3).toInt ≤ (m 81 2).toInt
abbrev zJ81 (f : Nat → Nat → Int32) (r : Nat → Nat → Option Nat) (C Z N : Nat) (S : ma_S) : Prop := zG zJ81_f zJ81_s zJ81_a zJ81_r zJ81_x f r C Z N S
theorem zJ81_dn {f : Nat → Nat → Int32} {r : Nat → Nat → Option Nat} {C Z N : Nat} {S : ma_S} (h : zJ81 f r C Z N S) : zI (mI S) (mR S) C Z N S := zG_dn h (by decide) (by decide) (by decide) (fun _ => trivial)
theorem zJ81_up {f : Nat → Nat → Int32} {r : Nat → Nat → Option Nat} {C Z N : Nat} {S S1 : ma_S} (h : zJ81 f r C Z N S) (h1 : zI (mI S) (mR S) C Z N S1) : zJ81 f r C Z N S1 := by
  refine zG_up h h1 (fun c k z => ?_) (by decide) ?_ (by decide) (fun g _ h => by
    unfold zJ81_x at h ⊢
    rw [g 81 2 rfl, g 81 3 rfl]
    exact h)
  · unfold zJ81_f at z
    unfold zI_f
    simp only [Bool.and_eq_true] at z
    exact z.1
  · intro q hq
    cases hq
def zJ82_f (c k : Nat) : Bool := zfz c k && decide (c ≠ 82) && decide (c ≠ 83)
def zJ82_s : List (Nat × Nat × Int × Int) := [(69, 5, 0, 512), (69, 6, 0, 512), (75, 3, 0, 512), (75, 4, 0, 512), (88, 3, 0, 512), (88, 4, 0, 512), (82, 2, 0, 1500), (82, 3, 0, 1500), (82, 6, 0, 400000), (82, 7, 0, 3000), (82, 8, 0, 400000)]
def zJ82_a : List (Nat × Nat × Int × Int) := []
def zJ82_r : List Nat := [70]
def zJ82_x (m : Nat → Nat → Int32) : Prop := (m 82 3).toInt ≤ (m 82 7).toInt ∧ (m 82 7).toInt ≤ (m 82 3).toInt + (m 82 2).toInt
abbrev zJ82 (f : Nat → Nat → Int32) (r : Nat → Nat → Option Nat) (C Z N : Nat) (S : ma_S) : Prop := zG zJ82_f zJ82_s zJ82_a zJ82_r zJ82_x f r C Z N S
theorem zJ82_t (c k : Nat) (h : 126 ≤ c) : zJ82_f c k = false := by
  unfold zJ82_f zfz
  simp only [Bool.and_eq_false_iff, Bool.or_eq_false_iff, decide_eq_false_iff_not]
  omega
theorem zJ82_xt {S : ma_S} {c k : Nat} {x : Int32} (hc : 126 ≤ c) (h : zJ82_x (mI S)) : zJ82_x (mI (ma_put S c k (.inl x))) := by
  have rd : ∀ c₉ k₉, c₉ < 126 → mI (ma_put S c k (.inl x)) c₉ k₉ = mI S c₉ k₉ := fun c₉ k₉ z => if_neg (fun w => by omega)
  unfold zJ82_x at h ⊢
  simp only [rd _ _ (by decide : 81 < 126), rd _ _ (by decide : 82 < 126)]
  exact h
theorem zJ82_dn {f : Nat → Nat → Int32} {r : Nat → Nat → Option Nat} {C Z N : Nat} {S : ma_S} (h : zJ82 f r C Z N S) : zI (mI S) (mR S) C Z N S := zG_dn h (by decide) (by decide) (by decide) (fun _ => trivial)
theorem zJ82_up {f : Nat → Nat → Int32} {r : Nat → Nat → Option Nat} {C Z N : Nat} {S S1 : ma_S} (h : zJ82 f r C Z N S) (h1 : zI (mI S) (mR S) C Z N S1) : zJ82 f r C Z N S1 := by
  refine zG_up h h1 (fun c k z => ?_) (by decide) ?_ (by decide) (fun g _ h => by
    unfold zJ82_x at h ⊢
    rw [g 82 2 rfl, g 82 3 rfl, g 82 7 rfl]
    exact h)
  · unfold zJ82_f at z
    unfold zI_f
    simp only [Bool.and_eq_true] at z
    exact z.1.1
  · intro q hq
    cases hq
def zK81_f (c k : Nat) : Bool := zfz c k && decide (c ≠ 81)
def zK81_s : List (Nat × Nat × Int × Int) := [(69, 5, 0, 512), (69, 6, 0, 512), (75, 3, 0, 512), (75, 4, 0, 512), (88, 3, 0, 512), (88, 4, 0, 512), (81, 2, 0, 1500), (81, 3, 0, 1500), (81, 4, 0, 400000)]
def zK81_a : List (Nat × Nat × Int × Int) := []
def zK81_r : List Nat := [70]
def zK81_x (_ : Nat → Nat → Int32) : Prop := True
abbrev zK81 (f : Nat → Nat → Int32) (r : Nat → Nat → Option Nat) (C Z N : Nat) (S : ma_S) : Prop := zG zK81_f zK81_s zK81_a zK81_r zK81_x f r C Z N S
def zK82_f (c k : Nat) : Bool := zfz c k && decide (c ≠ 82) && decide (c ≠ 83)
def zK82_s : List (Nat × Nat × Int × Int) := [(69, 5, 0, 512), (69, 6, 0, 512), (75, 3, 0, 512), (75, 4, 0, 512), (88, 3, 0, 512), (88, 4, 0, 512), (82, 2, 0, 1500), (82, 3, 0, 1500), (82, 6, 0, 400000), (82, 7, 0, 3000), (82, 8, 0, 400000)]
def zK82_a : List (Nat × Nat × Int × Int) := []
def zK82_r : List Nat := [70]
def zK82_x (_ : Nat → Nat → Int32) : Prop := True
abbrev zK82 (f : Nat → Nat → Int32) (r : Nat → Nat → Option Nat) (C Z N : Nat) (S : ma_S) : Prop := zG zK82_f zK82_s zK82_a zK82_r zK82_x f r C Z N S
/-! from 92.0tabs -/
/-! tables that the backward rows use -/
set_option maxRecDepth 100000 in
theorem hm_1 : ma_md 1 = some (1, yX0_open, cX0_open, 2, none) := rfl
set_option maxRecDepth 100000 in
theorem hm_2 : ma_md 2 = some (1, yX0_total, cX0_total, 1, (some (FieldType.int))) := rfl
set_option maxRecDepth 100000 in
theorem hm_3 : ma_md 3 = some (1, yX0_findRoom, cX0_findRoom, 2, (some (FieldType.int))) := rfl
set_option maxRecDepth 100000 in
theorem hm_4 : ma_md 4 = some (1, yX0_findOldRoom, cX0_findOldRoom, 2, (some (FieldType.int))) := rfl
set_option maxRecDepth 100000 in
theorem hm_5 : ma_md 5 = some (1, yX0_cleanOld, cX0_cleanOld, 2, (some (FieldType.int))) := rfl
set_option maxRecDepth 100000 in
theorem hm_6 : ma_md 6 = some (1, yX0_findDirty, cX0_findDirty, 4, none) := rfl
set_option maxRecDepth 100000 in
theorem hm_7 : ma_md 7 = some (1, yX0_isYoung, cX0_isYoung, 2, (some (FieldType.boolean))) := rfl
set_option maxRecDepth 100000 in
theorem hm_8 : ma_md 8 = some (1, yX0_noteReference, cX0_noteReference, 5, none) := rfl
set_option maxRecDepth 100000 in
theorem hm_9 : ma_md 9 = some (1, yX0_cardOf, cX0_cardOf, 3, (some (FieldType.int))) := rfl
set_option maxRecDepth 100000 in
theorem hm_10 : ma_md 10 = some (1, yX0_hasYoungRoom, cX0_hasYoungRoom, 2, (some (FieldType.boolean))) := rfl
set_option maxRecDepth 100000 in
theorem hm_11 : ma_md 11 = some (1, yX0_cleanYoung, cX0_cleanYoung, 2, (some (FieldType.int))) := rfl
set_option maxRecDepth 100000 in
theorem hm_12 : ma_md 12 = some (1, yX0_wordsGrowingOld, cX0_wordsGrowingOld, 4, (some (FieldType.int))) := rfl
set_option maxRecDepth 100000 in
theorem hm_13 : ma_md 13 = some (1, yX0_comeFromDirty, cX0_comeFromDirty, 3, none) := rfl
set_option maxRecDepth 100000 in
theorem hm_14 : ma_md 14 = some (1, yX0_comeFromDirtyWords, cX0_comeFromDirtyWords, 4, none) := rfl
set_option maxRecDepth 100000 in
theorem hm_15 : ma_md 15 = some (1, yX0_moveKept, cX0_moveKept, 3, none) := rfl
set_option maxRecDepth 100000 in
theorem hm_16 : ma_md 16 = some (1, yX0_moveOlder, cX0_moveOlder, 2, none) := rfl
set_option maxRecDepth 100000 in
theorem hm_17 : ma_md 17 = some (1, yX0_noteMade, cX0_noteMade, 2, none) := rfl
set_option maxRecDepth 100000 in
theorem hm_18 : ma_md 18 = some (1, yX0_canHold, cX0_canHold, 2, (some (FieldType.boolean))) := rfl
set_option maxRecDepth 100000 in
theorem hm_19 : ma_md 19 = some (1, yX0_cleanAll, cX0_cleanAll, 2, (some (FieldType.int))) := rfl
set_option maxRecDepth 100000 in
theorem hm_20 : ma_md 20 = some (1, yX0_specials, cX0_specials, 3, (some (FieldType.int))) := rfl
set_option maxRecDepth 100000 in
theorem hm_21 : ma_md 21 = some (1, yX0_topPlace, cX0_topPlace, 1, (some (FieldType.int))) := rfl
set_option maxRecDepth 100000 in
theorem hm_22 : ma_md 22 = some (1, yX0_oldTopOrRegion, cX0_oldTopOrRegion, 1, (some (FieldType.int))) := rfl
set_option maxRecDepth 100000 in
theorem hm_24 : ma_md 24 = some (2, yX2_noteFewer, cX2_noteFewer, 5, none) := rfl
set_option maxRecDepth 100000 in
theorem hm_25 : ma_md 25 = some (2, yX2_fallIfUncounted, cX2_fallIfUncounted, 2, none) := rfl
set_option maxRecDepth 100000 in
theorem hm_26 : ma_md 26 = some (2, yX2_dropWord, cX2_dropWord, 3, none) := rfl
set_option maxRecDepth 100000 in
theorem hm_27 : ma_md 27 = some (2, yX2_countOf, cX2_countOf, 2, (some (FieldType.int))) := rfl
set_option maxRecDepth 100000 in
theorem hm_29 : ma_md 29 = some (3, yX3_open, cX3_open, 2, none) := rfl
set_option maxRecDepth 100000 in
theorem hm_30 : ma_md 30 = some (3, yX3_total, cX3_total, 1, (some (FieldType.int))) := rfl
set_option maxRecDepth 100000 in
theorem hm_31 : ma_md 31 = some (3, yX3_findRoom, cX3_findRoom, 2, (some (FieldType.int))) := rfl
set_option maxRecDepth 100000 in
theorem hm_32 : ma_md 32 = some (3, yX3_hasRoom, cX3_hasRoom, 2, (some (FieldType.boolean))) := rfl
set_option maxRecDepth 100000 in
theorem hm_33 : ma_md 33 = some (3, yX3_cleanAll, cX3_cleanAll, 4, (some (FieldType.int))) := rfl
set_option maxRecDepth 100000 in
theorem hm_34 : ma_md 34 = some (3, yX3_noteMade, cX3_noteMade, 2, none) := rfl
set_option maxRecDepth 100000 in
theorem hm_36 : ma_md 36 = some (3, yX3_topPlace, cX3_topPlace, 1, (some (FieldType.int))) := rfl
set_option maxRecDepth 100000 in
theorem hm_59 : ma_md 59 = some (5, yX5_open, cX5_open, 2, none) := rfl
set_option maxRecDepth 100000 in
theorem hm_60 : ma_md 60 = some (5, yX5_total, cX5_total, 1, (some (FieldType.int))) := rfl
set_option maxRecDepth 100000 in
theorem hm_61 : ma_md 61 = some (5, yX5_findRoom, cX5_findRoom, 2, (some (FieldType.int))) := rfl
set_option maxRecDepth 100000 in
theorem hm_62 : ma_md 62 = some (5, yX5_cleanAll, cX5_cleanAll, 2, (some (FieldType.int))) := rfl
set_option maxRecDepth 100000 in
theorem hm_63 : ma_md 63 = some (5, yX5_noteMade, cX5_noteMade, 2, none) := rfl
set_option maxRecDepth 100000 in
theorem hm_64 : ma_md 64 = some (5, yX5_topPlace, cX5_topPlace, 1, (some (FieldType.int))) := rfl
set_option maxRecDepth 100000 in
theorem hm_66 : ma_md 66 = some (6, yX6_open, cX6_open, 2, none) := rfl
set_option maxRecDepth 100000 in
theorem hm_67 : ma_md 67 = some (6, yX6_cleanAll, cX6_cleanAll, 2, (some (FieldType.int))) := rfl
set_option maxRecDepth 100000 in
theorem hm_68 : ma_md 68 = some (6, yX6_begin, cX6_begin, 1, none) := rfl
set_option maxRecDepth 100000 in
theorem hm_69 : ma_md 69 = some (6, yX6_newsCame, cX6_newsCame, 1, (some (FieldType.boolean))) := rfl
set_option maxRecDepth 100000 in
theorem hm_70 : ma_md 70 = some (6, yX6_finish, cX6_finish, 1, (some (FieldType.int))) := rfl
set_option maxRecDepth 100000 in
theorem hm_71 : ma_md 71 = some (6, yX6_findRoom, cX6_findRoom, 4, (some (FieldType.int))) := rfl
set_option maxRecDepth 100000 in
theorem hm_72 : ma_md 72 = some (6, yX6_goOn, cX6_goOn, 3, (some (FieldType.int))) := rfl
set_option maxRecDepth 100000 in
theorem hm_73 : ma_md 73 = some (6, yX6_noteMade, cX6_noteMade, 2, none) := rfl
set_option maxRecDepth 100000 in
theorem hm_74 : ma_md 74 = some (6, yX6_noteChange, cX6_noteChange, 3, none) := rfl
set_option maxRecDepth 100000 in
theorem hm_75 : ma_md 75 = some (6, yX6_noteStrong, cX6_noteStrong, 2, none) := rfl
set_option maxRecDepth 100000 in
theorem hm_76 : ma_md 76 = some (6, yX6_colourOf, cX6_colourOf, 2, (some (FieldType.int))) := rfl
set_option maxRecDepth 100000 in
theorem hm_77 : ma_md 77 = some (6, yX6_specials, cX6_specials, 1, (some (FieldType.int))) := rfl
set_option maxRecDepth 100000 in
theorem hm_78 : ma_md 78 = some (6, yX6_isMarking, cX6_isMarking, 1, (some (FieldType.boolean))) := rfl
set_option maxRecDepth 100000 in
theorem hm_81 : ma_md 81 = some (7, yX7_thingAt, cX7_thingAt, 2, (some (FieldType.object "CollectorHouse$Thing"))) := rfl
set_option maxRecDepth 100000 in
theorem hm_82 : ma_md 82 = some (7, yX7_referenceOf, cX7_referenceOf, 6, (some (FieldType.object "CollectorHouse$Thing"))) := rfl
set_option maxRecDepth 100000 in
theorem hm_83 : ma_md 83 = some (7, yX7_grantWishes, cX7_grantWishes, 4, none) := rfl
set_option maxRecDepth 100000 in
theorem hm_84 : ma_md 84 = some (7, yX7_grant, cX7_grant, 2, none) := rfl
set_option maxRecDepth 100000 in
theorem hm_85 : ma_md 85 = some (7, yX7_clearWeak, cX7_clearWeak, 3, none) := rfl
set_option maxRecDepth 100000 in
theorem hm_86 : ma_md 86 = some (7, yX7_removeOthers, cX7_removeOthers, 5, (some (FieldType.int))) := rfl
set_option maxRecDepth 100000 in
theorem hm_87 : ma_md 87 = some (7, yX7_remove, cX7_remove, 4, none) := rfl
set_option maxRecDepth 100000 in
theorem hm_88 : ma_md 88 = some (7, yX7_freeWords, cX7_freeWords, 4, none) := rfl
set_option maxRecDepth 100000 in
theorem hm_89 : ma_md 89 = some (7, yX7_thingFrom, cX7_thingFrom, 3, (some (FieldType.object "CollectorHouse$Thing"))) := rfl
set_option maxRecDepth 100000 in
theorem hm_90 : ma_md 90 = some (7, yX7_move, cX7_move, 5, none) := rfl
set_option maxRecDepth 100000 in
theorem hm_92 : ma_md 92 = some (7, yX7_changeRoot, cX7_changeRoot, 4, (some (FieldType.object "CollectorHouse$Thing"))) := rfl
set_option maxRecDepth 100000 in
theorem hm_93 : ma_md 93 = some (7, yX7_changeCounts, cX7_changeCounts, 2, none) := rfl
set_option maxRecDepth 100000 in
theorem hm_94 : ma_md 94 = some (7, yX7_changeReference, cX7_changeReference, 5, (some (FieldType.object "CollectorHouse$Thing"))) := rfl
set_option maxRecDepth 100000 in
theorem hm_95 : ma_md 95 = some (7, yX7_changeInt, cX7_changeInt, 6, (some (FieldType.int))) := rfl
set_option maxRecDepth 100000 in
theorem hm_96 : ma_md 96 = some (7, yX7_wordOf, cX7_wordOf, 4, (some (FieldType.int))) := rfl
set_option maxRecDepth 100000 in
theorem hm_97 : ma_md 97 = some (7, yX7_changeHolds, cX7_changeHolds, 3, none) := rfl
set_option maxRecDepth 100000 in
theorem hm_98 : ma_md 98 = some (7, yX7_takeWish, cX7_takeWish, 3, (some (FieldType.object "CollectorHouse$Thing"))) := rfl
set_option maxRecDepth 100000 in
theorem hm_100 : ma_md 100 = some (8, yX8_open, cX8_open, 2, none) := rfl
set_option maxRecDepth 100000 in
theorem hm_101 : ma_md 101 = some (8, yX8_total, cX8_total, 1, (some (FieldType.int))) := rfl
set_option maxRecDepth 100000 in
theorem hm_102 : ma_md 102 = some (8, yX8_findRoom, cX8_findRoom, 3, (some (FieldType.int))) := rfl
set_option maxRecDepth 100000 in
theorem hm_103 : ma_md 103 = some (8, yX8_fit, cX8_fit, 2, (some (FieldType.int))) := rfl
set_option maxRecDepth 100000 in
theorem hm_104 : ma_md 104 = some (8, yX8_fitFirst, cX8_fitFirst, 7, (some (FieldType.int))) := rfl
set_option maxRecDepth 100000 in
theorem hm_105 : ma_md 105 = some (8, yX8_freeFrom, cX8_freeFrom, 4, (some (FieldType.int))) := rfl
set_option maxRecDepth 100000 in
theorem hm_106 : ma_md 106 = some (8, yX8_freeEnd, cX8_freeEnd, 3, (some (FieldType.int))) := rfl
set_option maxRecDepth 100000 in
theorem hm_107 : ma_md 107 = some (8, yX8_fitNext, cX8_fitNext, 3, (some (FieldType.int))) := rfl
set_option maxRecDepth 100000 in
theorem hm_108 : ma_md 108 = some (8, yX8_fitByLength, cX8_fitByLength, 9, (some (FieldType.int))) := rfl
set_option maxRecDepth 100000 in
theorem hm_109 : ma_md 109 = some (8, yX8_cleanAll, cX8_cleanAll, 1, (some (FieldType.int))) := rfl
set_option maxRecDepth 100000 in
theorem hm_110 : ma_md 110 = some (8, yX8_noteMade, cX8_noteMade, 2, none) := rfl
set_option maxRecDepth 100000 in
theorem hm_113 : ma_md 113 = some (9, yX9_isReference, cX9_isReference, 2, (some (FieldType.boolean))) := rfl
set_option maxRecDepth 100000 in
theorem hm_114 : ma_md 114 = some (9, yX9_hasWord, cX9_hasWord, 2, (some (FieldType.boolean))) := rfl
set_option maxRecDepth 100000 in
theorem hm_116 : ma_md 116 = some (10, yX10_reachAll, cX10_reachAll, 1, none) := rfl
set_option maxRecDepth 100000 in
theorem hm_117 : ma_md 117 = some (10, yX10_restart, cX10_restart, 2, none) := rfl
set_option maxRecDepth 100000 in
theorem hm_118 : ma_md 118 = some (10, yX10_comeFromRoots, cX10_comeFromRoots, 3, none) := rfl
set_option maxRecDepth 100000 in
theorem hm_119 : ma_md 119 = some (10, yX10_comes, cX10_comes, 2, none) := rfl
set_option maxRecDepth 100000 in
theorem hm_120 : ma_md 120 = some (10, yX10_spread, cX10_spread, 5, (some (FieldType.int))) := rfl
set_option maxRecDepth 100000 in
theorem hm_121 : ma_md 121 = some (10, yX10_blacken, cX10_blacken, 2, none) := rfl
set_option maxRecDepth 100000 in
theorem hm_122 : ma_md 122 = some (10, yX10_keeps, cX10_keeps, 2, (some (FieldType.boolean))) := rfl
set_option maxRecDepth 100000 in
theorem hm_123 : ma_md 123 = some (10, yX10_colourOf, cX10_colourOf, 2, (some (FieldType.int))) := rfl
set_option maxRecDepth 100000 in
theorem hm_124 : ma_md 124 = some (10, yX10_thingInQueue, cX10_thingInQueue, 2, (some (FieldType.object "CollectorHouse$Thing"))) := rfl
set_option maxRecDepth 100000 in
theorem hm_125 : ma_md 125 = some (10, yX10_isEmpty, cX10_isEmpty, 1, (some (FieldType.boolean))) := rfl
set_option maxRecDepth 100000 in
theorem hm_146 : ma_md 146 = some (11, yX11_numberOf, cX11_numberOf, 1, (some (FieldType.int))) := rfl
set_option maxRecDepth 100000 in
theorem hm_263 : ma_md 263 = some (13, yX1_slideDown, cX1_slideDown, 5, (some (FieldType.int))) := rfl
set_option maxRecDepth 100000 in
theorem hm_264 : ma_md 264 = some (13, yX1_removeUnreached, cX1_removeUnreached, 1, (some (FieldType.int))) := rfl
set_option maxRecDepth 100000 in
theorem hm_276 : ma_md 276 = some (15, yJ7_fill_53178, cJ7_fill_53178, 4, none) := rfl
theorem s_66 : zs 66 = some (20, 4) := rfl
theorem s_69 : zs 69 = some (7, 13) := rfl
theorem s_70 : zs 70 = some (24, 512) := rfl
theorem s_71 : zs 71 = some (20, 4500) := rfl
theorem s_72 : zs 72 = some (20, 16) := rfl
theorem s_73 : zs 73 = some (20, 16) := rfl
theorem s_74 : zs 74 = some (20, 512) := rfl
theorem s_75 : zs 75 = some (10, 6) := rfl
theorem s_76 : zs 76 = some (20, 512) := rfl
theorem s_77 : zs 77 = some (20, 512) := rfl
theorem s_79 : zs 79 = some (8, 5) := rfl
theorem s_80 : zs 80 = some (5, 4) := rfl
theorem s_81 : zs 81 = some (3, 5) := rfl
theorem s_82 : zs 82 = some (1, 10) := rfl
theorem s_83 : zs 83 = some (20, 375) := rfl
theorem s_84 : zs 84 = some (2, 8) := rfl
theorem s_85 : zs 85 = some (24, 512) := rfl
theorem s_86 : zs 86 = some (20, 512) := rfl
theorem s_87 : zs 87 = some (6, 9) := rfl
theorem s_88 : zs 88 = some (10, 6) := rfl
theorem s_89 : zs 89 = some (20, 512) := rfl
theorem s_90 : zs 90 = some (20, 512) := rfl
theorem s_91 : zs 91 = some (4, 9) := rfl
theorem r_69_0 : zfi 69 0 = some 70 := rfl
theorem r_69_1 : zfi 69 1 = some 71 := rfl
theorem r_69_2 : zfi 69 2 = some 72 := rfl
theorem r_69_3 : zfi 69 3 = some 73 := rfl
theorem r_69_4 : zfi 69 4 = some 74 := rfl
theorem r_75_0 : zfi 75 0 = some 69 := rfl
theorem r_75_1 : zfi 75 1 = some 76 := rfl
theorem r_75_2 : zfi 75 2 = some 77 := rfl
theorem r_79_0 : zfi 79 0 = some 69 := rfl
theorem r_79_1 : zfi 79 1 = some 75 := rfl
theorem r_80_0 : zfi 80 0 = some 69 := rfl
theorem r_80_1 : zfi 80 1 = some 75 := rfl
theorem r_81_0 : zfi 81 0 = some 69 := rfl
theorem r_81_1 : zfi 81 1 = some 75 := rfl
theorem r_82_0 : zfi 82 0 = some 69 := rfl
theorem r_82_1 : zfi 82 1 = some 75 := rfl
theorem r_82_9 : zfi 82 9 = some 83 := rfl
theorem r_84_3 : zfi 84 3 = some 69 := rfl
theorem r_84_4 : zfi 84 4 = some 75 := rfl
theorem r_84_5 : zfi 84 5 = some 85 := rfl
theorem r_84_6 : zfi 84 6 = some 86 := rfl
theorem r_87_3 : zfi 87 3 = some 69 := rfl
theorem r_87_5 : zfi 87 5 = some 88 := rfl
theorem r_88_0 : zfi 88 0 = some 69 := rfl
theorem r_88_1 : zfi 88 1 = some 89 := rfl
theorem r_88_2 : zfi 88 2 = some 90 := rfl
theorem r_91_0 : zfi 91 0 = some 69 := rfl
theorem r_91_1 : zfi 91 1 = some 75 := rfl
theorem f_1_9_1 : ma_fld 1 9 1 = some 9 := by decide +kernel
theorem f_1_15_1 : ma_fld 1 15 1 = some 2 := by decide +kernel
theorem f_1_19_1 : ma_fld 1 19 1 = some 3 := by decide +kernel
theorem f_1_22_1 : ma_fld 1 22 1 = some 4 := by decide +kernel
theorem f_1_25_1 : ma_fld 1 25 1 = some 5 := by decide +kernel
theorem f_1_28_1 : ma_fld 1 28 1 = some 6 := by decide +kernel
theorem f_1_31_1 : ma_fld 1 31 1 = some 7 := by decide +kernel
theorem f_1_34_1 : ma_fld 1 34 1 = some 8 := by decide +kernel
theorem f_1_62_9 : ma_fld 1 62 9 = some 4 := by decide +kernel
theorem f_1_67_9 : ma_fld 1 67 9 = some 2 := by decide +kernel
theorem f_1_70_1 : ma_fld 1 70 1 = some 1 := by decide +kernel
theorem f_1_80_1 : ma_fld 1 80 1 = some 0 := by decide +kernel
theorem f_1_119_7 : ma_fld 1 119 7 = some 6 := by decide +kernel
theorem f_1_126_9 : ma_fld 1 126 9 = some 5 := by decide +kernel
theorem f_1_147_10 : ma_fld 1 147 10 = some 4 := by decide +kernel
theorem f_2_11_2 : ma_fld 2 11 2 = some 5 := by decide +kernel
theorem f_2_17_2 : ma_fld 2 17 2 = some 6 := by decide +kernel
theorem f_2_21_9 : ma_fld 2 21 9 = some 6 := by decide +kernel
theorem f_2_25_2 : ma_fld 2 25 2 = some 7 := by decide +kernel
theorem f_2_41_2 : ma_fld 2 41 2 = some 3 := by decide +kernel
theorem f_2_57_9 : ma_fld 2 57 9 = some 8 := by decide +kernel
theorem f_3_9_3 : ma_fld 3 9 3 = some 2 := by decide +kernel
theorem f_3_15_3 : ma_fld 3 15 3 = some 3 := by decide +kernel
theorem f_3_18_3 : ma_fld 3 18 3 = some 4 := by decide +kernel
theorem f_3_29_9 : ma_fld 3 29 9 = some 4 := by decide +kernel
theorem f_3_34_9 : ma_fld 3 34 9 = some 2 := by decide +kernel
theorem f_3_40_3 : ma_fld 3 40 3 = some 1 := by decide +kernel
theorem f_3_44_10 : ma_fld 3 44 10 = some 4 := by decide +kernel
theorem f_3_53_3 : ma_fld 3 53 3 = some 0 := by decide +kernel
theorem f_5_9_5 : ma_fld 5 9 5 = some 2 := by decide +kernel
theorem f_5_15_5 : ma_fld 5 15 5 = some 3 := by decide +kernel
theorem f_5_22_9 : ma_fld 5 22 9 = some 4 := by decide +kernel
theorem f_5_27_9 : ma_fld 5 27 9 = some 2 := by decide +kernel
theorem f_6_14_6 : ma_fld 6 14 6 = some 5 := by decide +kernel
theorem f_6_24_6 : ma_fld 6 24 6 = some 6 := by decide +kernel
theorem f_6_28_6 : ma_fld 6 28 6 = some 7 := by decide +kernel
theorem f_6_31_6 : ma_fld 6 31 6 = some 8 := by decide +kernel
theorem f_6_35_6 : ma_fld 6 35 6 = some 0 := by decide +kernel
theorem f_6_38_6 : ma_fld 6 38 6 = some 3 := by decide +kernel
theorem f_6_42_7 : ma_fld 6 42 7 = some 8 := by decide +kernel
theorem f_6_104_10 : ma_fld 6 104 10 = some 4 := by decide +kernel
theorem f_6_107_10 : ma_fld 6 107 10 = some 3 := by decide +kernel
theorem f_7_11_7 : ma_fld 7 11 7 = some 0 := by decide +kernel
theorem f_7_17_7 : ma_fld 7 17 7 = some 1 := by decide +kernel
theorem f_7_21_7 : ma_fld 7 21 7 = some 2 := by decide +kernel
theorem f_7_24_7 : ma_fld 7 24 7 = some 3 := by decide +kernel
theorem f_7_27_7 : ma_fld 7 27 7 = some 4 := by decide +kernel
theorem f_7_36_7 : ma_fld 7 36 7 = some 5 := by decide +kernel
theorem f_7_40_7 : ma_fld 7 40 7 = some 6 := by decide +kernel
theorem f_7_43_7 : ma_fld 7 43 7 = some 7 := by decide +kernel
theorem f_7_46_7 : ma_fld 7 46 7 = some 8 := by decide +kernel
theorem f_7_49_7 : ma_fld 7 49 7 = some 9 := by decide +kernel
theorem f_7_52_7 : ma_fld 7 52 7 = some 10 := by decide +kernel
theorem f_7_55_7 : ma_fld 7 55 7 = some 11 := by decide +kernel
theorem f_7_61_9 : ma_fld 7 61 9 = some 4 := by decide +kernel
theorem f_7_64_9 : ma_fld 7 64 9 = some 2 := by decide +kernel
theorem f_7_67_9 : ma_fld 7 67 9 = some 0 := by decide +kernel
theorem f_7_74_9 : ma_fld 7 74 9 = some 3 := by decide +kernel
theorem f_7_98_9 : ma_fld 7 98 9 = some 6 := by decide +kernel
theorem f_7_101_9 : ma_fld 7 101 9 = some 7 := by decide +kernel
theorem f_7_108_9 : ma_fld 7 108 9 = some 8 := by decide +kernel
theorem f_8_9_2 : ma_fld 8 9 2 = some 0 := by decide +kernel
theorem f_8_9_6 : ma_fld 8 9 6 = some 0 := by decide +kernel
theorem f_8_9_8 : ma_fld 8 9 8 = some 2 := by decide +kernel
theorem f_8_15_2 : ma_fld 8 15 2 = some 1 := by decide +kernel
theorem f_8_15_6 : ma_fld 8 15 6 = some 1 := by decide +kernel
theorem f_8_15_8 : ma_fld 8 15 8 = some 3 := by decide +kernel
theorem f_8_18_2 : ma_fld 8 18 2 = some 2 := by decide +kernel
theorem f_8_18_6 : ma_fld 8 18 6 = some 2 := by decide +kernel
theorem f_8_18_8 : ma_fld 8 18 8 = some 4 := by decide +kernel
theorem f_8_29_9 : ma_fld 8 29 9 = some 4 := by decide +kernel
theorem f_8_34_9 : ma_fld 8 34 9 = some 2 := by decide +kernel
theorem f_8_46_2 : ma_fld 8 46 2 = some 3 := by decide +kernel
theorem f_8_46_6 : ma_fld 8 46 6 = some 3 := by decide +kernel
theorem f_8_46_8 : ma_fld 8 46 8 = some 0 := by decide +kernel
theorem f_8_67_7 : ma_fld 8 67 7 = some 12 := by decide +kernel
theorem f_9_16_9 : ma_fld 9 16 9 = some 2 := by decide +kernel
theorem f_9_19_9 : ma_fld 9 19 9 = some 3 := by decide +kernel
theorem f_10_9_10 : ma_fld 10 9 10 = some 1 := by decide +kernel
theorem f_10_15_10 : ma_fld 10 15 10 = some 2 := by decide +kernel
theorem f_10_18_10 : ma_fld 10 18 10 = some 0 := by decide +kernel
theorem f_10_28_10 : ma_fld 10 28 10 = some 3 := by decide +kernel
theorem f_10_32_10 : ma_fld 10 32 10 = some 4 := by decide +kernel
theorem f_10_35_10 : ma_fld 10 35 10 = some 5 := by decide +kernel
theorem f_10_49_9 : ma_fld 10 49 9 = some 4 := by decide +kernel
theorem f_10_58_9 : ma_fld 10 58 9 = some 0 := by decide +kernel
theorem f_10_61_7 : ma_fld 10 61 7 = some 2 := by decide +kernel
theorem f_10_74_7 : ma_fld 10 74 7 = some 5 := by decide +kernel
theorem f_10_77_7 : ma_fld 10 77 7 = some 4 := by decide +kernel
theorem f_10_80_7 : ma_fld 10 80 7 = some 6 := by decide +kernel
theorem f_10_83_9 : ma_fld 10 83 9 = some 7 := by decide +kernel
theorem f_10_89_9 : ma_fld 10 89 9 = some 2 := by decide +kernel
theorem f_11_182_9 : ma_fld 11 182 9 = some 0 := by decide +kernel
theorem f_13_9_1 : ma_fld 13 9 1 = some 0 := by decide +kernel
theorem f_13_9_2 : ma_fld 13 9 2 = some 3 := by decide +kernel
theorem f_13_9_3 : ma_fld 13 9 3 = some 0 := by decide +kernel
theorem f_13_9_4 : ma_fld 13 9 4 = some 0 := by decide +kernel
theorem f_13_9_5 : ma_fld 13 9 5 = some 0 := by decide +kernel
theorem f_13_9_8 : ma_fld 13 9 8 = some 0 := by decide +kernel
theorem f_13_15_2 : ma_fld 13 15 2 = some 4 := by decide +kernel
theorem f_13_15_3 : ma_fld 13 15 3 = some 1 := by decide +kernel
theorem f_13_15_4 : ma_fld 13 15 4 = some 1 := by decide +kernel
theorem f_13_15_5 : ma_fld 13 15 5 = some 1 := by decide +kernel
theorem f_13_15_8 : ma_fld 13 15 8 = some 1 := by decide +kernel
theorem f_13_38_9 : ma_fld 13 38 9 = some 2 := by decide +kernel
theorem f_13_44_9 : ma_fld 13 44 9 = some 7 := by decide +kernel
theorem f_13_51_9 : ma_fld 13 51 9 = some 4 := by decide +kernel
theorem p_1_15_1 : ma_pk 1 15 1 2 = true := by decide +kernel
theorem p_1_19_1 : ma_pk 1 19 1 3 = true := by decide +kernel
theorem p_1_22_1 : ma_pk 1 22 1 4 = true := by decide +kernel
theorem p_1_25_1 : ma_pk 1 25 1 5 = true := by decide +kernel
theorem p_1_28_1 : ma_pk 1 28 1 6 = true := by decide +kernel
theorem p_1_31_1 : ma_pk 1 31 1 7 = true := by decide +kernel
theorem p_1_34_1 : ma_pk 1 34 1 8 = true := by decide +kernel
theorem p_1_126_9 : ma_pk 1 126 9 5 = true := by decide +kernel
theorem p_2_25_2 : ma_pk 2 25 2 7 = true := by decide +kernel
theorem p_3_9_3 : ma_pk 3 9 3 2 = true := by decide +kernel
theorem p_3_15_3 : ma_pk 3 15 3 3 = true := by decide +kernel
theorem p_3_18_3 : ma_pk 3 18 3 4 = true := by decide +kernel
theorem p_5_9_5 : ma_pk 5 9 5 2 = true := by decide +kernel
theorem p_5_15_5 : ma_pk 5 15 5 3 = true := by decide +kernel
theorem p_6_24_6 : ma_pk 6 24 6 6 = true := by decide +kernel
theorem p_6_28_6 : ma_pk 6 28 6 7 = true := by decide +kernel
theorem p_6_31_6 : ma_pk 6 31 6 8 = true := by decide +kernel
theorem p_7_36_7 : ma_pk 7 36 7 5 = true := by decide +kernel
theorem p_7_43_7 : ma_pk 7 43 7 7 = true := by decide +kernel
theorem p_7_46_7 : ma_pk 7 46 7 8 = true := by decide +kernel
theorem p_7_49_7 : ma_pk 7 49 7 9 = true := by decide +kernel
theorem p_7_52_7 : ma_pk 7 52 7 10 = true := by decide +kernel
theorem p_7_55_7 : ma_pk 7 55 7 11 = true := by decide +kernel
theorem p_7_61_9 : ma_pk 7 61 9 4 = true := by decide +kernel
theorem p_7_98_9 : ma_pk 7 98 9 6 = true := by decide +kernel
theorem p_7_101_9 : ma_pk 7 101 9 7 = true := by decide +kernel
theorem p_7_108_9 : ma_pk 7 108 9 8 = true := by decide +kernel
theorem p_8_9_2 : ma_pk 8 9 2 0 = true := by decide +kernel
theorem p_8_9_6 : ma_pk 8 9 6 0 = true := by decide +kernel
theorem p_8_9_8 : ma_pk 8 9 8 2 = true := by decide +kernel
theorem p_8_15_2 : ma_pk 8 15 2 1 = true := by decide +kernel
theorem p_8_15_6 : ma_pk 8 15 6 1 = true := by decide +kernel
theorem p_8_15_8 : ma_pk 8 15 8 3 = true := by decide +kernel
theorem p_8_18_2 : ma_pk 8 18 2 2 = true := by decide +kernel
theorem p_8_18_6 : ma_pk 8 18 6 2 = true := by decide +kernel
theorem p_8_18_8 : ma_pk 8 18 8 4 = true := by decide +kernel
theorem p_8_67_7 : ma_pk 8 67 7 12 = true := by decide +kernel
theorem p_10_28_10 : ma_pk 10 28 10 3 = true := by decide +kernel
theorem p_10_32_10 : ma_pk 10 32 10 4 = true := by decide +kernel
theorem p_10_35_10 : ma_pk 10 35 10 5 = true := by decide +kernel
theorem v_1_43_1 : ma_vl 1 43 1 = some (1, 4, 1) := by decide +kernel
theorem v_1_47_1 : ma_vl 1 47 1 = some (1, 10, 1) := by decide +kernel
theorem v_1_51_1 : ma_vl 1 51 1 = some (1, 11, 0) := by decide +kernel
theorem v_1_55_1 : ma_vl 1 55 1 = some (1, 5, 0) := by decide +kernel
theorem v_1_58_1 : ma_vl 1 58 1 = some (1, 7, 1) := by decide +kernel
theorem v_1_74_10 : ma_vl 1 74 10 = some (0, 116, 0) := by decide +kernel
theorem v_1_84_7 : ma_vl 1 84 7 = some (0, 83, 1) := by decide +kernel
theorem v_1_90_7 : ma_vl 1 90 7 = some (0, 86, 1) := by decide +kernel
theorem v_1_94_1 : ma_vl 1 94 1 = some (2, 263, 1) := by decide +kernel
theorem v_1_97_1 : ma_vl 1 97 1 = some (1, 6, 0) := by decide +kernel
theorem v_1_100_1 : ma_vl 1 100 1 = some (1, 12, 0) := by decide +kernel
theorem v_1_103_10 : ma_vl 1 103 10 = some (0, 117, 1) := by decide +kernel
theorem v_1_107_10 : ma_vl 1 107 10 = some (0, 118, 0) := by decide +kernel
theorem v_1_110_1 : ma_vl 1 110 1 = some (1, 13, 0) := by decide +kernel
theorem v_1_113_10 : ma_vl 1 113 10 = some (0, 120, 1) := by decide +kernel
theorem v_1_116_1 : ma_vl 1 116 1 = some (1, 15, 0) := by decide +kernel
theorem v_1_122_7 : ma_vl 1 122 7 = some (0, 81, 1) := by decide +kernel
theorem v_1_129_7 : ma_vl 1 129 7 = some (0, 89, 1) := by decide +kernel
theorem v_1_132_1 : ma_vl 1 132 1 = some (1, 14, 1) := by decide +kernel
theorem v_1_136_1 : ma_vl 1 136 1 = some (1, 9, 2) := by decide +kernel
theorem v_1_140_7 : ma_vl 1 140 7 = some (0, 82, 2) := by decide +kernel
theorem v_1_144_10 : ma_vl 1 144 10 = some (0, 119, 1) := by decide +kernel
theorem v_1_150_10 : ma_vl 1 150 10 = some (0, 124, 1) := by decide +kernel
theorem v_1_153_1 : ma_vl 1 153 1 = some (1, 16, 1) := by decide +kernel
theorem v_1_156_7 : ma_vl 1 156 7 = some (0, 90, 2) := by decide +kernel
theorem v_1_160_1 : ma_vl 1 160 1 = some (0, 8, 3) := by decide +kernel
theorem v_2_28_2 : ma_vl 2 28 2 = some (1, 25, 1) := by decide +kernel
theorem v_2_33_9 : ma_vl 2 33 9 = some (0, 114, 1) := by decide +kernel
theorem v_2_37_2 : ma_vl 2 37 2 = some (1, 26, 2) := by decide +kernel
theorem v_2_45_7 : ma_vl 2 45 7 = some (0, 87, 1) := by decide +kernel
theorem v_2_50_9 : ma_vl 2 50 9 = some (0, 113, 1) := by decide +kernel
theorem v_2_53_7 : ma_vl 2 53 7 = some (0, 94, 3) := by decide +kernel
theorem v_2_61_7 : ma_vl 2 61 7 = some (0, 84, 1) := by decide +kernel
theorem v_3_21_3 : ma_vl 3 21 3 = some (1, 32, 1) := by decide +kernel
theorem v_3_25_3 : ma_vl 3 25 3 = some (0, 33, 0) := by decide +kernel
theorem v_3_37_3 : ma_vl 3 37 3 = some (2, 264, 0) := by decide +kernel
theorem v_3_49_10 : ma_vl 3 49 10 = some (0, 124, 1) := by decide +kernel
theorem v_3_57_7 : ma_vl 3 57 7 = some (0, 90, 2) := by decide +kernel
theorem v_5_18_5 : ma_vl 5 18 5 = some (0, 62, 0) := by decide +kernel
theorem v_5_30_5 : ma_vl 5 30 5 = some (2, 264, 0) := by decide +kernel
theorem v_5_33_5 : ma_vl 5 33 5 = some (2, 263, 1) := by decide +kernel
theorem v_6_47_6 : ma_vl 6 47 6 = some (1, 68, 0) := by decide +kernel
theorem v_6_51_6 : ma_vl 6 51 6 = some (0, 72, 1) := by decide +kernel
theorem v_6_55_6 : ma_vl 6 55 6 = some (2, 103, 1) := by decide +kernel
theorem v_6_58_6 : ma_vl 6 58 6 = some (0, 67, 0) := by decide +kernel
theorem v_6_66_10 : ma_vl 6 66 10 = some (0, 121, 1) := by decide +kernel
theorem v_6_69_10 : ma_vl 6 69 10 = some (0, 120, 1) := by decide +kernel
theorem v_6_72_6 : ma_vl 6 72 6 = some (1, 69, 0) := by decide +kernel
theorem v_6_76_6 : ma_vl 6 76 6 = some (1, 70, 0) := by decide +kernel
theorem v_6_79_10 : ma_vl 6 79 10 = some (0, 125, 0) := by decide +kernel
theorem v_6_82_10 : ma_vl 6 82 10 = some (0, 117, 1) := by decide +kernel
theorem v_6_86_10 : ma_vl 6 86 10 = some (0, 118, 0) := by decide +kernel
theorem v_6_89_7 : ma_vl 6 89 7 = some (0, 83, 1) := by decide +kernel
theorem v_6_93_7 : ma_vl 6 93 7 = some (0, 86, 1) := by decide +kernel
theorem v_6_97_10 : ma_vl 6 97 10 = some (0, 119, 1) := by decide +kernel
theorem v_6_100_10 : ma_vl 6 100 10 = some (0, 123, 1) := by decide +kernel
theorem v_7_78_7 : ma_vl 7 78 7 = some (0, 82, 2) := by decide +kernel
theorem v_7_86_7 : ma_vl 7 86 7 = some (0, 95, 3) := by decide +kernel
theorem v_7_94_7 : ma_vl 7 94 7 = some (0, 81, 1) := by decide +kernel
theorem v_7_104_7 : ma_vl 7 104 7 = some (0, 85, 1) := by decide +kernel
theorem v_7_112_7 : ma_vl 7 112 7 = some (1, 88, 2) := by decide +kernel
theorem v_7_128_10 : ma_vl 7 128 10 = some (0, 122, 1) := by decide +kernel
theorem v_7_134_7 : ma_vl 7 134 7 = some (0, 84, 1) := by decide +kernel
theorem v_7_137_10 : ma_vl 7 137 10 = some (0, 119, 1) := by decide +kernel
theorem v_7_140_10 : ma_vl 7 140 10 = some (0, 120, 1) := by decide +kernel
theorem v_7_144_7 : ma_vl 7 144 7 = some (0, 87, 1) := by decide +kernel
theorem v_8_21_2 : ma_vl 8 21 2 = some (0, 103, 1) := by decide +kernel
theorem v_8_21_8 : ma_vl 8 21 8 = some (0, 103, 1) := by decide +kernel
theorem v_8_25_2 : ma_vl 8 25 2 = some (0, 109, 0) := by decide +kernel
theorem v_8_25_8 : ma_vl 8 25 8 = some (0, 109, 0) := by decide +kernel
theorem v_8_37_2 : ma_vl 8 37 2 = some (2, 264, 0) := by decide +kernel
theorem v_8_37_8 : ma_vl 8 37 8 = some (2, 264, 0) := by decide +kernel
theorem v_8_40_2 : ma_vl 8 40 2 = some (0, 105, 1) := by decide +kernel
theorem v_8_40_6 : ma_vl 8 40 6 = some (0, 105, 1) := by decide +kernel
theorem v_8_40_8 : ma_vl 8 40 8 = some (0, 105, 1) := by decide +kernel
theorem v_8_43_2 : ma_vl 8 43 2 = some (0, 106, 1) := by decide +kernel
theorem v_8_43_6 : ma_vl 8 43 6 = some (0, 106, 1) := by decide +kernel
theorem v_8_43_8 : ma_vl 8 43 8 = some (0, 106, 1) := by decide +kernel
theorem v_8_50_7 : ma_vl 8 50 7 = some (0, 89, 1) := by decide +kernel
theorem v_8_56_2 : ma_vl 8 56 2 = some (1, 104, 3) := by decide +kernel
theorem v_8_56_6 : ma_vl 8 56 6 = some (1, 104, 3) := by decide +kernel
theorem v_8_56_8 : ma_vl 8 56 8 = some (1, 104, 3) := by decide +kernel
theorem v_8_60_2 : ma_vl 8 60 2 = some (1, 107, 1) := by decide +kernel
theorem v_8_60_6 : ma_vl 8 60 6 = some (1, 107, 1) := by decide +kernel
theorem v_8_60_8 : ma_vl 8 60 8 = some (1, 107, 1) := by decide +kernel
theorem v_8_63_2 : ma_vl 8 63 2 = some (1, 108, 2) := by decide +kernel
theorem v_8_63_6 : ma_vl 8 63 6 = some (1, 108, 2) := by decide +kernel
theorem v_8_63_8 : ma_vl 8 63 8 = some (1, 108, 2) := by decide +kernel
theorem v_9_26_9 : ma_vl 9 26 9 = some (0, 114, 1) := by decide +kernel
theorem v_10_38_10 : ma_vl 10 38 10 = some (0, 117, 1) := by decide +kernel
theorem v_10_42_10 : ma_vl 10 42 10 = some (0, 118, 0) := by decide +kernel
theorem v_10_45_10 : ma_vl 10 45 10 = some (0, 120, 1) := by decide +kernel
theorem v_10_54_10 : ma_vl 10 54 10 = some (0, 123, 1) := by decide +kernel
theorem v_10_66_7 : ma_vl 10 66 7 = some (0, 81, 1) := by decide +kernel
theorem v_10_70_10 : ma_vl 10 70 10 = some (0, 119, 1) := by decide +kernel
theorem v_10_86_10 : ma_vl 10 86 10 = some (0, 121, 1) := by decide +kernel
theorem v_10_92_7 : ma_vl 10 92 7 = some (0, 82, 2) := by decide +kernel
theorem v_13_19_10 : ma_vl 13 19 10 = some (0, 116, 0) := by decide +kernel
theorem v_13_24_7 : ma_vl 13 24 7 = some (0, 83, 1) := by decide +kernel
theorem v_13_30_7 : ma_vl 13 30 7 = some (0, 86, 1) := by decide +kernel
theorem v_13_34_7 : ma_vl 13 34 7 = some (0, 89, 1) := by decide +kernel
theorem v_13_47_7 : ma_vl 13 47 7 = some (0, 90, 2) := by decide +kernel
theorem sl_1_37 : ma_sl 1 37 = some (5, 276, 2) := by decide +kernel
theorem pn_1_37 : ma_prt 1 37 = none := by decide +kernel
theorem sl_7_82 : ma_sl 7 82 = some (8, 146, 1) := by decide +kernel
theorem pn_7_82 : ma_prt 7 82 = none := by decide +kernel
theorem sl_7_90 : ma_sl 7 90 = some (5, 93, 2) := by decide +kernel
theorem pn_7_90 : ma_prt 7 90 = none := by decide +kernel
theorem sl_10_22 : ma_sl 10 22 = some (5, 276, 2) := by decide +kernel
theorem pn_10_22 : ma_prt 10 22 = none := by decide +kernel
theorem pr_7_116 : ma_prt 7 116 = some 1 := by decide +kernel
theorem pr_7_122 : ma_prt 7 122 = some 3 := by decide +kernel
theorem lc_2_32 : ma_lct 2 32 = some (1000000 : Int32) := by decide +kernel
theorem il_6_20 : (ma_fd 6 20 0 true 6 9).map (fun q => q.2.1) = some (7, 100, 1) := by decide +kernel
theorem ip_6_20 : ma_prt 6 20 = none := by decide +kernel
theorem il_6_62 : (ma_fd 6 62 0 true 6 9).map (fun q => q.2.1) = some (7, 110, 1) := by decide +kernel
theorem ip_6_62 : ma_prt 6 62 = none := by decide +kernel

/-! from 92.1instr -/
/-! instructions, decoded -/
theorem dX7_referenceOf_0 : decode cX7_referenceOf 0 = .ok (.aload_n 1, 1) := by decide +kernel
theorem dX7_referenceOf_4 : decode cX7_referenceOf 4 = .ok (.iconst 1, 1) := by decide +kernel
theorem dX7_referenceOf_5 : decode cX7_referenceOf 5 = .ok (.iadd, 1) := by decide +kernel
theorem dX7_referenceOf_6 : decode cX7_referenceOf 6 = .ok (.iload_n 2, 1) := by decide +kernel
theorem dX7_referenceOf_7 : decode cX7_referenceOf 7 = .ok (.iadd, 1) := by decide +kernel
theorem dX7_referenceOf_8 : decode cX7_referenceOf 8 = .ok (.istore_n 3, 1) := by decide +kernel
theorem dX7_referenceOf_9 : decode cX7_referenceOf 9 = .ok (.aload_n 1, 1) := by decide +kernel
theorem dX7_referenceOf_13 : decode cX7_referenceOf 13 = .ok (.iload_n 2, 1) := by decide +kernel
theorem dX7_referenceOf_14 : decode cX7_referenceOf 14 = .ok (.lushr, 1) := by decide +kernel
theorem dX7_referenceOf_15 : decode cX7_referenceOf 15 = .ok (.lconst 1, 1) := by decide +kernel
theorem dX7_referenceOf_16 : decode cX7_referenceOf 16 = .ok (.land, 1) := by decide +kernel
theorem dX7_referenceOf_17 : decode cX7_referenceOf 17 = .ok (.lconst 0, 1) := by decide +kernel
theorem dX7_referenceOf_18 : decode cX7_referenceOf 18 = .ok (.lcmp, 1) := by decide +kernel
theorem dX7_referenceOf_26 : decode cX7_referenceOf 26 = .ok (.iconst 0, 1) := by decide +kernel
theorem dX7_referenceOf_27 : decode cX7_referenceOf 27 = .ok (.istore 4, 2) := by decide +kernel
theorem dX7_referenceOf_29 : decode cX7_referenceOf 29 = .ok (.iload 4, 2) := by decide +kernel
theorem dX7_referenceOf_31 : decode cX7_referenceOf 31 = .ok (.ifCond .eq 23, 3) := by decide +kernel
theorem dX7_referenceOf_54 : decode cX7_referenceOf 54 = .ok (.iconst (-1), 1) := by decide +kernel
theorem dX7_referenceOf_55 : decode cX7_referenceOf 55 = .ok (.istore 5, 2) := by decide +kernel
theorem dX7_referenceOf_57 : decode cX7_referenceOf 57 = .ok (.iload 5, 2) := by decide +kernel
theorem dX7_referenceOf_59 : decode cX7_referenceOf 59 = .ok (.ifCond .lt 21, 3) := by decide +kernel
theorem dX7_referenceOf_80 : decode cX7_referenceOf 80 = .ok (.aconst_null, 1) := by decide +kernel
theorem dX7_referenceOf_81 : decode cX7_referenceOf 81 = .ok (.areturn, 1) := by decide +kernel
theorem dX7_referenceOf_22 : decode cX7_referenceOf 22 = .ok (.iconst 1, 1) := by decide +kernel
theorem dX7_referenceOf_23 : decode cX7_referenceOf 23 = .ok (.goto 4, 3) := by decide +kernel
theorem dX7_referenceOf_34 : decode cX7_referenceOf 34 = .ok (.iload_n 3, 1) := by decide +kernel
theorem dX7_referenceOf_38 : decode cX7_referenceOf 38 = .ok (.iload_n 3, 1) := by decide +kernel
theorem dX7_referenceOf_39 : decode cX7_referenceOf 39 = .ok (.sipush 4500, 3) := by decide +kernel
theorem dX7_referenceOf_45 : decode cX7_referenceOf 45 = .ok (.aload_n 0, 1) := by decide +kernel
theorem dX7_referenceOf_49 : decode cX7_referenceOf 49 = .ok (.iload_n 3, 1) := by decide +kernel
theorem dX7_referenceOf_51 : decode cX7_referenceOf 51 = .ok (.goto 4, 3) := by decide +kernel
theorem dX7_referenceOf_62 : decode cX7_referenceOf 62 = .ok (.iload 5, 2) := by decide +kernel
theorem dX7_referenceOf_64 : decode cX7_referenceOf 64 = .ok (.sipush 512, 3) := by decide +kernel
theorem dX7_referenceOf_70 : decode cX7_referenceOf 70 = .ok (.aload_n 0, 1) := by decide +kernel
theorem dX7_referenceOf_74 : decode cX7_referenceOf 74 = .ok (.iload 5, 2) := by decide +kernel
theorem dX7_referenceOf_77 : decode cX7_referenceOf 77 = .ok (.goto 4, 3) := by decide +kernel
theorem dX7_referenceOf_76 : decode cX7_referenceOf 76 = .ok (.aaload, 1) := by decide +kernel
theorem dX7_referenceOf_71 : decode cX7_referenceOf 71 = .ok (.getfield 11, 3) := by decide +kernel
theorem dX7_referenceOf_67 : decode cX7_referenceOf 67 = .ok (.if_icmp .ge 13, 3) := by decide +kernel
theorem dX7_referenceOf_50 : decode cX7_referenceOf 50 = .ok (.iaload, 1) := by decide +kernel
theorem dX7_referenceOf_46 : decode cX7_referenceOf 46 = .ok (.getfield 17, 3) := by decide +kernel
theorem dX7_referenceOf_42 : decode cX7_referenceOf 42 = .ok (.if_icmp .ge 12, 3) := by decide +kernel
theorem dX7_referenceOf_35 : decode cX7_referenceOf 35 = .ok (.ifCond .lt 19, 3) := by decide +kernel
theorem dX7_referenceOf_19 : decode cX7_referenceOf 19 = .ok (.ifCond .eq 7, 3) := by decide +kernel
theorem dX7_referenceOf_10 : decode cX7_referenceOf 10 = .ok (.getfield 74, 3) := by decide +kernel
theorem dX7_referenceOf_1 : decode cX7_referenceOf 1 = .ok (.getfield 61, 3) := by decide +kernel
theorem dX7_changeInt_0 : decode cX7_changeInt 0 = .ok (.aload_n 1, 1) := by decide +kernel
theorem dX7_changeInt_4 : decode cX7_changeInt 4 = .ok (.iconst 1, 1) := by decide +kernel
theorem dX7_changeInt_5 : decode cX7_changeInt 5 = .ok (.iadd, 1) := by decide +kernel
theorem dX7_changeInt_6 : decode cX7_changeInt 6 = .ok (.iload_n 2, 1) := by decide +kernel
theorem dX7_changeInt_7 : decode cX7_changeInt 7 = .ok (.iadd, 1) := by decide +kernel
theorem dX7_changeInt_8 : decode cX7_changeInt 8 = .ok (.istore 4, 2) := by decide +kernel
theorem dX7_changeInt_10 : decode cX7_changeInt 10 = .ok (.iload 4, 2) := by decide +kernel
theorem dX7_changeInt_23 : decode cX7_changeInt 23 = .ok (.iconst (-1), 1) := by decide +kernel
theorem dX7_changeInt_24 : decode cX7_changeInt 24 = .ok (.ireturn, 1) := by decide +kernel
theorem dX7_changeInt_15 : decode cX7_changeInt 15 = .ok (.iload 4, 2) := by decide +kernel
theorem dX7_changeInt_17 : decode cX7_changeInt 17 = .ok (.sipush 4500, 3) := by decide +kernel
theorem dX7_changeInt_25 : decode cX7_changeInt 25 = .ok (.aload_n 0, 1) := by decide +kernel
theorem dX7_changeInt_29 : decode cX7_changeInt 29 = .ok (.iload 4, 2) := by decide +kernel
theorem dX7_changeInt_32 : decode cX7_changeInt 32 = .ok (.istore 5, 2) := by decide +kernel
theorem dX7_changeInt_34 : decode cX7_changeInt 34 = .ok (.aload_n 0, 1) := by decide +kernel
theorem dX7_changeInt_38 : decode cX7_changeInt 38 = .ok (.iload 4, 2) := by decide +kernel
theorem dX7_changeInt_40 : decode cX7_changeInt 40 = .ok (.iload_n 3, 1) := by decide +kernel
theorem dX7_changeInt_42 : decode cX7_changeInt 42 = .ok (.iload 5, 2) := by decide +kernel
theorem dX7_changeInt_44 : decode cX7_changeInt 44 = .ok (.ireturn, 1) := by decide +kernel
theorem dX7_changeInt_41 : decode cX7_changeInt 41 = .ok (.iastore, 1) := by decide +kernel
theorem dX7_changeInt_35 : decode cX7_changeInt 35 = .ok (.getfield 17, 3) := by decide +kernel
theorem dX7_changeInt_31 : decode cX7_changeInt 31 = .ok (.iaload, 1) := by decide +kernel
theorem dX7_changeInt_26 : decode cX7_changeInt 26 = .ok (.getfield 17, 3) := by decide +kernel
theorem dX7_changeInt_20 : decode cX7_changeInt 20 = .ok (.if_icmp .lt 5, 3) := by decide +kernel
theorem dX7_changeInt_12 : decode cX7_changeInt 12 = .ok (.ifCond .lt 11, 3) := by decide +kernel
theorem dX7_changeInt_1 : decode cX7_changeInt 1 = .ok (.getfield 61, 3) := by decide +kernel
theorem dX7_wordOf_0 : decode cX7_wordOf 0 = .ok (.aload_n 1, 1) := by decide +kernel
theorem dX7_wordOf_4 : decode cX7_wordOf 4 = .ok (.iconst 1, 1) := by decide +kernel
theorem dX7_wordOf_5 : decode cX7_wordOf 5 = .ok (.iadd, 1) := by decide +kernel
theorem dX7_wordOf_6 : decode cX7_wordOf 6 = .ok (.iload_n 2, 1) := by decide +kernel
theorem dX7_wordOf_7 : decode cX7_wordOf 7 = .ok (.iadd, 1) := by decide +kernel
theorem dX7_wordOf_8 : decode cX7_wordOf 8 = .ok (.istore_n 3, 1) := by decide +kernel
theorem dX7_wordOf_9 : decode cX7_wordOf 9 = .ok (.iload_n 3, 1) := by decide +kernel
theorem dX7_wordOf_29 : decode cX7_wordOf 29 = .ok (.iconst (-1), 1) := by decide +kernel
theorem dX7_wordOf_30 : decode cX7_wordOf 30 = .ok (.ireturn, 1) := by decide +kernel
theorem dX7_wordOf_13 : decode cX7_wordOf 13 = .ok (.iload_n 3, 1) := by decide +kernel
theorem dX7_wordOf_14 : decode cX7_wordOf 14 = .ok (.sipush 4500, 3) := by decide +kernel
theorem dX7_wordOf_20 : decode cX7_wordOf 20 = .ok (.aload_n 0, 1) := by decide +kernel
theorem dX7_wordOf_24 : decode cX7_wordOf 24 = .ok (.iload_n 3, 1) := by decide +kernel
theorem dX7_wordOf_26 : decode cX7_wordOf 26 = .ok (.goto 4, 3) := by decide +kernel
theorem dX7_wordOf_25 : decode cX7_wordOf 25 = .ok (.iaload, 1) := by decide +kernel
theorem dX7_wordOf_21 : decode cX7_wordOf 21 = .ok (.getfield 17, 3) := by decide +kernel
theorem dX7_wordOf_17 : decode cX7_wordOf 17 = .ok (.if_icmp .ge 12, 3) := by decide +kernel
theorem dX7_wordOf_10 : decode cX7_wordOf 10 = .ok (.ifCond .lt 19, 3) := by decide +kernel
theorem dX7_wordOf_1 : decode cX7_wordOf 1 = .ok (.getfield 61, 3) := by decide +kernel
theorem dX7_changeCounts_0 : decode cX7_changeCounts 0 = .ok (.aload_n 1, 1) := by decide +kernel
theorem dX7_changeCounts_14 : decode cX7_changeCounts 14 = .ok (.aload_n 0, 1) := by decide +kernel
theorem dX7_changeCounts_28 : decode cX7_changeCounts 28 = .ok (.return_, 1) := by decide +kernel
theorem dX7_changeCounts_18 : decode cX7_changeCounts 18 = .ok (.aload_n 0, 1) := by decide +kernel
theorem dX7_changeCounts_19 : decode cX7_changeCounts 19 = .ok (.dup, 1) := by decide +kernel
theorem dX7_changeCounts_23 : decode cX7_changeCounts 23 = .ok (.iconst 1, 1) := by decide +kernel
theorem dX7_changeCounts_24 : decode cX7_changeCounts 24 = .ok (.isub, 1) := by decide +kernel
theorem dX7_changeCounts_25 : decode cX7_changeCounts 25 = .ok (.putfield 98, 3) := by decide +kernel
theorem dX7_changeCounts_20 : decode cX7_changeCounts 20 = .ok (.getfield 98, 3) := by decide +kernel
theorem dX7_changeCounts_15 : decode cX7_changeCounts 15 = .ok (.ifnull 13, 3) := by decide +kernel
theorem dX7_changeCounts_4 : decode cX7_changeCounts 4 = .ok (.aload_n 1, 1) := by decide +kernel
theorem dX7_changeCounts_5 : decode cX7_changeCounts 5 = .ok (.dup, 1) := by decide +kernel
theorem dX7_changeCounts_9 : decode cX7_changeCounts 9 = .ok (.iconst 1, 1) := by decide +kernel
theorem dX7_changeCounts_10 : decode cX7_changeCounts 10 = .ok (.iadd, 1) := by decide +kernel
theorem dX7_changeCounts_11 : decode cX7_changeCounts 11 = .ok (.putfield 98, 3) := by decide +kernel
theorem dX7_changeCounts_6 : decode cX7_changeCounts 6 = .ok (.getfield 98, 3) := by decide +kernel
theorem dX7_changeCounts_1 : decode cX7_changeCounts 1 = .ok (.ifnull 13, 3) := by decide +kernel
theorem dX7_changeReference_0 : decode cX7_changeReference 0 = .ok (.aload_n 0, 1) := by decide +kernel
theorem dX7_changeReference_1 : decode cX7_changeReference 1 = .ok (.aload_n 1, 1) := by decide +kernel
theorem dX7_changeReference_2 : decode cX7_changeReference 2 = .ok (.iload_n 2, 1) := by decide +kernel
theorem dX7_changeReference_3 : decode cX7_changeReference 3 = .ok (.invokevirtual 78, 3) := by decide +kernel
theorem dX7_changeReference_6 : decode cX7_changeReference 6 = .ok (.astore 4, 2) := by decide +kernel
theorem dX7_changeReference_8 : decode cX7_changeReference 8 = .ok (.aload_n 0, 1) := by decide +kernel
theorem dX7_changeReference_9 : decode cX7_changeReference 9 = .ok (.aload_n 1, 1) := by decide +kernel
theorem dX7_changeReference_10 : decode cX7_changeReference 10 = .ok (.iload_n 2, 1) := by decide +kernel
theorem dX7_changeReference_11 : decode cX7_changeReference 11 = .ok (.aload_n 3, 1) := by decide +kernel
theorem dX7_changeReference_12 : decode cX7_changeReference 12 = .ok (.invokestatic 82, 3) := by decide +kernel
theorem dX11_numberOf_0 : decode cX11_numberOf 0 = .ok (.aload_n 0, 1) := by decide +kernel
theorem dX11_numberOf_4 : decode cX11_numberOf 4 = .ok (.iconst (-1), 1) := by decide +kernel
theorem dX11_numberOf_5 : decode cX11_numberOf 5 = .ok (.goto 7, 3) := by decide +kernel
theorem dX7_changeReference_15 : decode cX7_changeReference 15 = .ok (.invokevirtual 86, 3) := by decide +kernel
theorem dX7_changeReference_18 : decode cX7_changeReference 18 = .ok (.pop, 1) := by decide +kernel
theorem dX7_changeReference_19 : decode cX7_changeReference 19 = .ok (.aload 4, 2) := by decide +kernel
theorem dX7_changeReference_21 : decode cX7_changeReference 21 = .ok (.aload_n 3, 1) := by decide +kernel
theorem dX7_changeReference_22 : decode cX7_changeReference 22 = .ok (.invokestatic 90, 3) := by decide +kernel
theorem dX7_changeReference_25 : decode cX7_changeReference 25 = .ok (.aload 4, 2) := by decide +kernel
theorem dX7_changeReference_27 : decode cX7_changeReference 27 = .ok (.areturn, 1) := by decide +kernel
theorem dX11_numberOf_12 : decode cX11_numberOf 12 = .ok (.ireturn, 1) := by decide +kernel
theorem dX11_numberOf_8 : decode cX11_numberOf 8 = .ok (.aload_n 0, 1) := by decide +kernel
theorem dX11_numberOf_9 : decode cX11_numberOf 9 = .ok (.getfield 182, 3) := by decide +kernel
theorem dX11_numberOf_1 : decode cX11_numberOf 1 = .ok (.ifnonnull 7, 3) := by decide +kernel
theorem dX7_changeRoot_0 : decode cX7_changeRoot 0 = .ok (.iload_n 1, 1) := by decide +kernel
theorem dX7_changeRoot_10 : decode cX7_changeRoot 10 = .ok (.aconst_null, 1) := by decide +kernel
theorem dX7_changeRoot_11 : decode cX7_changeRoot 11 = .ok (.areturn, 1) := by decide +kernel
theorem dX7_changeRoot_4 : decode cX7_changeRoot 4 = .ok (.iload_n 1, 1) := by decide +kernel
theorem dX7_changeRoot_5 : decode cX7_changeRoot 5 = .ok (.bipush 16, 2) := by decide +kernel
theorem dX7_changeRoot_12 : decode cX7_changeRoot 12 = .ok (.aload_n 0, 1) := by decide +kernel
theorem dX7_changeRoot_13 : decode cX7_changeRoot 13 = .ok (.aload_n 0, 1) := by decide +kernel
theorem dX7_changeRoot_17 : decode cX7_changeRoot 17 = .ok (.iload_n 1, 1) := by decide +kernel
theorem dX7_changeRoot_19 : decode cX7_changeRoot 19 = .ok (.invokevirtual 94, 3) := by decide +kernel
theorem dX7_thingAt_0 : decode cX7_thingAt 0 = .ok (.iload_n 1, 1) := by decide +kernel
theorem dX7_thingAt_20 : decode cX7_thingAt 20 = .ok (.aconst_null, 1) := by decide +kernel
theorem dX7_changeRoot_22 : decode cX7_changeRoot 22 = .ok (.astore_n 3, 1) := by decide +kernel
theorem dX7_changeRoot_23 : decode cX7_changeRoot 23 = .ok (.aload_n 0, 1) := by decide +kernel
theorem dX7_changeRoot_27 : decode cX7_changeRoot 27 = .ok (.iload_n 1, 1) := by decide +kernel
theorem dX7_changeRoot_28 : decode cX7_changeRoot 28 = .ok (.aload_n 2, 1) := by decide +kernel
theorem dX7_changeRoot_29 : decode cX7_changeRoot 29 = .ok (.invokestatic 82, 3) := by decide +kernel
theorem dX7_changeRoot_33 : decode cX7_changeRoot 33 = .ok (.aload_n 3, 1) := by decide +kernel
theorem dX7_changeRoot_34 : decode cX7_changeRoot 34 = .ok (.aload_n 2, 1) := by decide +kernel
theorem dX7_changeRoot_35 : decode cX7_changeRoot 35 = .ok (.invokestatic 90, 3) := by decide +kernel
theorem dX7_changeRoot_38 : decode cX7_changeRoot 38 = .ok (.aload_n 3, 1) := by decide +kernel
theorem dX7_changeRoot_39 : decode cX7_changeRoot 39 = .ok (.areturn, 1) := by decide +kernel
theorem dX7_changeRoot_32 : decode cX7_changeRoot 32 = .ok (.iastore, 1) := by decide +kernel
theorem dX7_changeRoot_24 : decode cX7_changeRoot 24 = .ok (.getfield 21, 3) := by decide +kernel
theorem dX7_thingAt_21 : decode cX7_thingAt 21 = .ok (.areturn, 1) := by decide +kernel
theorem dX7_thingAt_4 : decode cX7_thingAt 4 = .ok (.iload_n 1, 1) := by decide +kernel
theorem dX7_thingAt_5 : decode cX7_thingAt 5 = .ok (.sipush 512, 3) := by decide +kernel
theorem dX7_thingAt_11 : decode cX7_thingAt 11 = .ok (.aload_n 0, 1) := by decide +kernel
theorem dX7_thingAt_15 : decode cX7_thingAt 15 = .ok (.iload_n 1, 1) := by decide +kernel
theorem dX7_thingAt_17 : decode cX7_thingAt 17 = .ok (.goto 4, 3) := by decide +kernel
theorem dX7_thingAt_16 : decode cX7_thingAt 16 = .ok (.aaload, 1) := by decide +kernel
theorem dX7_thingAt_12 : decode cX7_thingAt 12 = .ok (.getfield 11, 3) := by decide +kernel
theorem dX7_thingAt_8 : decode cX7_thingAt 8 = .ok (.if_icmp .ge 12, 3) := by decide +kernel
theorem dX7_thingAt_1 : decode cX7_thingAt 1 = .ok (.ifCond .lt 19, 3) := by decide +kernel
theorem dX7_changeRoot_18 : decode cX7_changeRoot 18 = .ok (.iaload, 1) := by decide +kernel
theorem dX7_changeRoot_14 : decode cX7_changeRoot 14 = .ok (.getfield 21, 3) := by decide +kernel
theorem dX7_changeRoot_7 : decode cX7_changeRoot 7 = .ok (.if_icmp .lt 5, 3) := by decide +kernel
theorem dX7_changeRoot_1 : decode cX7_changeRoot 1 = .ok (.ifCond .lt 9, 3) := by decide +kernel
theorem dX7_changeHolds_0 : decode cX7_changeHolds 0 = .ok (.aload_n 1, 1) := by decide +kernel
theorem dX7_changeHolds_1 : decode cX7_changeHolds 1 = .ok (.dup, 1) := by decide +kernel
theorem dX7_changeHolds_5 : decode cX7_changeHolds 5 = .ok (.iload_n 2, 1) := by decide +kernel
theorem dX7_changeHolds_6 : decode cX7_changeHolds 6 = .ok (.iadd, 1) := by decide +kernel
theorem dX7_changeHolds_10 : decode cX7_changeHolds 10 = .ok (.aload_n 1, 1) := by decide +kernel
theorem dX7_changeHolds_11 : decode cX7_changeHolds 11 = .ok (.dup, 1) := by decide +kernel
theorem dX7_changeHolds_15 : decode cX7_changeHolds 15 = .ok (.iload_n 2, 1) := by decide +kernel
theorem dX7_changeHolds_16 : decode cX7_changeHolds 16 = .ok (.iadd, 1) := by decide +kernel
theorem dX7_changeHolds_20 : decode cX7_changeHolds 20 = .ok (.return_, 1) := by decide +kernel
theorem dX7_changeHolds_17 : decode cX7_changeHolds 17 = .ok (.putfield 98, 3) := by decide +kernel
theorem dX7_changeHolds_12 : decode cX7_changeHolds 12 = .ok (.getfield 98, 3) := by decide +kernel
theorem dX7_changeHolds_7 : decode cX7_changeHolds 7 = .ok (.putfield 101, 3) := by decide +kernel
theorem dX7_changeHolds_2 : decode cX7_changeHolds 2 = .ok (.getfield 101, 3) := by decide +kernel
theorem dX7_clearWeak_0 : decode cX7_clearWeak 0 = .ok (.iconst 0, 1) := by decide +kernel
theorem dX7_clearWeak_1 : decode cX7_clearWeak 1 = .ok (.istore_n 2, 1) := by decide +kernel
theorem dX7_clearWeak_2 : decode cX7_clearWeak 2 = .ok (.iload_n 2, 1) := by decide +kernel
theorem dX7_clearWeak_3 : decode cX7_clearWeak 3 = .ok (.bipush 16, 2) := by decide +kernel
theorem dX7_clearWeak_34 : decode cX7_clearWeak 34 = .ok (.return_, 1) := by decide +kernel
theorem dX7_clearWeak_8 : decode cX7_clearWeak 8 = .ok (.aload_n 0, 1) := by decide +kernel
theorem dX7_clearWeak_12 : decode cX7_clearWeak 12 = .ok (.iload_n 2, 1) := by decide +kernel
theorem dX7_clearWeak_14 : decode cX7_clearWeak 14 = .ok (.aload_n 1, 1) := by decide +kernel
theorem dX7_clearWeak_28 : decode cX7_clearWeak 28 = .ok (.iinc 2 1, 3) := by decide +kernel
theorem dX7_clearWeak_31 : decode cX7_clearWeak 31 = .ok (.goto (-29), 3) := by decide +kernel
theorem dX7_clearWeak_21 : decode cX7_clearWeak 21 = .ok (.aload_n 0, 1) := by decide +kernel
theorem dX7_clearWeak_25 : decode cX7_clearWeak 25 = .ok (.iload_n 2, 1) := by decide +kernel
theorem dX7_clearWeak_26 : decode cX7_clearWeak 26 = .ok (.iconst (-1), 1) := by decide +kernel
theorem dX7_clearWeak_27 : decode cX7_clearWeak 27 = .ok (.iastore, 1) := by decide +kernel
theorem dX7_clearWeak_22 : decode cX7_clearWeak 22 = .ok (.getfield 24, 3) := by decide +kernel
theorem dX7_clearWeak_18 : decode cX7_clearWeak 18 = .ok (.if_icmp .ne 10, 3) := by decide +kernel
theorem dX7_clearWeak_15 : decode cX7_clearWeak 15 = .ok (.getfield 67, 3) := by decide +kernel
theorem dX7_clearWeak_13 : decode cX7_clearWeak 13 = .ok (.iaload, 1) := by decide +kernel
theorem dX7_clearWeak_9 : decode cX7_clearWeak 9 = .ok (.getfield 24, 3) := by decide +kernel
theorem dX7_clearWeak_5 : decode cX7_clearWeak 5 = .ok (.if_icmp .ge 29, 3) := by decide +kernel
theorem dX10_comes_0 : decode cX10_comes 0 = .ok (.aload_n 1, 1) := by decide +kernel
theorem dX10_comes_35 : decode cX10_comes 35 = .ok (.return_, 1) := by decide +kernel
theorem dX10_comes_4 : decode cX10_comes 4 = .ok (.aload_n 1, 1) := by decide +kernel
theorem dX10_comes_8 : decode cX10_comes 8 = .ok (.aload_n 0, 1) := by decide +kernel
theorem dX10_comes_15 : decode cX10_comes 15 = .ok (.aload_n 1, 1) := by decide +kernel
theorem dX10_comes_19 : decode cX10_comes 19 = .ok (.sipush 512, 3) := by decide +kernel
theorem dX10_comes_25 : decode cX10_comes 25 = .ok (.aload_n 0, 1) := by decide +kernel
theorem dX10_comes_29 : decode cX10_comes 29 = .ok (.sipush 512, 3) := by decide +kernel
theorem dX10_comes_36 : decode cX10_comes 36 = .ok (.aload_n 0, 1) := by decide +kernel
theorem dX10_comes_40 : decode cX10_comes 40 = .ok (.aload_n 1, 1) := by decide +kernel
theorem dX10_comes_81 : decode cX10_comes 81 = .ok (.return_, 1) := by decide +kernel
theorem dX10_comes_48 : decode cX10_comes 48 = .ok (.aload_n 0, 1) := by decide +kernel
theorem dX10_comes_52 : decode cX10_comes 52 = .ok (.aload_n 1, 1) := by decide +kernel
theorem dX10_comes_56 : decode cX10_comes 56 = .ok (.iconst 1, 1) := by decide +kernel
theorem dX10_comes_58 : decode cX10_comes 58 = .ok (.aload_n 0, 1) := by decide +kernel
theorem dX10_comes_62 : decode cX10_comes 62 = .ok (.aload_n 0, 1) := by decide +kernel
theorem dX10_comes_66 : decode cX10_comes 66 = .ok (.aload_n 1, 1) := by decide +kernel
theorem dX10_comes_71 : decode cX10_comes 71 = .ok (.aload_n 0, 1) := by decide +kernel
theorem dX10_comes_72 : decode cX10_comes 72 = .ok (.dup, 1) := by decide +kernel
theorem dX10_comes_76 : decode cX10_comes 76 = .ok (.iconst 1, 1) := by decide +kernel
theorem dX10_comes_77 : decode cX10_comes 77 = .ok (.iadd, 1) := by decide +kernel
theorem dX10_comes_78 : decode cX10_comes 78 = .ok (.putfield 32, 3) := by decide +kernel
theorem dX10_comes_73 : decode cX10_comes 73 = .ok (.getfield 32, 3) := by decide +kernel
theorem dX10_comes_70 : decode cX10_comes 70 = .ok (.iastore, 1) := by decide +kernel
theorem dX10_comes_67 : decode cX10_comes 67 = .ok (.getfield 58, 3) := by decide +kernel
theorem dX10_comes_63 : decode cX10_comes 63 = .ok (.getfield 32, 3) := by decide +kernel
theorem dX10_comes_59 : decode cX10_comes 59 = .ok (.getfield 9, 3) := by decide +kernel
theorem dX10_comes_57 : decode cX10_comes 57 = .ok (.iastore, 1) := by decide +kernel
theorem dX10_comes_53 : decode cX10_comes 53 = .ok (.getfield 58, 3) := by decide +kernel
theorem dX10_comes_49 : decode cX10_comes 49 = .ok (.getfield 15, 3) := by decide +kernel
theorem dX10_comes_45 : decode cX10_comes 45 = .ok (.ifCond .ne 36, 3) := by decide +kernel
theorem dX10_comes_44 : decode cX10_comes 44 = .ok (.iaload, 1) := by decide +kernel
theorem dX10_comes_41 : decode cX10_comes 41 = .ok (.getfield 58, 3) := by decide +kernel
theorem dX10_comes_37 : decode cX10_comes 37 = .ok (.getfield 15, 3) := by decide +kernel
theorem dX10_comes_32 : decode cX10_comes 32 = .ok (.if_icmp .lt 4, 3) := by decide +kernel
theorem dX10_comes_26 : decode cX10_comes 26 = .ok (.getfield 32, 3) := by decide +kernel
theorem dX10_comes_22 : decode cX10_comes 22 = .ok (.if_icmp .ge 13, 3) := by decide +kernel
theorem dX10_comes_16 : decode cX10_comes 16 = .ok (.getfield 58, 3) := by decide +kernel
theorem dX10_comes_12 : decode cX10_comes 12 = .ok (.if_icmp .lt 23, 3) := by decide +kernel
theorem dX10_comes_9 : decode cX10_comes 9 = .ok (.getfield 35, 3) := by decide +kernel
theorem dX10_comes_5 : decode cX10_comes 5 = .ok (.getfield 49, 3) := by decide +kernel
theorem dX10_comes_1 : decode cX10_comes 1 = .ok (.ifnull 34, 3) := by decide +kernel
theorem dX10_blacken_0 : decode cX10_blacken 0 = .ok (.aload_n 1, 1) := by decide +kernel
theorem dX10_blacken_4 : decode cX10_blacken 4 = .ok (.sipush 512, 3) := by decide +kernel
theorem dX10_blacken_20 : decode cX10_blacken 20 = .ok (.return_, 1) := by decide +kernel
theorem dX10_blacken_10 : decode cX10_blacken 10 = .ok (.aload_n 0, 1) := by decide +kernel
theorem dX10_blacken_14 : decode cX10_blacken 14 = .ok (.aload_n 1, 1) := by decide +kernel
theorem dX10_blacken_18 : decode cX10_blacken 18 = .ok (.iconst 2, 1) := by decide +kernel
theorem dX10_blacken_19 : decode cX10_blacken 19 = .ok (.iastore, 1) := by decide +kernel
theorem dX10_blacken_15 : decode cX10_blacken 15 = .ok (.getfield 58, 3) := by decide +kernel
theorem dX10_blacken_11 : decode cX10_blacken 11 = .ok (.getfield 15, 3) := by decide +kernel
theorem dX10_blacken_7 : decode cX10_blacken 7 = .ok (.if_icmp .ge 13, 3) := by decide +kernel
theorem dX10_blacken_1 : decode cX10_blacken 1 = .ok (.getfield 58, 3) := by decide +kernel
theorem dX10_keeps_0 : decode cX10_keeps 0 = .ok (.aload_n 1, 1) := by decide +kernel
theorem dX10_keeps_4 : decode cX10_keeps 4 = .ok (.aload_n 0, 1) := by decide +kernel
theorem dX10_keeps_19 : decode cX10_keeps 19 = .ok (.iconst 1, 1) := by decide +kernel
theorem dX10_keeps_20 : decode cX10_keeps 20 = .ok (.goto 4, 3) := by decide +kernel
theorem dX10_keeps_24 : decode cX10_keeps 24 = .ok (.ireturn, 1) := by decide +kernel
theorem dX10_keeps_11 : decode cX10_keeps 11 = .ok (.aload_n 0, 1) := by decide +kernel
theorem dX10_keeps_12 : decode cX10_keeps 12 = .ok (.aload_n 1, 1) := by decide +kernel
theorem dX10_keeps_13 : decode cX10_keeps 13 = .ok (.invokevirtual 54, 3) := by decide +kernel
theorem dX10_colourOf_0 : decode cX10_colourOf 0 = .ok (.aload_n 1, 1) := by decide +kernel
theorem dX10_colourOf_4 : decode cX10_colourOf 4 = .ok (.sipush 512, 3) := by decide +kernel
theorem dX10_colourOf_22 : decode cX10_colourOf 22 = .ok (.iconst 0, 1) := by decide +kernel
theorem dX10_keeps_16 : decode cX10_keeps 16 = .ok (.ifCond .eq 7, 3) := by decide +kernel
theorem dX10_keeps_23 : decode cX10_keeps 23 = .ok (.iconst 0, 1) := by decide +kernel
theorem dX10_colourOf_23 : decode cX10_colourOf 23 = .ok (.ireturn, 1) := by decide +kernel
theorem dX10_colourOf_10 : decode cX10_colourOf 10 = .ok (.aload_n 0, 1) := by decide +kernel
theorem dX10_colourOf_14 : decode cX10_colourOf 14 = .ok (.aload_n 1, 1) := by decide +kernel
theorem dX10_colourOf_19 : decode cX10_colourOf 19 = .ok (.goto 4, 3) := by decide +kernel
theorem dX10_colourOf_18 : decode cX10_colourOf 18 = .ok (.iaload, 1) := by decide +kernel
theorem dX10_colourOf_15 : decode cX10_colourOf 15 = .ok (.getfield 58, 3) := by decide +kernel
theorem dX10_colourOf_11 : decode cX10_colourOf 11 = .ok (.getfield 15, 3) := by decide +kernel
theorem dX10_colourOf_7 : decode cX10_colourOf 7 = .ok (.if_icmp .ge 15, 3) := by decide +kernel
theorem dX10_colourOf_1 : decode cX10_colourOf 1 = .ok (.getfield 58, 3) := by decide +kernel
theorem dX10_keeps_8 : decode cX10_keeps 8 = .ok (.if_icmp .lt 11, 3) := by decide +kernel
theorem dX10_keeps_5 : decode cX10_keeps 5 = .ok (.getfield 35, 3) := by decide +kernel
theorem dX10_keeps_1 : decode cX10_keeps 1 = .ok (.getfield 49, 3) := by decide +kernel
theorem dX10_thingInQueue_0 : decode cX10_thingInQueue 0 = .ok (.iload_n 1, 1) := by decide +kernel
theorem dX10_thingInQueue_28 : decode cX10_thingInQueue 28 = .ok (.aconst_null, 1) := by decide +kernel
theorem dX10_thingInQueue_29 : decode cX10_thingInQueue 29 = .ok (.areturn, 1) := by decide +kernel
theorem dX10_thingInQueue_4 : decode cX10_thingInQueue 4 = .ok (.iload_n 1, 1) := by decide +kernel
theorem dX10_thingInQueue_5 : decode cX10_thingInQueue 5 = .ok (.aload_n 0, 1) := by decide +kernel
theorem dX10_thingInQueue_12 : decode cX10_thingInQueue 12 = .ok (.aload_n 0, 1) := by decide +kernel
theorem dX10_thingInQueue_16 : decode cX10_thingInQueue 16 = .ok (.aload_n 0, 1) := by decide +kernel
theorem dX10_thingInQueue_20 : decode cX10_thingInQueue 20 = .ok (.iload_n 1, 1) := by decide +kernel
theorem dX10_thingInQueue_22 : decode cX10_thingInQueue 22 = .ok (.invokevirtual 66, 3) := by decide +kernel
theorem dX10_thingInQueue_25 : decode cX10_thingInQueue 25 = .ok (.goto 4, 3) := by decide +kernel
theorem dX10_thingInQueue_21 : decode cX10_thingInQueue 21 = .ok (.iaload, 1) := by decide +kernel
theorem dX10_thingInQueue_17 : decode cX10_thingInQueue 17 = .ok (.getfield 9, 3) := by decide +kernel
theorem dX10_thingInQueue_13 : decode cX10_thingInQueue 13 = .ok (.getfield 18, 3) := by decide +kernel
theorem dX10_thingInQueue_9 : decode cX10_thingInQueue 9 = .ok (.if_icmp .ge 19, 3) := by decide +kernel
theorem dX10_thingInQueue_6 : decode cX10_thingInQueue 6 = .ok (.getfield 32, 3) := by decide +kernel
theorem dX10_thingInQueue_1 : decode cX10_thingInQueue 1 = .ok (.ifCond .lt 27, 3) := by decide +kernel
theorem dJ7_fill_53178_0 : decode cJ7_fill_53178 0 = .ok (.iconst 0, 1) := by decide +kernel
theorem dJ7_fill_53178_1 : decode cJ7_fill_53178 1 = .ok (.istore_n 2, 1) := by decide +kernel
theorem dJ7_fill_53178_2 : decode cJ7_fill_53178 2 = .ok (.aload_n 0, 1) := by decide +kernel
theorem dJ7_fill_53178_3 : decode cJ7_fill_53178 3 = .ok (.arraylength, 1) := by decide +kernel
theorem dJ7_fill_53178_4 : decode cJ7_fill_53178 4 = .ok (.istore_n 3, 1) := by decide +kernel
theorem dJ7_fill_53178_5 : decode cJ7_fill_53178 5 = .ok (.iload_n 2, 1) := by decide +kernel
theorem dJ7_fill_53178_6 : decode cJ7_fill_53178 6 = .ok (.iload_n 3, 1) := by decide +kernel
theorem dJ7_fill_53178_20 : decode cJ7_fill_53178 20 = .ok (.return_, 1) := by decide +kernel
theorem dJ7_fill_53178_10 : decode cJ7_fill_53178 10 = .ok (.aload_n 0, 1) := by decide +kernel
theorem dJ7_fill_53178_11 : decode cJ7_fill_53178 11 = .ok (.iload_n 2, 1) := by decide +kernel
theorem dJ7_fill_53178_12 : decode cJ7_fill_53178 12 = .ok (.iload_n 1, 1) := by decide +kernel
theorem dJ7_fill_53178_14 : decode cJ7_fill_53178 14 = .ok (.iinc 2 1, 3) := by decide +kernel
theorem dJ7_fill_53178_17 : decode cJ7_fill_53178 17 = .ok (.goto (-12), 3) := by decide +kernel
theorem dJ7_fill_53178_13 : decode cJ7_fill_53178 13 = .ok (.iastore, 1) := by decide +kernel
theorem dJ7_fill_53178_7 : decode cJ7_fill_53178 7 = .ok (.if_icmp .ge 13, 3) := by decide +kernel
theorem dX10_restart_0 : decode cX10_restart 0 = .ok (.aload_n 0, 1) := by decide +kernel
theorem dX10_restart_4 : decode cX10_restart 4 = .ok (.iconst 0, 1) := by decide +kernel
theorem dX10_restart_5 : decode cX10_restart 5 = .ok (.invokestatic 22, 3) := by decide +kernel
theorem dX10_restart_8 : decode cX10_restart 8 = .ok (.aload_n 0, 1) := by decide +kernel
theorem dX10_restart_9 : decode cX10_restart 9 = .ok (.iconst 0, 1) := by decide +kernel
theorem dX10_restart_13 : decode cX10_restart 13 = .ok (.aload_n 0, 1) := by decide +kernel
theorem dX10_restart_14 : decode cX10_restart 14 = .ok (.iconst 0, 1) := by decide +kernel
theorem dX10_restart_18 : decode cX10_restart 18 = .ok (.aload_n 0, 1) := by decide +kernel
theorem dX10_restart_19 : decode cX10_restart 19 = .ok (.iload_n 1, 1) := by decide +kernel
theorem dX10_restart_23 : decode cX10_restart 23 = .ok (.return_, 1) := by decide +kernel
theorem dX10_restart_20 : decode cX10_restart 20 = .ok (.putfield 35, 3) := by decide +kernel
theorem dX10_restart_15 : decode cX10_restart 15 = .ok (.putfield 32, 3) := by decide +kernel
theorem dX10_restart_10 : decode cX10_restart 10 = .ok (.putfield 28, 3) := by decide +kernel
theorem dX10_restart_1 : decode cX10_restart 1 = .ok (.getfield 15, 3) := by decide +kernel
theorem dX10_comeFromRoots_0 : decode cX10_comeFromRoots 0 = .ok (.iconst 0, 1) := by decide +kernel
theorem dX10_comeFromRoots_1 : decode cX10_comeFromRoots 1 = .ok (.istore_n 1, 1) := by decide +kernel
theorem dX10_comeFromRoots_2 : decode cX10_comeFromRoots 2 = .ok (.iload_n 1, 1) := by decide +kernel
theorem dX10_comeFromRoots_3 : decode cX10_comeFromRoots 3 = .ok (.bipush 16, 2) := by decide +kernel
theorem dX10_comeFromRoots_34 : decode cX10_comeFromRoots 34 = .ok (.iconst 0, 1) := by decide +kernel
theorem dX10_comeFromRoots_35 : decode cX10_comeFromRoots 35 = .ok (.istore_n 1, 1) := by decide +kernel
theorem dX10_comeFromRoots_8 : decode cX10_comeFromRoots 8 = .ok (.aload_n 0, 1) := by decide +kernel
theorem dX10_comeFromRoots_9 : decode cX10_comeFromRoots 9 = .ok (.aload_n 0, 1) := by decide +kernel
theorem dX10_comeFromRoots_13 : decode cX10_comeFromRoots 13 = .ok (.aload_n 0, 1) := by decide +kernel
theorem dX10_comeFromRoots_20 : decode cX10_comeFromRoots 20 = .ok (.iload_n 1, 1) := by decide +kernel
theorem dX10_comeFromRoots_22 : decode cX10_comeFromRoots 22 = .ok (.invokevirtual 66, 3) := by decide +kernel
theorem dX10_comeFromRoots_25 : decode cX10_comeFromRoots 25 = .ok (.invokevirtual 70, 3) := by decide +kernel
theorem dX10_comeFromRoots_28 : decode cX10_comeFromRoots 28 = .ok (.iinc 1 1, 3) := by decide +kernel
theorem dX10_comeFromRoots_31 : decode cX10_comeFromRoots 31 = .ok (.goto (-29), 3) := by decide +kernel
theorem dX10_comeFromRoots_21 : decode cX10_comeFromRoots 21 = .ok (.iaload, 1) := by decide +kernel
theorem dX10_comeFromRoots_17 : decode cX10_comeFromRoots 17 = .ok (.getfield 61, 3) := by decide +kernel
theorem dX10_comeFromRoots_14 : decode cX10_comeFromRoots 14 = .ok (.getfield 18, 3) := by decide +kernel
theorem dX10_comeFromRoots_10 : decode cX10_comeFromRoots 10 = .ok (.getfield 18, 3) := by decide +kernel
theorem dX10_comeFromRoots_5 : decode cX10_comeFromRoots 5 = .ok (.if_icmp .ge 29, 3) := by decide +kernel
theorem dX10_comeFromRoots_36 : decode cX10_comeFromRoots 36 = .ok (.iload_n 1, 1) := by decide +kernel
theorem dX10_comeFromRoots_37 : decode cX10_comeFromRoots 37 = .ok (.aload_n 0, 1) := by decide +kernel
theorem dX10_comeFromRoots_73 : decode cX10_comeFromRoots 73 = .ok (.iconst 0, 1) := by decide +kernel
theorem dX10_comeFromRoots_74 : decode cX10_comeFromRoots 74 = .ok (.istore_n 1, 1) := by decide +kernel
theorem dX10_comeFromRoots_47 : decode cX10_comeFromRoots 47 = .ok (.aload_n 0, 1) := by decide +kernel
theorem dX10_comeFromRoots_48 : decode cX10_comeFromRoots 48 = .ok (.aload_n 0, 1) := by decide +kernel
theorem dX10_comeFromRoots_52 : decode cX10_comeFromRoots 52 = .ok (.aload_n 0, 1) := by decide +kernel
theorem dX10_comeFromRoots_59 : decode cX10_comeFromRoots 59 = .ok (.iload_n 1, 1) := by decide +kernel
theorem dX10_comeFromRoots_61 : decode cX10_comeFromRoots 61 = .ok (.invokevirtual 66, 3) := by decide +kernel
theorem dX10_comeFromRoots_64 : decode cX10_comeFromRoots 64 = .ok (.invokevirtual 70, 3) := by decide +kernel
theorem dX10_comeFromRoots_67 : decode cX10_comeFromRoots 67 = .ok (.iinc 1 1, 3) := by decide +kernel
theorem dX10_comeFromRoots_70 : decode cX10_comeFromRoots 70 = .ok (.goto (-34), 3) := by decide +kernel
theorem dX10_comeFromRoots_60 : decode cX10_comeFromRoots 60 = .ok (.iaload, 1) := by decide +kernel
theorem dX10_comeFromRoots_56 : decode cX10_comeFromRoots 56 = .ok (.getfield 77, 3) := by decide +kernel
theorem dX10_comeFromRoots_53 : decode cX10_comeFromRoots 53 = .ok (.getfield 18, 3) := by decide +kernel
theorem dX10_comeFromRoots_49 : decode cX10_comeFromRoots 49 = .ok (.getfield 18, 3) := by decide +kernel
theorem dX10_comeFromRoots_44 : decode cX10_comeFromRoots 44 = .ok (.if_icmp .ge 29, 3) := by decide +kernel
theorem dX10_comeFromRoots_41 : decode cX10_comeFromRoots 41 = .ok (.getfield 74, 3) := by decide +kernel
theorem dX10_comeFromRoots_38 : decode cX10_comeFromRoots 38 = .ok (.getfield 18, 3) := by decide +kernel
theorem dX10_comeFromRoots_75 : decode cX10_comeFromRoots 75 = .ok (.iload_n 1, 1) := by decide +kernel
theorem dX10_comeFromRoots_76 : decode cX10_comeFromRoots 76 = .ok (.aload_n 0, 1) := by decide +kernel
theorem dX10_comeFromRoots_117 : decode cX10_comeFromRoots 117 = .ok (.return_, 1) := by decide +kernel
theorem dX10_comeFromRoots_86 : decode cX10_comeFromRoots 86 = .ok (.aload_n 0, 1) := by decide +kernel
theorem dX10_comeFromRoots_90 : decode cX10_comeFromRoots 90 = .ok (.iload_n 1, 1) := by decide +kernel
theorem dX10_comeFromRoots_91 : decode cX10_comeFromRoots 91 = .ok (.invokevirtual 66, 3) := by decide +kernel
theorem dX10_comeFromRoots_94 : decode cX10_comeFromRoots 94 = .ok (.astore_n 2, 1) := by decide +kernel
theorem dX10_comeFromRoots_95 : decode cX10_comeFromRoots 95 = .ok (.aload_n 2, 1) := by decide +kernel
theorem dX10_comeFromRoots_96 : decode cX10_comeFromRoots 96 = .ok (.ifnull 15, 3) := by decide +kernel
theorem dX10_comeFromRoots_111 : decode cX10_comeFromRoots 111 = .ok (.iinc 1 1, 3) := by decide +kernel
theorem dX10_comeFromRoots_114 : decode cX10_comeFromRoots 114 = .ok (.goto (-39), 3) := by decide +kernel
theorem dX10_comeFromRoots_99 : decode cX10_comeFromRoots 99 = .ok (.aload_n 2, 1) := by decide +kernel
theorem dX10_comeFromRoots_106 : decode cX10_comeFromRoots 106 = .ok (.aload_n 0, 1) := by decide +kernel
theorem dX10_comeFromRoots_107 : decode cX10_comeFromRoots 107 = .ok (.aload_n 2, 1) := by decide +kernel
theorem dX10_comeFromRoots_108 : decode cX10_comeFromRoots 108 = .ok (.invokevirtual 70, 3) := by decide +kernel
theorem dX10_comeFromRoots_103 : decode cX10_comeFromRoots 103 = .ok (.ifCond .le 8, 3) := by decide +kernel
theorem dX10_comeFromRoots_100 : decode cX10_comeFromRoots 100 = .ok (.getfield 83, 3) := by decide +kernel
theorem dX10_comeFromRoots_87 : decode cX10_comeFromRoots 87 = .ok (.getfield 18, 3) := by decide +kernel
theorem dX10_comeFromRoots_83 : decode cX10_comeFromRoots 83 = .ok (.if_icmp .ge 34, 3) := by decide +kernel
theorem dX10_comeFromRoots_80 : decode cX10_comeFromRoots 80 = .ok (.getfield 80, 3) := by decide +kernel
theorem dX10_comeFromRoots_77 : decode cX10_comeFromRoots 77 = .ok (.getfield 18, 3) := by decide +kernel
theorem dX10_spread_0 : decode cX10_spread 0 = .ok (.iconst 0, 1) := by decide +kernel
theorem dX10_spread_1 : decode cX10_spread 1 = .ok (.istore_n 2, 1) := by decide +kernel
theorem dX10_spread_2 : decode cX10_spread 2 = .ok (.iload_n 2, 1) := by decide +kernel
theorem dX10_spread_3 : decode cX10_spread 3 = .ok (.iload_n 1, 1) := by decide +kernel
theorem dX10_spread_94 : decode cX10_spread 94 = .ok (.iload_n 2, 1) := by decide +kernel
theorem dX10_spread_95 : decode cX10_spread 95 = .ok (.ireturn, 1) := by decide +kernel
theorem dX10_spread_7 : decode cX10_spread 7 = .ok (.aload_n 0, 1) := by decide +kernel
theorem dX10_spread_11 : decode cX10_spread 11 = .ok (.aload_n 0, 1) := by decide +kernel
theorem dX10_spread_18 : decode cX10_spread 18 = .ok (.aload_n 0, 1) := by decide +kernel
theorem dX10_spread_22 : decode cX10_spread 22 = .ok (.aload_n 0, 1) := by decide +kernel
theorem dX10_spread_26 : decode cX10_spread 26 = .ok (.aload_n 0, 1) := by decide +kernel
theorem dX10_spread_31 : decode cX10_spread 31 = .ok (.invokevirtual 66, 3) := by decide +kernel
theorem dX10_spread_34 : decode cX10_spread 34 = .ok (.astore_n 3, 1) := by decide +kernel
theorem dX10_spread_35 : decode cX10_spread 35 = .ok (.aload_n 0, 1) := by decide +kernel
theorem dX10_spread_36 : decode cX10_spread 36 = .ok (.dup, 1) := by decide +kernel
theorem dX10_spread_40 : decode cX10_spread 40 = .ok (.iconst 1, 1) := by decide +kernel
theorem dX10_spread_41 : decode cX10_spread 41 = .ok (.iadd, 1) := by decide +kernel
theorem dX10_spread_45 : decode cX10_spread 45 = .ok (.aload_n 3, 1) := by decide +kernel
theorem dX10_spread_46 : decode cX10_spread 46 = .ok (.ifnull 42, 3) := by decide +kernel
theorem dX10_spread_88 : decode cX10_spread 88 = .ok (.iinc 2 1, 3) := by decide +kernel
theorem dX10_spread_91 : decode cX10_spread 91 = .ok (.goto (-89), 3) := by decide +kernel
theorem dX10_spread_42 : decode cX10_spread 42 = .ok (.putfield 28, 3) := by decide +kernel
theorem dX10_spread_37 : decode cX10_spread 37 = .ok (.getfield 28, 3) := by decide +kernel
theorem dX10_spread_49 : decode cX10_spread 49 = .ok (.aload_n 0, 1) := by decide +kernel
theorem dX10_spread_50 : decode cX10_spread 50 = .ok (.aload_n 3, 1) := by decide +kernel
theorem dX10_spread_51 : decode cX10_spread 51 = .ok (.invokevirtual 86, 3) := by decide +kernel
theorem dX10_spread_54 : decode cX10_spread 54 = .ok (.iconst 0, 1) := by decide +kernel
theorem dX10_spread_55 : decode cX10_spread 55 = .ok (.istore 4, 2) := by decide +kernel
theorem dX10_spread_30 : decode cX10_spread 30 = .ok (.iaload, 1) := by decide +kernel
theorem dX10_spread_27 : decode cX10_spread 27 = .ok (.getfield 28, 3) := by decide +kernel
theorem dX10_spread_23 : decode cX10_spread 23 = .ok (.getfield 9, 3) := by decide +kernel
theorem dX10_spread_19 : decode cX10_spread 19 = .ok (.getfield 18, 3) := by decide +kernel
theorem dX10_spread_15 : decode cX10_spread 15 = .ok (.if_icmp .ge 79, 3) := by decide +kernel
theorem dX10_spread_12 : decode cX10_spread 12 = .ok (.getfield 32, 3) := by decide +kernel
theorem dX10_spread_8 : decode cX10_spread 8 = .ok (.getfield 28, 3) := by decide +kernel
theorem dX10_spread_4 : decode cX10_spread 4 = .ok (.if_icmp .ge 90, 3) := by decide +kernel
theorem dX10_spread_57 : decode cX10_spread 57 = .ok (.iload 4, 2) := by decide +kernel
theorem dX10_spread_59 : decode cX10_spread 59 = .ok (.aload_n 3, 1) := by decide +kernel
theorem dX10_spread_63 : decode cX10_spread 63 = .ok (.iconst 1, 1) := by decide +kernel
theorem dX10_spread_64 : decode cX10_spread 64 = .ok (.isub, 1) := by decide +kernel
theorem dX10_spread_68 : decode cX10_spread 68 = .ok (.aload_n 0, 1) := by decide +kernel
theorem dX10_spread_69 : decode cX10_spread 69 = .ok (.aload_n 0, 1) := by decide +kernel
theorem dX10_spread_73 : decode cX10_spread 73 = .ok (.aload_n 3, 1) := by decide +kernel
theorem dX10_spread_74 : decode cX10_spread 74 = .ok (.iload 4, 2) := by decide +kernel
theorem dX10_spread_76 : decode cX10_spread 76 = .ok (.invokevirtual 92, 3) := by decide +kernel
theorem dX10_spread_79 : decode cX10_spread 79 = .ok (.invokevirtual 70, 3) := by decide +kernel
theorem dX10_spread_82 : decode cX10_spread 82 = .ok (.iinc 4 1, 3) := by decide +kernel
theorem dX10_spread_85 : decode cX10_spread 85 = .ok (.goto (-28), 3) := by decide +kernel
theorem dX10_spread_70 : decode cX10_spread 70 = .ok (.getfield 18, 3) := by decide +kernel
theorem dX10_spread_65 : decode cX10_spread 65 = .ok (.if_icmp .ge 23, 3) := by decide +kernel
theorem dX10_spread_60 : decode cX10_spread 60 = .ok (.getfield 89, 3) := by decide +kernel
theorem dX10_reachAll_0 : decode cX10_reachAll 0 = .ok (.aload_n 0, 1) := by decide +kernel
theorem dX10_reachAll_1 : decode cX10_reachAll 1 = .ok (.iconst 0, 1) := by decide +kernel
theorem dX10_reachAll_2 : decode cX10_reachAll 2 = .ok (.invokevirtual 38, 3) := by decide +kernel
theorem dX10_reachAll_5 : decode cX10_reachAll 5 = .ok (.aload_n 0, 1) := by decide +kernel
theorem dX10_reachAll_6 : decode cX10_reachAll 6 = .ok (.invokevirtual 42, 3) := by decide +kernel
theorem dX10_reachAll_9 : decode cX10_reachAll 9 = .ok (.aload_n 0, 1) := by decide +kernel
theorem dX10_reachAll_10 : decode cX10_reachAll 10 = .ok (.sipush 512, 3) := by decide +kernel
theorem dX10_reachAll_13 : decode cX10_reachAll 13 = .ok (.invokevirtual 45, 3) := by decide +kernel
theorem dX10_reachAll_16 : decode cX10_reachAll 16 = .ok (.pop, 1) := by decide +kernel
theorem dX10_reachAll_17 : decode cX10_reachAll 17 = .ok (.return_, 1) := by decide +kernel
theorem dX7_grant_0 : decode cX7_grant 0 = .ok (.aload_n 0, 1) := by decide +kernel
theorem dX7_grant_1 : decode cX7_grant 1 = .ok (.aload_n 1, 1) := by decide +kernel
theorem dX7_grant_2 : decode cX7_grant 2 = .ok (.invokevirtual 104, 3) := by decide +kernel
theorem dX7_grant_5 : decode cX7_grant 5 = .ok (.aload_n 1, 1) := by decide +kernel
theorem dX7_grant_6 : decode cX7_grant 6 = .ok (.iconst 0, 1) := by decide +kernel
theorem dX7_grant_10 : decode cX7_grant 10 = .ok (.aload_n 0, 1) := by decide +kernel
theorem dX7_grant_14 : decode cX7_grant 14 = .ok (.sipush 512, 3) := by decide +kernel
theorem dX7_grant_53 : decode cX7_grant 53 = .ok (.return_, 1) := by decide +kernel
theorem dX7_grant_20 : decode cX7_grant 20 = .ok (.aload_n 0, 1) := by decide +kernel
theorem dX7_grant_24 : decode cX7_grant 24 = .ok (.aload_n 0, 1) := by decide +kernel
theorem dX7_grant_28 : decode cX7_grant 28 = .ok (.aload_n 1, 1) := by decide +kernel
theorem dX7_grant_33 : decode cX7_grant 33 = .ok (.aload_n 0, 1) := by decide +kernel
theorem dX7_grant_34 : decode cX7_grant 34 = .ok (.dup, 1) := by decide +kernel
theorem dX7_grant_38 : decode cX7_grant 38 = .ok (.iconst 1, 1) := by decide +kernel
theorem dX7_grant_39 : decode cX7_grant 39 = .ok (.iadd, 1) := by decide +kernel
theorem dX7_grant_43 : decode cX7_grant 43 = .ok (.aload_n 1, 1) := by decide +kernel
theorem dX7_grant_44 : decode cX7_grant 44 = .ok (.dup, 1) := by decide +kernel
theorem dX7_grant_48 : decode cX7_grant 48 = .ok (.iconst 1, 1) := by decide +kernel
theorem dX7_grant_49 : decode cX7_grant 49 = .ok (.iadd, 1) := by decide +kernel
theorem dX7_grant_50 : decode cX7_grant 50 = .ok (.putfield 98, 3) := by decide +kernel
theorem dX7_grant_45 : decode cX7_grant 45 = .ok (.getfield 98, 3) := by decide +kernel
theorem dX7_grant_40 : decode cX7_grant 40 = .ok (.putfield 36, 3) := by decide +kernel
theorem dX7_grant_35 : decode cX7_grant 35 = .ok (.getfield 36, 3) := by decide +kernel
theorem dX7_grant_32 : decode cX7_grant 32 = .ok (.iastore, 1) := by decide +kernel
theorem dX7_grant_29 : decode cX7_grant 29 = .ok (.getfield 67, 3) := by decide +kernel
theorem dX7_grant_25 : decode cX7_grant 25 = .ok (.getfield 36, 3) := by decide +kernel
theorem dX7_grant_21 : decode cX7_grant 21 = .ok (.getfield 27, 3) := by decide +kernel
theorem dX7_grant_17 : decode cX7_grant 17 = .ok (.if_icmp .ge 36, 3) := by decide +kernel
theorem dX7_grant_11 : decode cX7_grant 11 = .ok (.getfield 36, 3) := by decide +kernel
theorem dX7_grant_7 : decode cX7_grant 7 = .ok (.putfield 108, 3) := by decide +kernel
theorem dX7_takeWish_0 : decode cX7_takeWish 0 = .ok (.aload_n 0, 1) := by decide +kernel
theorem dX7_takeWish_9 : decode cX7_takeWish 9 = .ok (.aload_n 0, 1) := by decide +kernel
theorem dX7_takeWish_10 : decode cX7_takeWish 10 = .ok (.aload_n 0, 1) := by decide +kernel
theorem dX7_takeWish_14 : decode cX7_takeWish 14 = .ok (.iconst 0, 1) := by decide +kernel
theorem dX7_takeWish_16 : decode cX7_takeWish 16 = .ok (.invokevirtual 94, 3) := by decide +kernel
theorem dX7_takeWish_19 : decode cX7_takeWish 19 = .ok (.astore_n 1, 1) := by decide +kernel
theorem dX7_takeWish_20 : decode cX7_takeWish 20 = .ok (.aload_n 0, 1) := by decide +kernel
theorem dX7_takeWish_21 : decode cX7_takeWish 21 = .ok (.dup, 1) := by decide +kernel
theorem dX7_takeWish_25 : decode cX7_takeWish 25 = .ok (.iconst 1, 1) := by decide +kernel
theorem dX7_takeWish_26 : decode cX7_takeWish 26 = .ok (.isub, 1) := by decide +kernel
theorem dX7_takeWish_30 : decode cX7_takeWish 30 = .ok (.iconst 0, 1) := by decide +kernel
theorem dX7_takeWish_31 : decode cX7_takeWish 31 = .ok (.istore_n 2, 1) := by decide +kernel
theorem dX7_takeWish_27 : decode cX7_takeWish 27 = .ok (.putfield 36, 3) := by decide +kernel
theorem dX7_takeWish_22 : decode cX7_takeWish 22 = .ok (.getfield 36, 3) := by decide +kernel
theorem dX7_takeWish_15 : decode cX7_takeWish 15 = .ok (.iaload, 1) := by decide +kernel
theorem dX7_takeWish_11 : decode cX7_takeWish 11 = .ok (.getfield 27, 3) := by decide +kernel
theorem dX7_takeWish_7 : decode cX7_takeWish 7 = .ok (.aconst_null, 1) := by decide +kernel
theorem dX7_takeWish_8 : decode cX7_takeWish 8 = .ok (.areturn, 1) := by decide +kernel
theorem dX7_takeWish_4 : decode cX7_takeWish 4 = .ok (.ifCond .gt 5, 3) := by decide +kernel
theorem dX7_takeWish_1 : decode cX7_takeWish 1 = .ok (.getfield 36, 3) := by decide +kernel
theorem dX7_takeWish_32 : decode cX7_takeWish 32 = .ok (.iload_n 2, 1) := by decide +kernel
theorem dX7_takeWish_33 : decode cX7_takeWish 33 = .ok (.aload_n 0, 1) := by decide +kernel
theorem dX7_takeWish_60 : decode cX7_takeWish 60 = .ok (.aload_n 1, 1) := by decide +kernel
theorem dX7_takeWish_74 : decode cX7_takeWish 74 = .ok (.aload_n 1, 1) := by decide +kernel
theorem dX7_takeWish_75 : decode cX7_takeWish 75 = .ok (.areturn, 1) := by decide +kernel
theorem dX7_takeWish_64 : decode cX7_takeWish 64 = .ok (.aload_n 1, 1) := by decide +kernel
theorem dX7_takeWish_65 : decode cX7_takeWish 65 = .ok (.dup, 1) := by decide +kernel
theorem dX7_takeWish_69 : decode cX7_takeWish 69 = .ok (.iconst 1, 1) := by decide +kernel
theorem dX7_takeWish_70 : decode cX7_takeWish 70 = .ok (.isub, 1) := by decide +kernel
theorem dX7_takeWish_71 : decode cX7_takeWish 71 = .ok (.putfield 98, 3) := by decide +kernel
theorem dX7_takeWish_66 : decode cX7_takeWish 66 = .ok (.getfield 98, 3) := by decide +kernel
theorem dX7_takeWish_61 : decode cX7_takeWish 61 = .ok (.ifnull 13, 3) := by decide +kernel
theorem dX7_takeWish_40 : decode cX7_takeWish 40 = .ok (.aload_n 0, 1) := by decide +kernel
theorem dX7_takeWish_44 : decode cX7_takeWish 44 = .ok (.iload_n 2, 1) := by decide +kernel
theorem dX7_takeWish_45 : decode cX7_takeWish 45 = .ok (.aload_n 0, 1) := by decide +kernel
theorem dX7_takeWish_49 : decode cX7_takeWish 49 = .ok (.iload_n 2, 1) := by decide +kernel
theorem dX7_takeWish_50 : decode cX7_takeWish 50 = .ok (.iconst 1, 1) := by decide +kernel
theorem dX7_takeWish_51 : decode cX7_takeWish 51 = .ok (.iadd, 1) := by decide +kernel
theorem dX7_takeWish_54 : decode cX7_takeWish 54 = .ok (.iinc 2 1, 3) := by decide +kernel
theorem dX7_takeWish_57 : decode cX7_takeWish 57 = .ok (.goto (-25), 3) := by decide +kernel
theorem dX7_takeWish_53 : decode cX7_takeWish 53 = .ok (.iastore, 1) := by decide +kernel
theorem dX7_takeWish_52 : decode cX7_takeWish 52 = .ok (.iaload, 1) := by decide +kernel
theorem dX7_takeWish_46 : decode cX7_takeWish 46 = .ok (.getfield 27, 3) := by decide +kernel
theorem dX7_takeWish_41 : decode cX7_takeWish 41 = .ok (.getfield 27, 3) := by decide +kernel
theorem dX7_takeWish_37 : decode cX7_takeWish 37 = .ok (.if_icmp .ge 23, 3) := by decide +kernel
theorem dX7_takeWish_34 : decode cX7_takeWish 34 = .ok (.getfield 36, 3) := by decide +kernel
theorem dX7_freeWords_0 : decode cX7_freeWords 0 = .ok (.iload_n 1, 1) := by decide +kernel
theorem dX7_freeWords_1 : decode cX7_freeWords 1 = .ok (.istore_n 3, 1) := by decide +kernel
theorem dX7_freeWords_2 : decode cX7_freeWords 2 = .ok (.iload_n 3, 1) := by decide +kernel
theorem dX7_freeWords_31 : decode cX7_freeWords 31 = .ok (.return_, 1) := by decide +kernel
theorem dX7_freeWords_6 : decode cX7_freeWords 6 = .ok (.iload_n 3, 1) := by decide +kernel
theorem dX7_freeWords_7 : decode cX7_freeWords 7 = .ok (.iload_n 2, 1) := by decide +kernel
theorem dX7_freeWords_11 : decode cX7_freeWords 11 = .ok (.iload_n 3, 1) := by decide +kernel
theorem dX7_freeWords_12 : decode cX7_freeWords 12 = .ok (.sipush 4500, 3) := by decide +kernel
theorem dX7_freeWords_18 : decode cX7_freeWords 18 = .ok (.aload_n 0, 1) := by decide +kernel
theorem dX7_freeWords_22 : decode cX7_freeWords 22 = .ok (.iload_n 3, 1) := by decide +kernel
theorem dX7_freeWords_23 : decode cX7_freeWords 23 = .ok (.iconst (-1), 1) := by decide +kernel
theorem dX7_freeWords_25 : decode cX7_freeWords 25 = .ok (.iinc 3 1, 3) := by decide +kernel
theorem dX7_freeWords_28 : decode cX7_freeWords 28 = .ok (.goto (-26), 3) := by decide +kernel
theorem dX7_freeWords_24 : decode cX7_freeWords 24 = .ok (.iastore, 1) := by decide +kernel
theorem dX7_freeWords_19 : decode cX7_freeWords 19 = .ok (.getfield 17, 3) := by decide +kernel
theorem dX7_freeWords_15 : decode cX7_freeWords 15 = .ok (.if_icmp .ge 16, 3) := by decide +kernel
theorem dX7_freeWords_8 : decode cX7_freeWords 8 = .ok (.if_icmp .ge 23, 3) := by decide +kernel
theorem dX7_freeWords_3 : decode cX7_freeWords 3 = .ok (.ifCond .lt 28, 3) := by decide +kernel
theorem dX7_remove_0 : decode cX7_remove 0 = .ok (.aload_n 0, 1) := by decide +kernel
theorem dX7_remove_1 : decode cX7_remove 1 = .ok (.aload_n 1, 1) := by decide +kernel
theorem dX7_remove_2 : decode cX7_remove 2 = .ok (.invokevirtual 104, 3) := by decide +kernel
theorem dX7_remove_5 : decode cX7_remove 5 = .ok (.iconst 0, 1) := by decide +kernel
theorem dX7_remove_6 : decode cX7_remove 6 = .ok (.istore_n 2, 1) := by decide +kernel
theorem dX7_remove_7 : decode cX7_remove 7 = .ok (.iload_n 2, 1) := by decide +kernel
theorem dX7_remove_8 : decode cX7_remove 8 = .ok (.aload_n 1, 1) := by decide +kernel
theorem dX7_remove_12 : decode cX7_remove 12 = .ok (.iconst 1, 1) := by decide +kernel
theorem dX7_remove_13 : decode cX7_remove 13 = .ok (.isub, 1) := by decide +kernel
theorem dX7_remove_44 : decode cX7_remove 44 = .ok (.aload_n 0, 1) := by decide +kernel
theorem dX7_remove_45 : decode cX7_remove 45 = .ok (.aload_n 1, 1) := by decide +kernel
theorem dX7_remove_49 : decode cX7_remove 49 = .ok (.aload_n 1, 1) := by decide +kernel
theorem dX7_remove_53 : decode cX7_remove 53 = .ok (.aload_n 1, 1) := by decide +kernel
theorem dX7_remove_57 : decode cX7_remove 57 = .ok (.iadd, 1) := by decide +kernel
theorem dX7_remove_58 : decode cX7_remove 58 = .ok (.invokevirtual 112, 3) := by decide +kernel
theorem dX7_remove_61 : decode cX7_remove 61 = .ok (.aload_n 1, 1) := by decide +kernel
theorem dX7_remove_65 : decode cX7_remove 65 = .ok (.sipush 512, 3) := by decide +kernel
theorem dX7_remove_81 : decode cX7_remove 81 = .ok (.aload_n 0, 1) := by decide +kernel
theorem dX7_remove_82 : decode cX7_remove 82 = .ok (.dup, 1) := by decide +kernel
theorem dX7_remove_86 : decode cX7_remove 86 = .ok (.iconst 1, 1) := by decide +kernel
theorem dX7_remove_87 : decode cX7_remove 87 = .ok (.isub, 1) := by decide +kernel
theorem dX7_remove_91 : decode cX7_remove 91 = .ok (.aload_n 0, 1) := by decide +kernel
theorem dX7_remove_92 : decode cX7_remove 92 = .ok (.dup, 1) := by decide +kernel
theorem dX7_remove_96 : decode cX7_remove 96 = .ok (.aload_n 1, 1) := by decide +kernel
theorem dX7_remove_100 : decode cX7_remove 100 = .ok (.isub, 1) := by decide +kernel
theorem dX7_remove_104 : decode cX7_remove 104 = .ok (.aload_n 0, 1) := by decide +kernel
theorem dX7_remove_105 : decode cX7_remove 105 = .ok (.dup, 1) := by decide +kernel
theorem dX7_remove_109 : decode cX7_remove 109 = .ok (.aload_n 1, 1) := by decide +kernel
theorem dX7_remove_113 : decode cX7_remove 113 = .ok (.iadd, 1) := by decide +kernel
theorem dX7_remove_117 : decode cX7_remove 117 = .ok (.return_, 1) := by decide +kernel
theorem dX7_remove_114 : decode cX7_remove 114 = .ok (.putfield 55, 3) := by decide +kernel
theorem dX7_remove_110 : decode cX7_remove 110 = .ok (.getfield 64, 3) := by decide +kernel
theorem dX7_remove_106 : decode cX7_remove 106 = .ok (.getfield 55, 3) := by decide +kernel
theorem dX7_remove_101 : decode cX7_remove 101 = .ok (.putfield 46, 3) := by decide +kernel
theorem dX7_remove_97 : decode cX7_remove 97 = .ok (.getfield 64, 3) := by decide +kernel
theorem dX7_remove_93 : decode cX7_remove 93 = .ok (.getfield 46, 3) := by decide +kernel
theorem dX7_remove_88 : decode cX7_remove 88 = .ok (.putfield 43, 3) := by decide +kernel
theorem dX7_remove_83 : decode cX7_remove 83 = .ok (.getfield 43, 3) := by decide +kernel
theorem dX7_remove_71 : decode cX7_remove 71 = .ok (.aload_n 0, 1) := by decide +kernel
theorem dX7_remove_75 : decode cX7_remove 75 = .ok (.aload_n 1, 1) := by decide +kernel
theorem dX7_remove_79 : decode cX7_remove 79 = .ok (.aconst_null, 1) := by decide +kernel
theorem dX7_remove_80 : decode cX7_remove 80 = .ok (.aastore, 1) := by decide +kernel
theorem dX7_remove_76 : decode cX7_remove 76 = .ok (.getfield 67, 3) := by decide +kernel
theorem dX7_remove_72 : decode cX7_remove 72 = .ok (.getfield 11, 3) := by decide +kernel
theorem dX7_remove_68 : decode cX7_remove 68 = .ok (.if_icmp .ge 13, 3) := by decide +kernel
theorem dX7_remove_62 : decode cX7_remove 62 = .ok (.getfield 67, 3) := by decide +kernel
theorem dX7_remove_54 : decode cX7_remove 54 = .ok (.getfield 64, 3) := by decide +kernel
theorem dX7_remove_50 : decode cX7_remove 50 = .ok (.getfield 61, 3) := by decide +kernel
theorem dX7_remove_46 : decode cX7_remove 46 = .ok (.getfield 61, 3) := by decide +kernel
theorem dX7_remove_17 : decode cX7_remove 17 = .ok (.aload_n 0, 1) := by decide +kernel
theorem dX7_remove_18 : decode cX7_remove 18 = .ok (.aload_n 1, 1) := by decide +kernel
theorem dX7_remove_19 : decode cX7_remove 19 = .ok (.iload_n 2, 1) := by decide +kernel
theorem dX7_remove_20 : decode cX7_remove 20 = .ok (.invokevirtual 78, 3) := by decide +kernel
theorem dX7_remove_23 : decode cX7_remove 23 = .ok (.astore_n 3, 1) := by decide +kernel
theorem dX7_remove_24 : decode cX7_remove 24 = .ok (.aload_n 3, 1) := by decide +kernel
theorem dX7_remove_38 : decode cX7_remove 38 = .ok (.iinc 2 1, 3) := by decide +kernel
theorem dX7_remove_41 : decode cX7_remove 41 = .ok (.goto (-34), 3) := by decide +kernel
theorem dX7_remove_28 : decode cX7_remove 28 = .ok (.aload_n 3, 1) := by decide +kernel
theorem dX7_remove_29 : decode cX7_remove 29 = .ok (.dup, 1) := by decide +kernel
theorem dX7_remove_33 : decode cX7_remove 33 = .ok (.iconst 1, 1) := by decide +kernel
theorem dX7_remove_34 : decode cX7_remove 34 = .ok (.isub, 1) := by decide +kernel
theorem dX7_remove_35 : decode cX7_remove 35 = .ok (.putfield 98, 3) := by decide +kernel
theorem dX7_remove_30 : decode cX7_remove 30 = .ok (.getfield 98, 3) := by decide +kernel
theorem dX7_remove_25 : decode cX7_remove 25 = .ok (.ifnull 13, 3) := by decide +kernel
theorem dX7_remove_14 : decode cX7_remove 14 = .ok (.if_icmp .ge 30, 3) := by decide +kernel
theorem dX7_remove_9 : decode cX7_remove 9 = .ok (.getfield 64, 3) := by decide +kernel
theorem dX7_move_0 : decode cX7_move 0 = .ok (.aload_n 1, 1) := by decide +kernel
theorem dX7_move_4 : decode cX7_move 4 = .ok (.istore_n 3, 1) := by decide +kernel
theorem dX7_move_5 : decode cX7_move 5 = .ok (.iload_n 2, 1) := by decide +kernel
theorem dX7_move_6 : decode cX7_move 6 = .ok (.iload_n 3, 1) := by decide +kernel
theorem dX7_move_30 : decode cX7_move 30 = .ok (.return_, 1) := by decide +kernel
theorem dX7_move_10 : decode cX7_move 10 = .ok (.iload_n 2, 1) := by decide +kernel
theorem dX7_move_14 : decode cX7_move 14 = .ok (.iload_n 3, 1) := by decide +kernel
theorem dX7_move_15 : decode cX7_move 15 = .ok (.iload_n 2, 1) := by decide +kernel
theorem dX7_move_16 : decode cX7_move 16 = .ok (.invokestatic 116, 3) := by decide +kernel
theorem dX7_move_19 : decode cX7_move 19 = .ok (.aload_n 1, 1) := by decide +kernel
theorem dX7_move_23 : decode cX7_move 23 = .ok (.iadd, 1) := by decide +kernel
theorem dX7_move_24 : decode cX7_move 24 = .ok (.sipush 4500, 3) := by decide +kernel
theorem dX7_move_31 : decode cX7_move 31 = .ok (.aload_n 0, 1) := by decide +kernel
theorem dX7_move_35 : decode cX7_move 35 = .ok (.iload_n 3, 1) := by decide +kernel
theorem dX7_move_36 : decode cX7_move 36 = .ok (.aload_n 0, 1) := by decide +kernel
theorem dX7_move_40 : decode cX7_move 40 = .ok (.iload_n 2, 1) := by decide +kernel
theorem dX7_move_41 : decode cX7_move 41 = .ok (.aload_n 1, 1) := by decide +kernel
theorem dX7_move_48 : decode cX7_move 48 = .ok (.iload_n 3, 1) := by decide +kernel
theorem dX7_move_49 : decode cX7_move 49 = .ok (.aload_n 1, 1) := by decide +kernel
theorem dX7_move_53 : decode cX7_move 53 = .ok (.iadd, 1) := by decide +kernel
theorem dX7_move_54 : decode cX7_move 54 = .ok (.istore 4, 2) := by decide +kernel
theorem dX7_move_56 : decode cX7_move 56 = .ok (.aload_n 0, 1) := by decide +kernel
theorem dX7_move_57 : decode cX7_move 57 = .ok (.iload_n 2, 1) := by decide +kernel
theorem dX7_move_58 : decode cX7_move 58 = .ok (.iload_n 3, 1) := by decide +kernel
theorem dX7_move_75 : decode cX7_move 75 = .ok (.iload_n 3, 1) := by decide +kernel
theorem dX7_move_76 : decode cX7_move 76 = .ok (.iload 4, 2) := by decide +kernel
theorem dX7_move_78 : decode cX7_move 78 = .ok (.invokevirtual 112, 3) := by decide +kernel
theorem dX7_move_81 : decode cX7_move 81 = .ok (.aload_n 1, 1) := by decide +kernel
theorem dX7_move_82 : decode cX7_move 82 = .ok (.iload_n 2, 1) := by decide +kernel
theorem dX7_move_86 : decode cX7_move 86 = .ok (.aload_n 0, 1) := by decide +kernel
theorem dX7_move_87 : decode cX7_move 87 = .ok (.dup, 1) := by decide +kernel
theorem dX7_move_91 : decode cX7_move 91 = .ok (.aload_n 1, 1) := by decide +kernel
theorem dX7_move_95 : decode cX7_move 95 = .ok (.iadd, 1) := by decide +kernel
theorem dX7_move_99 : decode cX7_move 99 = .ok (.return_, 1) := by decide +kernel
theorem dX7_move_96 : decode cX7_move 96 = .ok (.putfield 52, 3) := by decide +kernel
theorem dX7_move_92 : decode cX7_move 92 = .ok (.getfield 64, 3) := by decide +kernel
theorem dX7_move_88 : decode cX7_move 88 = .ok (.getfield 52, 3) := by decide +kernel
theorem dX7_move_83 : decode cX7_move 83 = .ok (.putfield 61, 3) := by decide +kernel
theorem dX7_move_62 : decode cX7_move 62 = .ok (.iload_n 3, 1) := by decide +kernel
theorem dX7_move_63 : decode cX7_move 63 = .ok (.iload_n 2, 1) := by decide +kernel
theorem dX7_move_64 : decode cX7_move 64 = .ok (.aload_n 1, 1) := by decide +kernel
theorem dX7_move_68 : decode cX7_move 68 = .ok (.iadd, 1) := by decide +kernel
theorem dX7_move_69 : decode cX7_move 69 = .ok (.invokestatic 116, 3) := by decide +kernel
theorem dX7_move_72 : decode cX7_move 72 = .ok (.goto 4, 3) := by decide +kernel
theorem dX7_move_65 : decode cX7_move 65 = .ok (.getfield 64, 3) := by decide +kernel
theorem dX7_move_59 : decode cX7_move 59 = .ok (.if_icmp .ge 16, 3) := by decide +kernel
theorem dX7_move_50 : decode cX7_move 50 = .ok (.getfield 64, 3) := by decide +kernel
theorem dX7_move_45 : decode cX7_move 45 = .ok (.invokestatic 122, 3) := by decide +kernel
theorem dX7_move_42 : decode cX7_move 42 = .ok (.getfield 64, 3) := by decide +kernel
theorem dX7_move_37 : decode cX7_move 37 = .ok (.getfield 17, 3) := by decide +kernel
theorem dX7_move_32 : decode cX7_move 32 = .ok (.getfield 17, 3) := by decide +kernel
theorem dX7_move_27 : decode cX7_move 27 = .ok (.if_icmp .le 4, 3) := by decide +kernel
theorem dX7_move_20 : decode cX7_move 20 = .ok (.getfield 64, 3) := by decide +kernel
theorem dX7_move_11 : decode cX7_move 11 = .ok (.ifCond .lt 19, 3) := by decide +kernel
theorem dX7_move_7 : decode cX7_move 7 = .ok (.if_icmp .eq 23, 3) := by decide +kernel
theorem dX7_move_1 : decode cX7_move 1 = .ok (.getfield 61, 3) := by decide +kernel
theorem dX7_grantWishes_0 : decode cX7_grantWishes 0 = .ok (.iconst 0, 1) := by decide +kernel
theorem dX7_grantWishes_1 : decode cX7_grantWishes 1 = .ok (.istore_n 2, 1) := by decide +kernel
theorem dX7_grantWishes_2 : decode cX7_grantWishes 2 = .ok (.iload_n 2, 1) := by decide +kernel
theorem dX7_grantWishes_3 : decode cX7_grantWishes 3 = .ok (.aload_n 0, 1) := by decide +kernel
theorem dX7_grantWishes_59 : decode cX7_grantWishes 59 = .ok (.return_, 1) := by decide +kernel
theorem dX7_grantWishes_10 : decode cX7_grantWishes 10 = .ok (.aload_n 0, 1) := by decide +kernel
theorem dX7_grantWishes_11 : decode cX7_grantWishes 11 = .ok (.iload_n 2, 1) := by decide +kernel
theorem dX7_grantWishes_12 : decode cX7_grantWishes 12 = .ok (.invokevirtual 94, 3) := by decide +kernel
theorem dX7_grantWishes_15 : decode cX7_grantWishes 15 = .ok (.astore_n 3, 1) := by decide +kernel
theorem dX7_grantWishes_16 : decode cX7_grantWishes 16 = .ok (.aload_n 3, 1) := by decide +kernel
theorem dX7_grantWishes_17 : decode cX7_grantWishes 17 = .ok (.ifnull 36, 3) := by decide +kernel
theorem dX7_grantWishes_53 : decode cX7_grantWishes 53 = .ok (.iinc 2 1, 3) := by decide +kernel
theorem dX7_grantWishes_56 : decode cX7_grantWishes 56 = .ok (.goto (-54), 3) := by decide +kernel
theorem dX7_grantWishes_20 : decode cX7_grantWishes 20 = .ok (.aload_n 3, 1) := by decide +kernel
theorem dX7_grantWishes_27 : decode cX7_grantWishes 27 = .ok (.aload_n 1, 1) := by decide +kernel
theorem dX7_grantWishes_28 : decode cX7_grantWishes 28 = .ok (.aload_n 3, 1) := by decide +kernel
theorem dX7_grantWishes_29 : decode cX7_grantWishes 29 = .ok (.invokevirtual 128, 3) := by decide +kernel
theorem dX7_grantWishes_35 : decode cX7_grantWishes 35 = .ok (.aload_n 0, 1) := by decide +kernel
theorem dX7_grantWishes_36 : decode cX7_grantWishes 36 = .ok (.aload_n 3, 1) := by decide +kernel
theorem dX7_grantWishes_37 : decode cX7_grantWishes 37 = .ok (.invokevirtual 134, 3) := by decide +kernel
theorem dX7_grantWishes_40 : decode cX7_grantWishes 40 = .ok (.aload_n 1, 1) := by decide +kernel
theorem dX7_grantWishes_41 : decode cX7_grantWishes 41 = .ok (.aload_n 3, 1) := by decide +kernel
theorem dX7_grantWishes_42 : decode cX7_grantWishes 42 = .ok (.invokevirtual 137, 3) := by decide +kernel
theorem dX7_grantWishes_45 : decode cX7_grantWishes 45 = .ok (.aload_n 1, 1) := by decide +kernel
theorem dX7_grantWishes_46 : decode cX7_grantWishes 46 = .ok (.sipush 512, 3) := by decide +kernel
theorem dX7_grantWishes_49 : decode cX7_grantWishes 49 = .ok (.invokevirtual 140, 3) := by decide +kernel
theorem dX7_grantWishes_52 : decode cX7_grantWishes 52 = .ok (.pop, 1) := by decide +kernel
theorem dX7_grantWishes_32 : decode cX7_grantWishes 32 = .ok (.ifCond .ne 21, 3) := by decide +kernel
theorem dX7_grantWishes_24 : decode cX7_grantWishes 24 = .ok (.ifCond .eq 29, 3) := by decide +kernel
theorem dX7_grantWishes_21 : decode cX7_grantWishes 21 = .ok (.getfield 108, 3) := by decide +kernel
theorem dX7_grantWishes_7 : decode cX7_grantWishes 7 = .ok (.if_icmp .ge 52, 3) := by decide +kernel
theorem dX7_grantWishes_4 : decode cX7_grantWishes 4 = .ok (.getfield 40, 3) := by decide +kernel
theorem dX7_removeOthers_0 : decode cX7_removeOthers 0 = .ok (.aload_n 0, 1) := by decide +kernel
theorem dX7_removeOthers_4 : decode cX7_removeOthers 4 = .ok (.istore_n 2, 1) := by decide +kernel
theorem dX7_removeOthers_5 : decode cX7_removeOthers 5 = .ok (.iconst 0, 1) := by decide +kernel
theorem dX7_removeOthers_6 : decode cX7_removeOthers 6 = .ok (.istore_n 3, 1) := by decide +kernel
theorem dX7_removeOthers_1 : decode cX7_removeOthers 1 = .ok (.getfield 55, 3) := by decide +kernel
theorem dX7_removeOthers_7 : decode cX7_removeOthers 7 = .ok (.iload_n 3, 1) := by decide +kernel
theorem dX7_removeOthers_8 : decode cX7_removeOthers 8 = .ok (.aload_n 0, 1) := by decide +kernel

/-! from 92.2instr -/
/-! instructions, decoded -/
theorem dX7_removeOthers_48 : decode cX7_removeOthers 48 = .ok (.aload_n 0, 1) := by decide +kernel
theorem dX7_removeOthers_49 : decode cX7_removeOthers 49 = .ok (.dup, 1) := by decide +kernel
theorem dX7_removeOthers_53 : decode cX7_removeOthers 53 = .ok (.iconst 1, 1) := by decide +kernel
theorem dX7_removeOthers_54 : decode cX7_removeOthers 54 = .ok (.iadd, 1) := by decide +kernel
theorem dX7_removeOthers_58 : decode cX7_removeOthers 58 = .ok (.aload_n 0, 1) := by decide +kernel
theorem dX7_removeOthers_62 : decode cX7_removeOthers 62 = .ok (.iload_n 2, 1) := by decide +kernel
theorem dX7_removeOthers_63 : decode cX7_removeOthers 63 = .ok (.isub, 1) := by decide +kernel
theorem dX7_removeOthers_64 : decode cX7_removeOthers 64 = .ok (.ireturn, 1) := by decide +kernel
theorem dX7_removeOthers_59 : decode cX7_removeOthers 59 = .ok (.getfield 55, 3) := by decide +kernel
theorem dX7_removeOthers_55 : decode cX7_removeOthers 55 = .ok (.putfield 49, 3) := by decide +kernel
theorem dX7_removeOthers_50 : decode cX7_removeOthers 50 = .ok (.getfield 49, 3) := by decide +kernel
theorem dX7_removeOthers_15 : decode cX7_removeOthers 15 = .ok (.aload_n 0, 1) := by decide +kernel
theorem dX7_removeOthers_16 : decode cX7_removeOthers 16 = .ok (.iload_n 3, 1) := by decide +kernel
theorem dX7_removeOthers_17 : decode cX7_removeOthers 17 = .ok (.invokevirtual 94, 3) := by decide +kernel
theorem dX7_removeOthers_20 : decode cX7_removeOthers 20 = .ok (.astore 4, 2) := by decide +kernel
theorem dX7_removeOthers_22 : decode cX7_removeOthers 22 = .ok (.aload 4, 2) := by decide +kernel
theorem dX7_removeOthers_24 : decode cX7_removeOthers 24 = .ok (.ifnull 18, 3) := by decide +kernel
theorem dX7_removeOthers_42 : decode cX7_removeOthers 42 = .ok (.iinc 3 1, 3) := by decide +kernel
theorem dX7_removeOthers_45 : decode cX7_removeOthers 45 = .ok (.goto (-38), 3) := by decide +kernel
theorem dX7_removeOthers_27 : decode cX7_removeOthers 27 = .ok (.aload_n 1, 1) := by decide +kernel
theorem dX7_removeOthers_28 : decode cX7_removeOthers 28 = .ok (.aload 4, 2) := by decide +kernel
theorem dX7_removeOthers_30 : decode cX7_removeOthers 30 = .ok (.invokevirtual 128, 3) := by decide +kernel
theorem dX7_removeOthers_36 : decode cX7_removeOthers 36 = .ok (.aload_n 0, 1) := by decide +kernel
theorem dX7_removeOthers_37 : decode cX7_removeOthers 37 = .ok (.aload 4, 2) := by decide +kernel
theorem dX7_removeOthers_39 : decode cX7_removeOthers 39 = .ok (.invokevirtual 144, 3) := by decide +kernel
theorem dX7_removeOthers_33 : decode cX7_removeOthers 33 = .ok (.ifCond .ne 9, 3) := by decide +kernel
theorem dX7_removeOthers_12 : decode cX7_removeOthers 12 = .ok (.if_icmp .ge 36, 3) := by decide +kernel
theorem dX7_removeOthers_9 : decode cX7_removeOthers 9 = .ok (.getfield 40, 3) := by decide +kernel
theorem dX1_removeUnreached_0 : decode cX1_removeUnreached 0 = .ok (.aload_n 0, 1) := by decide +kernel
theorem dX1_removeUnreached_4 : decode cX1_removeUnreached 4 = .ok (.invokevirtual 19, 3) := by decide +kernel
theorem dX1_removeUnreached_7 : decode cX1_removeUnreached 7 = .ok (.aload_n 0, 1) := by decide +kernel
theorem dX1_removeUnreached_11 : decode cX1_removeUnreached 11 = .ok (.aload_n 0, 1) := by decide +kernel
theorem dX1_removeUnreached_15 : decode cX1_removeUnreached 15 = .ok (.invokevirtual 24, 3) := by decide +kernel
theorem dX1_removeUnreached_18 : decode cX1_removeUnreached 18 = .ok (.aload_n 0, 1) := by decide +kernel
theorem dX1_removeUnreached_22 : decode cX1_removeUnreached 22 = .ok (.aload_n 0, 1) := by decide +kernel
theorem dX1_removeUnreached_26 : decode cX1_removeUnreached 26 = .ok (.invokevirtual 30, 3) := by decide +kernel
theorem dX1_removeUnreached_29 : decode cX1_removeUnreached 29 = .ok (.ireturn, 1) := by decide +kernel
theorem dX1_removeUnreached_23 : decode cX1_removeUnreached 23 = .ok (.getfield 15, 3) := by decide +kernel
theorem dX1_removeUnreached_19 : decode cX1_removeUnreached 19 = .ok (.getfield 9, 3) := by decide +kernel
theorem dX1_removeUnreached_12 : decode cX1_removeUnreached 12 = .ok (.getfield 15, 3) := by decide +kernel
theorem dX1_removeUnreached_8 : decode cX1_removeUnreached 8 = .ok (.getfield 9, 3) := by decide +kernel
theorem dX1_removeUnreached_1 : decode cX1_removeUnreached 1 = .ok (.getfield 15, 3) := by decide +kernel
theorem dX1_slideDown_0 : decode cX1_slideDown 0 = .ok (.iconst 0, 1) := by decide +kernel
theorem dX1_slideDown_1 : decode cX1_slideDown 1 = .ok (.istore_n 2, 1) := by decide +kernel
theorem dX1_slideDown_2 : decode cX1_slideDown 2 = .ok (.iconst 0, 1) := by decide +kernel
theorem dX1_slideDown_3 : decode cX1_slideDown 3 = .ok (.istore_n 3, 1) := by decide +kernel
theorem dX1_slideDown_4 : decode cX1_slideDown 4 = .ok (.iload_n 3, 1) := by decide +kernel
theorem dX1_slideDown_5 : decode cX1_slideDown 5 = .ok (.iload_n 1, 1) := by decide +kernel
theorem dX1_slideDown_71 : decode cX1_slideDown 71 = .ok (.iload_n 2, 1) := by decide +kernel
theorem dX1_slideDown_72 : decode cX1_slideDown 72 = .ok (.ireturn, 1) := by decide +kernel
theorem dX1_slideDown_9 : decode cX1_slideDown 9 = .ok (.aload_n 0, 1) := by decide +kernel
theorem dX1_slideDown_13 : decode cX1_slideDown 13 = .ok (.iload_n 3, 1) := by decide +kernel
theorem dX1_slideDown_14 : decode cX1_slideDown 14 = .ok (.invokevirtual 34, 3) := by decide +kernel
theorem dX7_thingFrom_0 : decode cX7_thingFrom 0 = .ok (.iload_n 1, 1) := by decide +kernel
theorem dX7_thingFrom_20 : decode cX7_thingFrom 20 = .ok (.iconst (-1), 1) := by decide +kernel
theorem dX7_thingFrom_21 : decode cX7_thingFrom 21 = .ok (.istore_n 2, 1) := by decide +kernel
theorem dX7_thingFrom_22 : decode cX7_thingFrom 22 = .ok (.iload_n 2, 1) := by decide +kernel
theorem dX7_thingFrom_23 : decode cX7_thingFrom 23 = .ok (.ifCond .lt 19, 3) := by decide +kernel
theorem dX7_thingFrom_42 : decode cX7_thingFrom 42 = .ok (.aconst_null, 1) := by decide +kernel
theorem dX1_slideDown_17 : decode cX1_slideDown 17 = .ok (.astore 4, 2) := by decide +kernel
theorem dX1_slideDown_19 : decode cX1_slideDown 19 = .ok (.aload 4, 2) := by decide +kernel
theorem dX1_slideDown_21 : decode cX1_slideDown 21 = .ok (.ifnonnull 9, 3) := by decide +kernel
theorem dX1_slideDown_24 : decode cX1_slideDown 24 = .ok (.iinc 3 1, 3) := by decide +kernel
theorem dX1_slideDown_27 : decode cX1_slideDown 27 = .ok (.goto 41, 3) := by decide +kernel
theorem dX1_slideDown_68 : decode cX1_slideDown 68 = .ok (.goto (-64), 3) := by decide +kernel
theorem dX7_thingFrom_43 : decode cX7_thingFrom 43 = .ok (.areturn, 1) := by decide +kernel
theorem dX7_thingFrom_4 : decode cX7_thingFrom 4 = .ok (.iload_n 1, 1) := by decide +kernel
theorem dX7_thingFrom_5 : decode cX7_thingFrom 5 = .ok (.sipush 4500, 3) := by decide +kernel
theorem dX7_thingFrom_11 : decode cX7_thingFrom 11 = .ok (.aload_n 0, 1) := by decide +kernel
theorem dX7_thingFrom_15 : decode cX7_thingFrom 15 = .ok (.iload_n 1, 1) := by decide +kernel
theorem dX7_thingFrom_17 : decode cX7_thingFrom 17 = .ok (.goto 4, 3) := by decide +kernel
theorem dX7_thingFrom_26 : decode cX7_thingFrom 26 = .ok (.iload_n 2, 1) := by decide +kernel
theorem dX7_thingFrom_27 : decode cX7_thingFrom 27 = .ok (.sipush 512, 3) := by decide +kernel
theorem dX7_thingFrom_33 : decode cX7_thingFrom 33 = .ok (.aload_n 0, 1) := by decide +kernel
theorem dX7_thingFrom_37 : decode cX7_thingFrom 37 = .ok (.iload_n 2, 1) := by decide +kernel
theorem dX7_thingFrom_39 : decode cX7_thingFrom 39 = .ok (.goto 4, 3) := by decide +kernel
theorem dX1_slideDown_30 : decode cX1_slideDown 30 = .ok (.iload_n 3, 1) := by decide +kernel
theorem dX1_slideDown_31 : decode cX1_slideDown 31 = .ok (.aload 4, 2) := by decide +kernel
theorem dX1_slideDown_36 : decode cX1_slideDown 36 = .ok (.iadd, 1) := by decide +kernel
theorem dX1_slideDown_37 : decode cX1_slideDown 37 = .ok (.istore_n 3, 1) := by decide +kernel
theorem dX1_slideDown_38 : decode cX1_slideDown 38 = .ok (.aload 4, 2) := by decide +kernel
theorem dX1_slideDown_56 : decode cX1_slideDown 56 = .ok (.aload 4, 2) := by decide +kernel
theorem dX1_slideDown_61 : decode cX1_slideDown 61 = .ok (.aload 4, 2) := by decide +kernel
theorem dX1_slideDown_66 : decode cX1_slideDown 66 = .ok (.iadd, 1) := by decide +kernel
theorem dX1_slideDown_67 : decode cX1_slideDown 67 = .ok (.istore_n 2, 1) := by decide +kernel
theorem dX1_slideDown_63 : decode cX1_slideDown 63 = .ok (.getfield 38, 3) := by decide +kernel
theorem dX1_slideDown_58 : decode cX1_slideDown 58 = .ok (.getfield 51, 3) := by decide +kernel
theorem dX1_slideDown_46 : decode cX1_slideDown 46 = .ok (.aload_n 0, 1) := by decide +kernel
theorem dX1_slideDown_50 : decode cX1_slideDown 50 = .ok (.aload 4, 2) := by decide +kernel
theorem dX1_slideDown_52 : decode cX1_slideDown 52 = .ok (.iload_n 2, 1) := by decide +kernel
theorem dX1_slideDown_53 : decode cX1_slideDown 53 = .ok (.invokevirtual 47, 3) := by decide +kernel
theorem dX1_slideDown_47 : decode cX1_slideDown 47 = .ok (.getfield 9, 3) := by decide +kernel
theorem dX1_slideDown_43 : decode cX1_slideDown 43 = .ok (.ifCond .ne 13, 3) := by decide +kernel
theorem dX1_slideDown_40 : decode cX1_slideDown 40 = .ok (.getfield 44, 3) := by decide +kernel
theorem dX1_slideDown_33 : decode cX1_slideDown 33 = .ok (.getfield 38, 3) := by decide +kernel
theorem dX7_thingFrom_38 : decode cX7_thingFrom 38 = .ok (.aaload, 1) := by decide +kernel
theorem dX7_thingFrom_34 : decode cX7_thingFrom 34 = .ok (.getfield 11, 3) := by decide +kernel
theorem dX7_thingFrom_30 : decode cX7_thingFrom 30 = .ok (.if_icmp .ge 12, 3) := by decide +kernel
theorem dX7_thingFrom_16 : decode cX7_thingFrom 16 = .ok (.iaload, 1) := by decide +kernel
theorem dX7_thingFrom_12 : decode cX7_thingFrom 12 = .ok (.getfield 17, 3) := by decide +kernel
theorem dX7_thingFrom_8 : decode cX7_thingFrom 8 = .ok (.if_icmp .ge 12, 3) := by decide +kernel
theorem dX7_thingFrom_1 : decode cX7_thingFrom 1 = .ok (.ifCond .lt 19, 3) := by decide +kernel
theorem dX1_slideDown_10 : decode cX1_slideDown 10 = .ok (.getfield 9, 3) := by decide +kernel
theorem dX1_slideDown_6 : decode cX1_slideDown 6 = .ok (.if_icmp .ge 65, 3) := by decide +kernel
theorem dX8_freeFrom_0 : decode cX8_freeFrom 0 = .ok (.iload_n 1, 1) := by decide +kernel
theorem dX8_freeFrom_1 : decode cX8_freeFrom 1 = .ok (.istore_n 2, 1) := by decide +kernel
theorem dX8_freeFrom_2 : decode cX8_freeFrom 2 = .ok (.iload_n 2, 1) := by decide +kernel
theorem dX8_freeFrom_3 : decode cX8_freeFrom 3 = .ok (.aload_n 0, 1) := by decide +kernel
theorem dX8_freeFrom_35 : decode cX8_freeFrom 35 = .ok (.aload_n 0, 1) := by decide +kernel
theorem dX8_freeFrom_39 : decode cX8_freeFrom 39 = .ok (.ireturn, 1) := by decide +kernel
theorem dX8_freeFrom_36 : decode cX8_freeFrom 36 = .ok (.getfield 9, 3) := by decide +kernel
theorem dX8_freeFrom_10 : decode cX8_freeFrom 10 = .ok (.aload_n 0, 1) := by decide +kernel
theorem dX8_freeFrom_14 : decode cX8_freeFrom 14 = .ok (.iload_n 2, 1) := by decide +kernel
theorem dX8_freeFrom_15 : decode cX8_freeFrom 15 = .ok (.invokevirtual 50, 3) := by decide +kernel
theorem dX8_freeFrom_18 : decode cX8_freeFrom 18 = .ok (.astore_n 3, 1) := by decide +kernel
theorem dX8_freeFrom_19 : decode cX8_freeFrom 19 = .ok (.aload_n 3, 1) := by decide +kernel
theorem dX8_freeFrom_20 : decode cX8_freeFrom 20 = .ok (.ifnonnull 5, 3) := by decide +kernel
theorem dX8_freeFrom_23 : decode cX8_freeFrom 23 = .ok (.iload_n 2, 1) := by decide +kernel
theorem dX8_freeFrom_24 : decode cX8_freeFrom 24 = .ok (.ireturn, 1) := by decide +kernel
theorem dX8_freeFrom_25 : decode cX8_freeFrom 25 = .ok (.iload_n 2, 1) := by decide +kernel
theorem dX8_freeFrom_26 : decode cX8_freeFrom 26 = .ok (.aload_n 3, 1) := by decide +kernel
theorem dX8_freeFrom_30 : decode cX8_freeFrom 30 = .ok (.iadd, 1) := by decide +kernel
theorem dX8_freeFrom_31 : decode cX8_freeFrom 31 = .ok (.istore_n 2, 1) := by decide +kernel
theorem dX8_freeFrom_32 : decode cX8_freeFrom 32 = .ok (.goto (-30), 3) := by decide +kernel
theorem dX8_freeFrom_27 : decode cX8_freeFrom 27 = .ok (.getfield 34, 3) := by decide +kernel
theorem dX8_freeFrom_11 : decode cX8_freeFrom 11 = .ok (.getfield 46, 3) := by decide +kernel
theorem dX8_freeFrom_7 : decode cX8_freeFrom 7 = .ok (.if_icmp .ge 28, 3) := by decide +kernel
theorem dX8_freeFrom_4 : decode cX8_freeFrom 4 = .ok (.getfield 9, 3) := by decide +kernel
theorem dX8_freeEnd_0 : decode cX8_freeEnd 0 = .ok (.iload_n 1, 1) := by decide +kernel
theorem dX8_freeEnd_1 : decode cX8_freeEnd 1 = .ok (.istore_n 2, 1) := by decide +kernel
theorem dX8_freeEnd_2 : decode cX8_freeEnd 2 = .ok (.iload_n 2, 1) := by decide +kernel
theorem dX8_freeEnd_3 : decode cX8_freeEnd 3 = .ok (.aload_n 0, 1) := by decide +kernel
theorem dX8_freeEnd_27 : decode cX8_freeEnd 27 = .ok (.iload_n 2, 1) := by decide +kernel
theorem dX8_freeEnd_28 : decode cX8_freeEnd 28 = .ok (.ireturn, 1) := by decide +kernel
theorem dX8_freeEnd_10 : decode cX8_freeEnd 10 = .ok (.aload_n 0, 1) := by decide +kernel
theorem dX8_freeEnd_14 : decode cX8_freeEnd 14 = .ok (.iload_n 2, 1) := by decide +kernel
theorem dX8_freeEnd_15 : decode cX8_freeEnd 15 = .ok (.invokevirtual 50, 3) := by decide +kernel
theorem dX8_freeEnd_18 : decode cX8_freeEnd 18 = .ok (.ifnonnull 9, 3) := by decide +kernel
theorem dX8_freeEnd_21 : decode cX8_freeEnd 21 = .ok (.iinc 2 1, 3) := by decide +kernel
theorem dX8_freeEnd_24 : decode cX8_freeEnd 24 = .ok (.goto (-22), 3) := by decide +kernel
theorem dX8_freeEnd_11 : decode cX8_freeEnd 11 = .ok (.getfield 46, 3) := by decide +kernel
theorem dX8_freeEnd_7 : decode cX8_freeEnd 7 = .ok (.if_icmp .ge 20, 3) := by decide +kernel
theorem dX8_freeEnd_4 : decode cX8_freeEnd 4 = .ok (.getfield 9, 3) := by decide +kernel
theorem dX8_fitFirst_0 : decode cX8_fitFirst 0 = .ok (.aload_n 0, 1) := by decide +kernel
theorem dX8_fitFirst_1 : decode cX8_fitFirst 1 = .ok (.iload_n 1, 1) := by decide +kernel
theorem dX8_fitFirst_2 : decode cX8_fitFirst 2 = .ok (.invokevirtual 40, 3) := by decide +kernel
theorem dX8_fitFirst_5 : decode cX8_fitFirst 5 = .ok (.istore 4, 2) := by decide +kernel
theorem dX8_fitFirst_7 : decode cX8_fitFirst 7 = .ok (.iconst 0, 1) := by decide +kernel
theorem dX8_fitFirst_8 : decode cX8_fitFirst 8 = .ok (.istore 5, 2) := by decide +kernel
theorem dX8_fitFirst_10 : decode cX8_fitFirst 10 = .ok (.iload 5, 2) := by decide +kernel
theorem dX8_fitFirst_12 : decode cX8_fitFirst 12 = .ok (.sipush 4500, 3) := by decide +kernel
theorem dX8_fitFirst_71 : decode cX8_fitFirst 71 = .ok (.iconst (-1), 1) := by decide +kernel
theorem dX8_fitFirst_72 : decode cX8_fitFirst 72 = .ok (.ireturn, 1) := by decide +kernel
theorem dX8_fitFirst_18 : decode cX8_fitFirst 18 = .ok (.iload 4, 2) := by decide +kernel
theorem dX8_fitFirst_20 : decode cX8_fitFirst 20 = .ok (.iload_n 2, 1) := by decide +kernel
theorem dX8_fitFirst_24 : decode cX8_fitFirst 24 = .ok (.aload_n 0, 1) := by decide +kernel
theorem dX8_fitFirst_25 : decode cX8_fitFirst 25 = .ok (.iload 4, 2) := by decide +kernel
theorem dX8_fitFirst_27 : decode cX8_fitFirst 27 = .ok (.invokevirtual 43, 3) := by decide +kernel
theorem dX8_fitFirst_30 : decode cX8_fitFirst 30 = .ok (.istore 6, 2) := by decide +kernel
theorem dX8_fitFirst_32 : decode cX8_fitFirst 32 = .ok (.aload_n 0, 1) := by decide +kernel
theorem dX8_fitFirst_36 : decode cX8_fitFirst 36 = .ok (.dup, 1) := by decide +kernel
theorem dX8_fitFirst_40 : decode cX8_fitFirst 40 = .ok (.iconst 1, 1) := by decide +kernel
theorem dX8_fitFirst_41 : decode cX8_fitFirst 41 = .ok (.iadd, 1) := by decide +kernel
theorem dX8_fitFirst_45 : decode cX8_fitFirst 45 = .ok (.iload 6, 2) := by decide +kernel
theorem dX8_fitFirst_47 : decode cX8_fitFirst 47 = .ok (.iload 4, 2) := by decide +kernel
theorem dX8_fitFirst_49 : decode cX8_fitFirst 49 = .ok (.isub, 1) := by decide +kernel
theorem dX8_fitFirst_50 : decode cX8_fitFirst 50 = .ok (.iload_n 3, 1) := by decide +kernel
theorem dX8_fitFirst_57 : decode cX8_fitFirst 57 = .ok (.aload_n 0, 1) := by decide +kernel
theorem dX8_fitFirst_58 : decode cX8_fitFirst 58 = .ok (.iload 6, 2) := by decide +kernel
theorem dX8_fitFirst_60 : decode cX8_fitFirst 60 = .ok (.invokevirtual 40, 3) := by decide +kernel
theorem dX8_fitFirst_63 : decode cX8_fitFirst 63 = .ok (.istore 4, 2) := by decide +kernel
theorem dX8_fitFirst_65 : decode cX8_fitFirst 65 = .ok (.iinc 5 1, 3) := by decide +kernel
theorem dX8_fitFirst_68 : decode cX8_fitFirst 68 = .ok (.goto (-58), 3) := by decide +kernel
theorem dX8_fitFirst_54 : decode cX8_fitFirst 54 = .ok (.iload 4, 2) := by decide +kernel
theorem dX8_fitFirst_56 : decode cX8_fitFirst 56 = .ok (.ireturn, 1) := by decide +kernel
theorem dX8_fitFirst_51 : decode cX8_fitFirst 51 = .ok (.if_icmp .lt 6, 3) := by decide +kernel
theorem dX8_fitFirst_42 : decode cX8_fitFirst 42 = .ok (.putfield 67, 3) := by decide +kernel
theorem dX8_fitFirst_37 : decode cX8_fitFirst 37 = .ok (.getfield 67, 3) := by decide +kernel
theorem dX8_fitFirst_33 : decode cX8_fitFirst 33 = .ok (.getfield 46, 3) := by decide +kernel
theorem dX8_fitFirst_21 : decode cX8_fitFirst 21 = .ok (.if_icmp .ge 50, 3) := by decide +kernel
theorem dX8_fitFirst_15 : decode cX8_fitFirst 15 = .ok (.if_icmp .ge 56, 3) := by decide +kernel
theorem dX8_fitNext_0 : decode cX8_fitNext 0 = .ok (.aload_n 0, 1) := by decide +kernel
theorem dX8_fitNext_1 : decode cX8_fitNext 1 = .ok (.aload_n 0, 1) := by decide +kernel
theorem dX8_fitNext_5 : decode cX8_fitNext 5 = .ok (.aload_n 0, 1) := by decide +kernel
theorem dX8_fitNext_9 : decode cX8_fitNext 9 = .ok (.iload_n 1, 1) := by decide +kernel
theorem dX8_fitNext_10 : decode cX8_fitNext 10 = .ok (.invokevirtual 56, 3) := by decide +kernel
theorem dX8_fitNext_13 : decode cX8_fitNext 13 = .ok (.istore_n 2, 1) := by decide +kernel
theorem dX8_fitNext_14 : decode cX8_fitNext 14 = .ok (.iload_n 2, 1) := by decide +kernel
theorem dX8_fitNext_15 : decode cX8_fitNext 15 = .ok (.iconst (-1), 1) := by decide +kernel
theorem dX8_fitNext_23 : decode cX8_fitNext 23 = .ok (.aload_n 0, 1) := by decide +kernel
theorem dX8_fitNext_24 : decode cX8_fitNext 24 = .ok (.iconst 0, 1) := by decide +kernel
theorem dX8_fitNext_25 : decode cX8_fitNext 25 = .ok (.aload_n 0, 1) := by decide +kernel
theorem dX8_fitNext_29 : decode cX8_fitNext 29 = .ok (.iload_n 1, 1) := by decide +kernel
theorem dX8_fitNext_30 : decode cX8_fitNext 30 = .ok (.invokevirtual 56, 3) := by decide +kernel
theorem dX8_fitNext_33 : decode cX8_fitNext 33 = .ok (.ireturn, 1) := by decide +kernel
theorem dX8_fitNext_26 : decode cX8_fitNext 26 = .ok (.getfield 18, 3) := by decide +kernel
theorem dX8_fitNext_19 : decode cX8_fitNext 19 = .ok (.iload_n 2, 1) := by decide +kernel
theorem dX8_fitNext_20 : decode cX8_fitNext 20 = .ok (.goto 13, 3) := by decide +kernel
theorem dX8_fitNext_16 : decode cX8_fitNext 16 = .ok (.if_icmp .eq 7, 3) := by decide +kernel
theorem dX8_fitNext_6 : decode cX8_fitNext 6 = .ok (.getfield 9, 3) := by decide +kernel
theorem dX8_fitNext_2 : decode cX8_fitNext 2 = .ok (.getfield 18, 3) := by decide +kernel
theorem dX8_fitByLength_0 : decode cX8_fitByLength 0 = .ok (.iconst (-1), 1) := by decide +kernel
theorem dX8_fitByLength_1 : decode cX8_fitByLength 1 = .ok (.istore_n 3, 1) := by decide +kernel
theorem dX8_fitByLength_2 : decode cX8_fitByLength 2 = .ok (.iconst 0, 1) := by decide +kernel
theorem dX8_fitByLength_3 : decode cX8_fitByLength 3 = .ok (.istore 4, 2) := by decide +kernel
theorem dX8_fitByLength_5 : decode cX8_fitByLength 5 = .ok (.aload_n 0, 1) := by decide +kernel
theorem dX8_fitByLength_6 : decode cX8_fitByLength 6 = .ok (.iconst 0, 1) := by decide +kernel
theorem dX8_fitByLength_7 : decode cX8_fitByLength 7 = .ok (.invokevirtual 40, 3) := by decide +kernel
theorem dX8_fitByLength_10 : decode cX8_fitByLength 10 = .ok (.istore 5, 2) := by decide +kernel
theorem dX8_fitByLength_12 : decode cX8_fitByLength 12 = .ok (.iconst 0, 1) := by decide +kernel
theorem dX8_fitByLength_13 : decode cX8_fitByLength 13 = .ok (.istore 6, 2) := by decide +kernel
theorem dX8_fitByLength_15 : decode cX8_fitByLength 15 = .ok (.iload 6, 2) := by decide +kernel
theorem dX8_fitByLength_17 : decode cX8_fitByLength 17 = .ok (.sipush 4500, 3) := by decide +kernel
theorem dX8_fitByLength_113 : decode cX8_fitByLength 113 = .ok (.iload_n 3, 1) := by decide +kernel
theorem dX8_fitByLength_114 : decode cX8_fitByLength 114 = .ok (.ireturn, 1) := by decide +kernel
theorem dX8_fitByLength_23 : decode cX8_fitByLength 23 = .ok (.iload 5, 2) := by decide +kernel
theorem dX8_fitByLength_25 : decode cX8_fitByLength 25 = .ok (.aload_n 0, 1) := by decide +kernel
theorem dX8_fitByLength_32 : decode cX8_fitByLength 32 = .ok (.aload_n 0, 1) := by decide +kernel
theorem dX8_fitByLength_33 : decode cX8_fitByLength 33 = .ok (.iload 5, 2) := by decide +kernel
theorem dX8_fitByLength_35 : decode cX8_fitByLength 35 = .ok (.invokevirtual 43, 3) := by decide +kernel
theorem dX8_fitByLength_38 : decode cX8_fitByLength 38 = .ok (.istore 7, 2) := by decide +kernel
theorem dX8_fitByLength_40 : decode cX8_fitByLength 40 = .ok (.iload 7, 2) := by decide +kernel
theorem dX8_fitByLength_42 : decode cX8_fitByLength 42 = .ok (.iload 5, 2) := by decide +kernel
theorem dX8_fitByLength_44 : decode cX8_fitByLength 44 = .ok (.isub, 1) := by decide +kernel
theorem dX8_fitByLength_45 : decode cX8_fitByLength 45 = .ok (.istore 8, 2) := by decide +kernel
theorem dX8_fitByLength_47 : decode cX8_fitByLength 47 = .ok (.aload_n 0, 1) := by decide +kernel
theorem dX8_fitByLength_51 : decode cX8_fitByLength 51 = .ok (.dup, 1) := by decide +kernel
theorem dX8_fitByLength_55 : decode cX8_fitByLength 55 = .ok (.iconst 1, 1) := by decide +kernel
theorem dX8_fitByLength_56 : decode cX8_fitByLength 56 = .ok (.iadd, 1) := by decide +kernel
theorem dX8_fitByLength_60 : decode cX8_fitByLength 60 = .ok (.iload 8, 2) := by decide +kernel
theorem dX8_fitByLength_62 : decode cX8_fitByLength 62 = .ok (.iload_n 1, 1) := by decide +kernel
theorem dX8_fitByLength_99 : decode cX8_fitByLength 99 = .ok (.aload_n 0, 1) := by decide +kernel
theorem dX8_fitByLength_100 : decode cX8_fitByLength 100 = .ok (.iload 7, 2) := by decide +kernel
theorem dX8_fitByLength_102 : decode cX8_fitByLength 102 = .ok (.invokevirtual 40, 3) := by decide +kernel
theorem dX8_fitByLength_105 : decode cX8_fitByLength 105 = .ok (.istore 5, 2) := by decide +kernel
theorem dX8_fitByLength_107 : decode cX8_fitByLength 107 = .ok (.iinc 6 1, 3) := by decide +kernel
theorem dX8_fitByLength_110 : decode cX8_fitByLength 110 = .ok (.goto (-95), 3) := by decide +kernel
theorem dX8_fitByLength_66 : decode cX8_fitByLength 66 = .ok (.iload_n 3, 1) := by decide +kernel
theorem dX8_fitByLength_67 : decode cX8_fitByLength 67 = .ok (.iconst (-1), 1) := by decide +kernel
theorem dX8_fitByLength_92 : decode cX8_fitByLength 92 = .ok (.iload 5, 2) := by decide +kernel
theorem dX8_fitByLength_94 : decode cX8_fitByLength 94 = .ok (.istore_n 3, 1) := by decide +kernel
theorem dX8_fitByLength_95 : decode cX8_fitByLength 95 = .ok (.iload 8, 2) := by decide +kernel
theorem dX8_fitByLength_97 : decode cX8_fitByLength 97 = .ok (.istore 4, 2) := by decide +kernel
theorem dX8_fitByLength_71 : decode cX8_fitByLength 71 = .ok (.iload_n 2, 1) := by decide +kernel
theorem dX8_fitByLength_85 : decode cX8_fitByLength 85 = .ok (.iload 8, 2) := by decide +kernel
theorem dX8_fitByLength_87 : decode cX8_fitByLength 87 = .ok (.iload 4, 2) := by decide +kernel
theorem dX8_fitByLength_89 : decode cX8_fitByLength 89 = .ok (.if_icmp .le 10, 3) := by decide +kernel
theorem dX8_fitByLength_75 : decode cX8_fitByLength 75 = .ok (.iload 8, 2) := by decide +kernel
theorem dX8_fitByLength_77 : decode cX8_fitByLength 77 = .ok (.iload 4, 2) := by decide +kernel
theorem dX8_fitByLength_82 : decode cX8_fitByLength 82 = .ok (.goto 10, 3) := by decide +kernel
theorem dX8_fitByLength_79 : decode cX8_fitByLength 79 = .ok (.if_icmp .ge 20, 3) := by decide +kernel
theorem dX8_fitByLength_72 : decode cX8_fitByLength 72 = .ok (.ifCond .eq 13, 3) := by decide +kernel
theorem dX8_fitByLength_68 : decode cX8_fitByLength 68 = .ok (.if_icmp .eq 24, 3) := by decide +kernel
theorem dX8_fitByLength_63 : decode cX8_fitByLength 63 = .ok (.if_icmp .lt 36, 3) := by decide +kernel
theorem dX8_fitByLength_57 : decode cX8_fitByLength 57 = .ok (.putfield 67, 3) := by decide +kernel
theorem dX8_fitByLength_52 : decode cX8_fitByLength 52 = .ok (.getfield 67, 3) := by decide +kernel
theorem dX8_fitByLength_48 : decode cX8_fitByLength 48 = .ok (.getfield 46, 3) := by decide +kernel
theorem dX8_fitByLength_29 : decode cX8_fitByLength 29 = .ok (.if_icmp .ge 84, 3) := by decide +kernel
theorem dX8_fitByLength_26 : decode cX8_fitByLength 26 = .ok (.getfield 9, 3) := by decide +kernel
theorem dX8_fitByLength_20 : decode cX8_fitByLength 20 = .ok (.if_icmp .ge 93, 3) := by decide +kernel
theorem dX8_fit_0 : decode cX8_fit 0 = .ok (.aload_n 0, 1) := by decide +kernel
theorem dX8_fit_32 : decode cX8_fit 32 = .ok (.aload_n 0, 1) := by decide +kernel
theorem dX8_fit_33 : decode cX8_fit 33 = .ok (.iconst 0, 1) := by decide +kernel
theorem dX8_fit_34 : decode cX8_fit 34 = .ok (.aload_n 0, 1) := by decide +kernel
theorem dX8_fit_38 : decode cX8_fit 38 = .ok (.iload_n 1, 1) := by decide +kernel
theorem dX8_fit_39 : decode cX8_fit 39 = .ok (.invokevirtual 56, 3) := by decide +kernel
theorem dX8_fit_42 : decode cX8_fit 42 = .ok (.ireturn, 1) := by decide +kernel
theorem dX8_fit_35 : decode cX8_fit 35 = .ok (.getfield 9, 3) := by decide +kernel
theorem dX8_fit_4 : decode cX8_fit 4 = .ok (.tableswitch 52 0 2 #[28, 39, 45], 28) := by decide +kernel
theorem dX8_fit_43 : decode cX8_fit 43 = .ok (.aload_n 0, 1) := by decide +kernel
theorem dX8_fit_44 : decode cX8_fit 44 = .ok (.iload_n 1, 1) := by decide +kernel
theorem dX8_fit_45 : decode cX8_fit 45 = .ok (.invokevirtual 60, 3) := by decide +kernel
theorem dX8_fit_48 : decode cX8_fit 48 = .ok (.ireturn, 1) := by decide +kernel
theorem dX8_fit_49 : decode cX8_fit 49 = .ok (.aload_n 0, 1) := by decide +kernel
theorem dX8_fit_50 : decode cX8_fit 50 = .ok (.iload_n 1, 1) := by decide +kernel
theorem dX8_fit_51 : decode cX8_fit 51 = .ok (.iconst 1, 1) := by decide +kernel
theorem dX8_fit_52 : decode cX8_fit 52 = .ok (.invokevirtual 63, 3) := by decide +kernel
theorem dX8_fit_55 : decode cX8_fit 55 = .ok (.ireturn, 1) := by decide +kernel
theorem dX8_fit_56 : decode cX8_fit 56 = .ok (.aload_n 0, 1) := by decide +kernel
theorem dX8_fit_57 : decode cX8_fit 57 = .ok (.iload_n 1, 1) := by decide +kernel
theorem dX8_fit_58 : decode cX8_fit 58 = .ok (.iconst 0, 1) := by decide +kernel
theorem dX8_fit_59 : decode cX8_fit 59 = .ok (.invokevirtual 63, 3) := by decide +kernel
theorem dX8_fit_62 : decode cX8_fit 62 = .ok (.ireturn, 1) := by decide +kernel
theorem dX8_fit_1 : decode cX8_fit 1 = .ok (.getfield 15, 3) := by decide +kernel
theorem dX8_cleanAll_0 : decode cX8_cleanAll 0 = .ok (.aload_n 0, 1) := by decide +kernel
theorem dX8_cleanAll_1 : decode cX8_cleanAll 1 = .ok (.invokevirtual 37, 3) := by decide +kernel
theorem dX8_cleanAll_4 : decode cX8_cleanAll 4 = .ok (.ireturn, 1) := by decide +kernel
theorem dX8_findRoom_0 : decode cX8_findRoom 0 = .ok (.aload_n 0, 1) := by decide +kernel
theorem dX8_findRoom_1 : decode cX8_findRoom 1 = .ok (.iload_n 1, 1) := by decide +kernel
theorem dX8_findRoom_2 : decode cX8_findRoom 2 = .ok (.invokevirtual 21, 3) := by decide +kernel
theorem dX8_findRoom_5 : decode cX8_findRoom 5 = .ok (.istore_n 2, 1) := by decide +kernel
theorem dX8_findRoom_6 : decode cX8_findRoom 6 = .ok (.iload_n 2, 1) := by decide +kernel
theorem dX8_findRoom_7 : decode cX8_findRoom 7 = .ok (.iconst (-1), 1) := by decide +kernel
theorem dX8_findRoom_22 : decode cX8_findRoom 22 = .ok (.iload_n 2, 1) := by decide +kernel
theorem dX8_findRoom_23 : decode cX8_findRoom 23 = .ok (.ireturn, 1) := by decide +kernel
theorem dX8_findRoom_11 : decode cX8_findRoom 11 = .ok (.aload_n 0, 1) := by decide +kernel
theorem dX8_findRoom_12 : decode cX8_findRoom 12 = .ok (.invokevirtual 25, 3) := by decide +kernel
theorem dX8_findRoom_15 : decode cX8_findRoom 15 = .ok (.pop, 1) := by decide +kernel
theorem dX8_findRoom_16 : decode cX8_findRoom 16 = .ok (.aload_n 0, 1) := by decide +kernel
theorem dX8_findRoom_17 : decode cX8_findRoom 17 = .ok (.iload_n 1, 1) := by decide +kernel
theorem dX8_findRoom_18 : decode cX8_findRoom 18 = .ok (.invokevirtual 21, 3) := by decide +kernel
theorem dX8_findRoom_21 : decode cX8_findRoom 21 = .ok (.istore_n 2, 1) := by decide +kernel
theorem dX8_findRoom_8 : decode cX8_findRoom 8 = .ok (.if_icmp .ne 14, 3) := by decide +kernel
theorem dX8_noteMade_0 : decode cX8_noteMade 0 = .ok (.aload_n 0, 1) := by decide +kernel
theorem dX8_noteMade_1 : decode cX8_noteMade 1 = .ok (.aload_n 1, 1) := by decide +kernel
theorem dX8_noteMade_5 : decode cX8_noteMade 5 = .ok (.aload_n 1, 1) := by decide +kernel
theorem dX8_noteMade_9 : decode cX8_noteMade 9 = .ok (.iadd, 1) := by decide +kernel
theorem dX8_noteMade_13 : decode cX8_noteMade 13 = .ok (.return_, 1) := by decide +kernel
theorem dX8_noteMade_10 : decode cX8_noteMade 10 = .ok (.putfield 18, 3) := by decide +kernel
theorem dX8_noteMade_6 : decode cX8_noteMade 6 = .ok (.getfield 34, 3) := by decide +kernel
theorem dX8_noteMade_2 : decode cX8_noteMade 2 = .ok (.getfield 29, 3) := by decide +kernel
theorem dX8_open_0 : decode cX8_open 0 = .ok (.aload_n 0, 1) := by decide +kernel
theorem dX8_open_1 : decode cX8_open 1 = .ok (.aload_n 1, 1) := by decide +kernel
theorem dX8_open_2 : decode cX8_open 2 = .ok (.iconst 0, 1) := by decide +kernel
theorem dX8_open_7 : decode cX8_open 7 = .ok (.aload_n 0, 1) := by decide +kernel
theorem dX8_open_8 : decode cX8_open 8 = .ok (.aload_n 1, 1) := by decide +kernel
theorem dX8_open_9 : decode cX8_open 9 = .ok (.iconst 1, 1) := by decide +kernel
theorem dX8_open_14 : decode cX8_open 14 = .ok (.aload_n 0, 1) := by decide +kernel
theorem dX8_open_15 : decode cX8_open 15 = .ok (.iconst 0, 1) := by decide +kernel
theorem dX8_open_19 : decode cX8_open 19 = .ok (.return_, 1) := by decide +kernel
theorem dX8_open_16 : decode cX8_open 16 = .ok (.putfield 18, 3) := by decide +kernel
theorem dX8_open_11 : decode cX8_open 11 = .ok (.putfield 15, 3) := by decide +kernel
theorem dX8_open_10 : decode cX8_open 10 = .ok (.iaload, 1) := by decide +kernel
theorem dX8_open_4 : decode cX8_open 4 = .ok (.putfield 9, 3) := by decide +kernel
theorem dX8_open_3 : decode cX8_open 3 = .ok (.iaload, 1) := by decide +kernel
theorem dX8_total_0 : decode cX8_total 0 = .ok (.aload_n 0, 1) := by decide +kernel
theorem dX8_total_4 : decode cX8_total 4 = .ok (.ireturn, 1) := by decide +kernel
theorem dX8_total_1 : decode cX8_total 1 = .ok (.getfield 9, 3) := by decide +kernel
theorem dX5_cleanAll_0 : decode cX5_cleanAll 0 = .ok (.aload_n 0, 1) := by decide +kernel
theorem dX5_cleanAll_1 : decode cX5_cleanAll 1 = .ok (.invokevirtual 30, 3) := by decide +kernel
theorem dX5_cleanAll_4 : decode cX5_cleanAll 4 = .ok (.istore_n 1, 1) := by decide +kernel
theorem dX5_cleanAll_5 : decode cX5_cleanAll 5 = .ok (.aload_n 0, 1) := by decide +kernel
theorem dX5_cleanAll_6 : decode cX5_cleanAll 6 = .ok (.aload_n 0, 1) := by decide +kernel
theorem dX5_cleanAll_7 : decode cX5_cleanAll 7 = .ok (.aload_n 0, 1) := by decide +kernel
theorem dX5_cleanAll_11 : decode cX5_cleanAll 11 = .ok (.invokevirtual 33, 3) := by decide +kernel
theorem dX5_cleanAll_17 : decode cX5_cleanAll 17 = .ok (.iload_n 1, 1) := by decide +kernel
theorem dX5_cleanAll_18 : decode cX5_cleanAll 18 = .ok (.ireturn, 1) := by decide +kernel
theorem dX5_cleanAll_14 : decode cX5_cleanAll 14 = .ok (.putfield 15, 3) := by decide +kernel
theorem dX5_cleanAll_8 : decode cX5_cleanAll 8 = .ok (.getfield 9, 3) := by decide +kernel
theorem dX5_findRoom_0 : decode cX5_findRoom 0 = .ok (.aload_n 0, 1) := by decide +kernel
theorem dX5_findRoom_4 : decode cX5_findRoom 4 = .ok (.iload_n 1, 1) := by decide +kernel
theorem dX5_findRoom_5 : decode cX5_findRoom 5 = .ok (.iadd, 1) := by decide +kernel
theorem dX5_findRoom_6 : decode cX5_findRoom 6 = .ok (.aload_n 0, 1) := by decide +kernel
theorem dX5_findRoom_18 : decode cX5_findRoom 18 = .ok (.aload_n 0, 1) := by decide +kernel
theorem dX5_findRoom_22 : decode cX5_findRoom 22 = .ok (.iload_n 1, 1) := by decide +kernel
theorem dX5_findRoom_23 : decode cX5_findRoom 23 = .ok (.iadd, 1) := by decide +kernel
theorem dX5_findRoom_24 : decode cX5_findRoom 24 = .ok (.aload_n 0, 1) := by decide +kernel
theorem dX5_findRoom_35 : decode cX5_findRoom 35 = .ok (.aload_n 0, 1) := by decide +kernel
theorem dX5_findRoom_39 : decode cX5_findRoom 39 = .ok (.ireturn, 1) := by decide +kernel
theorem dX5_findRoom_36 : decode cX5_findRoom 36 = .ok (.getfield 15, 3) := by decide +kernel
theorem dX5_findRoom_31 : decode cX5_findRoom 31 = .ok (.iconst (-1), 1) := by decide +kernel
theorem dX5_findRoom_32 : decode cX5_findRoom 32 = .ok (.goto 7, 3) := by decide +kernel
theorem dX5_findRoom_28 : decode cX5_findRoom 28 = .ok (.if_icmp .le 7, 3) := by decide +kernel
theorem dX5_findRoom_25 : decode cX5_findRoom 25 = .ok (.getfield 9, 3) := by decide +kernel
theorem dX5_findRoom_19 : decode cX5_findRoom 19 = .ok (.getfield 15, 3) := by decide +kernel
theorem dX5_findRoom_13 : decode cX5_findRoom 13 = .ok (.aload_n 0, 1) := by decide +kernel
theorem dX5_findRoom_14 : decode cX5_findRoom 14 = .ok (.invokevirtual 18, 3) := by decide +kernel
theorem dX5_findRoom_17 : decode cX5_findRoom 17 = .ok (.pop, 1) := by decide +kernel
theorem dX5_findRoom_10 : decode cX5_findRoom 10 = .ok (.if_icmp .le 8, 3) := by decide +kernel
theorem dX5_findRoom_7 : decode cX5_findRoom 7 = .ok (.getfield 9, 3) := by decide +kernel
theorem dX5_findRoom_1 : decode cX5_findRoom 1 = .ok (.getfield 15, 3) := by decide +kernel
theorem dX5_noteMade_0 : decode cX5_noteMade 0 = .ok (.aload_n 0, 1) := by decide +kernel
theorem dX5_noteMade_1 : decode cX5_noteMade 1 = .ok (.aload_n 1, 1) := by decide +kernel
theorem dX5_noteMade_5 : decode cX5_noteMade 5 = .ok (.aload_n 1, 1) := by decide +kernel
theorem dX5_noteMade_9 : decode cX5_noteMade 9 = .ok (.iadd, 1) := by decide +kernel
theorem dX5_noteMade_13 : decode cX5_noteMade 13 = .ok (.return_, 1) := by decide +kernel
theorem dX5_noteMade_10 : decode cX5_noteMade 10 = .ok (.putfield 15, 3) := by decide +kernel
theorem dX5_noteMade_6 : decode cX5_noteMade 6 = .ok (.getfield 27, 3) := by decide +kernel
theorem dX5_noteMade_2 : decode cX5_noteMade 2 = .ok (.getfield 22, 3) := by decide +kernel
theorem dX5_open_0 : decode cX5_open 0 = .ok (.aload_n 0, 1) := by decide +kernel
theorem dX5_open_1 : decode cX5_open 1 = .ok (.aload_n 1, 1) := by decide +kernel
theorem dX5_open_2 : decode cX5_open 2 = .ok (.iconst 0, 1) := by decide +kernel
theorem dX5_open_7 : decode cX5_open 7 = .ok (.aload_n 0, 1) := by decide +kernel
theorem dX5_open_8 : decode cX5_open 8 = .ok (.iconst 0, 1) := by decide +kernel
theorem dX5_open_12 : decode cX5_open 12 = .ok (.return_, 1) := by decide +kernel
theorem dX5_open_9 : decode cX5_open 9 = .ok (.putfield 15, 3) := by decide +kernel
theorem dX5_open_4 : decode cX5_open 4 = .ok (.putfield 9, 3) := by decide +kernel
theorem dX5_open_3 : decode cX5_open 3 = .ok (.iaload, 1) := by decide +kernel
theorem dX5_total_0 : decode cX5_total 0 = .ok (.aload_n 0, 1) := by decide +kernel
theorem dX5_total_4 : decode cX5_total 4 = .ok (.ireturn, 1) := by decide +kernel
theorem dX5_total_1 : decode cX5_total 1 = .ok (.getfield 9, 3) := by decide +kernel
theorem dX5_topPlace_0 : decode cX5_topPlace 0 = .ok (.aload_n 0, 1) := by decide +kernel
theorem dX5_topPlace_4 : decode cX5_topPlace 4 = .ok (.ireturn, 1) := by decide +kernel
theorem dX5_topPlace_1 : decode cX5_topPlace 1 = .ok (.getfield 15, 3) := by decide +kernel
theorem dX3_cleanAll_0 : decode cX3_cleanAll 0 = .ok (.aload_n 0, 1) := by decide +kernel
theorem dX3_cleanAll_1 : decode cX3_cleanAll 1 = .ok (.invokevirtual 37, 3) := by decide +kernel
theorem dX3_cleanAll_4 : decode cX3_cleanAll 4 = .ok (.istore_n 1, 1) := by decide +kernel
theorem dX3_cleanAll_5 : decode cX3_cleanAll 5 = .ok (.aload_n 0, 1) := by decide +kernel
theorem dX3_cleanAll_6 : decode cX3_cleanAll 6 = .ok (.aload_n 0, 1) := by decide +kernel
theorem dX3_cleanAll_10 : decode cX3_cleanAll 10 = .ok (.aload_n 0, 1) := by decide +kernel
theorem dX3_cleanAll_14 : decode cX3_cleanAll 14 = .ok (.isub, 1) := by decide +kernel
theorem dX3_cleanAll_18 : decode cX3_cleanAll 18 = .ok (.aload_n 0, 1) := by decide +kernel
theorem dX3_cleanAll_19 : decode cX3_cleanAll 19 = .ok (.aload_n 0, 1) := by decide +kernel
theorem dX3_cleanAll_26 : decode cX3_cleanAll 26 = .ok (.iconst 0, 1) := by decide +kernel
theorem dX3_cleanAll_27 : decode cX3_cleanAll 27 = .ok (.istore_n 2, 1) := by decide +kernel
theorem dX3_cleanAll_23 : decode cX3_cleanAll 23 = .ok (.putfield 18, 3) := by decide +kernel
theorem dX3_cleanAll_20 : decode cX3_cleanAll 20 = .ok (.getfield 15, 3) := by decide +kernel
theorem dX3_cleanAll_15 : decode cX3_cleanAll 15 = .ok (.putfield 15, 3) := by decide +kernel
theorem dX3_cleanAll_11 : decode cX3_cleanAll 11 = .ok (.getfield 15, 3) := by decide +kernel
theorem dX3_cleanAll_7 : decode cX3_cleanAll 7 = .ok (.getfield 9, 3) := by decide +kernel
theorem dX3_cleanAll_28 : decode cX3_cleanAll 28 = .ok (.iload_n 2, 1) := by decide +kernel
theorem dX3_cleanAll_29 : decode cX3_cleanAll 29 = .ok (.aload_n 0, 1) := by decide +kernel
theorem dX3_cleanAll_83 : decode cX3_cleanAll 83 = .ok (.iload_n 1, 1) := by decide +kernel
theorem dX3_cleanAll_84 : decode cX3_cleanAll 84 = .ok (.ireturn, 1) := by decide +kernel
theorem dX3_cleanAll_39 : decode cX3_cleanAll 39 = .ok (.aload_n 0, 1) := by decide +kernel
theorem dX3_cleanAll_43 : decode cX3_cleanAll 43 = .ok (.iload_n 2, 1) := by decide +kernel
theorem dX3_cleanAll_44 : decode cX3_cleanAll 44 = .ok (.invokevirtual 49, 3) := by decide +kernel
theorem dX3_cleanAll_47 : decode cX3_cleanAll 47 = .ok (.astore_n 3, 1) := by decide +kernel
theorem dX3_cleanAll_48 : decode cX3_cleanAll 48 = .ok (.aload_n 3, 1) := by decide +kernel
theorem dX3_cleanAll_77 : decode cX3_cleanAll 77 = .ok (.iinc 2 1, 3) := by decide +kernel
theorem dX3_cleanAll_80 : decode cX3_cleanAll 80 = .ok (.goto (-52), 3) := by decide +kernel
theorem dX3_cleanAll_52 : decode cX3_cleanAll 52 = .ok (.aload_n 0, 1) := by decide +kernel
theorem dX3_cleanAll_56 : decode cX3_cleanAll 56 = .ok (.aload_n 3, 1) := by decide +kernel
theorem dX3_cleanAll_57 : decode cX3_cleanAll 57 = .ok (.aload_n 0, 1) := by decide +kernel
theorem dX3_cleanAll_61 : decode cX3_cleanAll 61 = .ok (.invokevirtual 57, 3) := by decide +kernel
theorem dX3_cleanAll_64 : decode cX3_cleanAll 64 = .ok (.aload_n 0, 1) := by decide +kernel
theorem dX3_cleanAll_65 : decode cX3_cleanAll 65 = .ok (.dup, 1) := by decide +kernel
theorem dX3_cleanAll_69 : decode cX3_cleanAll 69 = .ok (.aload_n 3, 1) := by decide +kernel
theorem dX3_cleanAll_73 : decode cX3_cleanAll 73 = .ok (.iadd, 1) := by decide +kernel
theorem dX3_cleanAll_74 : decode cX3_cleanAll 74 = .ok (.putfield 18, 3) := by decide +kernel
theorem dX3_cleanAll_70 : decode cX3_cleanAll 70 = .ok (.getfield 34, 3) := by decide +kernel
theorem dX3_cleanAll_66 : decode cX3_cleanAll 66 = .ok (.getfield 18, 3) := by decide +kernel
theorem dX3_cleanAll_58 : decode cX3_cleanAll 58 = .ok (.getfield 18, 3) := by decide +kernel
theorem dX3_cleanAll_53 : decode cX3_cleanAll 53 = .ok (.getfield 53, 3) := by decide +kernel
theorem dX3_cleanAll_49 : decode cX3_cleanAll 49 = .ok (.ifnull 28, 3) := by decide +kernel
theorem dX3_cleanAll_40 : decode cX3_cleanAll 40 = .ok (.getfield 40, 3) := by decide +kernel
theorem dX3_cleanAll_36 : decode cX3_cleanAll 36 = .ok (.if_icmp .ge 47, 3) := by decide +kernel
theorem dX3_cleanAll_33 : decode cX3_cleanAll 33 = .ok (.getfield 44, 3) := by decide +kernel
theorem dX3_cleanAll_30 : decode cX3_cleanAll 30 = .ok (.getfield 40, 3) := by decide +kernel
theorem dX3_findRoom_0 : decode cX3_findRoom 0 = .ok (.aload_n 0, 1) := by decide +kernel
theorem dX3_findRoom_1 : decode cX3_findRoom 1 = .ok (.iload_n 1, 1) := by decide +kernel
theorem dX3_findRoom_2 : decode cX3_findRoom 2 = .ok (.invokevirtual 21, 3) := by decide +kernel
theorem dX3_hasRoom_0 : decode cX3_hasRoom 0 = .ok (.aload_n 0, 1) := by decide +kernel
theorem dX3_hasRoom_4 : decode cX3_hasRoom 4 = .ok (.iload_n 1, 1) := by decide +kernel
theorem dX3_hasRoom_5 : decode cX3_hasRoom 5 = .ok (.iadd, 1) := by decide +kernel
theorem dX3_hasRoom_6 : decode cX3_hasRoom 6 = .ok (.aload_n 0, 1) := by decide +kernel
theorem dX3_hasRoom_10 : decode cX3_hasRoom 10 = .ok (.aload_n 0, 1) := by decide +kernel
theorem dX3_hasRoom_14 : decode cX3_hasRoom 14 = .ok (.iadd, 1) := by decide +kernel
theorem dX3_hasRoom_22 : decode cX3_hasRoom 22 = .ok (.iconst 0, 1) := by decide +kernel
theorem dX3_findRoom_5 : decode cX3_findRoom 5 = .ok (.ifCond .ne 8, 3) := by decide +kernel
theorem dX3_findRoom_8 : decode cX3_findRoom 8 = .ok (.aload_n 0, 1) := by decide +kernel
theorem dX3_findRoom_9 : decode cX3_findRoom 9 = .ok (.invokevirtual 25, 3) := by decide +kernel
theorem dX3_findRoom_12 : decode cX3_findRoom 12 = .ok (.pop, 1) := by decide +kernel
theorem dX3_findRoom_13 : decode cX3_findRoom 13 = .ok (.aload_n 0, 1) := by decide +kernel
theorem dX3_findRoom_14 : decode cX3_findRoom 14 = .ok (.iload_n 1, 1) := by decide +kernel
theorem dX3_findRoom_15 : decode cX3_findRoom 15 = .ok (.invokevirtual 21, 3) := by decide +kernel
theorem dX3_findRoom_18 : decode cX3_findRoom 18 = .ok (.ifCond .eq 10, 3) := by decide +kernel
theorem dX3_findRoom_28 : decode cX3_findRoom 28 = .ok (.iconst (-1), 1) := by decide +kernel
theorem dX3_findRoom_29 : decode cX3_findRoom 29 = .ok (.ireturn, 1) := by decide +kernel
theorem dX3_hasRoom_23 : decode cX3_hasRoom 23 = .ok (.ireturn, 1) := by decide +kernel
theorem dX3_hasRoom_18 : decode cX3_hasRoom 18 = .ok (.iconst 1, 1) := by decide +kernel
theorem dX3_hasRoom_19 : decode cX3_hasRoom 19 = .ok (.goto 4, 3) := by decide +kernel
theorem dX3_findRoom_21 : decode cX3_findRoom 21 = .ok (.aload_n 0, 1) := by decide +kernel
theorem dX3_findRoom_25 : decode cX3_findRoom 25 = .ok (.goto 4, 3) := by decide +kernel
theorem dX3_findRoom_22 : decode cX3_findRoom 22 = .ok (.getfield 18, 3) := by decide +kernel
theorem dX3_hasRoom_15 : decode cX3_hasRoom 15 = .ok (.if_icmp .gt 7, 3) := by decide +kernel
theorem dX3_hasRoom_11 : decode cX3_hasRoom 11 = .ok (.getfield 9, 3) := by decide +kernel
theorem dX3_hasRoom_7 : decode cX3_hasRoom 7 = .ok (.getfield 15, 3) := by decide +kernel
theorem dX3_hasRoom_1 : decode cX3_hasRoom 1 = .ok (.getfield 18, 3) := by decide +kernel
theorem dX3_noteMade_0 : decode cX3_noteMade 0 = .ok (.aload_n 0, 1) := by decide +kernel
theorem dX3_noteMade_1 : decode cX3_noteMade 1 = .ok (.aload_n 1, 1) := by decide +kernel
theorem dX3_noteMade_5 : decode cX3_noteMade 5 = .ok (.aload_n 1, 1) := by decide +kernel
theorem dX3_noteMade_9 : decode cX3_noteMade 9 = .ok (.iadd, 1) := by decide +kernel
theorem dX3_noteMade_13 : decode cX3_noteMade 13 = .ok (.return_, 1) := by decide +kernel
theorem dX3_noteMade_10 : decode cX3_noteMade 10 = .ok (.putfield 18, 3) := by decide +kernel
theorem dX3_noteMade_6 : decode cX3_noteMade 6 = .ok (.getfield 34, 3) := by decide +kernel
theorem dX3_noteMade_2 : decode cX3_noteMade 2 = .ok (.getfield 29, 3) := by decide +kernel
theorem dX3_total_0 : decode cX3_total 0 = .ok (.iconst 2, 1) := by decide +kernel
theorem dX3_total_1 : decode cX3_total 1 = .ok (.aload_n 0, 1) := by decide +kernel
theorem dX3_total_5 : decode cX3_total 5 = .ok (.imul, 1) := by decide +kernel
theorem dX3_total_6 : decode cX3_total 6 = .ok (.ireturn, 1) := by decide +kernel
theorem dX3_total_2 : decode cX3_total 2 = .ok (.getfield 9, 3) := by decide +kernel
theorem dX3_topPlace_0 : decode cX3_topPlace 0 = .ok (.aload_n 0, 1) := by decide +kernel
theorem dX3_topPlace_4 : decode cX3_topPlace 4 = .ok (.ireturn, 1) := by decide +kernel
theorem dX3_topPlace_1 : decode cX3_topPlace 1 = .ok (.getfield 18, 3) := by decide +kernel
theorem dX2_fallIfUncounted_0 : decode cX2_fallIfUncounted 0 = .ok (.aload_n 1, 1) := by decide +kernel
theorem dX2_fallIfUncounted_11 : decode cX2_fallIfUncounted 11 = .ok (.return_, 1) := by decide +kernel
theorem dX2_fallIfUncounted_4 : decode cX2_fallIfUncounted 4 = .ok (.aload_n 1, 1) := by decide +kernel
theorem dX2_fallIfUncounted_12 : decode cX2_fallIfUncounted 12 = .ok (.aload_n 1, 1) := by decide +kernel
theorem dX2_fallIfUncounted_30 : decode cX2_fallIfUncounted 30 = .ok (.aload_n 0, 1) := by decide +kernel
theorem dX2_fallIfUncounted_34 : decode cX2_fallIfUncounted 34 = .ok (.sipush 512, 3) := by decide +kernel
theorem dX2_fallIfUncounted_70 : decode cX2_fallIfUncounted 70 = .ok (.return_, 1) := by decide +kernel
theorem dX2_fallIfUncounted_40 : decode cX2_fallIfUncounted 40 = .ok (.aload_n 0, 1) := by decide +kernel
theorem dX2_fallIfUncounted_44 : decode cX2_fallIfUncounted 44 = .ok (.aload_n 0, 1) := by decide +kernel
theorem dX2_fallIfUncounted_48 : decode cX2_fallIfUncounted 48 = .ok (.aload_n 1, 1) := by decide +kernel
theorem dX2_fallIfUncounted_50 : decode cX2_fallIfUncounted 50 = .ok (.aload_n 0, 1) := by decide +kernel
theorem dX2_fallIfUncounted_54 : decode cX2_fallIfUncounted 54 = .ok (.aload_n 0, 1) := by decide +kernel
theorem dX2_fallIfUncounted_58 : decode cX2_fallIfUncounted 58 = .ok (.iconst 0, 1) := by decide +kernel
theorem dX2_fallIfUncounted_60 : decode cX2_fallIfUncounted 60 = .ok (.aload_n 0, 1) := by decide +kernel
theorem dX2_fallIfUncounted_61 : decode cX2_fallIfUncounted 61 = .ok (.dup, 1) := by decide +kernel
theorem dX2_fallIfUncounted_65 : decode cX2_fallIfUncounted 65 = .ok (.iconst 1, 1) := by decide +kernel
theorem dX2_fallIfUncounted_66 : decode cX2_fallIfUncounted 66 = .ok (.iadd, 1) := by decide +kernel
theorem dX2_fallIfUncounted_67 : decode cX2_fallIfUncounted 67 = .ok (.putfield 25, 3) := by decide +kernel
theorem dX2_fallIfUncounted_62 : decode cX2_fallIfUncounted 62 = .ok (.getfield 25, 3) := by decide +kernel
theorem dX2_fallIfUncounted_59 : decode cX2_fallIfUncounted 59 = .ok (.iastore, 1) := by decide +kernel
theorem dX2_fallIfUncounted_55 : decode cX2_fallIfUncounted 55 = .ok (.getfield 25, 3) := by decide +kernel
theorem dX2_fallIfUncounted_51 : decode cX2_fallIfUncounted 51 = .ok (.getfield 17, 3) := by decide +kernel
theorem dX2_fallIfUncounted_49 : decode cX2_fallIfUncounted 49 = .ok (.aastore, 1) := by decide +kernel
theorem dX2_fallIfUncounted_45 : decode cX2_fallIfUncounted 45 = .ok (.getfield 25, 3) := by decide +kernel
theorem dX2_fallIfUncounted_41 : decode cX2_fallIfUncounted 41 = .ok (.getfield 11, 3) := by decide +kernel
theorem dX2_fallIfUncounted_37 : decode cX2_fallIfUncounted 37 = .ok (.if_icmp .ge 33, 3) := by decide +kernel
theorem dX2_fallIfUncounted_31 : decode cX2_fallIfUncounted 31 = .ok (.getfield 25, 3) := by decide +kernel
theorem dX2_fallIfUncounted_19 : decode cX2_fallIfUncounted 19 = .ok (.aload_n 0, 1) := by decide +kernel
theorem dX2_fallIfUncounted_23 : decode cX2_fallIfUncounted 23 = .ok (.aload_n 1, 1) := by decide +kernel
theorem dX2_fallIfUncounted_24 : decode cX2_fallIfUncounted 24 = .ok (.invokevirtual 61, 3) := by decide +kernel
theorem dX2_fallIfUncounted_27 : decode cX2_fallIfUncounted 27 = .ok (.goto 43, 3) := by decide +kernel
theorem dX2_fallIfUncounted_20 : decode cX2_fallIfUncounted 20 = .ok (.getfield 41, 3) := by decide +kernel
theorem dX2_fallIfUncounted_16 : decode cX2_fallIfUncounted 16 = .ok (.ifCond .eq 14, 3) := by decide +kernel
theorem dX2_fallIfUncounted_13 : decode cX2_fallIfUncounted 13 = .ok (.getfield 57, 3) := by decide +kernel
theorem dX2_fallIfUncounted_8 : decode cX2_fallIfUncounted 8 = .ok (.ifCond .le 4, 3) := by decide +kernel
theorem dX2_fallIfUncounted_5 : decode cX2_fallIfUncounted 5 = .ok (.getfield 21, 3) := by decide +kernel
theorem dX2_fallIfUncounted_1 : decode cX2_fallIfUncounted 1 = .ok (.ifnull 10, 3) := by decide +kernel
theorem dX2_dropWord_0 : decode cX2_dropWord 0 = .ok (.aload_n 1, 1) := by decide +kernel
theorem dX2_dropWord_1 : decode cX2_dropWord 1 = .ok (.iload_n 2, 1) := by decide +kernel
theorem dX2_dropWord_2 : decode cX2_dropWord 2 = .ok (.invokevirtual 50, 3) := by decide +kernel
theorem dX9_isReference_0 : decode cX9_isReference 0 = .ok (.aload_n 0, 1) := by decide +kernel
theorem dX9_isReference_1 : decode cX9_isReference 1 = .ok (.iload_n 1, 1) := by decide +kernel
theorem dX9_isReference_2 : decode cX9_isReference 2 = .ok (.invokevirtual 26, 3) := by decide +kernel
theorem dX9_hasWord_0 : decode cX9_hasWord 0 = .ok (.iload_n 1, 1) := by decide +kernel
theorem dX9_hasWord_18 : decode cX9_hasWord 18 = .ok (.iconst 0, 1) := by decide +kernel
theorem dX9_isReference_5 : decode cX9_isReference 5 = .ok (.ifCond .eq 20, 3) := by decide +kernel
theorem dX9_isReference_25 : decode cX9_isReference 25 = .ok (.iconst 0, 1) := by decide +kernel
theorem dX2_dropWord_5 : decode cX2_dropWord 5 = .ok (.ifCond .eq 17, 3) := by decide +kernel
theorem dX2_dropWord_22 : decode cX2_dropWord 22 = .ok (.return_, 1) := by decide +kernel
theorem dX9_isReference_26 : decode cX9_isReference 26 = .ok (.ireturn, 1) := by decide +kernel
theorem dX9_hasWord_19 : decode cX9_hasWord 19 = .ok (.ireturn, 1) := by decide +kernel
theorem dX9_hasWord_4 : decode cX9_hasWord 4 = .ok (.iload_n 1, 1) := by decide +kernel
theorem dX9_hasWord_5 : decode cX9_hasWord 5 = .ok (.aload_n 0, 1) := by decide +kernel
theorem dX9_hasWord_9 : decode cX9_hasWord 9 = .ok (.iconst 1, 1) := by decide +kernel
theorem dX9_hasWord_10 : decode cX9_hasWord 10 = .ok (.isub, 1) := by decide +kernel
theorem dX9_hasWord_14 : decode cX9_hasWord 14 = .ok (.iconst 1, 1) := by decide +kernel
theorem dX9_hasWord_15 : decode cX9_hasWord 15 = .ok (.goto 4, 3) := by decide +kernel
theorem dX9_isReference_8 : decode cX9_isReference 8 = .ok (.aload_n 0, 1) := by decide +kernel
theorem dX9_isReference_12 : decode cX9_isReference 12 = .ok (.iload_n 1, 1) := by decide +kernel
theorem dX9_isReference_13 : decode cX9_isReference 13 = .ok (.lushr, 1) := by decide +kernel
theorem dX9_isReference_14 : decode cX9_isReference 14 = .ok (.lconst 1, 1) := by decide +kernel
theorem dX9_isReference_15 : decode cX9_isReference 15 = .ok (.land, 1) := by decide +kernel
theorem dX9_isReference_16 : decode cX9_isReference 16 = .ok (.lconst 0, 1) := by decide +kernel
theorem dX9_isReference_17 : decode cX9_isReference 17 = .ok (.lcmp, 1) := by decide +kernel
theorem dX9_isReference_21 : decode cX9_isReference 21 = .ok (.iconst 1, 1) := by decide +kernel
theorem dX9_isReference_22 : decode cX9_isReference 22 = .ok (.goto 4, 3) := by decide +kernel
theorem dX2_dropWord_8 : decode cX2_dropWord 8 = .ok (.aload_n 0, 1) := by decide +kernel
theorem dX2_dropWord_9 : decode cX2_dropWord 9 = .ok (.aload_n 0, 1) := by decide +kernel
theorem dX2_dropWord_13 : decode cX2_dropWord 13 = .ok (.aload_n 1, 1) := by decide +kernel
theorem dX2_dropWord_14 : decode cX2_dropWord 14 = .ok (.iload_n 2, 1) := by decide +kernel
theorem dX2_dropWord_15 : decode cX2_dropWord 15 = .ok (.aconst_null, 1) := by decide +kernel
theorem dX2_dropWord_16 : decode cX2_dropWord 16 = .ok (.invokevirtual 53, 3) := by decide +kernel
theorem dX2_dropWord_19 : decode cX2_dropWord 19 = .ok (.invokevirtual 28, 3) := by decide +kernel
theorem dX2_dropWord_10 : decode cX2_dropWord 10 = .ok (.getfield 41, 3) := by decide +kernel
theorem dX9_isReference_18 : decode cX9_isReference 18 = .ok (.ifCond .eq 7, 3) := by decide +kernel
theorem dX9_isReference_9 : decode cX9_isReference 9 = .ok (.getfield 19, 3) := by decide +kernel
theorem dX9_hasWord_11 : decode cX9_hasWord 11 = .ok (.if_icmp .ge 7, 3) := by decide +kernel
theorem dX9_hasWord_6 : decode cX9_hasWord 6 = .ok (.getfield 16, 3) := by decide +kernel
theorem dX9_hasWord_1 : decode cX9_hasWord 1 = .ok (.ifCond .lt 17, 3) := by decide +kernel
theorem dX2_noteFewer_0 : decode cX2_noteFewer 0 = .ok (.aload_n 0, 1) := by decide +kernel
theorem dX2_noteFewer_1 : decode cX2_noteFewer 1 = .ok (.iconst 0, 1) := by decide +kernel
theorem dX2_noteFewer_5 : decode cX2_noteFewer 5 = .ok (.aload_n 0, 1) := by decide +kernel
theorem dX2_noteFewer_6 : decode cX2_noteFewer 6 = .ok (.aload_n 1, 1) := by decide +kernel
theorem dX2_noteFewer_7 : decode cX2_noteFewer 7 = .ok (.invokevirtual 28, 3) := by decide +kernel
theorem dX2_noteFewer_10 : decode cX2_noteFewer 10 = .ok (.iconst 0, 1) := by decide +kernel
theorem dX2_noteFewer_11 : decode cX2_noteFewer 11 = .ok (.istore_n 2, 1) := by decide +kernel
theorem dX2_noteFewer_2 : decode cX2_noteFewer 2 = .ok (.putfield 25, 3) := by decide +kernel
theorem dX2_noteFewer_12 : decode cX2_noteFewer 12 = .ok (.aload_n 0, 1) := by decide +kernel
theorem dX2_noteFewer_125 : decode cX2_noteFewer 125 = .ok (.return_, 1) := by decide +kernel
theorem dX2_noteFewer_19 : decode cX2_noteFewer 19 = .ok (.iload_n 2, 1) := by decide +kernel
theorem dX2_noteFewer_20 : decode cX2_noteFewer 20 = .ok (.ldc 32, 2) := by decide +kernel
theorem dX2_noteFewer_25 : decode cX2_noteFewer 25 = .ok (.aload_n 0, 1) := by decide +kernel
theorem dX2_noteFewer_29 : decode cX2_noteFewer 29 = .ok (.aload_n 0, 1) := by decide +kernel
theorem dX2_noteFewer_33 : decode cX2_noteFewer 33 = .ok (.iconst 1, 1) := by decide +kernel
theorem dX2_noteFewer_34 : decode cX2_noteFewer 34 = .ok (.isub, 1) := by decide +kernel
theorem dX2_noteFewer_36 : decode cX2_noteFewer 36 = .ok (.astore_n 3, 1) := by decide +kernel
theorem dX2_noteFewer_37 : decode cX2_noteFewer 37 = .ok (.aload_n 0, 1) := by decide +kernel
theorem dX2_noteFewer_41 : decode cX2_noteFewer 41 = .ok (.aload_n 0, 1) := by decide +kernel
theorem dX2_noteFewer_45 : decode cX2_noteFewer 45 = .ok (.iconst 1, 1) := by decide +kernel
theorem dX2_noteFewer_46 : decode cX2_noteFewer 46 = .ok (.isub, 1) := by decide +kernel
theorem dX2_noteFewer_48 : decode cX2_noteFewer 48 = .ok (.istore 4, 2) := by decide +kernel
theorem dX2_noteFewer_50 : decode cX2_noteFewer 50 = .ok (.aload_n 3, 1) := by decide +kernel
theorem dX2_noteFewer_54 : decode cX2_noteFewer 54 = .ok (.aload_n 0, 1) := by decide +kernel
theorem dX2_noteFewer_55 : decode cX2_noteFewer 55 = .ok (.dup, 1) := by decide +kernel
theorem dX2_noteFewer_59 : decode cX2_noteFewer 59 = .ok (.iconst 1, 1) := by decide +kernel
theorem dX2_noteFewer_60 : decode cX2_noteFewer 60 = .ok (.isub, 1) := by decide +kernel
theorem dX2_noteFewer_64 : decode cX2_noteFewer 64 = .ok (.goto 55, 3) := by decide +kernel
theorem dX2_noteFewer_119 : decode cX2_noteFewer 119 = .ok (.iinc 2 1, 3) := by decide +kernel
theorem dX2_noteFewer_122 : decode cX2_noteFewer 122 = .ok (.goto (-110), 3) := by decide +kernel
theorem dX2_noteFewer_61 : decode cX2_noteFewer 61 = .ok (.putfield 25, 3) := by decide +kernel
theorem dX2_noteFewer_56 : decode cX2_noteFewer 56 = .ok (.getfield 25, 3) := by decide +kernel
theorem dX2_noteFewer_67 : decode cX2_noteFewer 67 = .ok (.aload_n 3, 1) := by decide +kernel
theorem dX2_noteFewer_68 : decode cX2_noteFewer 68 = .ok (.iload 4, 2) := by decide +kernel
theorem dX2_noteFewer_70 : decode cX2_noteFewer 70 = .ok (.invokevirtual 33, 3) := by decide +kernel
theorem dX2_noteFewer_73 : decode cX2_noteFewer 73 = .ok (.ifCond .eq 28, 3) := by decide +kernel
theorem dX2_noteFewer_101 : decode cX2_noteFewer 101 = .ok (.aload_n 0, 1) := by decide +kernel
theorem dX2_noteFewer_102 : decode cX2_noteFewer 102 = .ok (.dup, 1) := by decide +kernel
theorem dX2_noteFewer_106 : decode cX2_noteFewer 106 = .ok (.iconst 1, 1) := by decide +kernel
theorem dX2_noteFewer_107 : decode cX2_noteFewer 107 = .ok (.isub, 1) := by decide +kernel
theorem dX2_noteFewer_111 : decode cX2_noteFewer 111 = .ok (.aload_n 0, 1) := by decide +kernel
theorem dX2_noteFewer_115 : decode cX2_noteFewer 115 = .ok (.aload_n 3, 1) := by decide +kernel
theorem dX2_noteFewer_116 : decode cX2_noteFewer 116 = .ok (.invokevirtual 45, 3) := by decide +kernel
theorem dX2_noteFewer_112 : decode cX2_noteFewer 112 = .ok (.getfield 41, 3) := by decide +kernel
theorem dX2_noteFewer_108 : decode cX2_noteFewer 108 = .ok (.putfield 25, 3) := by decide +kernel
theorem dX2_noteFewer_103 : decode cX2_noteFewer 103 = .ok (.getfield 25, 3) := by decide +kernel
theorem dX2_noteFewer_76 : decode cX2_noteFewer 76 = .ok (.aload_n 0, 1) := by decide +kernel
theorem dX2_noteFewer_80 : decode cX2_noteFewer 80 = .ok (.aload_n 0, 1) := by decide +kernel
theorem dX2_noteFewer_84 : decode cX2_noteFewer 84 = .ok (.iconst 1, 1) := by decide +kernel
theorem dX2_noteFewer_85 : decode cX2_noteFewer 85 = .ok (.isub, 1) := by decide +kernel
theorem dX2_noteFewer_86 : decode cX2_noteFewer 86 = .ok (.iload 4, 2) := by decide +kernel
theorem dX2_noteFewer_88 : decode cX2_noteFewer 88 = .ok (.iconst 1, 1) := by decide +kernel
theorem dX2_noteFewer_89 : decode cX2_noteFewer 89 = .ok (.iadd, 1) := by decide +kernel
theorem dX2_noteFewer_91 : decode cX2_noteFewer 91 = .ok (.aload_n 0, 1) := by decide +kernel
theorem dX2_noteFewer_92 : decode cX2_noteFewer 92 = .ok (.aload_n 3, 1) := by decide +kernel
theorem dX2_noteFewer_93 : decode cX2_noteFewer 93 = .ok (.iload 4, 2) := by decide +kernel
theorem dX2_noteFewer_95 : decode cX2_noteFewer 95 = .ok (.invokevirtual 37, 3) := by decide +kernel
theorem dX2_noteFewer_98 : decode cX2_noteFewer 98 = .ok (.goto 21, 3) := by decide +kernel
theorem dX2_noteFewer_90 : decode cX2_noteFewer 90 = .ok (.iastore, 1) := by decide +kernel
theorem dX2_noteFewer_81 : decode cX2_noteFewer 81 = .ok (.getfield 25, 3) := by decide +kernel
theorem dX2_noteFewer_77 : decode cX2_noteFewer 77 = .ok (.getfield 17, 3) := by decide +kernel
theorem dX2_noteFewer_51 : decode cX2_noteFewer 51 = .ok (.ifnonnull 16, 3) := by decide +kernel
theorem dX2_noteFewer_47 : decode cX2_noteFewer 47 = .ok (.iaload, 1) := by decide +kernel
theorem dX2_noteFewer_42 : decode cX2_noteFewer 42 = .ok (.getfield 25, 3) := by decide +kernel
theorem dX2_noteFewer_38 : decode cX2_noteFewer 38 = .ok (.getfield 17, 3) := by decide +kernel
theorem dX2_noteFewer_35 : decode cX2_noteFewer 35 = .ok (.aaload, 1) := by decide +kernel
theorem dX2_noteFewer_30 : decode cX2_noteFewer 30 = .ok (.getfield 25, 3) := by decide +kernel
theorem dX2_noteFewer_26 : decode cX2_noteFewer 26 = .ok (.getfield 11, 3) := by decide +kernel
theorem dX2_noteFewer_22 : decode cX2_noteFewer 22 = .ok (.if_icmp .ge 103, 3) := by decide +kernel
theorem dX2_noteFewer_16 : decode cX2_noteFewer 16 = .ok (.ifCond .le 109, 3) := by decide +kernel
theorem dX2_noteFewer_13 : decode cX2_noteFewer 13 = .ok (.getfield 25, 3) := by decide +kernel
theorem dX2_countOf_0 : decode cX2_countOf 0 = .ok (.aload_n 1, 1) := by decide +kernel
theorem dX2_countOf_4 : decode cX2_countOf 4 = .ok (.ireturn, 1) := by decide +kernel
theorem dX2_countOf_1 : decode cX2_countOf 1 = .ok (.getfield 21, 3) := by decide +kernel
theorem dX6_begin_0 : decode cX6_begin 0 = .ok (.aload_n 0, 1) := by decide +kernel
theorem dX6_begin_1 : decode cX6_begin 1 = .ok (.iconst 1, 1) := by decide +kernel
theorem dX6_begin_5 : decode cX6_begin 5 = .ok (.aload_n 0, 1) := by decide +kernel
theorem dX6_begin_9 : decode cX6_begin 9 = .ok (.iconst 0, 1) := by decide +kernel
theorem dX6_begin_10 : decode cX6_begin 10 = .ok (.invokevirtual 82, 3) := by decide +kernel
theorem dX6_begin_13 : decode cX6_begin 13 = .ok (.aload_n 0, 1) := by decide +kernel
theorem dX6_begin_17 : decode cX6_begin 17 = .ok (.invokevirtual 86, 3) := by decide +kernel
theorem dX6_begin_20 : decode cX6_begin 20 = .ok (.return_, 1) := by decide +kernel
theorem dX6_begin_14 : decode cX6_begin 14 = .ok (.getfield 14, 3) := by decide +kernel
theorem dX6_begin_6 : decode cX6_begin 6 = .ok (.getfield 14, 3) := by decide +kernel
theorem dX6_begin_2 : decode cX6_begin 2 = .ok (.putfield 31, 3) := by decide +kernel
theorem dX6_newsCame_0 : decode cX6_newsCame 0 = .ok (.aload_n 0, 1) := by decide +kernel
theorem dX6_newsCame_4 : decode cX6_newsCame 4 = .ok (.iconst 1, 1) := by decide +kernel
theorem dX6_newsCame_15 : decode cX6_newsCame 15 = .ok (.aload_n 0, 1) := by decide +kernel
theorem dX6_newsCame_19 : decode cX6_newsCame 19 = .ok (.invokevirtual 79, 3) := by decide +kernel
theorem dX10_isEmpty_0 : decode cX10_isEmpty 0 = .ok (.aload_n 0, 1) := by decide +kernel
theorem dX10_isEmpty_4 : decode cX10_isEmpty 4 = .ok (.aload_n 0, 1) := by decide +kernel
theorem dX10_isEmpty_15 : decode cX10_isEmpty 15 = .ok (.iconst 0, 1) := by decide +kernel
theorem dX6_newsCame_22 : decode cX6_newsCame 22 = .ok (.ifCond .ne 7, 3) := by decide +kernel
theorem dX6_newsCame_25 : decode cX6_newsCame 25 = .ok (.iconst 1, 1) := by decide +kernel
theorem dX6_newsCame_26 : decode cX6_newsCame 26 = .ok (.goto 4, 3) := by decide +kernel
theorem dX6_newsCame_30 : decode cX6_newsCame 30 = .ok (.ireturn, 1) := by decide +kernel
theorem dX10_isEmpty_16 : decode cX10_isEmpty 16 = .ok (.ireturn, 1) := by decide +kernel
theorem dX10_isEmpty_11 : decode cX10_isEmpty 11 = .ok (.iconst 1, 1) := by decide +kernel
theorem dX10_isEmpty_12 : decode cX10_isEmpty 12 = .ok (.goto 4, 3) := by decide +kernel
theorem dX6_newsCame_29 : decode cX6_newsCame 29 = .ok (.iconst 0, 1) := by decide +kernel
theorem dX10_isEmpty_8 : decode cX10_isEmpty 8 = .ok (.if_icmp .lt 7, 3) := by decide +kernel
theorem dX10_isEmpty_5 : decode cX10_isEmpty 5 = .ok (.getfield 32, 3) := by decide +kernel
theorem dX10_isEmpty_1 : decode cX10_isEmpty 1 = .ok (.getfield 28, 3) := by decide +kernel
theorem dX6_newsCame_16 : decode cX6_newsCame 16 = .ok (.getfield 14, 3) := by decide +kernel
theorem dX6_newsCame_8 : decode cX6_newsCame 8 = .ok (.aload_n 0, 1) := by decide +kernel
theorem dX6_newsCame_12 : decode cX6_newsCame 12 = .ok (.invokevirtual 86, 3) := by decide +kernel
theorem dX6_newsCame_9 : decode cX6_newsCame 9 = .ok (.getfield 14, 3) := by decide +kernel
theorem dX6_newsCame_5 : decode cX6_newsCame 5 = .ok (.if_icmp .ne 10, 3) := by decide +kernel
theorem dX6_newsCame_1 : decode cX6_newsCame 1 = .ok (.getfield 28, 3) := by decide +kernel
theorem dX6_finish_0 : decode cX6_finish 0 = .ok (.aload_n 0, 1) := by decide +kernel
theorem dX6_finish_1 : decode cX6_finish 1 = .ok (.iconst 0, 1) := by decide +kernel
theorem dX6_finish_5 : decode cX6_finish 5 = .ok (.aload_n 0, 1) := by decide +kernel
theorem dX6_finish_9 : decode cX6_finish 9 = .ok (.aload_n 0, 1) := by decide +kernel
theorem dX6_finish_13 : decode cX6_finish 13 = .ok (.invokevirtual 89, 3) := by decide +kernel
theorem dX6_finish_16 : decode cX6_finish 16 = .ok (.aload_n 0, 1) := by decide +kernel
theorem dX6_finish_20 : decode cX6_finish 20 = .ok (.aload_n 0, 1) := by decide +kernel
theorem dX6_finish_24 : decode cX6_finish 24 = .ok (.invokevirtual 93, 3) := by decide +kernel
theorem dX6_finish_27 : decode cX6_finish 27 = .ok (.ireturn, 1) := by decide +kernel
theorem dX6_finish_21 : decode cX6_finish 21 = .ok (.getfield 14, 3) := by decide +kernel
theorem dX6_finish_17 : decode cX6_finish 17 = .ok (.getfield 38, 3) := by decide +kernel
theorem dX6_finish_10 : decode cX6_finish 10 = .ok (.getfield 14, 3) := by decide +kernel
theorem dX6_finish_6 : decode cX6_finish 6 = .ok (.getfield 38, 3) := by decide +kernel
theorem dX6_finish_2 : decode cX6_finish 2 = .ok (.putfield 31, 3) := by decide +kernel
theorem dX6_goOn_0 : decode cX6_goOn 0 = .ok (.aload_n 0, 1) := by decide +kernel
theorem dX6_goOn_9 : decode cX6_goOn 9 = .ok (.aload_n 0, 1) := by decide +kernel
theorem dX6_goOn_13 : decode cX6_goOn 13 = .ok (.iload_n 1, 1) := by decide +kernel
theorem dX6_goOn_14 : decode cX6_goOn 14 = .ok (.invokevirtual 69, 3) := by decide +kernel
theorem dX6_goOn_17 : decode cX6_goOn 17 = .ok (.istore_n 2, 1) := by decide +kernel
theorem dX6_goOn_18 : decode cX6_goOn 18 = .ok (.aload_n 0, 1) := by decide +kernel
theorem dX6_goOn_22 : decode cX6_goOn 22 = .ok (.invokevirtual 79, 3) := by decide +kernel
theorem dX6_goOn_25 : decode cX6_goOn 25 = .ok (.ifCond .eq 15, 3) := by decide +kernel
theorem dX6_goOn_40 : decode cX6_goOn 40 = .ok (.iload_n 2, 1) := by decide +kernel
theorem dX6_goOn_41 : decode cX6_goOn 41 = .ok (.ireturn, 1) := by decide +kernel
theorem dX6_goOn_28 : decode cX6_goOn 28 = .ok (.aload_n 0, 1) := by decide +kernel
theorem dX6_goOn_29 : decode cX6_goOn 29 = .ok (.invokevirtual 72, 3) := by decide +kernel
theorem dX6_goOn_35 : decode cX6_goOn 35 = .ok (.aload_n 0, 1) := by decide +kernel
theorem dX6_goOn_36 : decode cX6_goOn 36 = .ok (.invokevirtual 76, 3) := by decide +kernel
theorem dX6_goOn_39 : decode cX6_goOn 39 = .ok (.pop, 1) := by decide +kernel
theorem dX6_goOn_32 : decode cX6_goOn 32 = .ok (.ifCond .ne 8, 3) := by decide +kernel
theorem dX6_goOn_19 : decode cX6_goOn 19 = .ok (.getfield 14, 3) := by decide +kernel
theorem dX6_goOn_10 : decode cX6_goOn 10 = .ok (.getfield 14, 3) := by decide +kernel
theorem dX6_goOn_7 : decode cX6_goOn 7 = .ok (.iconst 0, 1) := by decide +kernel
theorem dX6_goOn_8 : decode cX6_goOn 8 = .ok (.ireturn, 1) := by decide +kernel
theorem dX6_goOn_4 : decode cX6_goOn 4 = .ok (.ifCond .ne 5, 3) := by decide +kernel
theorem dX6_goOn_1 : decode cX6_goOn 1 = .ok (.getfield 31, 3) := by decide +kernel
theorem dX6_cleanAll_0 : decode cX6_cleanAll 0 = .ok (.aload_n 0, 1) := by decide +kernel

/-! from 92.3instr -/
/-! instructions, decoded -/
theorem dX6_cleanAll_11 : decode cX6_cleanAll 11 = .ok (.aload_n 0, 1) := by decide +kernel
theorem dX6_cleanAll_15 : decode cX6_cleanAll 15 = .ok (.sipush 512, 3) := by decide +kernel
theorem dX6_cleanAll_18 : decode cX6_cleanAll 18 = .ok (.invokevirtual 69, 3) := by decide +kernel
theorem dX6_cleanAll_21 : decode cX6_cleanAll 21 = .ok (.pop, 1) := by decide +kernel
theorem dX6_cleanAll_22 : decode cX6_cleanAll 22 = .ok (.iconst 0, 1) := by decide +kernel
theorem dX6_cleanAll_23 : decode cX6_cleanAll 23 = .ok (.istore_n 1, 1) := by decide +kernel
theorem dX6_cleanAll_12 : decode cX6_cleanAll 12 = .ok (.getfield 14, 3) := by decide +kernel
theorem dX6_cleanAll_7 : decode cX6_cleanAll 7 = .ok (.aload_n 0, 1) := by decide +kernel
theorem dX6_cleanAll_8 : decode cX6_cleanAll 8 = .ok (.invokevirtual 47, 3) := by decide +kernel
theorem dX6_cleanAll_4 : decode cX6_cleanAll 4 = .ok (.ifCond .ne 7, 3) := by decide +kernel
theorem dX6_cleanAll_1 : decode cX6_cleanAll 1 = .ok (.getfield 31, 3) := by decide +kernel
theorem dX6_cleanAll_24 : decode cX6_cleanAll 24 = .ok (.iload_n 1, 1) := by decide +kernel
theorem dX6_cleanAll_25 : decode cX6_cleanAll 25 = .ok (.sipush 512, 3) := by decide +kernel
theorem dX6_cleanAll_55 : decode cX6_cleanAll 55 = .ok (.aload_n 0, 1) := by decide +kernel
theorem dX6_cleanAll_56 : decode cX6_cleanAll 56 = .ok (.invokevirtual 76, 3) := by decide +kernel
theorem dX6_cleanAll_59 : decode cX6_cleanAll 59 = .ok (.ireturn, 1) := by decide +kernel
theorem dX6_cleanAll_31 : decode cX6_cleanAll 31 = .ok (.aload_n 0, 1) := by decide +kernel
theorem dX6_cleanAll_32 : decode cX6_cleanAll 32 = .ok (.invokevirtual 72, 3) := by decide +kernel
theorem dX6_cleanAll_38 : decode cX6_cleanAll 38 = .ok (.aload_n 0, 1) := by decide +kernel
theorem dX6_cleanAll_42 : decode cX6_cleanAll 42 = .ok (.sipush 512, 3) := by decide +kernel
theorem dX6_cleanAll_45 : decode cX6_cleanAll 45 = .ok (.invokevirtual 69, 3) := by decide +kernel
theorem dX6_cleanAll_48 : decode cX6_cleanAll 48 = .ok (.pop, 1) := by decide +kernel
theorem dX6_cleanAll_49 : decode cX6_cleanAll 49 = .ok (.iinc 1 1, 3) := by decide +kernel
theorem dX6_cleanAll_52 : decode cX6_cleanAll 52 = .ok (.goto (-28), 3) := by decide +kernel
theorem dX6_cleanAll_39 : decode cX6_cleanAll 39 = .ok (.getfield 14, 3) := by decide +kernel
theorem dX6_cleanAll_35 : decode cX6_cleanAll 35 = .ok (.ifCond .eq 20, 3) := by decide +kernel
theorem dX6_cleanAll_28 : decode cX6_cleanAll 28 = .ok (.if_icmp .ge 27, 3) := by decide +kernel
theorem dX6_findRoom_0 : decode cX6_findRoom 0 = .ok (.aload_n 0, 1) := by decide +kernel
theorem dX6_findRoom_32 : decode cX6_findRoom 32 = .ok (.aload_n 0, 1) := by decide +kernel
theorem dX6_findRoom_33 : decode cX6_findRoom 33 = .ok (.aload_n 0, 1) := by decide +kernel
theorem dX6_findRoom_37 : decode cX6_findRoom 37 = .ok (.invokevirtual 51, 3) := by decide +kernel
theorem dX6_findRoom_40 : decode cX6_findRoom 40 = .ok (.pop, 1) := by decide +kernel
theorem dX6_findRoom_41 : decode cX6_findRoom 41 = .ok (.aload_n 0, 1) := by decide +kernel
theorem dX6_findRoom_42 : decode cX6_findRoom 42 = .ok (.iload_n 1, 1) := by decide +kernel
theorem dX6_findRoom_43 : decode cX6_findRoom 43 = .ok (.invokevirtual 55, 3) := by decide +kernel
theorem dX6_findRoom_46 : decode cX6_findRoom 46 = .ok (.istore_n 2, 1) := by decide +kernel
theorem dX6_findRoom_47 : decode cX6_findRoom 47 = .ok (.aload_n 0, 1) := by decide +kernel
theorem dX6_findRoom_51 : decode cX6_findRoom 51 = .ok (.istore_n 3, 1) := by decide +kernel
theorem dX6_findRoom_52 : decode cX6_findRoom 52 = .ok (.iload_n 2, 1) := by decide +kernel
theorem dX6_findRoom_53 : decode cX6_findRoom 53 = .ok (.iconst (-1), 1) := by decide +kernel
theorem dX6_findRoom_68 : decode cX6_findRoom 68 = .ok (.iload_n 2, 1) := by decide +kernel
theorem dX6_findRoom_69 : decode cX6_findRoom 69 = .ok (.iconst (-1), 1) := by decide +kernel
theorem dX6_findRoom_88 : decode cX6_findRoom 88 = .ok (.iload_n 2, 1) := by decide +kernel
theorem dX6_findRoom_89 : decode cX6_findRoom 89 = .ok (.ireturn, 1) := by decide +kernel
theorem dX6_findRoom_73 : decode cX6_findRoom 73 = .ok (.iload_n 3, 1) := by decide +kernel
theorem dX6_findRoom_77 : decode cX6_findRoom 77 = .ok (.aload_n 0, 1) := by decide +kernel
theorem dX6_findRoom_78 : decode cX6_findRoom 78 = .ok (.invokevirtual 58, 3) := by decide +kernel
theorem dX6_findRoom_81 : decode cX6_findRoom 81 = .ok (.pop, 1) := by decide +kernel
theorem dX6_findRoom_82 : decode cX6_findRoom 82 = .ok (.aload_n 0, 1) := by decide +kernel
theorem dX6_findRoom_83 : decode cX6_findRoom 83 = .ok (.iload_n 1, 1) := by decide +kernel
theorem dX6_findRoom_84 : decode cX6_findRoom 84 = .ok (.invokevirtual 55, 3) := by decide +kernel
theorem dX6_findRoom_87 : decode cX6_findRoom 87 = .ok (.istore_n 2, 1) := by decide +kernel
theorem dX6_findRoom_74 : decode cX6_findRoom 74 = .ok (.ifCond .eq 14, 3) := by decide +kernel
theorem dX6_findRoom_70 : decode cX6_findRoom 70 = .ok (.if_icmp .ne 18, 3) := by decide +kernel
theorem dX6_findRoom_57 : decode cX6_findRoom 57 = .ok (.aload_n 0, 1) := by decide +kernel
theorem dX6_findRoom_58 : decode cX6_findRoom 58 = .ok (.invokevirtual 58, 3) := by decide +kernel
theorem dX6_findRoom_61 : decode cX6_findRoom 61 = .ok (.pop, 1) := by decide +kernel
theorem dX6_findRoom_62 : decode cX6_findRoom 62 = .ok (.aload_n 0, 1) := by decide +kernel
theorem dX6_findRoom_63 : decode cX6_findRoom 63 = .ok (.iload_n 1, 1) := by decide +kernel
theorem dX6_findRoom_64 : decode cX6_findRoom 64 = .ok (.invokevirtual 55, 3) := by decide +kernel
theorem dX6_findRoom_67 : decode cX6_findRoom 67 = .ok (.istore_n 2, 1) := by decide +kernel
theorem dX6_findRoom_54 : decode cX6_findRoom 54 = .ok (.if_icmp .ne 14, 3) := by decide +kernel
theorem dX6_findRoom_48 : decode cX6_findRoom 48 = .ok (.getfield 31, 3) := by decide +kernel
theorem dX6_findRoom_34 : decode cX6_findRoom 34 = .ok (.getfield 24, 3) := by decide +kernel
theorem dX6_findRoom_7 : decode cX6_findRoom 7 = .ok (.iconst 4, 1) := by decide +kernel
theorem dX6_findRoom_8 : decode cX6_findRoom 8 = .ok (.aload_n 0, 1) := by decide +kernel
theorem dX6_findRoom_12 : decode cX6_findRoom 12 = .ok (.aload_n 0, 1) := by decide +kernel
theorem dX6_findRoom_19 : decode cX6_findRoom 19 = .ok (.isub, 1) := by decide +kernel
theorem dX6_findRoom_20 : decode cX6_findRoom 20 = .ok (.imul, 1) := by decide +kernel
theorem dX6_findRoom_21 : decode cX6_findRoom 21 = .ok (.aload_n 0, 1) := by decide +kernel
theorem dX6_findRoom_28 : decode cX6_findRoom 28 = .ok (.aload_n 0, 1) := by decide +kernel
theorem dX6_findRoom_29 : decode cX6_findRoom 29 = .ok (.invokevirtual 47, 3) := by decide +kernel
theorem dX6_findRoom_25 : decode cX6_findRoom 25 = .ok (.if_icmp .ge 7, 3) := by decide +kernel
theorem dX6_findRoom_22 : decode cX6_findRoom 22 = .ok (.getfield 35, 3) := by decide +kernel
theorem dX6_findRoom_16 : decode cX6_findRoom 16 = .ok (.getfield 42, 3) := by decide +kernel
theorem dX6_findRoom_13 : decode cX6_findRoom 13 = .ok (.getfield 38, 3) := by decide +kernel
theorem dX6_findRoom_9 : decode cX6_findRoom 9 = .ok (.getfield 35, 3) := by decide +kernel
theorem dX6_findRoom_4 : decode cX6_findRoom 4 = .ok (.ifCond .ne 28, 3) := by decide +kernel
theorem dX6_findRoom_1 : decode cX6_findRoom 1 = .ok (.getfield 31, 3) := by decide +kernel
theorem dX6_noteMade_0 : decode cX6_noteMade 0 = .ok (.aload_n 0, 1) := by decide +kernel
theorem dX6_noteMade_1 : decode cX6_noteMade 1 = .ok (.aload_n 1, 1) := by decide +kernel
theorem dX6_noteMade_5 : decode cX6_noteMade 5 = .ok (.aload_n 0, 1) := by decide +kernel
theorem dX6_noteMade_20 : decode cX6_noteMade 20 = .ok (.return_, 1) := by decide +kernel
theorem dX6_noteMade_12 : decode cX6_noteMade 12 = .ok (.aload_n 0, 1) := by decide +kernel
theorem dX6_noteMade_16 : decode cX6_noteMade 16 = .ok (.aload_n 1, 1) := by decide +kernel
theorem dX6_noteMade_17 : decode cX6_noteMade 17 = .ok (.invokevirtual 66, 3) := by decide +kernel
theorem dX6_noteMade_13 : decode cX6_noteMade 13 = .ok (.getfield 14, 3) := by decide +kernel
theorem dX6_noteMade_9 : decode cX6_noteMade 9 = .ok (.ifCond .eq 11, 3) := by decide +kernel
theorem dX6_noteMade_6 : decode cX6_noteMade 6 = .ok (.getfield 31, 3) := by decide +kernel
theorem dX6_noteMade_2 : decode cX6_noteMade 2 = .ok (.invokespecial 62, 3) := by decide +kernel
theorem dX6_noteChange_0 : decode cX6_noteChange 0 = .ok (.aload_n 0, 1) := by decide +kernel
theorem dX6_noteChange_31 : decode cX6_noteChange 31 = .ok (.return_, 1) := by decide +kernel
theorem dX6_noteChange_7 : decode cX6_noteChange 7 = .ok (.aload_n 1, 1) := by decide +kernel
theorem dX6_noteChange_8 : decode cX6_noteChange 8 = .ok (.aload_n 2, 1) := by decide +kernel
theorem dX6_noteChange_12 : decode cX6_noteChange 12 = .ok (.aload_n 0, 1) := by decide +kernel
theorem dX6_noteChange_16 : decode cX6_noteChange 16 = .ok (.aload_n 0, 1) := by decide +kernel
theorem dX6_noteChange_27 : decode cX6_noteChange 27 = .ok (.aload_n 2, 1) := by decide +kernel
theorem dX6_noteChange_28 : decode cX6_noteChange 28 = .ok (.invokevirtual 97, 3) := by decide +kernel
theorem dX6_noteChange_23 : decode cX6_noteChange 23 = .ok (.aload_n 1, 1) := by decide +kernel
theorem dX6_noteChange_24 : decode cX6_noteChange 24 = .ok (.goto 4, 3) := by decide +kernel
theorem dX6_noteChange_20 : decode cX6_noteChange 20 = .ok (.ifCond .ne 7, 3) := by decide +kernel
theorem dX6_noteChange_17 : decode cX6_noteChange 17 = .ok (.getfield 28, 3) := by decide +kernel
theorem dX6_noteChange_13 : decode cX6_noteChange 13 = .ok (.getfield 14, 3) := by decide +kernel
theorem dX6_noteChange_9 : decode cX6_noteChange 9 = .ok (.if_acmp .eq 22, 3) := by decide +kernel
theorem dX6_noteChange_4 : decode cX6_noteChange 4 = .ok (.ifCond .eq 27, 3) := by decide +kernel
theorem dX6_noteChange_1 : decode cX6_noteChange 1 = .ok (.getfield 31, 3) := by decide +kernel
theorem dX6_noteStrong_0 : decode cX6_noteStrong 0 = .ok (.aload_n 0, 1) := by decide +kernel
theorem dX6_noteStrong_15 : decode cX6_noteStrong 15 = .ok (.return_, 1) := by decide +kernel
theorem dX6_noteStrong_7 : decode cX6_noteStrong 7 = .ok (.aload_n 0, 1) := by decide +kernel
theorem dX6_noteStrong_11 : decode cX6_noteStrong 11 = .ok (.aload_n 1, 1) := by decide +kernel
theorem dX6_noteStrong_12 : decode cX6_noteStrong 12 = .ok (.invokevirtual 97, 3) := by decide +kernel
theorem dX6_noteStrong_8 : decode cX6_noteStrong 8 = .ok (.getfield 14, 3) := by decide +kernel
theorem dX6_noteStrong_4 : decode cX6_noteStrong 4 = .ok (.ifCond .eq 11, 3) := by decide +kernel
theorem dX6_noteStrong_1 : decode cX6_noteStrong 1 = .ok (.getfield 31, 3) := by decide +kernel
theorem dX6_colourOf_0 : decode cX6_colourOf 0 = .ok (.aload_n 0, 1) := by decide +kernel
theorem dX6_colourOf_18 : decode cX6_colourOf 18 = .ok (.iconst 0, 1) := by decide +kernel
theorem dX6_colourOf_19 : decode cX6_colourOf 19 = .ok (.ireturn, 1) := by decide +kernel
theorem dX6_colourOf_7 : decode cX6_colourOf 7 = .ok (.aload_n 0, 1) := by decide +kernel
theorem dX6_colourOf_11 : decode cX6_colourOf 11 = .ok (.aload_n 1, 1) := by decide +kernel
theorem dX6_colourOf_12 : decode cX6_colourOf 12 = .ok (.invokevirtual 100, 3) := by decide +kernel
theorem dX6_colourOf_15 : decode cX6_colourOf 15 = .ok (.goto 4, 3) := by decide +kernel
theorem dX6_colourOf_8 : decode cX6_colourOf 8 = .ok (.getfield 14, 3) := by decide +kernel
theorem dX6_colourOf_4 : decode cX6_colourOf 4 = .ok (.ifCond .eq 14, 3) := by decide +kernel
theorem dX6_colourOf_1 : decode cX6_colourOf 1 = .ok (.getfield 31, 3) := by decide +kernel
theorem dX6_specials_0 : decode cX6_specials 0 = .ok (.aload_n 0, 1) := by decide +kernel
theorem dX6_specials_25 : decode cX6_specials 25 = .ok (.iconst 0, 1) := by decide +kernel
theorem dX6_specials_26 : decode cX6_specials 26 = .ok (.ireturn, 1) := by decide +kernel
theorem dX6_specials_7 : decode cX6_specials 7 = .ok (.aload_n 0, 1) := by decide +kernel
theorem dX6_specials_14 : decode cX6_specials 14 = .ok (.aload_n 0, 1) := by decide +kernel
theorem dX6_specials_21 : decode cX6_specials 21 = .ok (.isub, 1) := by decide +kernel
theorem dX6_specials_22 : decode cX6_specials 22 = .ok (.goto 4, 3) := by decide +kernel
theorem dX6_specials_18 : decode cX6_specials 18 = .ok (.getfield 107, 3) := by decide +kernel
theorem dX6_specials_15 : decode cX6_specials 15 = .ok (.getfield 14, 3) := by decide +kernel
theorem dX6_specials_11 : decode cX6_specials 11 = .ok (.getfield 104, 3) := by decide +kernel
theorem dX6_specials_8 : decode cX6_specials 8 = .ok (.getfield 14, 3) := by decide +kernel
theorem dX6_specials_4 : decode cX6_specials 4 = .ok (.ifCond .eq 21, 3) := by decide +kernel
theorem dX6_specials_1 : decode cX6_specials 1 = .ok (.getfield 31, 3) := by decide +kernel
theorem dX6_isMarking_0 : decode cX6_isMarking 0 = .ok (.aload_n 0, 1) := by decide +kernel
theorem dX6_isMarking_4 : decode cX6_isMarking 4 = .ok (.ireturn, 1) := by decide +kernel
theorem dX6_isMarking_1 : decode cX6_isMarking 1 = .ok (.getfield 31, 3) := by decide +kernel
theorem dX6_open_0 : decode cX6_open 0 = .ok (.aload_n 0, 1) := by decide +kernel
theorem dX6_open_1 : decode cX6_open 1 = .ok (.aload_n 1, 1) := by decide +kernel
theorem dX6_open_5 : decode cX6_open 5 = .ok (.aload_n 0, 1) := by decide +kernel
theorem dX6_open_6 : decode cX6_open 6 = .ok (.aload_n 1, 1) := by decide +kernel
theorem dX6_open_7 : decode cX6_open 7 = .ok (.iconst 2, 1) := by decide +kernel
theorem dX6_open_12 : decode cX6_open 12 = .ok (.aload_n 0, 1) := by decide +kernel
theorem dX6_open_13 : decode cX6_open 13 = .ok (.aload_n 1, 1) := by decide +kernel
theorem dX6_open_14 : decode cX6_open 14 = .ok (.iconst 3, 1) := by decide +kernel
theorem dX6_open_19 : decode cX6_open 19 = .ok (.aload_n 0, 1) := by decide +kernel
theorem dX6_open_20 : decode cX6_open 20 = .ok (.iconst 0, 1) := by decide +kernel
theorem dX6_open_24 : decode cX6_open 24 = .ok (.return_, 1) := by decide +kernel
theorem dX6_open_21 : decode cX6_open 21 = .ok (.putfield 31, 3) := by decide +kernel
theorem dX6_open_16 : decode cX6_open 16 = .ok (.putfield 28, 3) := by decide +kernel
theorem dX6_open_15 : decode cX6_open 15 = .ok (.iaload, 1) := by decide +kernel
theorem dX6_open_9 : decode cX6_open 9 = .ok (.putfield 24, 3) := by decide +kernel
theorem dX6_open_8 : decode cX6_open 8 = .ok (.iaload, 1) := by decide +kernel
theorem dX6_open_2 : decode cX6_open 2 = .ok (.invokespecial 20, 3) := by decide +kernel
theorem dX3_open_0 : decode cX3_open 0 = .ok (.aload_n 0, 1) := by decide +kernel
theorem dX3_open_1 : decode cX3_open 1 = .ok (.aload_n 1, 1) := by decide +kernel
theorem dX3_open_2 : decode cX3_open 2 = .ok (.iconst 0, 1) := by decide +kernel
theorem dX3_open_7 : decode cX3_open 7 = .ok (.aload_n 0, 1) := by decide +kernel
theorem dX3_open_8 : decode cX3_open 8 = .ok (.iconst 0, 1) := by decide +kernel
theorem dX3_open_12 : decode cX3_open 12 = .ok (.aload_n 0, 1) := by decide +kernel
theorem dX3_open_13 : decode cX3_open 13 = .ok (.iconst 0, 1) := by decide +kernel
theorem dX3_open_17 : decode cX3_open 17 = .ok (.return_, 1) := by decide +kernel
theorem dX3_open_14 : decode cX3_open 14 = .ok (.putfield 18, 3) := by decide +kernel
theorem dX3_open_9 : decode cX3_open 9 = .ok (.putfield 15, 3) := by decide +kernel
theorem dX3_open_4 : decode cX3_open 4 = .ok (.putfield 9, 3) := by decide +kernel
theorem dX3_open_3 : decode cX3_open 3 = .ok (.iaload, 1) := by decide +kernel
theorem dX0_open_0 : decode cX0_open 0 = .ok (.aload_n 0, 1) := by decide +kernel
theorem dX0_open_1 : decode cX0_open 1 = .ok (.aload_n 1, 1) := by decide +kernel
theorem dX0_open_2 : decode cX0_open 2 = .ok (.iconst 0, 1) := by decide +kernel
theorem dX0_open_7 : decode cX0_open 7 = .ok (.aload_n 0, 1) := by decide +kernel
theorem dX0_open_8 : decode cX0_open 8 = .ok (.aload_n 1, 1) := by decide +kernel
theorem dX0_open_9 : decode cX0_open 9 = .ok (.iconst 1, 1) := by decide +kernel
theorem dX0_open_14 : decode cX0_open 14 = .ok (.aload_n 0, 1) := by decide +kernel
theorem dX0_open_15 : decode cX0_open 15 = .ok (.aload_n 1, 1) := by decide +kernel
theorem dX0_open_16 : decode cX0_open 16 = .ok (.iconst 2, 1) := by decide +kernel
theorem dX0_open_21 : decode cX0_open 21 = .ok (.aload_n 0, 1) := by decide +kernel
theorem dX0_open_22 : decode cX0_open 22 = .ok (.aload_n 1, 1) := by decide +kernel
theorem dX0_open_23 : decode cX0_open 23 = .ok (.iconst 3, 1) := by decide +kernel
theorem dX0_open_28 : decode cX0_open 28 = .ok (.aload_n 0, 1) := by decide +kernel
theorem dX0_open_29 : decode cX0_open 29 = .ok (.iconst 0, 1) := by decide +kernel
theorem dX0_open_33 : decode cX0_open 33 = .ok (.aload_n 0, 1) := by decide +kernel
theorem dX0_open_34 : decode cX0_open 34 = .ok (.aload_n 0, 1) := by decide +kernel
theorem dX0_open_41 : decode cX0_open 41 = .ok (.aload_n 0, 1) := by decide +kernel
theorem dX0_open_42 : decode cX0_open 42 = .ok (.aload_n 0, 1) := by decide +kernel
theorem dX0_open_49 : decode cX0_open 49 = .ok (.aload_n 0, 1) := by decide +kernel
theorem dX0_open_53 : decode cX0_open 53 = .ok (.iconst 0, 1) := by decide +kernel
theorem dX0_open_54 : decode cX0_open 54 = .ok (.invokestatic 37, 3) := by decide +kernel
theorem dX0_open_57 : decode cX0_open 57 = .ok (.return_, 1) := by decide +kernel
theorem dX0_open_50 : decode cX0_open 50 = .ok (.getfield 9, 3) := by decide +kernel
theorem dX0_open_46 : decode cX0_open 46 = .ok (.putfield 34, 3) := by decide +kernel
theorem dX0_open_43 : decode cX0_open 43 = .ok (.getfield 19, 3) := by decide +kernel
theorem dX0_open_38 : decode cX0_open 38 = .ok (.putfield 31, 3) := by decide +kernel
theorem dX0_open_35 : decode cX0_open 35 = .ok (.getfield 19, 3) := by decide +kernel
theorem dX0_open_30 : decode cX0_open 30 = .ok (.putfield 28, 3) := by decide +kernel
theorem dX0_open_25 : decode cX0_open 25 = .ok (.putfield 25, 3) := by decide +kernel
theorem dX0_open_24 : decode cX0_open 24 = .ok (.iaload, 1) := by decide +kernel
theorem dX0_open_18 : decode cX0_open 18 = .ok (.putfield 22, 3) := by decide +kernel
theorem dX0_open_17 : decode cX0_open 17 = .ok (.iaload, 1) := by decide +kernel
theorem dX0_open_11 : decode cX0_open 11 = .ok (.putfield 19, 3) := by decide +kernel
theorem dX0_open_10 : decode cX0_open 10 = .ok (.iaload, 1) := by decide +kernel
theorem dX0_open_4 : decode cX0_open 4 = .ok (.putfield 15, 3) := by decide +kernel
theorem dX0_open_3 : decode cX0_open 3 = .ok (.iaload, 1) := by decide +kernel
theorem dX0_total_0 : decode cX0_total 0 = .ok (.aload_n 0, 1) := by decide +kernel
theorem dX0_total_4 : decode cX0_total 4 = .ok (.iconst 2, 1) := by decide +kernel
theorem dX0_total_5 : decode cX0_total 5 = .ok (.aload_n 0, 1) := by decide +kernel
theorem dX0_total_9 : decode cX0_total 9 = .ok (.imul, 1) := by decide +kernel
theorem dX0_total_10 : decode cX0_total 10 = .ok (.iadd, 1) := by decide +kernel
theorem dX0_total_11 : decode cX0_total 11 = .ok (.ireturn, 1) := by decide +kernel
theorem dX0_total_6 : decode cX0_total 6 = .ok (.getfield 15, 3) := by decide +kernel
theorem dX0_total_1 : decode cX0_total 1 = .ok (.getfield 19, 3) := by decide +kernel
theorem dX0_topPlace_0 : decode cX0_topPlace 0 = .ok (.aload_n 0, 1) := by decide +kernel
theorem dX0_topPlace_4 : decode cX0_topPlace 4 = .ok (.ireturn, 1) := by decide +kernel
theorem dX0_topPlace_1 : decode cX0_topPlace 1 = .ok (.getfield 34, 3) := by decide +kernel
theorem dX0_oldTopOrRegion_0 : decode cX0_oldTopOrRegion 0 = .ok (.aload_n 0, 1) := by decide +kernel
theorem dX0_oldTopOrRegion_4 : decode cX0_oldTopOrRegion 4 = .ok (.ireturn, 1) := by decide +kernel
theorem dX0_oldTopOrRegion_1 : decode cX0_oldTopOrRegion 1 = .ok (.getfield 28, 3) := by decide +kernel
theorem dX0_canHold_0 : decode cX0_canHold 0 = .ok (.aload_n 0, 1) := by decide +kernel
theorem dX0_canHold_1 : decode cX0_canHold 1 = .ok (.aload_n 1, 1) := by decide +kernel
theorem dX0_canHold_2 : decode cX0_canHold 2 = .ok (.invokevirtual 58, 3) := by decide +kernel
theorem dX0_isYoung_0 : decode cX0_isYoung 0 = .ok (.aload_n 1, 1) := by decide +kernel
theorem dX0_isYoung_4 : decode cX0_isYoung 4 = .ok (.aload_n 0, 1) := by decide +kernel
theorem dX0_isYoung_15 : decode cX0_isYoung 15 = .ok (.iconst 0, 1) := by decide +kernel
theorem dX0_canHold_5 : decode cX0_canHold 5 = .ok (.ifCond .ne 7, 3) := by decide +kernel
theorem dX0_canHold_8 : decode cX0_canHold 8 = .ok (.iconst 1, 1) := by decide +kernel
theorem dX0_canHold_9 : decode cX0_canHold 9 = .ok (.goto 4, 3) := by decide +kernel
theorem dX0_canHold_13 : decode cX0_canHold 13 = .ok (.ireturn, 1) := by decide +kernel
theorem dX0_isYoung_16 : decode cX0_isYoung 16 = .ok (.ireturn, 1) := by decide +kernel
theorem dX0_isYoung_11 : decode cX0_isYoung 11 = .ok (.iconst 1, 1) := by decide +kernel
theorem dX0_isYoung_12 : decode cX0_isYoung 12 = .ok (.goto 4, 3) := by decide +kernel
theorem dX0_canHold_12 : decode cX0_canHold 12 = .ok (.iconst 0, 1) := by decide +kernel
theorem dX0_isYoung_8 : decode cX0_isYoung 8 = .ok (.if_icmp .lt 7, 3) := by decide +kernel
theorem dX0_isYoung_5 : decode cX0_isYoung 5 = .ok (.getfield 19, 3) := by decide +kernel
theorem dX0_isYoung_1 : decode cX0_isYoung 1 = .ok (.getfield 62, 3) := by decide +kernel
theorem dX0_noteMade_0 : decode cX0_noteMade 0 = .ok (.aload_n 0, 1) := by decide +kernel
theorem dX0_noteMade_1 : decode cX0_noteMade 1 = .ok (.aload_n 1, 1) := by decide +kernel
theorem dX0_noteMade_2 : decode cX0_noteMade 2 = .ok (.invokevirtual 58, 3) := by decide +kernel
theorem dX0_noteMade_5 : decode cX0_noteMade 5 = .ok (.ifCond .eq 19, 3) := by decide +kernel
theorem dX0_noteMade_24 : decode cX0_noteMade 24 = .ok (.aload_n 0, 1) := by decide +kernel
theorem dX0_noteMade_25 : decode cX0_noteMade 25 = .ok (.aload_n 1, 1) := by decide +kernel
theorem dX0_noteMade_29 : decode cX0_noteMade 29 = .ok (.aload_n 1, 1) := by decide +kernel
theorem dX0_noteMade_33 : decode cX0_noteMade 33 = .ok (.iadd, 1) := by decide +kernel
theorem dX0_noteMade_37 : decode cX0_noteMade 37 = .ok (.return_, 1) := by decide +kernel
theorem dX0_noteMade_34 : decode cX0_noteMade 34 = .ok (.putfield 28, 3) := by decide +kernel
theorem dX0_noteMade_30 : decode cX0_noteMade 30 = .ok (.getfield 67, 3) := by decide +kernel
theorem dX0_noteMade_26 : decode cX0_noteMade 26 = .ok (.getfield 62, 3) := by decide +kernel
theorem dX0_noteMade_8 : decode cX0_noteMade 8 = .ok (.aload_n 0, 1) := by decide +kernel
theorem dX0_noteMade_9 : decode cX0_noteMade 9 = .ok (.aload_n 1, 1) := by decide +kernel
theorem dX0_noteMade_13 : decode cX0_noteMade 13 = .ok (.aload_n 1, 1) := by decide +kernel
theorem dX0_noteMade_17 : decode cX0_noteMade 17 = .ok (.iadd, 1) := by decide +kernel
theorem dX0_noteMade_21 : decode cX0_noteMade 21 = .ok (.goto 16, 3) := by decide +kernel
theorem dX0_noteMade_18 : decode cX0_noteMade 18 = .ok (.putfield 34, 3) := by decide +kernel
theorem dX0_noteMade_14 : decode cX0_noteMade 14 = .ok (.getfield 67, 3) := by decide +kernel
theorem dX0_noteMade_10 : decode cX0_noteMade 10 = .ok (.getfield 62, 3) := by decide +kernel
theorem dX0_specials_0 : decode cX0_specials 0 = .ok (.iconst 0, 1) := by decide +kernel
theorem dX0_specials_1 : decode cX0_specials 1 = .ok (.istore_n 1, 1) := by decide +kernel
theorem dX0_specials_2 : decode cX0_specials 2 = .ok (.iconst 0, 1) := by decide +kernel
theorem dX0_specials_3 : decode cX0_specials 3 = .ok (.istore_n 2, 1) := by decide +kernel
theorem dX0_specials_4 : decode cX0_specials 4 = .ok (.iload_n 2, 1) := by decide +kernel
theorem dX0_specials_5 : decode cX0_specials 5 = .ok (.sipush 375, 3) := by decide +kernel
theorem dX0_specials_26 : decode cX0_specials 26 = .ok (.iload_n 1, 1) := by decide +kernel
theorem dX0_specials_27 : decode cX0_specials 27 = .ok (.ireturn, 1) := by decide +kernel
theorem dX0_specials_11 : decode cX0_specials 11 = .ok (.iload_n 1, 1) := by decide +kernel
theorem dX0_specials_12 : decode cX0_specials 12 = .ok (.aload_n 0, 1) := by decide +kernel
theorem dX0_specials_16 : decode cX0_specials 16 = .ok (.iload_n 2, 1) := by decide +kernel
theorem dX0_specials_18 : decode cX0_specials 18 = .ok (.iadd, 1) := by decide +kernel
theorem dX0_specials_19 : decode cX0_specials 19 = .ok (.istore_n 1, 1) := by decide +kernel
theorem dX0_specials_20 : decode cX0_specials 20 = .ok (.iinc 2 1, 3) := by decide +kernel
theorem dX0_specials_23 : decode cX0_specials 23 = .ok (.goto (-19), 3) := by decide +kernel
theorem dX0_specials_17 : decode cX0_specials 17 = .ok (.iaload, 1) := by decide +kernel
theorem dX0_specials_13 : decode cX0_specials 13 = .ok (.getfield 9, 3) := by decide +kernel
theorem dX0_specials_8 : decode cX0_specials 8 = .ok (.if_icmp .ge 18, 3) := by decide +kernel
theorem dX0_noteReference_0 : decode cX0_noteReference 0 = .ok (.aload_n 0, 1) := by decide +kernel
theorem dX0_noteReference_1 : decode cX0_noteReference 1 = .ok (.aload_n 1, 1) := by decide +kernel
theorem dX0_noteReference_2 : decode cX0_noteReference 2 = .ok (.iload_n 2, 1) := by decide +kernel
theorem dX0_noteReference_3 : decode cX0_noteReference 3 = .ok (.invokevirtual 136, 3) := by decide +kernel
theorem dX0_cardOf_0 : decode cX0_cardOf 0 = .ok (.aload_n 0, 1) := by decide +kernel
theorem dX0_cardOf_23 : decode cX0_cardOf 23 = .ok (.iconst (-1), 1) := by decide +kernel
theorem dX0_noteReference_6 : decode cX0_noteReference 6 = .ok (.istore 4, 2) := by decide +kernel
theorem dX0_noteReference_8 : decode cX0_noteReference 8 = .ok (.aload_n 3, 1) := by decide +kernel
theorem dX0_noteReference_49 : decode cX0_noteReference 49 = .ok (.return_, 1) := by decide +kernel
theorem dX0_noteReference_12 : decode cX0_noteReference 12 = .ok (.aload_n 0, 1) := by decide +kernel
theorem dX0_noteReference_13 : decode cX0_noteReference 13 = .ok (.aload_n 1, 1) := by decide +kernel
theorem dX0_noteReference_14 : decode cX0_noteReference 14 = .ok (.invokevirtual 58, 3) := by decide +kernel
theorem dX0_noteReference_17 : decode cX0_noteReference 17 = .ok (.ifCond .ne 32, 3) := by decide +kernel
theorem dX0_noteReference_20 : decode cX0_noteReference 20 = .ok (.aload_n 0, 1) := by decide +kernel
theorem dX0_noteReference_21 : decode cX0_noteReference 21 = .ok (.aload_n 3, 1) := by decide +kernel
theorem dX0_noteReference_22 : decode cX0_noteReference 22 = .ok (.invokevirtual 58, 3) := by decide +kernel
theorem dX0_noteReference_25 : decode cX0_noteReference 25 = .ok (.ifCond .eq 24, 3) := by decide +kernel
theorem dX0_noteReference_28 : decode cX0_noteReference 28 = .ok (.iload 4, 2) := by decide +kernel
theorem dX0_noteReference_30 : decode cX0_noteReference 30 = .ok (.ifCond .lt 19, 3) := by decide +kernel
theorem dX0_noteReference_9 : decode cX0_noteReference 9 = .ok (.ifnull 40, 3) := by decide +kernel
theorem dX0_cardOf_24 : decode cX0_cardOf 24 = .ok (.ireturn, 1) := by decide +kernel
theorem dX0_cardOf_7 : decode cX0_cardOf 7 = .ok (.aload_n 1, 1) := by decide +kernel
theorem dX0_cardOf_11 : decode cX0_cardOf 11 = .ok (.iconst 1, 1) := by decide +kernel
theorem dX0_cardOf_12 : decode cX0_cardOf 12 = .ok (.iadd, 1) := by decide +kernel
theorem dX0_cardOf_13 : decode cX0_cardOf 13 = .ok (.iload_n 2, 1) := by decide +kernel
theorem dX0_cardOf_14 : decode cX0_cardOf 14 = .ok (.iadd, 1) := by decide +kernel
theorem dX0_cardOf_15 : decode cX0_cardOf 15 = .ok (.aload_n 0, 1) := by decide +kernel
theorem dX0_cardOf_20 : decode cX0_cardOf 20 = .ok (.goto 4, 3) := by decide +kernel
theorem dX0_noteReference_33 : decode cX0_noteReference 33 = .ok (.iload 4, 2) := by decide +kernel
theorem dX0_noteReference_35 : decode cX0_noteReference 35 = .ok (.sipush 375, 3) := by decide +kernel
theorem dX0_noteReference_41 : decode cX0_noteReference 41 = .ok (.aload_n 0, 1) := by decide +kernel
theorem dX0_noteReference_45 : decode cX0_noteReference 45 = .ok (.iload 4, 2) := by decide +kernel
theorem dX0_noteReference_47 : decode cX0_noteReference 47 = .ok (.iconst 1, 1) := by decide +kernel
theorem dX0_noteReference_48 : decode cX0_noteReference 48 = .ok (.iastore, 1) := by decide +kernel
theorem dX0_noteReference_42 : decode cX0_noteReference 42 = .ok (.getfield 9, 3) := by decide +kernel
theorem dX0_noteReference_38 : decode cX0_noteReference 38 = .ok (.if_icmp .ge 11, 3) := by decide +kernel
theorem dX0_cardOf_19 : decode cX0_cardOf 19 = .ok (.idiv, 1) := by decide +kernel
theorem dX0_cardOf_16 : decode cX0_cardOf 16 = .ok (.getfield 25, 3) := by decide +kernel
theorem dX0_cardOf_8 : decode cX0_cardOf 8 = .ok (.getfield 62, 3) := by decide +kernel
theorem dX0_cardOf_4 : decode cX0_cardOf 4 = .ok (.ifCond .le 19, 3) := by decide +kernel
theorem dX0_cardOf_1 : decode cX0_cardOf 1 = .ok (.getfield 25, 3) := by decide +kernel
theorem dX0_findDirty_0 : decode cX0_findDirty 0 = .ok (.aload_n 0, 1) := by decide +kernel
theorem dX0_findDirty_4 : decode cX0_findDirty 4 = .ok (.iconst 0, 1) := by decide +kernel
theorem dX0_findDirty_5 : decode cX0_findDirty 5 = .ok (.invokestatic 37, 3) := by decide +kernel
theorem dX0_findDirty_8 : decode cX0_findDirty 8 = .ok (.iconst 0, 1) := by decide +kernel
theorem dX0_findDirty_9 : decode cX0_findDirty 9 = .ok (.istore_n 1, 1) := by decide +kernel
theorem dX0_findDirty_1 : decode cX0_findDirty 1 = .ok (.getfield 9, 3) := by decide +kernel
theorem dX0_findDirty_10 : decode cX0_findDirty 10 = .ok (.iload_n 1, 1) := by decide +kernel
theorem dX0_findDirty_11 : decode cX0_findDirty 11 = .ok (.aload_n 0, 1) := by decide +kernel
theorem dX0_findDirty_81 : decode cX0_findDirty 81 = .ok (.return_, 1) := by decide +kernel
theorem dX0_findDirty_21 : decode cX0_findDirty 21 = .ok (.aload_n 0, 1) := by decide +kernel
theorem dX0_findDirty_25 : decode cX0_findDirty 25 = .ok (.iload_n 1, 1) := by decide +kernel
theorem dX0_findDirty_26 : decode cX0_findDirty 26 = .ok (.invokevirtual 122, 3) := by decide +kernel
theorem dX0_findDirty_29 : decode cX0_findDirty 29 = .ok (.astore_n 2, 1) := by decide +kernel
theorem dX0_findDirty_30 : decode cX0_findDirty 30 = .ok (.aload_n 2, 1) := by decide +kernel
theorem dX0_findDirty_31 : decode cX0_findDirty 31 = .ok (.ifnull 44, 3) := by decide +kernel
theorem dX0_findDirty_75 : decode cX0_findDirty 75 = .ok (.iinc 1 1, 3) := by decide +kernel
theorem dX0_findDirty_78 : decode cX0_findDirty 78 = .ok (.goto (-68), 3) := by decide +kernel
theorem dX0_findDirty_34 : decode cX0_findDirty 34 = .ok (.aload_n 0, 1) := by decide +kernel
theorem dX0_findDirty_35 : decode cX0_findDirty 35 = .ok (.aload_n 2, 1) := by decide +kernel
theorem dX0_findDirty_36 : decode cX0_findDirty 36 = .ok (.invokevirtual 58, 3) := by decide +kernel
theorem dX0_findDirty_39 : decode cX0_findDirty 39 = .ok (.ifCond .ne 36, 3) := by decide +kernel
theorem dX0_findDirty_42 : decode cX0_findDirty 42 = .ok (.iconst 0, 1) := by decide +kernel
theorem dX0_findDirty_43 : decode cX0_findDirty 43 = .ok (.istore_n 3, 1) := by decide +kernel
theorem dX0_findDirty_22 : decode cX0_findDirty 22 = .ok (.getfield 80, 3) := by decide +kernel
theorem dX0_findDirty_18 : decode cX0_findDirty 18 = .ok (.if_icmp .ge 63, 3) := by decide +kernel
theorem dX0_findDirty_15 : decode cX0_findDirty 15 = .ok (.getfield 119, 3) := by decide +kernel
theorem dX0_findDirty_12 : decode cX0_findDirty 12 = .ok (.getfield 80, 3) := by decide +kernel
theorem dX0_findDirty_44 : decode cX0_findDirty 44 = .ok (.iload_n 3, 1) := by decide +kernel
theorem dX0_findDirty_45 : decode cX0_findDirty 45 = .ok (.aload_n 2, 1) := by decide +kernel
theorem dX0_findDirty_49 : decode cX0_findDirty 49 = .ok (.iconst 1, 1) := by decide +kernel
theorem dX0_findDirty_50 : decode cX0_findDirty 50 = .ok (.isub, 1) := by decide +kernel
theorem dX0_findDirty_54 : decode cX0_findDirty 54 = .ok (.aload_n 0, 1) := by decide +kernel
theorem dX0_findDirty_55 : decode cX0_findDirty 55 = .ok (.aload_n 2, 1) := by decide +kernel
theorem dX0_findDirty_56 : decode cX0_findDirty 56 = .ok (.iload_n 3, 1) := by decide +kernel
theorem dX0_findDirty_57 : decode cX0_findDirty 57 = .ok (.aload_n 0, 1) := by decide +kernel
theorem dX0_findDirty_61 : decode cX0_findDirty 61 = .ok (.aload_n 2, 1) := by decide +kernel
theorem dX0_findDirty_62 : decode cX0_findDirty 62 = .ok (.iload_n 3, 1) := by decide +kernel
theorem dX0_findDirty_63 : decode cX0_findDirty 63 = .ok (.invokevirtual 140, 3) := by decide +kernel
theorem dX0_findDirty_66 : decode cX0_findDirty 66 = .ok (.invokevirtual 160, 3) := by decide +kernel
theorem dX0_findDirty_69 : decode cX0_findDirty 69 = .ok (.iinc 3 1, 3) := by decide +kernel
theorem dX0_findDirty_72 : decode cX0_findDirty 72 = .ok (.goto (-28), 3) := by decide +kernel
theorem dX0_findDirty_58 : decode cX0_findDirty 58 = .ok (.getfield 80, 3) := by decide +kernel
theorem dX0_findDirty_51 : decode cX0_findDirty 51 = .ok (.if_icmp .ge 24, 3) := by decide +kernel
theorem dX0_findDirty_46 : decode cX0_findDirty 46 = .ok (.getfield 67, 3) := by decide +kernel
theorem dX0_cleanOld_0 : decode cX0_cleanOld 0 = .ok (.aload_n 0, 1) := by decide +kernel
theorem dX0_cleanOld_4 : decode cX0_cleanOld 4 = .ok (.invokevirtual 74, 3) := by decide +kernel
theorem dX0_cleanOld_7 : decode cX0_cleanOld 7 = .ok (.aload_n 0, 1) := by decide +kernel
theorem dX0_cleanOld_11 : decode cX0_cleanOld 11 = .ok (.aload_n 0, 1) := by decide +kernel
theorem dX0_cleanOld_15 : decode cX0_cleanOld 15 = .ok (.invokevirtual 84, 3) := by decide +kernel
theorem dX0_cleanOld_18 : decode cX0_cleanOld 18 = .ok (.aload_n 0, 1) := by decide +kernel
theorem dX0_cleanOld_22 : decode cX0_cleanOld 22 = .ok (.aload_n 0, 1) := by decide +kernel
theorem dX0_cleanOld_26 : decode cX0_cleanOld 26 = .ok (.invokevirtual 90, 3) := by decide +kernel
theorem dX0_cleanOld_29 : decode cX0_cleanOld 29 = .ok (.istore_n 1, 1) := by decide +kernel
theorem dX0_cleanOld_30 : decode cX0_cleanOld 30 = .ok (.aload_n 0, 1) := by decide +kernel
theorem dX0_cleanOld_31 : decode cX0_cleanOld 31 = .ok (.aload_n 0, 1) := by decide +kernel
theorem dX0_cleanOld_32 : decode cX0_cleanOld 32 = .ok (.aload_n 0, 1) := by decide +kernel
theorem dX0_cleanOld_36 : decode cX0_cleanOld 36 = .ok (.invokevirtual 94, 3) := by decide +kernel
theorem dX0_cleanOld_42 : decode cX0_cleanOld 42 = .ok (.aload_n 0, 1) := by decide +kernel
theorem dX0_cleanOld_43 : decode cX0_cleanOld 43 = .ok (.invokevirtual 97, 3) := by decide +kernel
theorem dX0_cleanOld_46 : decode cX0_cleanOld 46 = .ok (.iload_n 1, 1) := by decide +kernel
theorem dX0_cleanOld_47 : decode cX0_cleanOld 47 = .ok (.ireturn, 1) := by decide +kernel
theorem dX0_cleanOld_39 : decode cX0_cleanOld 39 = .ok (.putfield 28, 3) := by decide +kernel
theorem dX0_cleanOld_33 : decode cX0_cleanOld 33 = .ok (.getfield 19, 3) := by decide +kernel
theorem dX0_cleanOld_23 : decode cX0_cleanOld 23 = .ok (.getfield 70, 3) := by decide +kernel
theorem dX0_cleanOld_19 : decode cX0_cleanOld 19 = .ok (.getfield 80, 3) := by decide +kernel
theorem dX0_cleanOld_12 : decode cX0_cleanOld 12 = .ok (.getfield 70, 3) := by decide +kernel
theorem dX0_cleanOld_8 : decode cX0_cleanOld 8 = .ok (.getfield 80, 3) := by decide +kernel
theorem dX0_cleanOld_1 : decode cX0_cleanOld 1 = .ok (.getfield 70, 3) := by decide +kernel
theorem dX0_findOldRoom_0 : decode cX0_findOldRoom 0 = .ok (.aload_n 0, 1) := by decide +kernel
theorem dX0_findOldRoom_4 : decode cX0_findOldRoom 4 = .ok (.iload_n 1, 1) := by decide +kernel
theorem dX0_findOldRoom_5 : decode cX0_findOldRoom 5 = .ok (.iadd, 1) := by decide +kernel
theorem dX0_findOldRoom_6 : decode cX0_findOldRoom 6 = .ok (.aload_n 0, 1) := by decide +kernel
theorem dX0_findOldRoom_18 : decode cX0_findOldRoom 18 = .ok (.aload_n 0, 1) := by decide +kernel
theorem dX0_findOldRoom_22 : decode cX0_findOldRoom 22 = .ok (.iload_n 1, 1) := by decide +kernel
theorem dX0_findOldRoom_23 : decode cX0_findOldRoom 23 = .ok (.iadd, 1) := by decide +kernel
theorem dX0_findOldRoom_24 : decode cX0_findOldRoom 24 = .ok (.aload_n 0, 1) := by decide +kernel
theorem dX0_findOldRoom_35 : decode cX0_findOldRoom 35 = .ok (.aload_n 0, 1) := by decide +kernel
theorem dX0_findOldRoom_39 : decode cX0_findOldRoom 39 = .ok (.ireturn, 1) := by decide +kernel
theorem dX0_findOldRoom_36 : decode cX0_findOldRoom 36 = .ok (.getfield 28, 3) := by decide +kernel
theorem dX0_findOldRoom_31 : decode cX0_findOldRoom 31 = .ok (.iconst (-1), 1) := by decide +kernel
theorem dX0_findOldRoom_32 : decode cX0_findOldRoom 32 = .ok (.goto 7, 3) := by decide +kernel
theorem dX0_findOldRoom_28 : decode cX0_findOldRoom 28 = .ok (.if_icmp .le 7, 3) := by decide +kernel
theorem dX0_findOldRoom_25 : decode cX0_findOldRoom 25 = .ok (.getfield 19, 3) := by decide +kernel
theorem dX0_findOldRoom_19 : decode cX0_findOldRoom 19 = .ok (.getfield 28, 3) := by decide +kernel
theorem dX0_findOldRoom_13 : decode cX0_findOldRoom 13 = .ok (.aload_n 0, 1) := by decide +kernel
theorem dX0_findOldRoom_14 : decode cX0_findOldRoom 14 = .ok (.invokevirtual 55, 3) := by decide +kernel
theorem dX0_findOldRoom_17 : decode cX0_findOldRoom 17 = .ok (.pop, 1) := by decide +kernel
theorem dX0_findOldRoom_10 : decode cX0_findOldRoom 10 = .ok (.if_icmp .le 8, 3) := by decide +kernel
theorem dX0_findOldRoom_7 : decode cX0_findOldRoom 7 = .ok (.getfield 19, 3) := by decide +kernel
theorem dX0_findOldRoom_1 : decode cX0_findOldRoom 1 = .ok (.getfield 28, 3) := by decide +kernel
theorem dX0_wordsGrowingOld_0 : decode cX0_wordsGrowingOld 0 = .ok (.iconst 0, 1) := by decide +kernel
theorem dX0_wordsGrowingOld_1 : decode cX0_wordsGrowingOld 1 = .ok (.istore_n 1, 1) := by decide +kernel
theorem dX0_wordsGrowingOld_2 : decode cX0_wordsGrowingOld 2 = .ok (.iconst 0, 1) := by decide +kernel
theorem dX0_wordsGrowingOld_3 : decode cX0_wordsGrowingOld 3 = .ok (.istore_n 2, 1) := by decide +kernel
theorem dX0_wordsGrowingOld_4 : decode cX0_wordsGrowingOld 4 = .ok (.iload_n 2, 1) := by decide +kernel
theorem dX0_wordsGrowingOld_5 : decode cX0_wordsGrowingOld 5 = .ok (.aload_n 0, 1) := by decide +kernel
theorem dX0_wordsGrowingOld_62 : decode cX0_wordsGrowingOld 62 = .ok (.iload_n 1, 1) := by decide +kernel
theorem dX0_wordsGrowingOld_63 : decode cX0_wordsGrowingOld 63 = .ok (.ireturn, 1) := by decide +kernel
theorem dX0_wordsGrowingOld_15 : decode cX0_wordsGrowingOld 15 = .ok (.aload_n 0, 1) := by decide +kernel
theorem dX0_wordsGrowingOld_19 : decode cX0_wordsGrowingOld 19 = .ok (.iload_n 2, 1) := by decide +kernel
theorem dX0_wordsGrowingOld_20 : decode cX0_wordsGrowingOld 20 = .ok (.invokevirtual 122, 3) := by decide +kernel
theorem dX0_wordsGrowingOld_23 : decode cX0_wordsGrowingOld 23 = .ok (.astore_n 3, 1) := by decide +kernel
theorem dX0_wordsGrowingOld_24 : decode cX0_wordsGrowingOld 24 = .ok (.aload_n 3, 1) := by decide +kernel
theorem dX0_wordsGrowingOld_25 : decode cX0_wordsGrowingOld 25 = .ok (.ifnull 31, 3) := by decide +kernel
theorem dX0_wordsGrowingOld_56 : decode cX0_wordsGrowingOld 56 = .ok (.iinc 2 1, 3) := by decide +kernel
theorem dX0_wordsGrowingOld_59 : decode cX0_wordsGrowingOld 59 = .ok (.goto (-55), 3) := by decide +kernel
theorem dX0_wordsGrowingOld_28 : decode cX0_wordsGrowingOld 28 = .ok (.aload_n 0, 1) := by decide +kernel
theorem dX0_wordsGrowingOld_29 : decode cX0_wordsGrowingOld 29 = .ok (.aload_n 3, 1) := by decide +kernel
theorem dX0_wordsGrowingOld_30 : decode cX0_wordsGrowingOld 30 = .ok (.invokevirtual 58, 3) := by decide +kernel
theorem dX0_wordsGrowingOld_33 : decode cX0_wordsGrowingOld 33 = .ok (.ifCond .eq 23, 3) := by decide +kernel
theorem dX0_wordsGrowingOld_36 : decode cX0_wordsGrowingOld 36 = .ok (.aload_n 3, 1) := by decide +kernel
theorem dX0_wordsGrowingOld_40 : decode cX0_wordsGrowingOld 40 = .ok (.iconst 1, 1) := by decide +kernel
theorem dX0_wordsGrowingOld_41 : decode cX0_wordsGrowingOld 41 = .ok (.iadd, 1) := by decide +kernel
theorem dX0_wordsGrowingOld_42 : decode cX0_wordsGrowingOld 42 = .ok (.aload_n 0, 1) := by decide +kernel
theorem dX0_wordsGrowingOld_49 : decode cX0_wordsGrowingOld 49 = .ok (.iload_n 1, 1) := by decide +kernel
theorem dX0_wordsGrowingOld_50 : decode cX0_wordsGrowingOld 50 = .ok (.aload_n 3, 1) := by decide +kernel
theorem dX0_wordsGrowingOld_54 : decode cX0_wordsGrowingOld 54 = .ok (.iadd, 1) := by decide +kernel
theorem dX0_wordsGrowingOld_55 : decode cX0_wordsGrowingOld 55 = .ok (.istore_n 1, 1) := by decide +kernel
theorem dX0_wordsGrowingOld_51 : decode cX0_wordsGrowingOld 51 = .ok (.getfield 67, 3) := by decide +kernel
theorem dX0_wordsGrowingOld_46 : decode cX0_wordsGrowingOld 46 = .ok (.if_icmp .lt 10, 3) := by decide +kernel
theorem dX0_wordsGrowingOld_43 : decode cX0_wordsGrowingOld 43 = .ok (.getfield 22, 3) := by decide +kernel
theorem dX0_wordsGrowingOld_37 : decode cX0_wordsGrowingOld 37 = .ok (.getfield 126, 3) := by decide +kernel
theorem dX0_wordsGrowingOld_16 : decode cX0_wordsGrowingOld 16 = .ok (.getfield 80, 3) := by decide +kernel
theorem dX0_wordsGrowingOld_12 : decode cX0_wordsGrowingOld 12 = .ok (.if_icmp .ge 50, 3) := by decide +kernel
theorem dX0_wordsGrowingOld_9 : decode cX0_wordsGrowingOld 9 = .ok (.getfield 119, 3) := by decide +kernel
theorem dX0_wordsGrowingOld_6 : decode cX0_wordsGrowingOld 6 = .ok (.getfield 80, 3) := by decide +kernel
theorem dX0_comeFromDirtyWords_0 : decode cX0_comeFromDirtyWords 0 = .ok (.iconst 0, 1) := by decide +kernel
theorem dX0_comeFromDirtyWords_1 : decode cX0_comeFromDirtyWords 1 = .ok (.istore_n 2, 1) := by decide +kernel
theorem dX0_comeFromDirtyWords_2 : decode cX0_comeFromDirtyWords 2 = .ok (.iload_n 2, 1) := by decide +kernel
theorem dX0_comeFromDirtyWords_3 : decode cX0_comeFromDirtyWords 3 = .ok (.aload_n 1, 1) := by decide +kernel
theorem dX0_comeFromDirtyWords_7 : decode cX0_comeFromDirtyWords 7 = .ok (.iconst 1, 1) := by decide +kernel
theorem dX0_comeFromDirtyWords_8 : decode cX0_comeFromDirtyWords 8 = .ok (.isub, 1) := by decide +kernel
theorem dX0_comeFromDirtyWords_61 : decode cX0_comeFromDirtyWords 61 = .ok (.return_, 1) := by decide +kernel
theorem dX0_comeFromDirtyWords_12 : decode cX0_comeFromDirtyWords 12 = .ok (.aload_n 0, 1) := by decide +kernel
theorem dX0_comeFromDirtyWords_13 : decode cX0_comeFromDirtyWords 13 = .ok (.aload_n 1, 1) := by decide +kernel
theorem dX0_comeFromDirtyWords_14 : decode cX0_comeFromDirtyWords 14 = .ok (.iload_n 2, 1) := by decide +kernel
theorem dX0_comeFromDirtyWords_15 : decode cX0_comeFromDirtyWords 15 = .ok (.invokevirtual 136, 3) := by decide +kernel
theorem dX0_comeFromDirtyWords_18 : decode cX0_comeFromDirtyWords 18 = .ok (.istore_n 3, 1) := by decide +kernel
theorem dX0_comeFromDirtyWords_19 : decode cX0_comeFromDirtyWords 19 = .ok (.iload_n 3, 1) := by decide +kernel
theorem dX0_comeFromDirtyWords_20 : decode cX0_comeFromDirtyWords 20 = .ok (.ifCond .lt 35, 3) := by decide +kernel
theorem dX0_comeFromDirtyWords_55 : decode cX0_comeFromDirtyWords 55 = .ok (.iinc 2 1, 3) := by decide +kernel
theorem dX0_comeFromDirtyWords_58 : decode cX0_comeFromDirtyWords 58 = .ok (.goto (-56), 3) := by decide +kernel
theorem dX0_comeFromDirtyWords_23 : decode cX0_comeFromDirtyWords 23 = .ok (.iload_n 3, 1) := by decide +kernel
theorem dX0_comeFromDirtyWords_24 : decode cX0_comeFromDirtyWords 24 = .ok (.sipush 375, 3) := by decide +kernel
theorem dX0_comeFromDirtyWords_30 : decode cX0_comeFromDirtyWords 30 = .ok (.aload_n 0, 1) := by decide +kernel
theorem dX0_comeFromDirtyWords_34 : decode cX0_comeFromDirtyWords 34 = .ok (.iload_n 3, 1) := by decide +kernel
theorem dX0_comeFromDirtyWords_39 : decode cX0_comeFromDirtyWords 39 = .ok (.aload_n 0, 1) := by decide +kernel
theorem dX0_comeFromDirtyWords_43 : decode cX0_comeFromDirtyWords 43 = .ok (.aload_n 0, 1) := by decide +kernel
theorem dX0_comeFromDirtyWords_47 : decode cX0_comeFromDirtyWords 47 = .ok (.aload_n 1, 1) := by decide +kernel
theorem dX0_comeFromDirtyWords_48 : decode cX0_comeFromDirtyWords 48 = .ok (.iload_n 2, 1) := by decide +kernel
theorem dX0_comeFromDirtyWords_49 : decode cX0_comeFromDirtyWords 49 = .ok (.invokevirtual 140, 3) := by decide +kernel
theorem dX0_comeFromDirtyWords_52 : decode cX0_comeFromDirtyWords 52 = .ok (.invokevirtual 144, 3) := by decide +kernel
theorem dX0_comeFromDirtyWords_44 : decode cX0_comeFromDirtyWords 44 = .ok (.getfield 80, 3) := by decide +kernel
theorem dX0_comeFromDirtyWords_40 : decode cX0_comeFromDirtyWords 40 = .ok (.getfield 70, 3) := by decide +kernel
theorem dX0_comeFromDirtyWords_36 : decode cX0_comeFromDirtyWords 36 = .ok (.ifCond .eq 19, 3) := by decide +kernel
theorem dX0_comeFromDirtyWords_35 : decode cX0_comeFromDirtyWords 35 = .ok (.iaload, 1) := by decide +kernel
theorem dX0_comeFromDirtyWords_31 : decode cX0_comeFromDirtyWords 31 = .ok (.getfield 9, 3) := by decide +kernel
theorem dX0_comeFromDirtyWords_27 : decode cX0_comeFromDirtyWords 27 = .ok (.if_icmp .ge 28, 3) := by decide +kernel
theorem dX0_comeFromDirtyWords_9 : decode cX0_comeFromDirtyWords 9 = .ok (.if_icmp .ge 52, 3) := by decide +kernel
theorem dX0_comeFromDirtyWords_4 : decode cX0_comeFromDirtyWords 4 = .ok (.getfield 67, 3) := by decide +kernel
theorem dX0_comeFromDirty_0 : decode cX0_comeFromDirty 0 = .ok (.iconst 0, 1) := by decide +kernel
theorem dX0_comeFromDirty_1 : decode cX0_comeFromDirty 1 = .ok (.istore_n 1, 1) := by decide +kernel
theorem dX0_comeFromDirty_2 : decode cX0_comeFromDirty 2 = .ok (.iload_n 1, 1) := by decide +kernel
theorem dX0_comeFromDirty_3 : decode cX0_comeFromDirty 3 = .ok (.aload_n 0, 1) := by decide +kernel
theorem dX0_comeFromDirty_44 : decode cX0_comeFromDirty 44 = .ok (.return_, 1) := by decide +kernel
theorem dX0_comeFromDirty_10 : decode cX0_comeFromDirty 10 = .ok (.aload_n 0, 1) := by decide +kernel
theorem dX0_comeFromDirty_14 : decode cX0_comeFromDirty 14 = .ok (.iload_n 1, 1) := by decide +kernel
theorem dX0_comeFromDirty_15 : decode cX0_comeFromDirty 15 = .ok (.invokevirtual 129, 3) := by decide +kernel
theorem dX0_comeFromDirty_18 : decode cX0_comeFromDirty 18 = .ok (.astore_n 2, 1) := by decide +kernel
theorem dX0_comeFromDirty_19 : decode cX0_comeFromDirty 19 = .ok (.aload_n 2, 1) := by decide +kernel
theorem dX0_comeFromDirty_20 : decode cX0_comeFromDirty 20 = .ok (.ifnonnull 9, 3) := by decide +kernel
theorem dX0_comeFromDirty_23 : decode cX0_comeFromDirty 23 = .ok (.iinc 1 1, 3) := by decide +kernel
theorem dX0_comeFromDirty_26 : decode cX0_comeFromDirty 26 = .ok (.goto 15, 3) := by decide +kernel
theorem dX0_comeFromDirty_41 : decode cX0_comeFromDirty 41 = .ok (.goto (-39), 3) := by decide +kernel
theorem dX0_comeFromDirty_29 : decode cX0_comeFromDirty 29 = .ok (.iload_n 1, 1) := by decide +kernel
theorem dX0_comeFromDirty_30 : decode cX0_comeFromDirty 30 = .ok (.aload_n 2, 1) := by decide +kernel
theorem dX0_comeFromDirty_34 : decode cX0_comeFromDirty 34 = .ok (.iadd, 1) := by decide +kernel
theorem dX0_comeFromDirty_35 : decode cX0_comeFromDirty 35 = .ok (.istore_n 1, 1) := by decide +kernel
theorem dX0_comeFromDirty_36 : decode cX0_comeFromDirty 36 = .ok (.aload_n 0, 1) := by decide +kernel
theorem dX0_comeFromDirty_37 : decode cX0_comeFromDirty 37 = .ok (.aload_n 2, 1) := by decide +kernel
theorem dX0_comeFromDirty_38 : decode cX0_comeFromDirty 38 = .ok (.invokevirtual 132, 3) := by decide +kernel
theorem dX0_comeFromDirty_31 : decode cX0_comeFromDirty 31 = .ok (.getfield 67, 3) := by decide +kernel
theorem dX0_comeFromDirty_11 : decode cX0_comeFromDirty 11 = .ok (.getfield 80, 3) := by decide +kernel
theorem dX0_comeFromDirty_7 : decode cX0_comeFromDirty 7 = .ok (.if_icmp .ge 37, 3) := by decide +kernel
theorem dX0_comeFromDirty_4 : decode cX0_comeFromDirty 4 = .ok (.getfield 28, 3) := by decide +kernel
theorem dX0_moveKept_0 : decode cX0_moveKept 0 = .ok (.aload_n 0, 1) := by decide +kernel
theorem dX0_moveKept_1 : decode cX0_moveKept 1 = .ok (.aload_n 0, 1) := by decide +kernel
theorem dX0_moveKept_5 : decode cX0_moveKept 5 = .ok (.aload_n 0, 1) := by decide +kernel
theorem dX0_moveKept_9 : decode cX0_moveKept 9 = .ok (.iadd, 1) := by decide +kernel
theorem dX0_moveKept_10 : decode cX0_moveKept 10 = .ok (.aload_n 0, 1) := by decide +kernel
theorem dX0_moveKept_14 : decode cX0_moveKept 14 = .ok (.iadd, 1) := by decide +kernel
theorem dX0_moveKept_15 : decode cX0_moveKept 15 = .ok (.aload_n 0, 1) := by decide +kernel
theorem dX0_moveKept_19 : decode cX0_moveKept 19 = .ok (.isub, 1) := by decide +kernel
theorem dX0_moveKept_23 : decode cX0_moveKept 23 = .ok (.aload_n 0, 1) := by decide +kernel
theorem dX0_moveKept_24 : decode cX0_moveKept 24 = .ok (.aload_n 0, 1) := by decide +kernel
theorem dX0_moveKept_31 : decode cX0_moveKept 31 = .ok (.iconst 0, 1) := by decide +kernel
theorem dX0_moveKept_32 : decode cX0_moveKept 32 = .ok (.istore_n 1, 1) := by decide +kernel
theorem dX0_moveKept_28 : decode cX0_moveKept 28 = .ok (.putfield 34, 3) := by decide +kernel
theorem dX0_moveKept_25 : decode cX0_moveKept 25 = .ok (.getfield 31, 3) := by decide +kernel
theorem dX0_moveKept_20 : decode cX0_moveKept 20 = .ok (.putfield 31, 3) := by decide +kernel
theorem dX0_moveKept_16 : decode cX0_moveKept 16 = .ok (.getfield 31, 3) := by decide +kernel
theorem dX0_moveKept_11 : decode cX0_moveKept 11 = .ok (.getfield 19, 3) := by decide +kernel
theorem dX0_moveKept_6 : decode cX0_moveKept 6 = .ok (.getfield 15, 3) := by decide +kernel
theorem dX0_moveKept_2 : decode cX0_moveKept 2 = .ok (.getfield 19, 3) := by decide +kernel
theorem dX0_moveKept_33 : decode cX0_moveKept 33 = .ok (.iload_n 1, 1) := by decide +kernel
theorem dX0_moveKept_34 : decode cX0_moveKept 34 = .ok (.aload_n 0, 1) := by decide +kernel
theorem dX0_moveKept_68 : decode cX0_moveKept 68 = .ok (.return_, 1) := by decide +kernel
theorem dX0_moveKept_44 : decode cX0_moveKept 44 = .ok (.aload_n 0, 1) := by decide +kernel
theorem dX0_moveKept_48 : decode cX0_moveKept 48 = .ok (.iload_n 1, 1) := by decide +kernel
theorem dX0_moveKept_49 : decode cX0_moveKept 49 = .ok (.invokevirtual 150, 3) := by decide +kernel
theorem dX0_moveKept_52 : decode cX0_moveKept 52 = .ok (.astore_n 2, 1) := by decide +kernel
theorem dX0_moveKept_53 : decode cX0_moveKept 53 = .ok (.aload_n 2, 1) := by decide +kernel
theorem dX0_moveKept_62 : decode cX0_moveKept 62 = .ok (.iinc 1 1, 3) := by decide +kernel
theorem dX0_moveKept_65 : decode cX0_moveKept 65 = .ok (.goto (-32), 3) := by decide +kernel
theorem dX0_moveKept_57 : decode cX0_moveKept 57 = .ok (.aload_n 0, 1) := by decide +kernel
theorem dX0_moveKept_58 : decode cX0_moveKept 58 = .ok (.aload_n 2, 1) := by decide +kernel
theorem dX0_moveKept_59 : decode cX0_moveKept 59 = .ok (.invokevirtual 153, 3) := by decide +kernel
theorem dX0_moveOlder_0 : decode cX0_moveOlder 0 = .ok (.aload_n 1, 1) := by decide +kernel
theorem dX0_moveOlder_1 : decode cX0_moveOlder 1 = .ok (.dup, 1) := by decide +kernel
theorem dX0_moveOlder_5 : decode cX0_moveOlder 5 = .ok (.iconst 1, 1) := by decide +kernel
theorem dX0_moveOlder_6 : decode cX0_moveOlder 6 = .ok (.iadd, 1) := by decide +kernel
theorem dX0_moveOlder_10 : decode cX0_moveOlder 10 = .ok (.aload_n 1, 1) := by decide +kernel
theorem dX0_moveOlder_14 : decode cX0_moveOlder 14 = .ok (.aload_n 0, 1) := by decide +kernel
theorem dX0_moveOlder_49 : decode cX0_moveOlder 49 = .ok (.aload_n 0, 1) := by decide +kernel
theorem dX0_moveOlder_53 : decode cX0_moveOlder 53 = .ok (.aload_n 1, 1) := by decide +kernel
theorem dX0_moveOlder_54 : decode cX0_moveOlder 54 = .ok (.aload_n 0, 1) := by decide +kernel
theorem dX0_moveOlder_58 : decode cX0_moveOlder 58 = .ok (.invokevirtual 156, 3) := by decide +kernel
theorem dX0_moveOlder_61 : decode cX0_moveOlder 61 = .ok (.aload_n 0, 1) := by decide +kernel
theorem dX0_moveOlder_62 : decode cX0_moveOlder 62 = .ok (.dup, 1) := by decide +kernel
theorem dX0_moveOlder_66 : decode cX0_moveOlder 66 = .ok (.aload_n 1, 1) := by decide +kernel
theorem dX0_moveOlder_70 : decode cX0_moveOlder 70 = .ok (.iadd, 1) := by decide +kernel
theorem dX0_moveOlder_74 : decode cX0_moveOlder 74 = .ok (.return_, 1) := by decide +kernel
theorem dX0_moveOlder_71 : decode cX0_moveOlder 71 = .ok (.putfield 34, 3) := by decide +kernel
theorem dX0_moveOlder_67 : decode cX0_moveOlder 67 = .ok (.getfield 67, 3) := by decide +kernel
theorem dX0_moveOlder_63 : decode cX0_moveOlder 63 = .ok (.getfield 34, 3) := by decide +kernel
theorem dX0_moveOlder_55 : decode cX0_moveOlder 55 = .ok (.getfield 34, 3) := by decide +kernel
theorem dX0_moveOlder_50 : decode cX0_moveOlder 50 = .ok (.getfield 80, 3) := by decide +kernel
theorem dX0_moveOlder_21 : decode cX0_moveOlder 21 = .ok (.aload_n 0, 1) := by decide +kernel
theorem dX0_moveOlder_25 : decode cX0_moveOlder 25 = .ok (.aload_n 1, 1) := by decide +kernel
theorem dX0_moveOlder_26 : decode cX0_moveOlder 26 = .ok (.aload_n 0, 1) := by decide +kernel
theorem dX0_moveOlder_30 : decode cX0_moveOlder 30 = .ok (.invokevirtual 156, 3) := by decide +kernel
theorem dX0_moveOlder_33 : decode cX0_moveOlder 33 = .ok (.aload_n 0, 1) := by decide +kernel
theorem dX0_moveOlder_34 : decode cX0_moveOlder 34 = .ok (.dup, 1) := by decide +kernel
theorem dX0_moveOlder_38 : decode cX0_moveOlder 38 = .ok (.aload_n 1, 1) := by decide +kernel
theorem dX0_moveOlder_42 : decode cX0_moveOlder 42 = .ok (.iadd, 1) := by decide +kernel
theorem dX0_moveOlder_46 : decode cX0_moveOlder 46 = .ok (.goto 28, 3) := by decide +kernel
theorem dX0_moveOlder_43 : decode cX0_moveOlder 43 = .ok (.putfield 28, 3) := by decide +kernel
theorem dX0_moveOlder_39 : decode cX0_moveOlder 39 = .ok (.getfield 67, 3) := by decide +kernel
theorem dX0_moveOlder_35 : decode cX0_moveOlder 35 = .ok (.getfield 28, 3) := by decide +kernel
theorem dX0_moveOlder_27 : decode cX0_moveOlder 27 = .ok (.getfield 28, 3) := by decide +kernel
theorem dX0_moveOlder_22 : decode cX0_moveOlder 22 = .ok (.getfield 80, 3) := by decide +kernel
theorem dX0_moveOlder_18 : decode cX0_moveOlder 18 = .ok (.if_icmp .lt 31, 3) := by decide +kernel
theorem dX0_moveOlder_15 : decode cX0_moveOlder 15 = .ok (.getfield 22, 3) := by decide +kernel
theorem dX0_moveOlder_11 : decode cX0_moveOlder 11 = .ok (.getfield 126, 3) := by decide +kernel
theorem dX0_moveOlder_7 : decode cX0_moveOlder 7 = .ok (.putfield 126, 3) := by decide +kernel
theorem dX0_moveOlder_2 : decode cX0_moveOlder 2 = .ok (.getfield 126, 3) := by decide +kernel
theorem dX0_moveKept_54 : decode cX0_moveKept 54 = .ok (.ifnull 8, 3) := by decide +kernel
theorem dX0_moveKept_45 : decode cX0_moveKept 45 = .ok (.getfield 70, 3) := by decide +kernel
theorem dX0_moveKept_41 : decode cX0_moveKept 41 = .ok (.if_icmp .ge 27, 3) := by decide +kernel
theorem dX0_moveKept_38 : decode cX0_moveKept 38 = .ok (.getfield 147, 3) := by decide +kernel
theorem dX0_moveKept_35 : decode cX0_moveKept 35 = .ok (.getfield 70, 3) := by decide +kernel
theorem dX0_cleanYoung_0 : decode cX0_cleanYoung 0 = .ok (.iconst 0, 1) := by decide +kernel
theorem dX0_cleanYoung_1 : decode cX0_cleanYoung 1 = .ok (.istore_n 1, 1) := by decide +kernel
theorem dX0_cleanYoung_2 : decode cX0_cleanYoung 2 = .ok (.aload_n 0, 1) := by decide +kernel
theorem dX0_cleanYoung_6 : decode cX0_cleanYoung 6 = .ok (.aload_n 0, 1) := by decide +kernel
theorem dX0_cleanYoung_7 : decode cX0_cleanYoung 7 = .ok (.invokevirtual 100, 3) := by decide +kernel
theorem dX0_cleanYoung_10 : decode cX0_cleanYoung 10 = .ok (.iadd, 1) := by decide +kernel
theorem dX0_cleanYoung_11 : decode cX0_cleanYoung 11 = .ok (.aload_n 0, 1) := by decide +kernel
theorem dX0_cleanYoung_23 : decode cX0_cleanYoung 23 = .ok (.aload_n 0, 1) := by decide +kernel
theorem dX0_cleanYoung_27 : decode cX0_cleanYoung 27 = .ok (.aload_n 0, 1) := by decide +kernel
theorem dX0_cleanYoung_28 : decode cX0_cleanYoung 28 = .ok (.invokevirtual 100, 3) := by decide +kernel
theorem dX0_cleanYoung_31 : decode cX0_cleanYoung 31 = .ok (.iadd, 1) := by decide +kernel
theorem dX0_cleanYoung_32 : decode cX0_cleanYoung 32 = .ok (.aload_n 0, 1) := by decide +kernel
theorem dX0_cleanYoung_41 : decode cX0_cleanYoung 41 = .ok (.aload_n 0, 1) := by decide +kernel
theorem dX0_cleanYoung_45 : decode cX0_cleanYoung 45 = .ok (.aload_n 0, 1) := by decide +kernel
theorem dX0_cleanYoung_49 : decode cX0_cleanYoung 49 = .ok (.invokevirtual 103, 3) := by decide +kernel
theorem dX0_cleanYoung_52 : decode cX0_cleanYoung 52 = .ok (.aload_n 0, 1) := by decide +kernel
theorem dX0_cleanYoung_56 : decode cX0_cleanYoung 56 = .ok (.invokevirtual 107, 3) := by decide +kernel
theorem dX0_cleanYoung_59 : decode cX0_cleanYoung 59 = .ok (.aload_n 0, 1) := by decide +kernel
theorem dX0_cleanYoung_60 : decode cX0_cleanYoung 60 = .ok (.invokevirtual 110, 3) := by decide +kernel
theorem dX0_cleanYoung_63 : decode cX0_cleanYoung 63 = .ok (.aload_n 0, 1) := by decide +kernel
theorem dX0_cleanYoung_67 : decode cX0_cleanYoung 67 = .ok (.sipush 512, 3) := by decide +kernel
theorem dX0_cleanYoung_70 : decode cX0_cleanYoung 70 = .ok (.invokevirtual 113, 3) := by decide +kernel
theorem dX0_cleanYoung_73 : decode cX0_cleanYoung 73 = .ok (.pop, 1) := by decide +kernel
theorem dX0_cleanYoung_74 : decode cX0_cleanYoung 74 = .ok (.aload_n 0, 1) := by decide +kernel
theorem dX0_cleanYoung_78 : decode cX0_cleanYoung 78 = .ok (.aload_n 0, 1) := by decide +kernel
theorem dX0_cleanYoung_82 : decode cX0_cleanYoung 82 = .ok (.invokevirtual 84, 3) := by decide +kernel
theorem dX0_cleanYoung_85 : decode cX0_cleanYoung 85 = .ok (.iload_n 1, 1) := by decide +kernel
theorem dX0_cleanYoung_86 : decode cX0_cleanYoung 86 = .ok (.aload_n 0, 1) := by decide +kernel
theorem dX0_cleanYoung_90 : decode cX0_cleanYoung 90 = .ok (.aload_n 0, 1) := by decide +kernel
theorem dX0_cleanYoung_94 : decode cX0_cleanYoung 94 = .ok (.invokevirtual 90, 3) := by decide +kernel
theorem dX0_cleanYoung_97 : decode cX0_cleanYoung 97 = .ok (.iadd, 1) := by decide +kernel
theorem dX0_cleanYoung_98 : decode cX0_cleanYoung 98 = .ok (.istore_n 1, 1) := by decide +kernel
theorem dX0_cleanYoung_99 : decode cX0_cleanYoung 99 = .ok (.aload_n 0, 1) := by decide +kernel
theorem dX0_cleanYoung_100 : decode cX0_cleanYoung 100 = .ok (.invokevirtual 116, 3) := by decide +kernel
theorem dX0_cleanYoung_103 : decode cX0_cleanYoung 103 = .ok (.aload_n 0, 1) := by decide +kernel
theorem dX0_cleanYoung_104 : decode cX0_cleanYoung 104 = .ok (.invokevirtual 97, 3) := by decide +kernel
theorem dX0_cleanYoung_107 : decode cX0_cleanYoung 107 = .ok (.iload_n 1, 1) := by decide +kernel
theorem dX0_cleanYoung_108 : decode cX0_cleanYoung 108 = .ok (.ireturn, 1) := by decide +kernel
theorem dX0_cleanYoung_91 : decode cX0_cleanYoung 91 = .ok (.getfield 70, 3) := by decide +kernel
theorem dX0_cleanYoung_87 : decode cX0_cleanYoung 87 = .ok (.getfield 80, 3) := by decide +kernel
theorem dX0_cleanYoung_79 : decode cX0_cleanYoung 79 = .ok (.getfield 70, 3) := by decide +kernel
theorem dX0_cleanYoung_75 : decode cX0_cleanYoung 75 = .ok (.getfield 80, 3) := by decide +kernel
theorem dX0_cleanYoung_64 : decode cX0_cleanYoung 64 = .ok (.getfield 70, 3) := by decide +kernel
theorem dX0_cleanYoung_53 : decode cX0_cleanYoung 53 = .ok (.getfield 70, 3) := by decide +kernel
theorem dX0_cleanYoung_46 : decode cX0_cleanYoung 46 = .ok (.getfield 19, 3) := by decide +kernel
theorem dX0_cleanYoung_42 : decode cX0_cleanYoung 42 = .ok (.getfield 70, 3) := by decide +kernel
theorem dX0_cleanYoung_39 : decode cX0_cleanYoung 39 = .ok (.iload_n 1, 1) := by decide +kernel
theorem dX0_cleanYoung_40 : decode cX0_cleanYoung 40 = .ok (.ireturn, 1) := by decide +kernel
theorem dX0_cleanYoung_36 : decode cX0_cleanYoung 36 = .ok (.if_icmp .le 5, 3) := by decide +kernel
theorem dX0_cleanYoung_33 : decode cX0_cleanYoung 33 = .ok (.getfield 19, 3) := by decide +kernel
theorem dX0_cleanYoung_24 : decode cX0_cleanYoung 24 = .ok (.getfield 28, 3) := by decide +kernel
theorem dX0_cleanYoung_18 : decode cX0_cleanYoung 18 = .ok (.aload_n 0, 1) := by decide +kernel
theorem dX0_cleanYoung_19 : decode cX0_cleanYoung 19 = .ok (.invokevirtual 55, 3) := by decide +kernel
theorem dX0_cleanYoung_22 : decode cX0_cleanYoung 22 = .ok (.istore_n 1, 1) := by decide +kernel
theorem dX0_cleanYoung_15 : decode cX0_cleanYoung 15 = .ok (.if_icmp .le 8, 3) := by decide +kernel
theorem dX0_cleanYoung_12 : decode cX0_cleanYoung 12 = .ok (.getfield 19, 3) := by decide +kernel
theorem dX0_cleanYoung_3 : decode cX0_cleanYoung 3 = .ok (.getfield 28, 3) := by decide +kernel
theorem dX0_cleanAll_0 : decode cX0_cleanAll 0 = .ok (.aload_n 0, 1) := by decide +kernel
theorem dX0_cleanAll_1 : decode cX0_cleanAll 1 = .ok (.invokevirtual 55, 3) := by decide +kernel
theorem dX0_cleanAll_4 : decode cX0_cleanAll 4 = .ok (.istore_n 1, 1) := by decide +kernel
theorem dX0_cleanAll_5 : decode cX0_cleanAll 5 = .ok (.iload_n 1, 1) := by decide +kernel
theorem dX0_cleanAll_6 : decode cX0_cleanAll 6 = .ok (.aload_n 0, 1) := by decide +kernel
theorem dX0_cleanAll_7 : decode cX0_cleanAll 7 = .ok (.invokevirtual 51, 3) := by decide +kernel
theorem dX0_cleanAll_10 : decode cX0_cleanAll 10 = .ok (.iadd, 1) := by decide +kernel
theorem dX0_cleanAll_11 : decode cX0_cleanAll 11 = .ok (.ireturn, 1) := by decide +kernel
theorem dX0_findRoom_0 : decode cX0_findRoom 0 = .ok (.iload_n 1, 1) := by decide +kernel
theorem dX0_findRoom_1 : decode cX0_findRoom 1 = .ok (.aload_n 0, 1) := by decide +kernel
theorem dX0_findRoom_5 : decode cX0_findRoom 5 = .ok (.iconst 2, 1) := by decide +kernel
theorem dX0_findRoom_6 : decode cX0_findRoom 6 = .ok (.idiv, 1) := by decide +kernel
theorem dX0_findRoom_16 : decode cX0_findRoom 16 = .ok (.aload_n 0, 1) := by decide +kernel
theorem dX0_findRoom_17 : decode cX0_findRoom 17 = .ok (.iload_n 1, 1) := by decide +kernel
theorem dX0_findRoom_18 : decode cX0_findRoom 18 = .ok (.invokevirtual 47, 3) := by decide +kernel
theorem dX0_hasYoungRoom_0 : decode cX0_hasYoungRoom 0 = .ok (.aload_n 0, 1) := by decide +kernel
theorem dX0_hasYoungRoom_4 : decode cX0_hasYoungRoom 4 = .ok (.iload_n 1, 1) := by decide +kernel
theorem dX0_hasYoungRoom_5 : decode cX0_hasYoungRoom 5 = .ok (.iadd, 1) := by decide +kernel
theorem dX0_hasYoungRoom_6 : decode cX0_hasYoungRoom 6 = .ok (.aload_n 0, 1) := by decide +kernel
theorem dX0_hasYoungRoom_10 : decode cX0_hasYoungRoom 10 = .ok (.aload_n 0, 1) := by decide +kernel
theorem dX0_hasYoungRoom_14 : decode cX0_hasYoungRoom 14 = .ok (.iadd, 1) := by decide +kernel
theorem dX0_hasYoungRoom_22 : decode cX0_hasYoungRoom 22 = .ok (.iconst 0, 1) := by decide +kernel
theorem dX0_findRoom_21 : decode cX0_findRoom 21 = .ok (.ifCond .ne 8, 3) := by decide +kernel
theorem dX0_findRoom_24 : decode cX0_findRoom 24 = .ok (.aload_n 0, 1) := by decide +kernel
theorem dX0_findRoom_25 : decode cX0_findRoom 25 = .ok (.invokevirtual 51, 3) := by decide +kernel
theorem dX0_findRoom_28 : decode cX0_findRoom 28 = .ok (.pop, 1) := by decide +kernel
theorem dX0_findRoom_29 : decode cX0_findRoom 29 = .ok (.aload_n 0, 1) := by decide +kernel
theorem dX0_findRoom_30 : decode cX0_findRoom 30 = .ok (.iload_n 1, 1) := by decide +kernel
theorem dX0_findRoom_31 : decode cX0_findRoom 31 = .ok (.invokevirtual 47, 3) := by decide +kernel
theorem dX0_findRoom_34 : decode cX0_findRoom 34 = .ok (.ifCond .ne 13, 3) := by decide +kernel
theorem dX0_findRoom_37 : decode cX0_findRoom 37 = .ok (.aload_n 0, 1) := by decide +kernel
theorem dX0_findRoom_38 : decode cX0_findRoom 38 = .ok (.invokevirtual 55, 3) := by decide +kernel
theorem dX0_findRoom_41 : decode cX0_findRoom 41 = .ok (.pop, 1) := by decide +kernel
theorem dX0_findRoom_42 : decode cX0_findRoom 42 = .ok (.aload_n 0, 1) := by decide +kernel
theorem dX0_findRoom_43 : decode cX0_findRoom 43 = .ok (.invokevirtual 51, 3) := by decide +kernel
theorem dX0_findRoom_46 : decode cX0_findRoom 46 = .ok (.pop, 1) := by decide +kernel
theorem dX0_findRoom_47 : decode cX0_findRoom 47 = .ok (.aload_n 0, 1) := by decide +kernel
theorem dX0_findRoom_48 : decode cX0_findRoom 48 = .ok (.iload_n 1, 1) := by decide +kernel
theorem dX0_findRoom_49 : decode cX0_findRoom 49 = .ok (.invokevirtual 47, 3) := by decide +kernel
theorem dX0_findRoom_52 : decode cX0_findRoom 52 = .ok (.ifCond .eq 10, 3) := by decide +kernel
theorem dX0_findRoom_62 : decode cX0_findRoom 62 = .ok (.iconst (-1), 1) := by decide +kernel
theorem dX0_findRoom_63 : decode cX0_findRoom 63 = .ok (.ireturn, 1) := by decide +kernel
theorem dX0_hasYoungRoom_23 : decode cX0_hasYoungRoom 23 = .ok (.ireturn, 1) := by decide +kernel
theorem dX0_hasYoungRoom_18 : decode cX0_hasYoungRoom 18 = .ok (.iconst 1, 1) := by decide +kernel
theorem dX0_hasYoungRoom_19 : decode cX0_hasYoungRoom 19 = .ok (.goto 4, 3) := by decide +kernel
theorem dX0_findRoom_55 : decode cX0_findRoom 55 = .ok (.aload_n 0, 1) := by decide +kernel
theorem dX0_findRoom_59 : decode cX0_findRoom 59 = .ok (.goto 4, 3) := by decide +kernel
theorem dX0_findRoom_56 : decode cX0_findRoom 56 = .ok (.getfield 34, 3) := by decide +kernel
theorem dX0_hasYoungRoom_15 : decode cX0_hasYoungRoom 15 = .ok (.if_icmp .gt 7, 3) := by decide +kernel
theorem dX0_hasYoungRoom_11 : decode cX0_hasYoungRoom 11 = .ok (.getfield 15, 3) := by decide +kernel
theorem dX0_hasYoungRoom_7 : decode cX0_hasYoungRoom 7 = .ok (.getfield 31, 3) := by decide +kernel
theorem dX0_hasYoungRoom_1 : decode cX0_hasYoungRoom 1 = .ok (.getfield 34, 3) := by decide +kernel
theorem dX0_findRoom_10 : decode cX0_findRoom 10 = .ok (.aload_n 0, 1) := by decide +kernel
theorem dX0_findRoom_11 : decode cX0_findRoom 11 = .ok (.iload_n 1, 1) := by decide +kernel
theorem dX0_findRoom_12 : decode cX0_findRoom 12 = .ok (.invokevirtual 43, 3) := by decide +kernel
theorem dX0_findRoom_15 : decode cX0_findRoom 15 = .ok (.ireturn, 1) := by decide +kernel
theorem dX0_findRoom_7 : decode cX0_findRoom 7 = .ok (.if_icmp .le 9, 3) := by decide +kernel
theorem dX0_findRoom_2 : decode cX0_findRoom 2 = .ok (.getfield 15, 3) := by decide +kernel

/-! from 93.b10 -/
/-! collectors, by what they keep (written by wip/tools/gen93b.py) -/
theorem zp_th {S : ma_S} {c₉ k₉ c k : Nat} {x : Int32} (hc : 126 ≤ c₉) (h : c < 126) : (mI (ma_put S c₉ k₉ (.inl x)) c k).toInt = (mI S c k).toInt := by
  have : mI (ma_put S c₉ k₉ (.inl x)) c k = mI S c k := if_neg (fun z => by omega)
  rw [this]
/-! from 94.0m -/
/-! THE REFERENCE, over its ints alone: its runs change nothing else -/
def zst (S : ma_S) (m : Nat → Nat → Int32) : ma_S := (S.1, S.2.1, S.2.2.1, S.2.2.2.1, m, S.2.2.2.2.2.1, S.2.2.2.2.2.2)
theorem zT_zst {S : ma_S} (h : zT S) (m : Nat → Nat → Int32) : zT (zst S m) := h
/-- from here the run of that method of the reference answers, and P holds of the answer and of its ints -/
def zm (X : Nat × (Nat → Int32)) (D W M pc : Nat) (L : ma_L) (m : Nat → Nat → Int32) (P : Option ma_V → (Nat → Nat → Int32) → Prop) : Prop :=
  ∀ (d w : Nat) (S : ma_S) (Q : Option ma_V ⊕ Nat → ma_S → Prop), D ≤ d → W ≤ w → zT S → mI S = m → (∀ v m₉, P v m₉ → Q (.inl v) (zst S m₉)) → ma_wp X d w M pc L [] S Q
def zmi (K : Int32 → (Nat → Nat → Int32) → Prop) : Option ma_V → (Nat → Nat → Int32) → Prop := fun o m => match o with
  | some (.inl v) => K v m
  | _ => False
def zmv (K : (Nat → Nat → Int32) → Prop) : Option ma_V → (Nat → Nat → Int32) → Prop := fun o m => match o with
  | none => K m
  | _ => False
theorem zmi_n {K : Int32 → (Nat → Nat → Int32) → Prop} {v : Int32} {m : Nat → Nat → Int32} (h : K v m) : zmi K (some (.inl v)) m := h
theorem zmv_n {K : (Nat → Nat → Int32) → Prop} {m : Nat → Nat → Int32} (h : K m) : zmv K none m := h
theorem zmi_of {K : Int32 → (Nat → Nat → Int32) → Prop} {o : Option ma_V} {m : Nat → Nat → Int32} (z : zmi K o m) : ∃ v, o = some (.inl v) ∧ K v m := by
  rcases o with _ | v
  · exact z.elim
  · rcases v with v | v
    · exact ⟨v, rfl, z⟩
    · exact z.elim
theorem zmv_of {K : (Nat → Nat → Int32) → Prop} {o : Option ma_V} {m : Nat → Nat → Int32} (z : zmv K o m) : o = none ∧ K m := by
  rcases o with _ | v
  · exact ⟨rfl, z⟩
  · exact z.elim
/-- the cells that may have changed -/
def zov (wr : Nat → Nat → Bool) (m m₉ : Nat → Nat → Int32) : Nat → Nat → Int32 := fun c k => cond (wr c k) (m₉ c k) (m c k)
def zF (wr : Nat → Nat → Bool) (m0 m : Nat → Nat → Int32) : Prop := ∀ c k, wr c k = false → m c k = m0 c k
section ZM1
variable {wr w2 : Nat → Nat → Bool} {m0 m m₉ : Nat → Nat → Int32} {c k : Nat} {x : Int32}
theorem zF_rfl : zF wr m m := fun _ _ _ => rfl
theorem zF_u (h : zF wr m0 m) (hw : wr c k = true) : zF wr m0 (ma_u m c k x) := by
  intro c₉ k₉ z
  show (if c₉ = c ∧ k₉ = k then x else m c₉ k₉) = m0 c₉ k₉
  rw [if_neg (fun q => by rw [q.1, q.2, hw] at z; cases z)]
  exact h c₉ k₉ z
theorem zF_zov (h : zF wr m0 m) (hw : ∀ c k, w2 c k = true → wr c k = true) : zF wr m0 (zov w2 m m₉) := by
  intro c k z
  have : w2 c k = false := by
    cases e : w2 c k with
    | false => rfl
    | true => rw [hw c k e] at z; cases z
  show cond (w2 c k) (m₉ c k) (m c k) = m0 c k
  rw [this]
  exact h c k z
theorem zov_eq (h : zF wr m0 m) : m = zov wr m0 m := by
  funext c k
  show m c k = cond (wr c k) (m c k) (m0 c k)
  cases e : wr c k with
  | true => rfl
  | false => exact h c k e
end ZM1
section ZM2
variable {X : Nat × (Nat → Int32)} {d w M pc : Nat} {L : ma_L} {st r : List ma_V} {S : ma_S} {o nL : Nat} {y : MethodName} {cc : ByteArray} {ret : Option FieldType} {Q : Option ma_V ⊕ Nat → ma_S → Prop}
theorem zw_bas22l (hm : ma_md M = some (o, y, cc, nL, ret)) (hd : decode cc pc = .ok (.bastore, 1)) {c N a : Nat} {j x : Int32} (yv : Int32) (hx : vp_nar .boolean x = yv) (hs : ma_is S c = true) (ht : mH S c = (22, N)) (ha : j.toNatClampNeg = a) (hj : 0 ≤ j ∧ a < N) (K : ma_wp X d w M (pc + 1) L r (ma_put S c a (.inl yv)) Q) : ma_wp X d w M pc L (.inl x :: .inl j :: .inr (.inr (some c)) :: r) S Q := by
  subst hx
  exact zw_bas22 hm hd hs ht ha hj K
end ZM2
theorem i_mulk {x y : Int32} {k : Int} (hk : y.toInt = k) (h1 : -2147483648 ≤ x.toInt * k) (h2 : x.toInt * k ≤ 2147483647) : (x * y).toInt = x.toInt * k := by
  rw [← hk] at h1 h2 ⊢
  exact i_mul h1 h2
theorem i_mulk2 {x y : Int32} {k : Int} (hk : x.toInt = k) (h1 : -2147483648 ≤ k * y.toInt) (h2 : k * y.toInt ≤ 2147483647) : (x * y).toInt = k * y.toInt := by
  rw [← hk] at h1 h2 ⊢
  exact i_mul h1 h2
theorem i_01 {x : Int32} (h : x = 0 ∨ x = 1) : 0 ≤ x.toInt ∧ x.toInt ≤ 1 := by
  rcases h with rfl | rfl <;> decide

