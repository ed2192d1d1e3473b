/-! from 90.house -/
/-! THE HOUSE: the cells that stand behind the constructors, by number; and the law's frames, reasoned of backwards -/
def zshp : List (Nat × Nat) := [(11, 12), (21, 100), (20, 4), (20, 16), (20, 16), (7, 13), (24, 512), (20, 4500), (20, 16), (20, 16), (20, 512), (10, 6), (20, 512), (20, 512), (25, 7), (8, 5), (5, 4), (3, 5), (1, 10), (20, 375), (2, 8), (24, 512), (20, 512), (6, 9), (10, 6), (20, 512), (20, 512), (4, 9), (20, 93), (20, 93), (12, 85), (21, 100), (21, 100), (20, 16), (20, 16), (22, 3100), (20, 3100), (20, 3100), (20, 3100), (20, 3100), (20, 3100), (20, 3100), (20, 3100), (20, 3100), (20, 186000), (22, 3100), (22, 3100), (20, 4600), (20, 16), (20, 16), (20, 3100), (20, 3100), (20, 128), (22, 512), (20, 3100), (20, 3100), (20, 3100), (20, 3100), (20, 128), (22, 128), (22, 128), (23, 1)]
def zs (c : Nat) : Option (Nat × Nat) := if 64 ≤ c then zshp[c - 64]? else none
def zfl : List (Nat × Nat × Nat) := [(64, 0, 65), (64, 4, 66), (64, 5, 67), (64, 6, 68), (64, 8, 69), (64, 9, 75), (64, 10, 78), (69, 0, 70), (69, 1, 71), (69, 2, 72), (69, 3, 73), (69, 4, 74), (75, 0, 69), (75, 1, 76), (75, 2, 77), (78, 0, 79), (78, 1, 80), (78, 2, 81), (78, 3, 82), (78, 4, 84), (78, 5, 87), (78, 6, 91), (79, 0, 69), (79, 1, 75), (80, 0, 69), (80, 1, 75), (81, 0, 69), (81, 1, 75), (82, 0, 69), (82, 1, 75), (82, 9, 83), (84, 3, 69), (84, 4, 75), (84, 5, 85), (84, 6, 86), (87, 3, 69), (87, 4, 75), (87, 5, 88), (88, 0, 69), (88, 1, 89), (88, 2, 90), (91, 0, 69), (91, 1, 75), (91, 7, 92), (91, 8, 93), (94, 1, 95), (94, 2, 96), (94, 5, 97), (94, 6, 98), (94, 31, 99), (94, 32, 100), (94, 33, 101), (94, 34, 102), (94, 35, 103), (94, 36, 104), (94, 37, 105), (94, 38, 106), (94, 39, 107), (94, 40, 108), (94, 41, 109), (94, 42, 110), (94, 43, 111), (94, 51, 112), (94, 52, 113), (94, 53, 114), (94, 54, 115), (94, 65, 116), (94, 66, 117), (94, 72, 118), (94, 74, 119), (94, 78, 120), (94, 79, 121), (94, 81, 122), (94, 82, 123), (94, 83, 124)]
def zfi (c k : Nat) : Option Nat := (zfl.find? (fun q => q.1 == c && q.2.1 == k)).map (fun q => q.2.2)
/-- all of them are there, of their kinds and lengths, and the fields that never change have what they had -/
def zO (S : ma_S) : Prop := (∀ c t n, zs c = some (t, n) → ma_is S c = true ∧ mH S c = (t, n)) ∧ ∀ c k r, zfi c k = some r → mR S c k = some r
section ZO1
variable {S : ma_S} {c k r t n : Nat}
theorem zO_is (h : zO S) (e : zs c = some (t, n)) : ma_is S c = true := (h.1 _ _ _ e).1
theorem zO_h (h : zO S) (e : zs c = some (t, n)) : mH S c = (t, n) := (h.1 _ _ _ e).2
theorem zO_t (h : zO S) (e : zs c = some (t, n)) : (mH S c).1 = t := by rw [(h.1 _ _ _ e).2]
theorem zO_rt (h : zO S) (e : zs c = some (t, n)) (ht : (decide (1 ≤ t) && decide (t ≤ 12)) = true) : ma_rt S c = some t := by
  have h1 := zO_is h e
  have h2 := zO_t h e
  rw [Bool.and_eq_true] at ht
  unfold ma_rt
  have h64 : ¬ c < 19 := by
    unfold ma_is at h1
    rw [Bool.and_eq_true, decide_eq_true_eq] at h1
    omega
  rw [if_neg h64]
  simp only [h1, h2, ht.1, ht.2, Bool.and_self, if_true]
theorem zO_f (h : zO S) (e : zfi c k = some r) : (Sum.inr (Sum.inr (mR S c k)) : ma_V) = .inr (.inr (some r)) := by rw [h.2 _ _ _ e]
theorem zO_pr (h : zO S) {q : Option Nat} (e : zfi c k = none) : zO (ma_put S c k (.inr (.inr q))) := by
  refine ⟨h.1, fun c₉ k₉ r₉ e₉ => ?_⟩
  show ma_u (mR S) c k q c₉ k₉ = some r₉
  unfold ma_u
  rw [if_neg (fun z => by rw [z.1, z.2, e] at e₉; cases e₉)]
  exact h.2 _ _ _ e₉
end ZO1
theorem zc0_lt {x : Int32} : ma_c0 .lt x = true ↔ x < 0 := decide_eq_true_iff
theorem zc0_ge {x : Int32} : ma_c0 .ge x = true ↔ 0 ≤ x := decide_eq_true_iff
theorem zc0_eq {x : Int32} : ma_c0 .eq x = true ↔ x = 0 := decide_eq_true_iff
theorem zc0_ne {x : Int32} : ma_c0 .ne x = true ↔ ¬ x = 0 := decide_eq_true_iff
theorem zc0_gt {x : Int32} : ma_c0 .gt x = true ↔ 0 < x := decide_eq_true_iff
theorem zc0_le {x : Int32} : ma_c0 .le x = true ↔ x ≤ 0 := decide_eq_true_iff
theorem zc2_lt {x z : Int32} : ma_c2 .lt x z = true ↔ x < z := decide_eq_true_iff
theorem zc2_ge {x z : Int32} : ma_c2 .ge x z = true ↔ z ≤ x := decide_eq_true_iff
theorem zc2_eq {x z : Int32} : ma_c2 .eq x z = true ↔ x = z := decide_eq_true_iff
theorem zc2_ne {x z : Int32} : ma_c2 .ne x z = true ↔ ¬ x = z := decide_eq_true_iff
theorem zc2_gt {x z : Int32} : ma_c2 .gt x z = true ↔ z < x := decide_eq_true_iff
theorem zc2_le {x z : Int32} : ma_c2 .le x z = true ↔ x ≤ z := decide_eq_true_iff
theorem ma_nd_of {L : ma_L} {ks : List Nat} (h : L.map (·.1) = ks) (hk : ks.Nodup) : ma_nd L := by
  unfold ma_nd; rw [h]; exact hk
theorem zi_go {K : Int32 → ma_S → Prop} {E : Nat → ma_S → Prop} {G : Option ma_V ⊕ Nat → ma_S → Prop} (h1 : ∀ v S, K v S → G (.inl (some (.inl v))) S) (h2 : ∀ x S, E x S → G (.inr x) S) : ∀ z S, zi K E z S → G z S := by
  intro z S h
  rcases z with v | x
  · rcases v with _ | v
    · exact h.elim
    · rcases v with v | v
      · exact h1 _ _ h
      · rcases v with v | v <;> exact h.elim
  · exact h2 _ _ h
theorem zo_go {K : Option Nat → ma_S → Prop} {E : Nat → ma_S → Prop} {G : Option ma_V ⊕ Nat → ma_S → Prop} (h1 : ∀ v S, K v S → G (.inl (some (.inr (.inr v)))) S) (h2 : ∀ x S, E x S → G (.inr x) S) : ∀ z S, zo K E z S → G z S := by
  intro z S h
  rcases z with v | x
  · rcases v with _ | v
    · exact h.elim
    · rcases v with v | v
      · exact h.elim
      · rcases v with v | v
        · exact h.elim
        · exact h1 _ _ h
  · exact h2 _ _ h
theorem zv_go {K : ma_S → Prop} {E : Nat → ma_S → Prop} {G : Option ma_V ⊕ Nat → ma_S → Prop} (h1 : ∀ S, K S → G (.inl none) S) (h2 : ∀ x S, E x S → G (.inr x) S) : ∀ z S, zv K E z S → G z S := by
  intro z S h
  rcases z with v | x
  · rcases v with _ | v
    · exact h1 _ h
    · exact h.elim
  · exact h2 _ _ h
/-! the law's frames -/
def ma_fp (X : Nat × (Nat → Int32)) (k d w pc : Nat) (L : ma_L) (st : List ma_V) (S : ma_S) (Q : Option ma_V → ma_S → Prop) : Prop := ∃ f v S₉, ma_frun X f k d w pc L st S = some (v, S₉) ∧ Q v S₉
def zfi_ (K : Int32 → ma_S → Prop) : Option ma_V → ma_S → Prop := fun o S => match o with
  | some (.inl v) => K v S
  | _ => False
theorem zfi_go {K : Int32 → ma_S → Prop} {G : Option ma_V → ma_S → Prop} (h1 : ∀ v S, K v S → G (some (.inl v)) S) : ∀ z S, zfi_ K z S → G z S := by
  intro z S h
  rcases z with _ | v
  · exact h.elim
  · rcases v with v | v
    · exact h1 _ _ h
    · exact h.elim
theorem ma_frun_up {X : Nat × (Nat → Int32)} : ∀ (f k d w pc : Nat) (L : ma_L) (st : List ma_V) (S : ma_S) (r : Option ma_V × ma_S), ma_frun X f k d w pc L st S = some r → ma_frun X (f + 1) k d w pc L st S = some r := by
  intro f
  induction f with
  | zero => intro k d w pc L st S r h; cases h
  | succ f ih =>
    intro k d w pc L st S r h
    unfold ma_frun at h ⊢
    split at h
    · cases h
    · next cc nL ret hh hfi =>
      split at h
      · cases h
      · next i n hd =>
        split at h
        · exact ih _ _ _ _ _ _ _ _ h
        · split at h
          · exact h
          · split at h
            · split at h
              · cases h
              · split at h
                · next hroom =>
                  rw [if_pos hroom]
                  split at h
                  · next v2 S1 hr =>
                    rw [ma_run_up _ _ _ _ _ _ _ _ _ hr]
                    exact ih _ _ _ _ _ _ _ _ h
                  · next x2 px S1 hr =>
                    rw [ma_run_up _ _ _ _ _ _ _ _ _ hr]
                    exact h
                  · cases h
                · cases h
            · split at h
              · cases h
              · split at h
                · cases h
                · split at h
                  · next hroom =>
                    rw [if_pos hroom]
                    split at h
                    · next v2 S1 hr =>
                      rw [ih _ _ _ _ _ _ _ _ hr]
                      exact ih _ _ _ _ _ _ _ _ h
                    · cases h
                  · cases h
theorem ma_frun_le {X : Nat × (Nat → Int32)} {f g k d w pc : Nat} {L : ma_L} {st : List ma_V} {S : ma_S} {r : Option ma_V × ma_S} (hfg : f ≤ g) (h : ma_frun X f k d w pc L st S = some r) : ma_frun X g k d w pc L st S = some r := by
  induction hfg with
  | refl => exact h
  | step _ ih => exact ma_frun_up _ _ _ _ _ _ _ _ _ ih
def ma_fbody (X : Nat × (Nat → Int32)) (f k d w pc : Nat) (L : ma_L) (st : List ma_V) (S : ma_S) : Option (Option ma_V × ma_S) := match ma_fi k with
    | none => none
    | some (cc, nL, ret, hh) => match decode cc pc with
      | .error _ => none
      | .ok (i, n) => match ma_one X 14 false nL d w i n pc L st S with
        | some (pc₉, L₉, st₉, S₉) => ma_frun X f k d w pc₉ L₉ st₉ S₉
        | none => match ma_ret ret i n st with
          | some v => some (v, S)
          | none => match ma_cl 14 i n st S with
            | some ((kd, M₉), as, rest) => (match ma_md M₉ with
              | none => none
              | some (_, _, _, nL₉, _) => if 1 ≤ d ∧ 19 + nL₉ ≤ w ∧ ma_sz as ≤ nL₉ ∧ ma_sz rest ≤ 8 then (match ma_run X f (d - 1) (w - (19 + nL₉)) M₉ 0 (ma_args 0 as) [] S with
                | some (.inl v, S₉) => ma_frun X f k d w (pc + 3) L (v.toList ++ rest) S₉
                | some (.inr (x, _), S₉) => if kd ≤ 1 ∧ ret = some .int then (ma_hd cc nL x pc hh).map (fun c => (some (.inl c), S₉)) else none
                | none => none) else none)
            | none => match ma_cw i n st with
              | none => none
              | some (k₉, as, rest) => match ma_fi k₉ with
                | none => none
                | some (_, nL₉, _, _) => if 1 ≤ d ∧ 19 + nL₉ ≤ w ∧ ma_sz as ≤ nL₉ ∧ ma_sz rest ≤ 8 then (match ma_frun X f k₉ (d - 1) (w - (19 + nL₉)) 0 (ma_args 0 as) [] S with
                  | some (v, S₉) => ma_frun X f k d w (pc + 3) L (v.toList ++ rest) S₉
                  | none => none) else none
theorem ma_frun_s (X : Nat × (Nat → Int32)) (f k d w pc : Nat) (L : ma_L) (st : List ma_V) (S : ma_S) : ma_frun X (f + 1) k d w pc L st S = ma_fbody X f k d w pc L st S := rfl
section ZF1
variable {X : Nat × (Nat → Int32)} {d w k pc : Nat} {L : ma_L} {st r : List ma_V} {S : ma_S} {o nL : Nat} {ini : Bool} {cc : ByteArray} {ret : Option FieldType} {hh : List (Nat × Nat × Nat × Nat)} {i : Instr} {n : Nat} {Q Q₉ : Option ma_V → ma_S → Prop}
theorem zf_mono (h : ma_fp X k d w pc L st S Q) (g : ∀ o S₉, Q o S₉ → Q₉ o S₉) : ma_fp X k d w pc L st S Q₉ := by
  obtain ⟨f, o, S₉, h1, h2⟩ := h
  exact ⟨f, o, S₉, h1, g _ _ h2⟩
theorem zf_one (hm : ma_fi k = some (cc, nL, ret, hh)) (hd : decode cc pc = .ok (i, n)) {pc₉ : Nat} {L₉ : ma_L} {st₉ : List ma_V} {S₉ : ma_S} (h : ma_one X 14 false nL d w i n pc L st S = some (pc₉, L₉, st₉, S₉)) (K : ma_fp X k d w pc₉ L₉ st₉ S₉ Q) : ma_fp X k d w pc L st S Q := by
  obtain ⟨f, o₉, S1, h1, h2⟩ := K
  refine ⟨f + 1, o₉, S1, ?_, h2⟩
  rw [ma_frun_s]
  simp only [ma_fbody, hm, hd, h]
  exact h1
theorem zf_push (hm : ma_fi k = some (cc, nL, ret, hh)) (hd : decode cc pc = .ok (i, n)) {v : ma_V} (h : ma_push i n L = some v) (K : ma_fp X k d w (pc + n) L (v :: st) S Q) : ma_fp X k d w pc L st S Q :=
  zf_one hm hd (by unfold ma_one; rw [h]) K
theorem zf_stk (hm : ma_fi k = some (cc, nL, ret, hh)) (hd : decode cc pc = .ok (i, n)) {st₉ : List ma_V} (h0 : ma_push i n L = none) (h : ma_stk i n st = some st₉) (K : ma_fp X k d w (pc + n) L st₉ S Q) : ma_fp X k d w pc L st S Q :=
  zf_one hm hd (by unfold ma_one; rw [h0, h]) K
theorem zf_sto (hm : ma_fi k = some (cc, nL, ret, hh)) (hd : decode cc pc = .ok (i, n)) (L₉ : ma_L) {st₉ : List ma_V} (h0 : ma_push i n L = none) (h1 : ma_stk i n st = none) (h : ma_sto i n nL L st = some (L₉, st₉)) (K : ma_fp X k d w (pc + n) L₉ st₉ S Q) : ma_fp X k d w pc L st S Q :=
  zf_one hm hd (by unfold ma_one; rw [h0, h1]; simp only [h]) K
theorem zf_jmp (hm : ma_fi k = some (cc, nL, ret, hh)) (hd : decode cc pc = .ok (i, n)) {t : Nat} {st₉ : List ma_V} (h0 : ma_push i n L = none) (h1 : ma_stk i n st = none) (h2 : ma_sto i n nL L st = none) (h : ma_jmp i n pc st = some (t, st₉)) (K : ma_fp X k d w t L st₉ S Q) : ma_fp X k d w pc L st S Q :=
  zf_one hm hd (by unfold ma_one; rw [h0, h1]; simp only [h2, h]) K
theorem zf_goto (hm : ma_fi k = some (cc, nL, ret, hh)) {off : Int} (hd : decode cc pc = .ok (.goto off, 3)) {t : Nat} (ht : ma_to pc off = some t) (K : ma_fp X k d w t L st S Q) : ma_fp X k d w pc L st S Q :=
  zf_jmp hm hd rfl rfl rfl (by unfold ma_jmp; simp only [ht, Option.map_some]) K
theorem zf_if0 (hm : ma_fi k = some (cc, nL, ret, hh)) {c : ClassFile.Cond} {off : Int} (hd : decode cc pc = .ok (.ifCond c off, 3)) {t : Nat} (ht : ma_to pc off = some t) {x : Int32} {P : Prop} (hP : ma_c0 c x = true ↔ P) (k1 : P → ma_fp X k d w t L r S Q) (k2 : ¬ P → ma_fp X k d w (pc + 3) L r S Q) : ma_fp X k d w pc L (.inl x :: r) S Q := by
  refine zf_jmp (t := if ma_c0 c x = true then t else pc + 3) (st₉ := r) hm hd rfl rfl rfl (by unfold ma_jmp; simp only [ht, Option.map_some]) ?_
  by_cases h : ma_c0 c x = true
  · rw [if_pos h]; exact k1 (hP.mp h)
  · rw [if_neg h]; exact k2 (fun z => h (hP.mpr z))
theorem zf_if2 (hm : ma_fi k = some (cc, nL, ret, hh)) {c : ClassFile.Cond} {off : Int} (hd : decode cc pc = .ok (.if_icmp c off, 3)) {t : Nat} (ht : ma_to pc off = some t) {x z : Int32} {P : Prop} (hP : ma_c2 c x z = true ↔ P) (k1 : P → ma_fp X k d w t L r S Q) (k2 : ¬ P → ma_fp X k d w (pc + 3) L r S Q) : ma_fp X k d w pc L (.inl z :: .inl x :: r) S Q := by
  refine zf_jmp (t := if ma_c2 c x z = true then t else pc + 3) (st₉ := r) hm hd rfl rfl rfl (by unfold ma_jmp; simp only [ht, Option.map_some]) ?_
  by_cases h : ma_c2 c x z = true
  · rw [if_pos h]; exact k1 (hP.mp h)
  · rw [if_neg h]; exact k2 (fun z => h (hP.mpr z))
theorem oo_sc {j : Int32} (hg : 0 ≤ j ∧ j.toNatClampNeg < X.1) : ma_one X o ini nL d w .iaload 1 pc L (.inl j :: .inr (.inr (some 30)) :: r) S = some (pc + 1, L, .inl (X.2 j.toNatClampNeg) :: r, S) := by
  have h1 : ma_hp o ini .iaload 1 (.inl j :: .inr (.inr (some 30)) :: r) S = none := by
    unfold ma_hp
    simp only [ma_is30 (S := S) (c := 30) (by decide), Bool.false_and, Bool.false_eq_true, if_false]
  have h2 : ma_sc X .iaload 1 (.inl j :: .inr (.inr (some 30)) :: r) = some (.inl (X.2 j.toNatClampNeg) :: r) := by
    unfold ma_sc
    simp only [hg.1, hg.2, decide_true, Bool.and_self, if_true]
  unfold ma_one
  simp only [ma_push, ma_stk, ma_sto, ma_jmp, h1, h2]
theorem oo_sl : ma_one X o ini nL d w .arraylength 1 pc L (.inr (.inr (some 30)) :: r) S = some (pc + 1, L, .inl (Int32.ofNat X.1) :: r, S) := by
  have h1 : ma_hp o ini .arraylength 1 (.inr (.inr (some 30)) :: r) S = none := by
    unfold ma_hp
    simp only [ma_is30 (S := S) (c := 30) (by decide), Bool.false_and, Bool.false_eq_true, if_false]
  have h2 : ma_sc X .arraylength 1 (.inr (.inr (some 30)) :: r) = some (.inl (Int32.ofNat X.1) :: r) := rfl
  unfold ma_one
  simp only [ma_push, ma_stk, ma_sto, ma_jmp, h1, h2]
theorem oo_la {c N a : Nat} {j : Int32} (hs : ma_is S c = true) (ht : mH S c = (23, N)) (ha : j.toNatClampNeg = a) (hj : 0 ≤ j ∧ a < N) : ma_one X o ini nL d w .laload 1 pc L (.inl j :: .inr (.inr (some c)) :: r) S = some (pc + 1, L, .inr (.inl (mL S c a)) :: r, S) := by
  subst ha
  have h1 : ma_hp o ini .laload 1 (.inl j :: .inr (.inr (some c)) :: r) S = some (.inr (.inl (mL S c j.toNatClampNeg)) :: r, S) := by
    unfold ma_hp ma_ix
    simp only [hs, ht, hj.1, hj.2, decide_true, Bool.and_self, if_true]
  unfold ma_one
  simp only [ma_push, ma_stk, ma_sto, ma_jmp, h1]
theorem oo_las {c N a : Nat} {j : Int32} {x : Int64} (hs : ma_is S c = true) (ht : mH S c = (23, N)) (ha : j.toNatClampNeg = a) (hj : 0 ≤ j ∧ a < N) : ma_one X o ini nL d w .lastore 1 pc L (.inr (.inl x) :: .inl j :: .inr (.inr (some c)) :: r) S = some (pc + 1, L, r, ma_put S c a (.inr (.inl x))) := by
  subst ha
  have h1 : ma_hp o ini .lastore 1 (.inr (.inl x) :: .inl j :: .inr (.inr (some c)) :: r) S = some (r, ma_put S c j.toNatClampNeg (.inr (.inl x))) := by
    unfold ma_hp ma_ix
    simp only [hs, ht, hj.1, hj.2, decide_true, Bool.and_self, if_true]
  unfold ma_one
  simp only [ma_push, ma_stk, ma_sto, ma_jmp, h1]
theorem zf_ret (hm : ma_fi k = some (cc, nL, ret, hh)) (hd : decode cc pc = .ok (i, n)) (h1 : ma_one X 14 false nL d w i n pc L st S = none) {v : Option ma_V} (h : ma_ret ret i n st = some v) (q : Q v S) : ma_fp X k d w pc L st S Q := by
  refine ⟨1, v, S, ?_, q⟩
  rw [ma_frun_s]
  simp only [ma_fbody, hm, hd, h1, h]
theorem zf_iret (hm : ma_fi k = some (cc, nL, some .int, hh)) (hd : decode cc pc = .ok (.ireturn, 1)) {x : Int32} (q : Q (some (.inl x)) S) : ma_fp X k d w pc L [.inl x] S Q := by
  refine zf_ret (v := some (.inl x)) hm hd ?_ (by unfold ma_ret; simp [narrow]) q
  unfold ma_one
  rfl
theorem zf_bret (hm : ma_fi k = some (cc, nL, some .boolean, hh)) (hd : decode cc pc = .ok (.ireturn, 1)) {x : Int32} (hx : x = 0 ∨ x = 1) (q : Q (some (.inl x)) S) : ma_fp X k d w pc L [.inl x] S Q := by
  refine zf_ret (v := some (.inl x)) hm hd ?_ (by unfold ma_ret; rcases hx with rfl | rfl <;> simp [narrow]) q
  unfold ma_one
  rfl
/-- a call of a method of the class or of the reference -/
theorem zf_cv (hm : ma_fi k = some (cc, nL, ret, hh)) {x t kd M₉ m b nL₉ o₉ : Nat} {y₉ : MethodName} {cc₉ : ByteArray} {ret₉ : Option FieldType} (hd : decode cc pc = .ok (.invokevirtual x, 3)) (hv : ma_vl 14 x t = some (kd, M₉, m)) (hm₉ : ma_md M₉ = some (o₉, y₉, cc₉, nL₉, ret₉)) (asr rest : List ma_V) (hl : asr.length = m) (hrt : ma_rt S b = some t) (hr : 1 ≤ d ∧ 19 + nL₉ ≤ w) (hz : (decide (ma_sz (.inr (.inr (some b)) :: asr.reverse) ≤ nL₉) && decide (ma_sz rest ≤ 8)) = true)
    (hk : ma_wp X (d - 1) (w - (19 + nL₉)) M₉ 0 (ma_args 0 (.inr (.inr (some b)) :: asr.reverse)) [] S (fun z S₉ => match z with
      | .inl v => ma_fp X k d w (pc + 3) L (v.toList ++ rest) S₉ Q
      | .inr x => (kd ≤ 1 ∧ ret = some .int) ∧ ∃ c, ma_hd cc nL x pc hh = some c ∧ Q (some (.inl c)) S₉)) : ma_fp X k d w pc L (asr ++ .inr (.inr (some b)) :: rest) S Q := by
  rw [Bool.and_eq_true, decide_eq_true_eq, decide_eq_true_eq] at hz
  have h1 : ma_one X 14 false nL d w (.invokevirtual x) 3 pc L (asr ++ .inr (.inr (some b)) :: rest) S = none := by
    unfold ma_one
    rfl
  have h2 : ma_ret ret (.invokevirtual x) 3 (asr ++ .inr (.inr (some b)) :: rest) = none := rfl
  obtain ⟨f, z, S1, e1, e2⟩ := hk
  rcases z with v | ⟨x, px⟩
  · obtain ⟨g, z2, S2, e3, e4⟩ := (e2 : ma_fp X k d w (pc + 3) L (v.toList ++ rest) S1 Q)
    refine ⟨max f g + 1, z2, S2, ?_, e4⟩
    rw [ma_frun_s]
    simp only [ma_fbody, hm, hd, h1, h2, ma_vl_cl hv hl hrt, hm₉]
    rw [if_pos ⟨hr.1, hr.2, hz.1, hz.2⟩, ma_run_le (Nat.le_max_left f g) e1]
    exact ma_frun_le (Nat.le_max_right f g) e3
  · obtain ⟨e5, c, e6, e7⟩ := (e2 : (kd ≤ 1 ∧ ret = some .int) ∧ ∃ c, ma_hd cc nL x pc hh = some c ∧ Q (some (.inl c)) S1)
    refine ⟨f + 1, some (.inl c), S1, ?_, e7⟩
    rw [ma_frun_s]
    simp only [ma_fbody, hm, hd, h1, h2, ma_vl_cl hv hl hrt, hm₉]
    rw [if_pos ⟨hr.1, hr.2, hz.1, hz.2⟩, e1]
    simp only [if_pos e5, e6, Option.map_some]
def ma_cwl (x : Nat) : Option (Nat × Nat) := match ma_fd 14 x 0 true 5 8, ma_prt 14 x, ma_cwh.find? (fun q => q.1.1 == x) with
  | none, none, some q => some (q.1.2.1, q.1.2.2)
  | _, _, _ => none
/-- a call of a frame that catches -/
theorem zf_cw (hm : ma_fi k = some (cc, nL, ret, hh)) {x k₉ m nL₉ : Nat} {cc₉ : ByteArray} {ret₉ : Option FieldType} {hh₉ : List (Nat × Nat × Nat × Nat)} (hd : decode cc pc = .ok (.invokestatic x, 3)) (hv : ma_cwl x = some (k₉, m)) (hm₉ : ma_fi k₉ = some (cc₉, nL₉, ret₉, hh₉)) (asr rest : List ma_V) (hl : asr.length = m) (hr1 : 1 ≤ d) (hr2 : 19 + nL₉ ≤ w) (hz : (decide (ma_sz asr.reverse ≤ nL₉) && decide (ma_sz rest ≤ 8)) = true)
    (hk : ma_fp X k₉ (d - 1) (w - (19 + nL₉)) 0 (ma_args 0 asr.reverse) [] S (fun v S₉ => ma_fp X k d w (pc + 3) L (v.toList ++ rest) S₉ Q)) : ma_fp X k d w pc L (asr ++ rest) S Q := by
  rw [Bool.and_eq_true, decide_eq_true_eq, decide_eq_true_eq] at hz
  unfold ma_cwl at hv
  split at hv
  · next q g1 g2 g3 =>
    have e0 : (q.1.2.1, q.1.2.2) = (k₉, m) := Option.some.inj hv
    have e1 : q.1.2.1 = k₉ := congrArg Prod.fst e0
    have e2 : q.1.2.2 = m := congrArg Prod.snd e0
    have h1 : ma_one X 14 false nL d w (.invokestatic x) 3 pc L (asr ++ rest) S = none := by
      unfold ma_one
      rw [ma_pr_st g2]
      rfl
    have h2 : ma_ret ret (.invokestatic x) 3 (asr ++ rest) = none := rfl
    have h3 : ma_cl 14 (.invokestatic x) 3 (asr ++ rest) S = none := by
      unfold ma_cl
      simp only [g1]
    have h4 : ma_cw (.invokestatic x) 3 (asr ++ rest) = some (k₉, asr.reverse, rest) := by
      unfold ma_cw
      simp only [g3, e2, ← hl, List.take_left, List.drop_left, e1]
      rw [if_pos (by rw [List.length_append]; omega)]
    obtain ⟨f, v, S1, e3, e4⟩ := hk
    obtain ⟨g, z2, S2, e5, e6⟩ := e4
    refine ⟨max f g + 1, z2, S2, ?_, e6⟩
    rw [ma_frun_s]
    simp only [ma_fbody, hm, hd, h1, h2, h3, h4, hm₉]
    rw [if_pos ⟨hr1, hr2, hz.1, hz.2⟩, ma_frun_le (Nat.le_max_left f g) e3]
    exact ma_frun_le (Nat.le_max_right f g) e5
  · cases hv
end ZF1
theorem ma_frun_sub {X : Nat × (Nat → Int32)} : ∀ (f k d w pc : Nat) (L L₉ : ma_L) (st : List ma_V) (S : ma_S) (r : Option ma_V × ma_S), ma_nd L → ma_nd L₉ → ma_le L L₉ → ma_frun X f k d w pc L st S = some r → ma_frun X f k d w pc L₉ st S = some r := by
  intro f
  induction f with
  | zero => intro k d w pc L L₉ st S r _ _ _ h; cases h
  | succ f ih =>
    intro k d w pc L L₉ st S r hn hn₉ hle h
    rw [ma_frun_s] at h ⊢
    unfold ma_fbody at h ⊢
    split at h
    · cases h
    · next cc nL ret hh hfi =>
      split at h
      · cases h
      · next i n hd =>
        split at h
        · next pc1 L1 st1 S1 h1 =>
          obtain ⟨L2, b1, b2, b3, b4⟩ := ma_one_le hn hn₉ hle h1
          simp only [b1]
          exact ih _ _ _ _ _ _ _ _ _ b3 b4 b2 h
        · next h1 =>
          rcases ma_one_no hle h1 ret with b1 | ⟨a4, a5, a6⟩
          · simp only [b1]
            split at h
            · exact h
            · split at h
              · split at h
                · cases h
                · split at h
                  · next hroom =>
                    rw [if_pos hroom]
                    split at h
                    · exact ih _ _ _ _ _ _ _ _ _ hn hn₉ hle h
                    · exact h
                    · cases h
                  · cases h
              · split at h
                · cases h
                · split at h
                  · cases h
                  · split at h
                    · next hroom =>
                      rw [if_pos hroom]
                      split at h
                      · exact ih _ _ _ _ _ _ _ _ _ hn hn₉ hle h
                      · cases h
                    · cases h
          · rw [a4, a5] at h
            simp only at h
            split at h
            · cases h
            · next k₉ as rest hcw =>
              unfold ma_cw at hcw
              split at hcw
              · exact absurd rfl (a6 _).2
              · cases hcw
theorem zf_sub {X : Nat × (Nat → Int32)} {k d w pc : Nat} {L L₉ : ma_L} {st : List ma_V} {S : ma_S} {Q : Option ma_V → ma_S → Prop} (hn : ma_nd L) (hn₉ : ma_nd L₉) (hle : ma_le L L₉) (h : ma_fp X k d w pc L st S Q) : ma_fp X k d w pc L₉ st S Q := by
  obtain ⟨f, z, S₉, h1, h2⟩ := h
  exact ⟨f, z, S₉, ma_frun_sub _ _ _ _ _ _ _ _ _ _ hn hn₉ hle h1, h2⟩

/-! from 91.more -/
/-! more of the backward rows: constants out of the pool, switches, constructors -/
section ZW2
variable {X : Nat × (Nat → Int32)} {d w M pc : Nat} {L : ma_L} {st r : List ma_V} {S : ma_S} {o nL : Nat} {y : MethodName} {cc : ByteArray} {ret : Option FieldType} {i : Instr} {n : Nat} {Q Q₉ : Option ma_V ⊕ Nat → ma_S → Prop}
theorem zw_l2 (hm : ma_md M = some (o, y, cc, nL, ret)) {x : Nat} (hd : decode cc pc = .ok (.ldc2_w x, 3)) {v : Int64} (h : ma_l2t o x = some v) (k : ma_wp X d w M (pc + 3) L (.inr (.inl v) :: st) S Q) : ma_wp X d w M pc L st S Q :=
  zw_one hm hd (by unfold ma_one; simp only [ma_push, ma_stk, ma_sto, ma_jmp, ma_hp, ma_sc, ma_ex, h, Option.map_some]) k
theorem zw_lc (hm : ma_md M = some (o, y, cc, nL, ret)) {x : Nat} (hd : decode cc pc = .ok (.ldc x, 2)) {v : Int32} (h : ma_lct o x = some v) (k : ma_wp X d w M (pc + 2) L (.inl v :: st) S Q) : ma_wp X d w M pc L st S Q :=
  zw_one hm hd (by unfold ma_one; simp only [ma_push, ma_stk, ma_sto, ma_jmp, ma_hp, ma_sc, ma_ex, h, Option.map_some]) k
end ZW2
def ma_tsw (df lo hi : Int) (offs : Array Int) (pc : Nat) (x : Int32) : Option Nat := if x.toInt < lo ∨ hi < x.toInt then ma_to pc df else match offs[(x.toInt - lo).toNat]? with
  | some o => ma_to pc o
  | none => none
theorem ma_jmp_tab {df lo hi : Int} {offs : Array Int} {n pc t : Nat} {x : Int32} {r : List ma_V} (h : ma_tsw df lo hi offs pc x = some t) : ma_jmp (.tableswitch df lo hi offs) n pc (.inl x :: r) = some (t, r) := by
  unfold ma_tsw at h
  unfold ma_jmp
  simp only
  split at h
  · next hc => rw [if_pos hc, h]; rfl
  · next hc =>
    rw [if_neg hc]
    split at h
    · next o ho => rw [ho]; simp only [h, Option.map_some]
    · cases h
theorem ma_jmp_def {df lo hi : Int} {offs : Array Int} {n pc t m : Nat} {x : Int32} {r : List ma_V} (hb : hi = lo + m - 1) (h : ∀ j, j < m → ¬ x = Int32.ofInt (lo + (j : Int))) (ht : ma_to pc df = some t) : ma_jmp (.tableswitch df lo hi offs) n pc (.inl x :: r) = some (t, r) := by
  refine ma_jmp_tab ?_
  unfold ma_tsw
  rw [if_pos]
  · exact ht
  · refine Classical.byContradiction (fun hc => ?_)
    have h1 : lo ≤ x.toInt ∧ x.toInt ≤ hi := by omega
    refine h (x.toInt - lo).toNat (by omega) ?_
    have e : lo + ((x.toInt - lo).toNat : Int) = x.toInt := by omega
    rw [e, Int32.ofInt_toInt]

/-! from 91.z -/
/-! THE HOUSE WITH THINGS: behind the constructors all new cells are Things; more backward rows -/
def zT (S : ma_S) : Prop := zO S ∧ 126 ≤ mN S ∧ ∀ c, 126 ≤ c → c < mN S → mH S c = (9, 9)
section ZT1
variable {S : ma_S} {c k r t n : Nat}
theorem zT_is (h : zT S) (e : zs c = some (t, n)) : ma_is S c = true := zO_is h.1 e
theorem zT_h (h : zT S) (e : zs c = some (t, n)) : mH S c = (t, n) := zO_h h.1 e
theorem zT_t (h : zT S) (e : zs c = some (t, n)) : (mH S c).1 = t := zO_t h.1 e
theorem zT_rt (h : zT S) (e : zs c = some (t, n)) (ht : (decide (1 ≤ t) && decide (t ≤ 12)) = true) : ma_rt S c = some t := zO_rt h.1 e ht
theorem zT_f (h : zT S) (e : zfi c k = some r) : (Sum.inr (Sum.inr (mR S c k)) : ma_V) = .inr (.inr (some r)) := zO_f h.1 e
theorem zT_r (h : zT S) (e : zfi c k = some r) : mR S c k = some r := h.1.2 _ _ _ e
theorem zT_pi (h : zT S) {x : Int32} : zT (ma_put S c k (.inl x)) := h
theorem zT_pr (h : zT S) {q : Option Nat} (e : zfi c k = none) : zT (ma_put S c k (.inr (.inr q))) := ⟨zO_pr h.1 e, h.2⟩
theorem zT_cp (h : zT S) {f : Nat → Int32} : zT (ma_cp S c f) := h
theorem zT_tis (h : zT S) (hc : 126 ≤ c ∧ c < mN S) : ma_is S c = true := by
  unfold ma_is
  rw [Bool.and_eq_true, decide_eq_true_eq, decide_eq_true_eq]
  exact ⟨by omega, hc.2⟩
theorem zT_tt (h : zT S) (hc : 126 ≤ c ∧ c < mN S) : (mH S c).1 = 9 := by rw [h.2.2 c hc.1 hc.2]
theorem zT_trt (h : zT S) (hc : 126 ≤ c ∧ c < mN S) : ma_rt S c = some 9 := by
  unfold ma_rt
  rw [if_neg (by omega)]
  simp only [zT_tis h hc, zT_tt h hc]
  rfl
/-- no field that never changes is one of a Thing, or of the rows that hold them -/
theorem zfi_th (h : 126 ≤ c) : zfi c k = none := by
  unfold zfi
  cases hf : zfl.find? (fun q => q.1 == c && q.2.1 == k) with
  | none => rfl
  | some q =>
    have h1 := List.find?_some hf
    have h2 := List.mem_of_find?_eq_some hf
    simp only [Bool.and_eq_true, beq_iff_eq] at h1
    have h3 : zfl.all (fun q => decide (q.1 < 126)) = true := by decide +kernel
    have h4 := of_decide_eq_true (List.all_eq_true.mp h3 q h2)
    omega
def zfr (c : Nat) : Bool := zfl.all (fun q => !(q.1 == c))
theorem zfi_row (h : zfr c = true) : zfi c k = none := by
  unfold zfi
  cases hf : zfl.find? (fun q => q.1 == c && q.2.1 == k) with
  | none => rfl
  | some q =>
    have h1 := List.find?_some hf
    have h2 := List.mem_of_find?_eq_some hf
    simp only [Bool.and_eq_true, beq_iff_eq] at h1
    have h4 := List.all_eq_true.mp h q h2
    simp [h1.1] at h4
end ZT1
section ZW3
variable {X : Nat × (Nat → Int32)} {d w M pc : Nat} {L : ma_L} {st r : List ma_V} {S : ma_S} {o nL : Nat} {y : MethodName} {cc : ByteArray} {ret : Option FieldType} {i : Instr} {n : Nat} {Q Q₉ : Option ma_V ⊕ Nat → ma_S → Prop}
/-- a row of Things is written -/
theorem zw_aas (hm : ma_md M = some (o, y, cc, nL, ret)) (hd : decode cc pc = .ok (.aastore, 1)) {c N a : Nat} {j : Int32} {x : Option Nat} (hs : ma_is S c = true) (ht : mH S c = (24, N)) (ha : j.toNatClampNeg = a) (hj : 0 ≤ j ∧ a < N) (hx : ∀ b, x = some b → ma_is S b = true ∧ (mH S b).1 = 9) (K : ma_wp X d w M (pc + 1) L r (ma_put S c a (.inr (.inr x))) Q) : ma_wp X d w M pc L (.inr (.inr x) :: .inl j :: .inr (.inr (some c)) :: r) S Q := by
  subst ha
  refine zw_hp hm hd rfl rfl rfl rfl ?_ K
  unfold ma_hp ma_ix
  simp only [hs, ht, hj.1, hj.2, decide_true, Bool.and_self, if_true]
  cases x with
  | none => rfl
  | some b =>
    have := hx b rfl
    simp only [this.1, this.2, decide_true, Bool.and_self, if_true]
theorem zw_ex (hm : ma_md M = some (o, y, cc, nL, ret)) (hd : decode cc pc = .ok (i, n)) {st₉ : List ma_V} {S₉ : ma_S} (h0 : ma_push i n L = none) (h1 : ma_stk i n st = none) (h2 : ma_sto i n nL L st = none) (h3 : ma_jmp i n pc st = none) (h4 : ma_hp o (decide (y.name = "<init>")) i n st S = none) (h5 : ma_sc X i n st = none) (h : ma_ex o i n st S = some (st₉, S₉)) (k : ma_wp X d w M (pc + n) L st₉ S₉ Q) : ma_wp X d w M pc L st S Q :=
  zw_one hm hd (by unfold ma_one; simp only [h0, h1, h2, h3, h4, h5, h]) k
theorem zw_iof (hm : ma_md M = some (o, y, cc, nL, ret)) {x : Nat} (hd : decode cc pc = .ok (.instanceof x, 3)) {c t : Nat} {b : Bool} {v : Int32} (hs : ma_is S c = true) (ht : (mH S c).1 = t) (h1 : (decide (1 ≤ t) && decide (t ≤ 12)) = true) (hf : ma_ctt o x t = some b) (hv : (if b then 1 else 0) = v) (K : ma_wp X d w M (pc + 3) L (.inl v :: r) S Q) : ma_wp X d w M pc L (.inr (.inr (some c)) :: r) S Q := by
  subst hv
  rw [Bool.and_eq_true] at h1
  refine zw_ex hm hd rfl rfl rfl rfl rfl rfl ?_ K
  unfold ma_ex
  simp only [hs, ht, h1.1, h1.2, Bool.and_self, if_true, hf, Option.map_some]
theorem zw_cast (hm : ma_md M = some (o, y, cc, nL, ret)) {x : Nat} (hd : decode cc pc = .ok (.checkcast x, 3)) {c t : Nat} (hs : ma_is S c = true) (ht : (mH S c).1 = t) (h1 : (decide (1 ≤ t) && decide (t ≤ 12)) = true) (hf : ma_ctt o x t = some true) (K : ma_wp X d w M (pc + 3) L (.inr (.inr (some c)) :: r) S Q) : ma_wp X d w M pc L (.inr (.inr (some c)) :: r) S Q := by
  rw [Bool.and_eq_true] at h1
  refine zw_ex hm hd rfl rfl rfl rfl rfl rfl ?_ K
  unfold ma_ex
  simp only [hs, ht, h1.1, h1.2, Bool.and_self, if_true, hf, decide_true]
/-- a new Thing -/
theorem zw_new (hm : ma_md M = some (o, y, cc, nL, ret)) {x : Nat} (hd : decode cc pc = .ok (.new x, 3)) (h : ma_nwt o x = some 9) (K : ma_wp X d w M (pc + 3) L (.inr (.inr (some (mN S))) :: st) (ma_new S 9 9) Q) : ma_wp X d w M pc L st S Q :=
  zw_one hm hd (by unfold ma_one; simp only [ma_push, ma_stk, ma_sto, ma_jmp, ma_hp, ma_sc, ma_ex, ma_al, h, Option.map_some]; rfl) K
theorem zw_pr (hm : ma_md M = some (o, y, cc, nL, ret)) (hd : decode cc pc = .ok (i, n)) {st₉ : List ma_V} {S₉ : ma_S} (h0 : ma_push i n L = none) (h1 : ma_stk i n st = none) (h2 : ma_sto i n nL L st = none) (h3 : ma_jmp i n pc st = none) (h4 : ma_hp o (decide (y.name = "<init>")) i n st S = none) (h5 : ma_sc X i n st = none) (h6 : ma_ex o i n st S = none) (h7 : ma_al o i n st S = none) (h : ma_pr o d w i n st S = some (st₉, S₉)) (k : ma_wp X d w M (pc + n) L st₉ S₉ Q) : ma_wp X d w M pc L st S Q :=
  zw_one hm hd (by unfold ma_one; simp only [h0, h1, h2, h3, h4, h5, h6, h7, h]) k
theorem zw_max (hm : ma_md M = some (o, y, cc, nL, ret)) {x : Nat} (hd : decode cc pc = .ok (.invokestatic x, 3)) (hp : ma_prt o x = some 1) (h1 : 1 ≤ d) (hw : ma_sz r + 13 ≤ w) {a b : Int32} (hr : ∀ c a2 c0 r2, r ≠ .inr (.inr (some c)) :: .inl a2 :: .inr (.inr (some c0)) :: r2) (K : ma_wp X d w M (pc + 3) L (.inl (if a < b then b else a) :: r) S Q) : ma_wp X d w M pc L (.inl b :: .inl a :: r) S Q := by
  refine zw_pr hm hd rfl rfl rfl rfl rfl rfl rfl rfl ?_ K
  unfold ma_pr
  split
  · next e _ _ => cases e
  · next h => cases h; exact (hr _ _ _ _ rfl).elim
  · next e _ h =>
    cases e
    cases h
    simp only [h1, hw, decide_true, Bool.and_self, if_true, hp]
  · next n1 n2 n3 => exact (n3 _ _ _ _ rfl rfl rfl).elim
theorem zw_min (hm : ma_md M = some (o, y, cc, nL, ret)) {x : Nat} (hd : decode cc pc = .ok (.invokestatic x, 3)) (hp : ma_prt o x = some 2) (h1 : 1 ≤ d) (hw : ma_sz r + 13 ≤ w) {a b : Int32} (hr : ∀ c a2 c0 r2, r ≠ .inr (.inr (some c)) :: .inl a2 :: .inr (.inr (some c0)) :: r2) (K : ma_wp X d w M (pc + 3) L (.inl (if b < a then b else a) :: r) S Q) : ma_wp X d w M pc L (.inl b :: .inl a :: r) S Q := by
  refine zw_pr hm hd rfl rfl rfl rfl rfl rfl rfl rfl ?_ K
  unfold ma_pr
  split
  · next e _ _ => cases e
  · next h => cases h; exact (hr _ _ _ _ rfl).elim
  · next e _ h =>
    cases e
    cases h
    simp only [h1, hw, decide_true, Bool.and_self, if_true, hp]
  · next n1 n2 n3 => exact (n3 _ _ _ _ rfl rfl rfl).elim
theorem zw_acp (hm : ma_md M = some (o, y, cc, nL, ret)) {x : Nat} (hd : decode cc pc = .ok (.invokestatic x, 3)) (hp : ma_prt o x = some 3) (h1 : 1 ≤ d) (hw : ma_sz r + (nativeFrameWords "java/lang/System" "arraycopy" 5 + 11) ≤ w) {c N : Nat} {z b a : Int32} (hs : ma_is S c = true) (ht : mH S c = (20, N)) (ha : 0 ≤ a) (hb : 0 ≤ b) (hz : 0 ≤ z) (h3 : a.toNatClampNeg + z.toNatClampNeg ≤ N) (h4 : b.toNatClampNeg + z.toNatClampNeg ≤ N) (K : ma_wp X d w M (pc + 3) L r (ma_cp S c (va_cpy (mI S c) (mI S c) a.toNatClampNeg b.toNatClampNeg z.toNatClampNeg)) Q) : ma_wp X d w M pc L (.inl z :: .inl b :: .inr (.inr (some c)) :: .inl a :: .inr (.inr (some c)) :: r) S Q := by
  refine zw_pr hm hd rfl rfl rfl rfl rfl rfl rfl rfl ?_ K
  unfold ma_pr
  simp only [hp, h1, hw, hs, ht, ha, hb, hz, h3, h4, decide_true, Bool.and_self, if_true]
theorem zw_obj (hm : ma_md M = some (o, y, cc, nL, ret)) {x : Nat} (hd : decode cc pc = .ok (.invokespecial x, 3)) (hp : ma_prt o x = some 0) (h1 : 1 ≤ d) (hw : ma_sz r + 12 ≤ w) {c : Nat} (K : ma_wp X d w M (pc + 3) L r S Q) : ma_wp X d w M pc L (.inr (.inr (some c)) :: r) S Q := by
  refine zw_pr hm hd rfl rfl rfl rfl rfl rfl rfl rfl ?_ K
  unfold ma_pr
  simp only [hp, h1, hw, decide_true, Bool.and_self, if_true]
/-- a field in a constructor -/
def ma_pki (o x t k : Nat) : Bool := match vwCl[t]? with
  | some (_, T, _) => decide (ma_fld o x t = some k) && decide ((T k).1 = ma_cn o) && decide (1 ≤ t) && decide (t ≤ 12)
  | none => false
theorem zw_pfi (hm : ma_md M = some (o, y, cc, nL, ret)) (hy : y.name = "<init>") {x : Nat} (hd : decode cc pc = .ok (.putfield x, 3)) {c t k : Nat} {v : ma_V} (hs : ma_is S c = true) (ht : (mH S c).1 = t) (hp : ma_pki o x t k = true) (hv : ma_ok (ma_ft t k) v = true) (K : ma_wp X d w M (pc + 3) L r (ma_put S c k v) Q) : ma_wp X d w M pc L (v :: .inr (.inr (some c)) :: r) S Q := by
  refine zw_hp hm hd rfl rfl rfl rfl ?_ K
  unfold ma_pki at hp
  split at hp
  · next C T N hc =>
    simp only [Bool.and_eq_true, decide_eq_true_eq] at hp
    unfold ma_hp
    simp only [hs, ht, hp.1.2, hp.2, decide_true, Bool.and_self, if_true, hp.1.1.1, hc, hp.1.1.2, hv, hy, Bool.or_true]
  · cases hp
theorem zk_long {x : Int64} : ma_ok .long (.inr (.inl x)) = true := by simp [ma_ok]
/-- are two references the same -/
theorem zw_acmp (hm : ma_md M = some (o, y, cc, nL, ret)) {off : Int} (hd : decode cc pc = .ok (.if_acmp .eq off, 3)) {t : Nat} (ht : ma_to pc off = some t) {p q : Option Nat} (hp : ∀ b, p = some b → 64 ≤ b) (hq : ∀ b, q = some b → 64 ≤ b) (k1 : p = q → ma_wp X d w M t L r S Q) (k2 : ¬ p = q → ma_wp X d w M (pc + 3) L r S Q) : ma_wp X d w M pc L (.inr (.inr q) :: .inr (.inr p) :: r) S Q := by
  have hg : (p.all (fun b => decide (64 ≤ b)) && q.all (fun b => decide (64 ≤ b))) = true := by
    rw [Bool.and_eq_true]
    refine ⟨?_, ?_⟩
    · cases p with
      | none => rfl
      | some b => exact decide_eq_true (hp b rfl)
    · cases q with
      | none => rfl
      | some b => exact decide_eq_true (hq b rfl)
  have h : ma_one X o (decide (y.name = "<init>")) nL d w (.if_acmp .eq off) 3 pc L (.inr (.inr q) :: .inr (.inr p) :: r) S = some (if p = q then t else pc + 3, L, r, S) := by
    unfold ma_one
    simp only [ma_push, ma_stk, ma_sto, ma_jmp, ma_hp, ma_sc, ma_ex, ma_al, ma_pr, ma_tx, ma_ac, hg, if_true, ht, Option.map_some]
  refine zw_one hm hd h ?_
  by_cases e : p = q
  · rw [if_pos e]; exact k1 e
  · rw [if_neg e]; exact k2 e
/-- a method of the class above -/
theorem zw_csp (hm : ma_md M = some (o, y, cc, nL, ret)) {x M₉ m b nL₉ o₉ : Nat} {y₉ : MethodName} {cc₉ : ByteArray} {ret₉ : Option FieldType} (hd : decode cc pc = .ok (.invokespecial x, 3)) (hp : ma_prt o x = none) (hv : (ma_fd o x 0 true 6 9).map (fun q => q.2.1) = some (7, M₉, m)) (hm₉ : ma_md M₉ = some (o₉, y₉, cc₉, nL₉, ret₉)) (asr rest : List ma_V) (hl : asr.length = m) (hs : ma_is S b = true) (ht : 1 ≤ (mH S b).1 ∧ (mH S b).1 ≤ 12) (hr : 1 ≤ d ∧ 19 + nL₉ ≤ w) (hz : (decide (ma_sz (.inr (.inr (some b)) :: asr.reverse) ≤ nL₉) && decide (ma_sz rest ≤ 8)) = true)
    (hk : ma_wp X (d - 1) (w - (19 + nL₉)) M₉ 0 (ma_args 0 (.inr (.inr (some b)) :: asr.reverse)) [] S (fun z S₉ => match z with
      | .inl v => ma_wp X d w M (pc + 3) L (v.toList ++ rest) S₉ Q
      | .inr x => 7 ≤ 1 ∧ Q (.inr x) S₉)) : ma_wp X d w M pc L (asr ++ .inr (.inr (some b)) :: rest) S Q := by
  rw [Bool.and_eq_true, decide_eq_true_eq, decide_eq_true_eq] at hz
  cases hq : ma_fd o x 0 true 6 9 with
  | none => rw [hq] at hv; cases hv
  | some q =>
    rw [hq] at hv
    have e : q.2.1 = (7, M₉, m) := Option.some.inj hv
    have h2 : ma_pr o d w (.invokespecial x) 3 (asr ++ .inr (.inr (some b)) :: rest) S = none := by
      unfold ma_pr
      split
      · next h _ _ => cases h; simp [hp]
      · next h _ _ => cases h
      · next h _ _ => cases h
      · rfl
    refine zw_call (as := .inr (.inr (some b)) :: asr.reverse) (rest := rest) (k := 7) (M₉ := M₉) hm hd ?_ rfl (ma_thr_no hd (fun _ h => by cases h)) ?_ hm₉ ⟨hr.1, hr.2, hz.1, hz.2⟩ hk
    · unfold ma_one
      rw [h2]
      rfl
    · unfold ma_cl
      simp only [hq, e, ← hl, List.drop_left, List.take_left]
      rw [if_pos ⟨by decide, hs, ht.1, ht.2, Or.inl (by first | trivial | rfl)⟩]
end ZW3

/-! from 91.zz -/
/-! INTS as integers, and what store and walk keep -/
theorem zt {c A B : Prop} [Decidable c] (hc : c) (h : A) : if c then A else B := by rw [if_pos hc]; exact h
theorem zf {c A B : Prop} [Decidable c] (hc : ¬ c) (h : B) : if c then A else B := by rw [if_neg hc]; exact h
theorem zd {c A B : Prop} [Decidable c] (h1 : c → A) (h2 : ¬ c → B) : if c then A else B := by
  by_cases hc : c
  · exact zt hc (h1 hc)
  · exact zf hc (h2 hc)
theorem zi_x {K : Int32 → ma_S → Prop} {E : Nat → ma_S → Prop} {x : Nat} {S : ma_S} (h : E x S) : zi K E (.inr x) S := h
theorem zi_n {K : Int32 → ma_S → Prop} {E : Nat → ma_S → Prop} {v : Int32} {S : ma_S} (h : K v S) : zi K E (.inl (some (.inl v))) S := h
theorem zo_n {K : Option Nat → ma_S → Prop} {E : Nat → ma_S → Prop} {v : Option Nat} {S : ma_S} (h : K v S) : zo K E (.inl (some (.inr (.inr v)))) S := h
theorem zv_n {K : ma_S → Prop} {E : Nat → ma_S → Prop} {S : ma_S} (h : K S) : zv K E (.inl none) S := h
theorem zfi_n {K : Int32 → ma_S → Prop} {v : Int32} {S : ma_S} (h : K v S) : zfi_ K (some (.inl v)) S := h
theorem i_add {x y : Int32} (h1 : -2147483648 ≤ x.toInt + y.toInt) (h2 : x.toInt + y.toInt ≤ 2147483647) : (x + y).toInt = x.toInt + y.toInt := by
  rw [Int32.toInt_add]
  exact Int.bmod_eq_of_le (by omega) (by omega)
theorem i_sub {x y : Int32} (h1 : -2147483648 ≤ x.toInt - y.toInt) (h2 : x.toInt - y.toInt ≤ 2147483647) : (x - y).toInt = x.toInt - y.toInt := by
  rw [Int32.toInt_sub]
  exact Int.bmod_eq_of_le (by omega) (by omega)
theorem i_mul {x y : Int32} (h1 : -2147483648 ≤ x.toInt * y.toInt) (h2 : x.toInt * y.toInt ≤ 2147483647) : (x * y).toInt = x.toInt * y.toInt := by
  rw [Int32.toInt_mul]
  exact Int.bmod_eq_of_le (by omega) (by omega)
theorem i_addk {x y : Int32} {k : Int} (hk : y.toInt = k) (h1 : -2147483648 ≤ x.toInt + k) (h2 : x.toInt + k ≤ 2147483647) : (x + y).toInt = x.toInt + k := by
  rw [← hk] at h1 h2 ⊢
  exact i_add h1 h2
theorem i_subk {x y : Int32} {k : Int} (hk : y.toInt = k) (h1 : -2147483648 ≤ x.toInt - k) (h2 : x.toInt - k ≤ 2147483647) : (x - y).toInt = x.toInt - k := by
  rw [← hk] at h1 h2 ⊢
  exact i_sub h1 h2
theorem i_lt {x y : Int32} (h : x < y) : x.toInt < y.toInt := Int32.lt_iff_toInt_lt.mp h
theorem i_le {x y : Int32} (h : x ≤ y) : x.toInt ≤ y.toInt := Int32.le_iff_toInt_le.mp h
theorem i_eq {x y : Int32} (h : x = y) : x.toInt = y.toInt := by rw [h]
theorem i_nlt {x y : Int32} (h : ¬ x < y) : y.toInt ≤ x.toInt := Int32.le_iff_toInt_le.mp (Int32.not_lt.mp h)
theorem i_nle {x y : Int32} (h : ¬ x ≤ y) : y.toInt < x.toInt := Int32.lt_iff_toInt_lt.mp (Int32.not_le.mp h)
theorem i_ne {x y : Int32} (h : ¬ x = y) : x.toInt ≠ y.toInt := fun z => h (Int32.toInt_inj.mp z)
theorem i_ix {x : Int32} {n : Nat} (h1 : 0 ≤ x.toInt) (h2 : x.toInt < (n : Int)) : 0 ≤ x ∧ x.toNatClampNeg < n := by
  refine ⟨Int32.le_iff_toInt_le.mpr h1, ?_⟩
  show x.toInt.toNat < n
  omega
theorem i_bd (x : Int32) : -2147483648 ≤ x.toInt ∧ x.toInt ≤ 2147483647 := by
  have h1 := x.le_toInt
  have h2 := x.toInt_lt
  constructor
  · exact h1
  · omega
theorem i_bool {x : Int32} (h1 : 0 ≤ x.toInt) (h2 : x.toInt ≤ 1) : x = 0 ∨ x = 1 := by
  have h : x.toInt = 0 ∨ x.toInt = 1 := by omega
  rcases h with h | h
  · exact Or.inl (Int32.toInt_inj.mp (h.trans (rfl : (0 : Int32).toInt = 0).symm))
  · exact Or.inr (Int32.toInt_inj.mp (h.trans (rfl : (1 : Int32).toInt = 1).symm))
theorem i_div {x y : Int32} (h1 : 0 ≤ x.toInt) (h2 : 1 ≤ y.toInt) : 0 ≤ (x / y).toInt ∧ (x / y).toInt ≤ x.toInt ∧ (x / y).toInt = x.toInt / y.toInt ∧ (x / y).toInt * y.toInt ≤ x.toInt := by
  have e : (x / y).toInt = x.toInt / y.toInt := by
    rw [Int32.toInt_div, Int.tdiv_eq_ediv_of_nonneg h1]
    have h3 : x.toInt / y.toInt ≤ x.toInt := Int.ediv_le_self _ h1
    have h4 : 0 ≤ x.toInt / y.toInt := Int.ediv_nonneg h1 (by omega)
    have := i_bd x
    exact Int.bmod_eq_of_le (by omega) (by omega)
  have h3 : x.toInt / y.toInt ≤ x.toInt := Int.ediv_le_self _ h1
  have h4 : 0 ≤ x.toInt / y.toInt := Int.ediv_nonneg h1 (by omega)
  refine ⟨by omega, by omega, e, ?_⟩
  rw [e]
  exact Int.ediv_mul_le _ (by omega)
theorem i_muln {x y : Int32} (h1 : 0 ≤ x.toInt) (h2 : x.toInt ≤ 1500) (h3 : 0 ≤ y.toInt) (h4 : y.toInt ≤ 3000) : 0 ≤ (x * y).toInt ∧ (x * y).toInt ≤ x.toInt * 3000 ∧ (x * y).toInt = x.toInt * y.toInt := by
  have a : 0 ≤ x.toInt * y.toInt := Int.mul_nonneg h1 h3
  have b : x.toInt * y.toInt ≤ x.toInt * 3000 := Int.mul_le_mul_of_nonneg_left h4 h1
  have e := i_mul (x := x) (y := y) (by omega) (by omega)
  refine ⟨by omega, by omega, e⟩
theorem i_nz {x : Int32} (h : x.toInt ≠ 0) : x ≠ 0 := fun z => h (by rw [z]; rfl)
theorem i_max (a b : Int32) : a.toInt ≤ (if a < b then b else a).toInt ∧ b.toInt ≤ (if a < b then b else a).toInt ∧ ((if a < b then b else a).toInt = a.toInt ∨ (if a < b then b else a).toInt = b.toInt) := by
  split
  · next h => have := i_lt h; omega
  · next h => have := i_nlt h; omega
theorem i_min (a b : Int32) : (if b < a then b else a).toInt ≤ a.toInt ∧ (if b < a then b else a).toInt ≤ b.toInt ∧ ((if b < a then b else a).toInt = a.toInt ∨ (if b < a then b else a).toInt = b.toInt) := by
  split
  · next h => have := i_lt h; omega
  · next h => have := i_nlt h; omega
theorem i_copy {a b z : Int32} {n : Nat} (h1 : 0 ≤ a.toInt) (h2 : 0 ≤ b.toInt) (h3 : 0 ≤ z.toInt) (h4 : a.toInt + z.toInt ≤ (n : Int)) (h5 : b.toInt + z.toInt ≤ (n : Int)) : 0 ≤ a ∧ 0 ≤ b ∧ 0 ≤ z ∧ a.toNatClampNeg + z.toNatClampNeg ≤ n ∧ b.toNatClampNeg + z.toNatClampNeg ≤ n := by
  refine ⟨Int32.le_iff_toInt_le.mpr h1, Int32.le_iff_toInt_le.mpr h2, Int32.le_iff_toInt_le.mpr h3, ?_, ?_⟩
  · show a.toInt.toNat + z.toInt.toNat ≤ n
    omega
  · show b.toInt.toNat + z.toInt.toNat ≤ n
    omega
/-- what they may not touch: the house, its rows, how many were given, the collectors, the reference, the law's row -/
def zfz (c k : Nat) : Bool := (decide (64 ≤ c) && decide (c ≤ 68)) || (decide (c = 69) && decide (k = 6)) || (decide (78 ≤ c) && decide (c ≤ 87)) || (decide (91 ≤ c) && decide (c ≤ 125))
/-- AN INVARIANT: which ints may not change, fields with bounds, rows with bounds, rows of Things, one thing more; what the ints and references were, how much was made -/
def zG (fz : Nat → Nat → Bool) (sc : List (Nat × Nat × Int × Int)) (sa : List (Nat × Nat × Int × Int)) (rf : List Nat) (ex : (Nat → Nat → Int32) → Prop) (f : Nat → Nat → Int32) (r : Nat → Nat → Option Nat) (C Z N : Nat) (S : ma_S) : Prop :=
  zT S ∧ (mC S = C ∧ mZ S = Z ∧ mN S = N) ∧ (∀ c k, fz c k = true → mI S c k = f c k) ∧ (∀ c k, c ∉ rf → mR S c k = r c k) ∧ ex (mI S) ∧
  (∀ q ∈ sc, q.2.2.1 ≤ (mI S q.1 q.2.1).toInt ∧ (mI S q.1 q.2.1).toInt ≤ q.2.2.2) ∧ (∀ q ∈ sa, ∀ k, k < q.2.1 → q.2.2.1 ≤ (mI S q.1 k).toInt ∧ (mI S q.1 k).toInt ≤ q.2.2.2) ∧ (∀ c ∈ rf, ∀ i b, mR S c i = some b → 126 ≤ b ∧ b < N) ∧
  ∀ c, 126 ≤ c → c < N → (0 ≤ (mI S c 0).toInt ∧ (mI S c 0).toInt ≤ 511) ∧ (1 ≤ (mI S c 2).toInt ∧ (mI S c 2).toInt ≤ 61) ∧ (0 ≤ (mI S c 4).toInt ∧ (mI S c 4).toInt ≤ 200000)
section ZG1
variable {fz : Nat → Nat → Bool} {sc sa : List (Nat × Nat × Int × Int)} {rf : List Nat} {ex : (Nat → Nat → Int32) → Prop} {f : Nat → Nat → Int32} {r : Nat → Nat → Option Nat} {C Z N : Nat} {S : ma_S} {c k : Nat} {x : Int32}
theorem zG_T (h : zG fz sc sa rf ex f r C Z N S) : zT S := h.1
theorem zG_N (h : zG fz sc sa rf ex f r C Z N S) : mN S = N := h.2.1.2.2
theorem zG_n (h : zG fz sc sa rf ex f r C Z N S) (hc : 126 ≤ c ∧ c < N) : 126 ≤ c ∧ c < mN S := by rw [h.2.1.2.2]; exact hc
theorem zG_s (h : zG fz sc sa rf ex f r C Z N S) (lo hi : Int) (m : (c, k, lo, hi) ∈ sc) : lo ≤ (mI S c k).toInt ∧ (mI S c k).toInt ≤ hi := h.2.2.2.2.2.1 _ m
theorem zG_a (h : zG fz sc sa rf ex f r C Z N S) (n : Nat) (lo hi : Int) (m : (c, n, lo, hi) ∈ sa) (hk : k < n) : lo ≤ (mI S c k).toInt ∧ (mI S c k).toInt ≤ hi := h.2.2.2.2.2.2.1 _ m k hk
theorem zG_z (h : zG fz sc sa rf ex f r C Z N S) (hz : fz c k = true) : mI S c k = f c k := h.2.2.1 c k hz
theorem zG_zi (h : zG fz sc sa rf ex f r C Z N S) (hz : fz c k = true) : (mI S c k).toInt = (f c k).toInt := by rw [zG_z h hz]
theorem zG_r (h : zG fz sc sa rf ex f r C Z N S) (hz : c ∉ rf) : mR S c k = r c k := h.2.2.2.1 c k hz
theorem zG_x (h : zG fz sc sa rf ex f r C Z N S) : ex (mI S) := h.2.2.2.2.1
theorem zG_70 (h : zG fz sc sa rf ex f r C Z N S) {i b : Nat} (hc : c ∈ rf) (e : mR S c i = some b) : 126 ≤ b ∧ b < N := h.2.2.2.2.2.2.2.1 _ hc _ _ e
theorem zG_th (h : zG fz sc sa rf ex f r C Z N S) (hc : 126 ≤ c ∧ c < N) : (0 ≤ (mI S c 0).toInt ∧ (mI S c 0).toInt ≤ 511) ∧ (1 ≤ (mI S c 2).toInt ∧ (mI S c 2).toInt ≤ 61) ∧ (0 ≤ (mI S c 4).toInt ∧ (mI S c 4).toInt ≤ 200000) := h.2.2.2.2.2.2.2.2 c hc.1 hc.2
theorem zG_pi (h : zG fz sc sa rf ex f r C Z N S) (h1 : fz c k = false) (h2 : ∀ q ∈ sc, q.1 = c → q.2.1 = k → q.2.2.1 ≤ x.toInt ∧ x.toInt ≤ q.2.2.2) (h4 : ∀ q ∈ sa, q.1 = c → q.2.2.1 ≤ x.toInt ∧ x.toInt ≤ q.2.2.2) (hx : ex (mI (ma_put S c k (.inl x)))) (h3 : 126 ≤ c → (k = 0 → 0 ≤ x.toInt ∧ x.toInt ≤ 511) ∧ (k = 2 → 1 ≤ x.toInt ∧ x.toInt ≤ 61) ∧ (k = 4 → 0 ≤ x.toInt ∧ x.toInt ≤ 200000)) : zG fz sc sa rf ex f r C Z N (ma_put S c k (.inl x)) := by
  obtain ⟨a1, a2, a3, a4, a5, a6, a9, a7, a8⟩ := h
  have rd : ∀ c₉ k₉, mI (ma_put S c k (.inl x)) c₉ k₉ = if c₉ = c ∧ k₉ = k then x else mI S c₉ k₉ := fun _ _ => rfl
  refine ⟨a1, a2, fun c₉ k₉ hz => ?_, a4, hx, fun q hq => ?_, fun q hq k₉ hk => ?_, a7, fun c₉ hc1 hc2 => ?_⟩
  · rw [rd, if_neg (fun z => by rw [z.1, z.2, h1] at hz; cases hz)]
    exact a3 c₉ k₉ hz
  · rw [rd]
    split
    · next z => exact h2 q hq z.1 z.2
    · exact a6 q hq
  · rw [rd]
    split
    · next z => exact h4 q hq z.1
    · exact a9 q hq k₉ hk
  · have := a8 c₉ hc1 hc2
    rw [rd, rd, rd]
    refine ⟨?_, ?_, ?_⟩
    · split
      · next z => exact (h3 (z.1 ▸ hc1)).1 z.2.symm
      · exact this.1
    · split
      · next z => exact (h3 (z.1 ▸ hc1)).2.1 z.2.symm
      · exact this.2.1
    · split
      · next z => exact (h3 (z.1 ▸ hc1)).2.2 z.2.symm
      · exact this.2.2
/-- a row, or a field, without bounds -/
theorem zG_fr (h : zG fz sc sa rf ex f r C Z N S) (e : fz c k = false) (e2 : ∀ q ∈ sc, q.1 ≠ c ∨ q.2.1 ≠ k) (e3 : ∀ q ∈ sa, q.1 ≠ c) (hc : c < 126) (hx : ex (mI (ma_put S c k (.inl x)))) : zG fz sc sa rf ex f r C Z N (ma_put S c k (.inl x)) :=
  zG_pi h e (fun q hq h1 h2 => (e2 q hq).elim (fun z => absurd h1 z) (fun z => absurd h2 z)) (fun q hq h1 => absurd h1 (e3 q hq)) hx (fun h1 => by omega)
theorem zG_fa (h : zG fz sc sa rf ex f r C Z N S) (e : fz c k = false) (e2 : ∀ q ∈ sc, q.1 ≠ c) (e3 : ∀ q ∈ sa, q.1 ≠ c) (hc : c < 126) (hx : ex (mI (ma_put S c k (.inl x)))) : zG fz sc sa rf ex f r C Z N (ma_put S c k (.inl x)) :=
  zG_pi h e (fun q hq h1 h2 => absurd h1 (e2 q hq)) (fun q hq h1 => absurd h1 (e3 q hq)) hx (fun h1 => by omega)
/-- a field, or a row, with bounds -/
theorem zG_sp (h : zG fz sc sa rf ex f r C Z N S) (lo hi : Int) (e : fz c k = false) (e2 : ∀ q ∈ sc, q.1 = c → q.2.1 = k → q.2.2.1 = lo ∧ q.2.2.2 = hi) (e3 : ∀ q ∈ sa, q.1 ≠ c) (hc : c < 126) (hx : ex (mI (ma_put S c k (.inl x)))) (h1 : lo ≤ x.toInt) (h2 : x.toInt ≤ hi) : zG fz sc sa rf ex f r C Z N (ma_put S c k (.inl x)) :=
  zG_pi h e (fun q hq g1 g2 => by rw [(e2 q hq g1 g2).1, (e2 q hq g1 g2).2]; exact ⟨h1, h2⟩) (fun q hq h1 => absurd h1 (e3 q hq)) hx (fun h1 => by omega)
theorem zG_sa (h : zG fz sc sa rf ex f r C Z N S) (lo hi : Int) (e : fz c k = false) (e2 : ∀ q ∈ sc, q.1 ≠ c) (e3 : ∀ q ∈ sa, q.1 = c → q.2.2.1 = lo ∧ q.2.2.2 = hi) (hc : c < 126) (hx : ex (mI (ma_put S c k (.inl x)))) (h1 : lo ≤ x.toInt) (h2 : x.toInt ≤ hi) : zG fz sc sa rf ex f r C Z N (ma_put S c k (.inl x)) :=
  zG_pi h e (fun q hq g1 _ => absurd g1 (e2 q hq)) (fun q hq g1 => by rw [(e3 q hq g1).1, (e3 q hq g1).2]; exact ⟨h1, h2⟩) hx (fun h1 => by omega)
theorem zG_tf (h : zG fz sc sa rf ex f r C Z N S) (hc : 126 ≤ c) (e : ∀ c k, 126 ≤ c → fz c k = false) (e2 : ∀ q ∈ sc, q.1 < 126) (e3 : ∀ q ∈ sa, q.1 < 126) (hx : ex (mI (ma_put S c k (.inl x)))) (h0 : k ≠ 0) (h2 : k ≠ 2) (h4 : k ≠ 4) : zG fz sc sa rf ex f r C Z N (ma_put S c k (.inl x)) :=
  zG_pi h (e c k hc) (fun q hq g1 g2 => by have := e2 q hq; omega) (fun q hq g1 => by have := e3 q hq; omega) hx (fun _ => ⟨fun z => absurd z h0, fun z => absurd z h2, fun z => absurd z h4⟩)
theorem zG_t4 (h : zG fz sc sa rf ex f r C Z N S) (hc : 126 ≤ c) (e : ∀ c k, 126 ≤ c → fz c k = false) (e2 : ∀ q ∈ sc, q.1 < 126) (e3 : ∀ q ∈ sa, q.1 < 126) (hx : ex (mI (ma_put S c 4 (.inl x)))) (h1 : 0 ≤ x.toInt) (h2 : x.toInt ≤ 200000) : zG fz sc sa rf ex f r C Z N (ma_put S c 4 (.inl x)) :=
  zG_pi h (e c 4 hc) (fun q hq g1 g2 => by have := e2 q hq; omega) (fun q hq g1 => by have := e3 q hq; omega) hx (fun _ => ⟨fun z => (by cases z), fun z => (by cases z), fun _ => ⟨h1, h2⟩⟩)
theorem zG_rf (h : zG fz sc sa rf ex f r C Z N S) {q : Option Nat} (hc : c ∈ rf) (hz : zfr c = true) (hx : ∀ b, q = some b → 126 ≤ b ∧ b < N) : zG fz sc sa rf ex f r C Z N (ma_put S c k (.inr (.inr q))) := by
  obtain ⟨a1, a2, a3, a4, a5, a6, a9, a7, a8⟩ := h
  have rd : ∀ c₉ k₉, mR (ma_put S c k (.inr (.inr q))) c₉ k₉ = if c₉ = c ∧ k₉ = k then q else mR S c₉ k₉ := fun _ _ => rfl
  refine ⟨zT_pr a1 (zfi_row hz), a2, a3, fun c₉ k₉ hn => ?_, a5, a6, a9, fun c₉ hc₉ i b e => ?_, a8⟩
  · rw [rd, if_neg (fun z : c₉ = c ∧ k₉ = k => hn (by rw [z.1]; exact hc))]
    exact a4 c₉ k₉ hn
  · rw [rd] at e
    split at e
    · exact hx b e
    · exact a7 c₉ hc₉ i b e
theorem zG_cp (h : zG fz sc sa rf ex f r C Z N S) {g : Nat → Int32} (e : ∀ k, fz c k = false) (e2 : ∀ q ∈ sc, q.1 ≠ c) (e3 : ∀ q ∈ sa, q.1 ≠ c) (hc : c < 126) (hx : ex (mI (ma_cp S c g))) : zG fz sc sa rf ex f r C Z N (ma_cp S c g) := by
  obtain ⟨a1, a2, a3, a4, a5, a6, a9, a7, a8⟩ := h
  have rd : ∀ c₉, c₉ ≠ c → mI (ma_cp S c g) c₉ = mI S c₉ := fun c₉ hn => if_neg hn
  refine ⟨a1, a2, fun c₉ k₉ hz => ?_, a4, hx, fun q hq => ?_, fun q hq k₉ hk => ?_, a7, fun c₉ hc1 hc2 => ?_⟩
  · rw [rd c₉ (fun z => by rw [z, e] at hz; cases hz)]
    exact a3 c₉ k₉ hz
  · rw [rd q.1 (e2 q hq)]
    exact a6 q hq
  · rw [rd q.1 (e3 q hq)]
    exact a9 q hq k₉ hk
  · rw [rd c₉ (by omega)]
    exact a8 c₉ hc1 hc2
end ZG1
section ZG2
variable {fA fB : Nat → Nat → Bool} {scA scB saA saB : List (Nat × Nat × Int × Int)} {rfA rfB : List Nat} {exA exB : (Nat → Nat → Int32) → Prop} {f : Nat → Nat → Int32} {r : Nat → Nat → Option Nat} {C Z N : Nat} {S S1 : ma_S}
/-- down to what a callee keeps -/
theorem zG_dn (h : zG fA scA saA rfA exA f r C Z N S) (hs : ∀ q ∈ scB, q ∈ scA) (ha : ∀ q ∈ saB, q ∈ saA) (hr : ∀ c ∈ rfB, c ∈ rfA) (he : exA (mI S) → exB (mI S)) : zG fB scB saB rfB exB (mI S) (mR S) C Z N S := by
  obtain ⟨a1, a2, a3, a4, a5, a6, a9, a7, a8⟩ := h
  exact ⟨a1, a2, fun _ _ _ => rfl, fun _ _ _ => rfl, he a5, fun q hq => a6 q (hs q hq), fun q hq => a9 q (ha q hq), fun c hc => a7 c (hr c hc), a8⟩
/-- and up again behind the call -/
theorem zG_up (h : zG fA scA saA rfA exA f r C Z N S) (h1 : zG fB scB saB rfB exB (mI S) (mR S) C Z N S1) (hf : ∀ c k, fA c k = true → fB c k = true) (hs : ∀ q ∈ scA, q ∈ scB ∨ fB q.1 q.2.1 = true) (ha : ∀ q ∈ saA, q ∈ saB ∨ ∀ k, fB q.1 k = true) (hr : ∀ c ∈ rfB, c ∈ rfA) (he : (∀ c k, fB c k = true → mI S1 c k = mI S c k) → exB (mI S1) → exA (mI S) → exA (mI S1)) : zG fA scA saA rfA exA f r C Z N S1 := by
  obtain ⟨a1, a2, a3, a4, a5, a6, a9, a7, a8⟩ := h
  obtain ⟨b1, b2, b3, b4, b5, b6, b9, b7, b8⟩ := h1
  refine ⟨b1, b2, fun c k hz => (b3 c k (hf c k hz)).trans (a3 c k hz), fun c k hn => (b4 c k (fun z => hn (hr c z))).trans (a4 c k hn), he b3 b5 a5, fun q hq => ?_, fun q hq k hk => ?_, fun c hc i b e => ?_, b8⟩
  · rcases hs q hq with z | z
    · exact b6 q z
    · rw [b3 _ _ z]; exact a6 q hq
  · rcases ha q hq with z | z
    · exact b9 q z k hk
    · rw [b3 _ _ (z k)]; exact a9 q hq k hk
  · by_cases hz : c ∈ rfB
    · exact b7 c hz i b e
    · rw [b4 c i hz] at e; exact a7 c hc i b e
end ZG2

