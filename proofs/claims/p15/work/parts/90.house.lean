/-! THE HOUSE: the cells that stand behind the constructors, by number; and the law's frames, reasoned of backwards -/
def zshp : List (Nat × Nat) := [(11, 12), (21, 100), (20, 4), (20, 16), (20, 16), (7, 13), (24, 512), (20, 4500), (20, 16), (20, 16), (20, 512), (10, 6), (20, 512), (20, 512), (25, 7), (8, 5), (5, 4), (3, 5), (1, 10), (20, 375), (2, 8), (24, 512), (20, 512), (6, 9), (10, 6), (20, 512), (20, 512), (4, 9), (20, 93), (20, 93), (12, 85), (21, 100), (21, 100), (20, 16), (20, 16), (22, 3100), (20, 3100), (20, 3100), (20, 3100), (20, 3100), (20, 3100), (20, 3100), (20, 3100), (20, 3100), (20, 186000), (22, 3100), (22, 3100), (20, 4600), (20, 16), (20, 16), (20, 3100), (20, 3100), (20, 128), (22, 512), (20, 3100), (20, 3100), (20, 3100), (20, 3100), (20, 128), (22, 128), (22, 128), (23, 1)]
def zs (c : Nat) : Option (Nat × Nat) := if 64 ≤ c then zshp[c - 64]? else none
def zfl : List (Nat × Nat × Nat) := [(64, 0, 65), (64, 4, 66), (64, 5, 67), (64, 6, 68), (64, 8, 69), (64, 9, 75), (64, 10, 78), (69, 0, 70), (69, 1, 71), (69, 2, 72), (69, 3, 73), (69, 4, 74), (75, 0, 69), (75, 1, 76), (75, 2, 77), (78, 0, 79), (78, 1, 80), (78, 2, 81), (78, 3, 82), (78, 4, 84), (78, 5, 87), (78, 6, 91), (79, 0, 69), (79, 1, 75), (80, 0, 69), (80, 1, 75), (81, 0, 69), (81, 1, 75), (82, 0, 69), (82, 1, 75), (82, 9, 83), (84, 3, 69), (84, 4, 75), (84, 5, 85), (84, 6, 86), (87, 3, 69), (87, 4, 75), (87, 5, 88), (88, 0, 69), (88, 1, 89), (88, 2, 90), (91, 0, 69), (91, 1, 75), (91, 7, 92), (91, 8, 93), (94, 1, 95), (94, 2, 96), (94, 5, 97), (94, 6, 98), (94, 31, 99), (94, 32, 100), (94, 33, 101), (94, 34, 102), (94, 35, 103), (94, 36, 104), (94, 37, 105), (94, 38, 106), (94, 39, 107), (94, 40, 108), (94, 41, 109), (94, 42, 110), (94, 43, 111), (94, 51, 112), (94, 52, 113), (94, 53, 114), (94, 54, 115), (94, 65, 116), (94, 66, 117), (94, 72, 118), (94, 74, 119), (94, 78, 120), (94, 79, 121), (94, 81, 122), (94, 82, 123), (94, 83, 124)]
def zfi (c k : Nat) : Option Nat := (zfl.find? (fun q => q.1 == c && q.2.1 == k)).map (fun q => q.2.2)
/-- all of them are there, of their kinds and lengths, and the fields that never change have what they had -/
def zO (S : ma_S) : Prop := (∀ c t n, zs c = some (t, n) → ma_is S c = true ∧ mH S c = (t, n)) ∧ ∀ c k r, zfi c k = some r → mR S c k = some r
section ZO1
variable {S : ma_S} {c k r t n : Nat}
theorem zO_is (h : zO S) (e : zs c = some (t, n)) : ma_is S c = true := (h.1 _ _ _ e).1
theorem zO_h (h : zO S) (e : zs c = some (t, n)) : mH S c = (t, n) := (h.1 _ _ _ e).2
theorem zO_t (h : zO S) (e : zs c = some (t, n)) : (mH S c).1 = t := by rw [(h.1 _ _ _ e).2]
theorem zO_rt (h : zO S) (e : zs c = some (t, n)) (ht : (decide (1 ≤ t) && decide (t ≤ 12)) = true) : ma_rt S c = some t := by
  have h1 := zO_is h e
  have h2 := zO_t h e
  rw [Bool.and_eq_true] at ht
  unfold ma_rt
  have h64 : ¬ c < 19 := by
    unfold ma_is at h1
    rw [Bool.and_eq_true, decide_eq_true_eq] at h1
    omega
  rw [if_neg h64]
  simp only [h1, h2, ht.1, ht.2, Bool.and_self, if_true]
theorem zO_f (h : zO S) (e : zfi c k = some r) : (Sum.inr (Sum.inr (mR S c k)) : ma_V) = .inr (.inr (some r)) := by rw [h.2 _ _ _ e]
theorem zO_pi (h : zO S) {x : Int32} : zO (ma_put S c k (.inl x)) := h
theorem zO_pl (h : zO S) {x : Int64} : zO (ma_put S c k (.inr (.inl x))) := h
theorem zO_pr (h : zO S) {q : Option Nat} (e : zfi c k = none) : zO (ma_put S c k (.inr (.inr q))) := by
  refine ⟨h.1, fun c' k' r' e' => ?_⟩
  show ma_u (mR S) c k q c' k' = some r'
  unfold ma_u
  rw [if_neg (fun z => by rw [z.1, z.2, e] at e'; cases e')]
  exact h.2 _ _ _ e'
theorem zO_b (h : zO S) : zO (ma_bump S) := h
end ZO1
theorem zc0_lt {x : Int32} : ma_c0 .lt x = true ↔ x < 0 := decide_eq_true_iff
theorem zc0_ge {x : Int32} : ma_c0 .ge x = true ↔ 0 ≤ x := decide_eq_true_iff
theorem zc0_eq {x : Int32} : ma_c0 .eq x = true ↔ x = 0 := decide_eq_true_iff
theorem zc0_ne {x : Int32} : ma_c0 .ne x = true ↔ ¬ x = 0 := decide_eq_true_iff
theorem zc0_gt {x : Int32} : ma_c0 .gt x = true ↔ 0 < x := decide_eq_true_iff
theorem zc0_le {x : Int32} : ma_c0 .le x = true ↔ x ≤ 0 := decide_eq_true_iff
theorem zc2_lt {x z : Int32} : ma_c2 .lt x z = true ↔ x < z := decide_eq_true_iff
theorem zc2_ge {x z : Int32} : ma_c2 .ge x z = true ↔ z ≤ x := decide_eq_true_iff
theorem zc2_eq {x z : Int32} : ma_c2 .eq x z = true ↔ x = z := decide_eq_true_iff
theorem zc2_ne {x z : Int32} : ma_c2 .ne x z = true ↔ ¬ x = z := decide_eq_true_iff
theorem zc2_gt {x z : Int32} : ma_c2 .gt x z = true ↔ z < x := decide_eq_true_iff
theorem zc2_le {x z : Int32} : ma_c2 .le x z = true ↔ x ≤ z := decide_eq_true_iff
theorem ma_nd_of {L : ma_L} {ks : List Nat} (h : L.map (·.1) = ks) (hk : ks.Nodup) : ma_nd L := by
  unfold ma_nd; rw [h]; exact hk
theorem zi_go {K : Int32 → ma_S → Prop} {E : Nat → ma_S → Prop} {G : Option ma_V ⊕ Nat → ma_S → Prop} (h1 : ∀ v S, K v S → G (.inl (some (.inl v))) S) (h2 : ∀ x S, E x S → G (.inr x) S) : ∀ z S, zi K E z S → G z S := by
  intro z S h
  rcases z with v | x
  · rcases v with _ | v
    · exact h.elim
    · rcases v with v | v
      · exact h1 _ _ h
      · rcases v with v | v <;> exact h.elim
  · exact h2 _ _ h
theorem zo_go {K : Option Nat → ma_S → Prop} {E : Nat → ma_S → Prop} {G : Option ma_V ⊕ Nat → ma_S → Prop} (h1 : ∀ v S, K v S → G (.inl (some (.inr (.inr v)))) S) (h2 : ∀ x S, E x S → G (.inr x) S) : ∀ z S, zo K E z S → G z S := by
  intro z S h
  rcases z with v | x
  · rcases v with _ | v
    · exact h.elim
    · rcases v with v | v
      · exact h.elim
      · rcases v with v | v
        · exact h.elim
        · exact h1 _ _ h
  · exact h2 _ _ h
theorem zv_go {K : ma_S → Prop} {E : Nat → ma_S → Prop} {G : Option ma_V ⊕ Nat → ma_S → Prop} (h1 : ∀ S, K S → G (.inl none) S) (h2 : ∀ x S, E x S → G (.inr x) S) : ∀ z S, zv K E z S → G z S := by
  intro z S h
  rcases z with v | x
  · rcases v with _ | v
    · exact h1 _ h
    · exact h.elim
  · exact h2 _ _ h
/-! the law's frames -/
def ma_fp (X : Nat × (Nat → Int32)) (k d w pc : Nat) (L : ma_L) (st : List ma_V) (S : ma_S) (Q : Option ma_V → ma_S → Prop) : Prop := ∃ f v S', ma_frun X f k d w pc L st S = some (v, S') ∧ Q v S'
def zfi_ (K : Int32 → ma_S → Prop) : Option ma_V → ma_S → Prop := fun o S => match o with
  | some (.inl v) => K v S
  | _ => False
theorem zfi_go {K : Int32 → ma_S → Prop} {G : Option ma_V → ma_S → Prop} (h1 : ∀ v S, K v S → G (some (.inl v)) S) : ∀ z S, zfi_ K z S → G z S := by
  intro z S h
  rcases z with _ | v
  · exact h.elim
  · rcases v with v | v
    · exact h1 _ _ h
    · exact h.elim
theorem ma_frun_up {X : Nat × (Nat → Int32)} : ∀ (f k d w pc : Nat) (L : ma_L) (st : List ma_V) (S : ma_S) (r : Option ma_V × ma_S), ma_frun X f k d w pc L st S = some r → ma_frun X (f + 1) k d w pc L st S = some r := by
  intro f
  induction f with
  | zero => intro k d w pc L st S r h; cases h
  | succ f ih =>
    intro k d w pc L st S r h
    unfold ma_frun at h ⊢
    split at h
    · cases h
    · next cc nL ret hh hfi =>
      split at h
      · cases h
      · next i n hd =>
        split at h
        · exact ih _ _ _ _ _ _ _ _ h
        · split at h
          · exact h
          · split at h
            · split at h
              · cases h
              · split at h
                · next hroom =>
                  rw [if_pos hroom]
                  split at h
                  · next v2 S1 hr =>
                    rw [ma_run_up _ _ _ _ _ _ _ _ _ hr]
                    exact ih _ _ _ _ _ _ _ _ h
                  · next x2 px S1 hr =>
                    rw [ma_run_up _ _ _ _ _ _ _ _ _ hr]
                    exact h
                  · cases h
                · cases h
            · split at h
              · cases h
              · split at h
                · cases h
                · split at h
                  · next hroom =>
                    rw [if_pos hroom]
                    split at h
                    · next v2 S1 hr =>
                      rw [ih _ _ _ _ _ _ _ _ hr]
                      exact ih _ _ _ _ _ _ _ _ h
                    · cases h
                  · cases h
theorem ma_frun_le {X : Nat × (Nat → Int32)} {f g k d w pc : Nat} {L : ma_L} {st : List ma_V} {S : ma_S} {r : Option ma_V × ma_S} (hfg : f ≤ g) (h : ma_frun X f k d w pc L st S = some r) : ma_frun X g k d w pc L st S = some r := by
  induction hfg with
  | refl => exact h
  | step _ ih => exact ma_frun_up _ _ _ _ _ _ _ _ _ ih
def ma_fbody (X : Nat × (Nat → Int32)) (f k d w pc : Nat) (L : ma_L) (st : List ma_V) (S : ma_S) : Option (Option ma_V × ma_S) := match ma_fi k with
    | none => none
    | some (cc, nL, ret, hh) => match decode cc pc with
      | .error _ => none
      | .ok (i, n) => match ma_one X 14 false nL d w i n pc L st S with
        | some (pc', L', st', S') => ma_frun X f k d w pc' L' st' S'
        | none => match ma_ret ret i n st with
          | some v => some (v, S)
          | none => match ma_cl 14 i n st S with
            | some ((kd, M'), as, rest) => (match ma_md M' with
              | none => none
              | some (_, _, _, nL', _) => if 1 ≤ d ∧ 19 + nL' ≤ w ∧ ma_sz as ≤ nL' ∧ ma_sz rest ≤ 8 then (match ma_run X f (d - 1) (w - (19 + nL')) M' 0 (ma_args 0 as) [] S with
                | some (.inl v, S') => ma_frun X f k d w (pc + 3) L (v.toList ++ rest) S'
                | some (.inr (x, _), S') => if kd ≤ 1 ∧ ret = some .int then (ma_hd cc nL x pc hh).map (fun c => (some (.inl c), S')) else none
                | none => none) else none)
            | none => match ma_cw i n st with
              | none => none
              | some (k', as, rest) => match ma_fi k' with
                | none => none
                | some (_, nL', _, _) => if 1 ≤ d ∧ 19 + nL' ≤ w ∧ ma_sz as ≤ nL' ∧ ma_sz rest ≤ 8 then (match ma_frun X f k' (d - 1) (w - (19 + nL')) 0 (ma_args 0 as) [] S with
                  | some (v, S') => ma_frun X f k d w (pc + 3) L (v.toList ++ rest) S'
                  | none => none) else none
theorem ma_frun_s (X : Nat × (Nat → Int32)) (f k d w pc : Nat) (L : ma_L) (st : List ma_V) (S : ma_S) : ma_frun X (f + 1) k d w pc L st S = ma_fbody X f k d w pc L st S := rfl
section ZF1
variable {X : Nat × (Nat → Int32)} {d w k pc : Nat} {L : ma_L} {st r : List ma_V} {S : ma_S} {o nL : Nat} {ini : Bool} {cc : ByteArray} {ret : Option FieldType} {hh : List (Nat × Nat × Nat × Nat)} {i : Instr} {n : Nat} {Q Q' : Option ma_V → ma_S → Prop}
theorem zf_mono (h : ma_fp X k d w pc L st S Q) (g : ∀ o S', Q o S' → Q' o S') : ma_fp X k d w pc L st S Q' := by
  obtain ⟨f, o, S', h1, h2⟩ := h
  exact ⟨f, o, S', h1, g _ _ h2⟩
theorem zf_one (hm : ma_fi k = some (cc, nL, ret, hh)) (hd : decode cc pc = .ok (i, n)) {pc' : Nat} {L' : ma_L} {st' : List ma_V} {S' : ma_S} (h : ma_one X 14 false nL d w i n pc L st S = some (pc', L', st', S')) (K : ma_fp X k d w pc' L' st' S' Q) : ma_fp X k d w pc L st S Q := by
  obtain ⟨f, o', S1, h1, h2⟩ := K
  refine ⟨f + 1, o', S1, ?_, h2⟩
  rw [ma_frun_s]
  simp only [ma_fbody, hm, hd, h]
  exact h1
theorem zf_push (hm : ma_fi k = some (cc, nL, ret, hh)) (hd : decode cc pc = .ok (i, n)) {v : ma_V} (h : ma_push i n L = some v) (K : ma_fp X k d w (pc + n) L (v :: st) S Q) : ma_fp X k d w pc L st S Q :=
  zf_one hm hd (by unfold ma_one; rw [h]) K
theorem zf_stk (hm : ma_fi k = some (cc, nL, ret, hh)) (hd : decode cc pc = .ok (i, n)) {st' : List ma_V} (h0 : ma_push i n L = none) (h : ma_stk i n st = some st') (K : ma_fp X k d w (pc + n) L st' S Q) : ma_fp X k d w pc L st S Q :=
  zf_one hm hd (by unfold ma_one; rw [h0, h]) K
theorem zf_sto (hm : ma_fi k = some (cc, nL, ret, hh)) (hd : decode cc pc = .ok (i, n)) (L' : ma_L) {st' : List ma_V} (h0 : ma_push i n L = none) (h1 : ma_stk i n st = none) (h : ma_sto i n nL L st = some (L', st')) (K : ma_fp X k d w (pc + n) L' st' S Q) : ma_fp X k d w pc L st S Q :=
  zf_one hm hd (by unfold ma_one; rw [h0, h1]; simp only [h]) K
theorem zf_jmp (hm : ma_fi k = some (cc, nL, ret, hh)) (hd : decode cc pc = .ok (i, n)) {t : Nat} {st' : List ma_V} (h0 : ma_push i n L = none) (h1 : ma_stk i n st = none) (h2 : ma_sto i n nL L st = none) (h : ma_jmp i n pc st = some (t, st')) (K : ma_fp X k d w t L st' S Q) : ma_fp X k d w pc L st S Q :=
  zf_one hm hd (by unfold ma_one; rw [h0, h1]; simp only [h2, h]) K
theorem zf_goto (hm : ma_fi k = some (cc, nL, ret, hh)) {off : Int} (hd : decode cc pc = .ok (.goto off, 3)) {t : Nat} (ht : ma_to pc off = some t) (K : ma_fp X k d w t L st S Q) : ma_fp X k d w pc L st S Q :=
  zf_jmp hm hd rfl rfl rfl (by unfold ma_jmp; simp only [ht, Option.map_some]) K
theorem zf_if0 (hm : ma_fi k = some (cc, nL, ret, hh)) {c : ClassFile.Cond} {off : Int} (hd : decode cc pc = .ok (.ifCond c off, 3)) {t : Nat} (ht : ma_to pc off = some t) {x : Int32} {P : Prop} (hP : ma_c0 c x = true ↔ P) (k1 : P → ma_fp X k d w t L r S Q) (k2 : ¬ P → ma_fp X k d w (pc + 3) L r S Q) : ma_fp X k d w pc L (.inl x :: r) S Q := by
  refine zf_jmp (t := if ma_c0 c x = true then t else pc + 3) (st' := r) hm hd rfl rfl rfl (by unfold ma_jmp; simp only [ht, Option.map_some]) ?_
  by_cases h : ma_c0 c x = true
  · rw [if_pos h]; exact k1 (hP.mp h)
  · rw [if_neg h]; exact k2 (fun z => h (hP.mpr z))
theorem zf_if2 (hm : ma_fi k = some (cc, nL, ret, hh)) {c : ClassFile.Cond} {off : Int} (hd : decode cc pc = .ok (.if_icmp c off, 3)) {t : Nat} (ht : ma_to pc off = some t) {x z : Int32} {P : Prop} (hP : ma_c2 c x z = true ↔ P) (k1 : P → ma_fp X k d w t L r S Q) (k2 : ¬ P → ma_fp X k d w (pc + 3) L r S Q) : ma_fp X k d w pc L (.inl z :: .inl x :: r) S Q := by
  refine zf_jmp (t := if ma_c2 c x z = true then t else pc + 3) (st' := r) hm hd rfl rfl rfl (by unfold ma_jmp; simp only [ht, Option.map_some]) ?_
  by_cases h : ma_c2 c x z = true
  · rw [if_pos h]; exact k1 (hP.mp h)
  · rw [if_neg h]; exact k2 (fun z => h (hP.mpr z))
theorem oo_sc {j : Int32} (hg : 0 ≤ j ∧ j.toNatClampNeg < X.1) : ma_one X o ini nL d w .iaload 1 pc L (.inl j :: .inr (.inr (some 30)) :: r) S = some (pc + 1, L, .inl (X.2 j.toNatClampNeg) :: r, S) := by
  have h1 : ma_hp o ini .iaload 1 (.inl j :: .inr (.inr (some 30)) :: r) S = none := by
    unfold ma_hp
    simp only [ma_is30 (S := S) (c := 30) (by decide), Bool.false_and, Bool.false_eq_true, if_false]
  have h2 : ma_sc X .iaload 1 (.inl j :: .inr (.inr (some 30)) :: r) = some (.inl (X.2 j.toNatClampNeg) :: r) := by
    unfold ma_sc
    simp only [hg.1, hg.2, decide_true, Bool.and_self, if_true]
  unfold ma_one
  simp only [ma_push, ma_stk, ma_sto, ma_jmp, h1, h2]
theorem oo_sl : ma_one X o ini nL d w .arraylength 1 pc L (.inr (.inr (some 30)) :: r) S = some (pc + 1, L, .inl (Int32.ofNat X.1) :: r, S) := by
  have h1 : ma_hp o ini .arraylength 1 (.inr (.inr (some 30)) :: r) S = none := by
    unfold ma_hp
    simp only [ma_is30 (S := S) (c := 30) (by decide), Bool.false_and, Bool.false_eq_true, if_false]
  have h2 : ma_sc X .arraylength 1 (.inr (.inr (some 30)) :: r) = some (.inl (Int32.ofNat X.1) :: r) := rfl
  unfold ma_one
  simp only [ma_push, ma_stk, ma_sto, ma_jmp, h1, h2]
theorem oo_la {c N a : Nat} {j : Int32} (hs : ma_is S c = true) (ht : mH S c = (23, N)) (ha : j.toNatClampNeg = a) (hj : 0 ≤ j ∧ a < N) : ma_one X o ini nL d w .laload 1 pc L (.inl j :: .inr (.inr (some c)) :: r) S = some (pc + 1, L, .inr (.inl (mL S c a)) :: r, S) := by
  subst ha
  have h1 : ma_hp o ini .laload 1 (.inl j :: .inr (.inr (some c)) :: r) S = some (.inr (.inl (mL S c j.toNatClampNeg)) :: r, S) := by
    unfold ma_hp ma_ix
    simp only [hs, ht, hj.1, hj.2, decide_true, Bool.and_self, if_true]
  unfold ma_one
  simp only [ma_push, ma_stk, ma_sto, ma_jmp, h1]
theorem oo_las {c N a : Nat} {j : Int32} {x : Int64} (hs : ma_is S c = true) (ht : mH S c = (23, N)) (ha : j.toNatClampNeg = a) (hj : 0 ≤ j ∧ a < N) : ma_one X o ini nL d w .lastore 1 pc L (.inr (.inl x) :: .inl j :: .inr (.inr (some c)) :: r) S = some (pc + 1, L, r, ma_put S c a (.inr (.inl x))) := by
  subst ha
  have h1 : ma_hp o ini .lastore 1 (.inr (.inl x) :: .inl j :: .inr (.inr (some c)) :: r) S = some (r, ma_put S c j.toNatClampNeg (.inr (.inl x))) := by
    unfold ma_hp ma_ix
    simp only [hs, ht, hj.1, hj.2, decide_true, Bool.and_self, if_true]
  unfold ma_one
  simp only [ma_push, ma_stk, ma_sto, ma_jmp, h1]
theorem zf_ret (hm : ma_fi k = some (cc, nL, ret, hh)) (hd : decode cc pc = .ok (i, n)) (h1 : ma_one X 14 false nL d w i n pc L st S = none) {v : Option ma_V} (h : ma_ret ret i n st = some v) (q : Q v S) : ma_fp X k d w pc L st S Q := by
  refine ⟨1, v, S, ?_, q⟩
  rw [ma_frun_s]
  simp only [ma_fbody, hm, hd, h1, h]
theorem zf_iret (hm : ma_fi k = some (cc, nL, some .int, hh)) (hd : decode cc pc = .ok (.ireturn, 1)) {x : Int32} (q : Q (some (.inl x)) S) : ma_fp X k d w pc L [.inl x] S Q := by
  refine zf_ret (v := some (.inl x)) hm hd ?_ (by unfold ma_ret; simp [narrow]) q
  unfold ma_one
  rfl
theorem zf_bret (hm : ma_fi k = some (cc, nL, some .boolean, hh)) (hd : decode cc pc = .ok (.ireturn, 1)) {x : Int32} (hx : x = 0 ∨ x = 1) (q : Q (some (.inl x)) S) : ma_fp X k d w pc L [.inl x] S Q := by
  refine zf_ret (v := some (.inl x)) hm hd ?_ (by unfold ma_ret; rcases hx with rfl | rfl <;> simp [narrow]) q
  unfold ma_one
  rfl
/-- a call of a method of the class or of the reference -/
theorem zf_cv (hm : ma_fi k = some (cc, nL, ret, hh)) {x t kd M' m b nL' o' : Nat} {y' : MethodName} {cc' : ByteArray} {ret' : Option FieldType} (hd : decode cc pc = .ok (.invokevirtual x, 3)) (hv : ma_vl 14 x t = some (kd, M', m)) (hm' : ma_md M' = some (o', y', cc', nL', ret')) (asr rest : List ma_V) (hl : asr.length = m) (hrt : ma_rt S b = some t) (hr : 1 ≤ d ∧ 19 + nL' ≤ w) (hz : (decide (ma_sz (.inr (.inr (some b)) :: asr.reverse) ≤ nL') && decide (ma_sz rest ≤ 8)) = true)
    (hk : ma_wp X (d - 1) (w - (19 + nL')) M' 0 (ma_args 0 (.inr (.inr (some b)) :: asr.reverse)) [] S (fun z S' => match z with
      | .inl v => ma_fp X k d w (pc + 3) L (v.toList ++ rest) S' Q
      | .inr x => (kd ≤ 1 ∧ ret = some .int) ∧ ∃ c, ma_hd cc nL x pc hh = some c ∧ Q (some (.inl c)) S')) : ma_fp X k d w pc L (asr ++ .inr (.inr (some b)) :: rest) S Q := by
  rw [Bool.and_eq_true, decide_eq_true_eq, decide_eq_true_eq] at hz
  have h1 : ma_one X 14 false nL d w (.invokevirtual x) 3 pc L (asr ++ .inr (.inr (some b)) :: rest) S = none := by
    unfold ma_one
    rfl
  have h2 : ma_ret ret (.invokevirtual x) 3 (asr ++ .inr (.inr (some b)) :: rest) = none := rfl
  obtain ⟨f, z, S1, e1, e2⟩ := hk
  rcases z with v | ⟨x, px⟩
  · obtain ⟨g, z2, S2, e3, e4⟩ := (e2 : ma_fp X k d w (pc + 3) L (v.toList ++ rest) S1 Q)
    refine ⟨max f g + 1, z2, S2, ?_, e4⟩
    rw [ma_frun_s]
    simp only [ma_fbody, hm, hd, h1, h2, ma_vl_cl hv hl hrt, hm']
    rw [if_pos ⟨hr.1, hr.2, hz.1, hz.2⟩, ma_run_le (Nat.le_max_left f g) e1]
    exact ma_frun_le (Nat.le_max_right f g) e3
  · obtain ⟨e5, c, e6, e7⟩ := (e2 : (kd ≤ 1 ∧ ret = some .int) ∧ ∃ c, ma_hd cc nL x pc hh = some c ∧ Q (some (.inl c)) S1)
    refine ⟨f + 1, some (.inl c), S1, ?_, e7⟩
    rw [ma_frun_s]
    simp only [ma_fbody, hm, hd, h1, h2, ma_vl_cl hv hl hrt, hm']
    rw [if_pos ⟨hr.1, hr.2, hz.1, hz.2⟩, e1]
    simp only [if_pos e5, e6, Option.map_some]
def ma_cwl (x : Nat) : Option (Nat × Nat) := match ma_fd 14 x 0 true 5 8, ma_prt 14 x, ma_cwh.find? (fun q => q.1.1 == x) with
  | none, none, some q => some (q.1.2.1, q.1.2.2)
  | _, _, _ => none
/-- a call of a frame that catches -/
theorem zf_cw (hm : ma_fi k = some (cc, nL, ret, hh)) {x k' m nL' : Nat} {cc' : ByteArray} {ret' : Option FieldType} {hh' : List (Nat × Nat × Nat × Nat)} (hd : decode cc pc = .ok (.invokestatic x, 3)) (hv : ma_cwl x = some (k', m)) (hm' : ma_fi k' = some (cc', nL', ret', hh')) (asr rest : List ma_V) (hl : asr.length = m) (hr1 : 1 ≤ d) (hr2 : 19 + nL' ≤ w) (hz : (decide (ma_sz asr.reverse ≤ nL') && decide (ma_sz rest ≤ 8)) = true)
    (hk : ma_fp X k' (d - 1) (w - (19 + nL')) 0 (ma_args 0 asr.reverse) [] S (fun v S' => ma_fp X k d w (pc + 3) L (v.toList ++ rest) S' Q)) : ma_fp X k d w pc L (asr ++ rest) S Q := by
  rw [Bool.and_eq_true, decide_eq_true_eq, decide_eq_true_eq] at hz
  unfold ma_cwl at hv
  split at hv
  · next q g1 g2 g3 =>
    have e0 : (q.1.2.1, q.1.2.2) = (k', m) := Option.some.inj hv
    have e1 : q.1.2.1 = k' := congrArg Prod.fst e0
    have e2 : q.1.2.2 = m := congrArg Prod.snd e0
    have h1 : ma_one X 14 false nL d w (.invokestatic x) 3 pc L (asr ++ rest) S = none := by
      unfold ma_one
      rw [ma_pr_st g2]
      rfl
    have h2 : ma_ret ret (.invokestatic x) 3 (asr ++ rest) = none := rfl
    have h3 : ma_cl 14 (.invokestatic x) 3 (asr ++ rest) S = none := by
      unfold ma_cl
      simp only [g1]
    have h4 : ma_cw (.invokestatic x) 3 (asr ++ rest) = some (k', asr.reverse, rest) := by
      unfold ma_cw
      simp only [g3, e2, ← hl, List.take_left, List.drop_left, e1]
      rw [if_pos (by rw [List.length_append]; omega)]
    obtain ⟨f, v, S1, e3, e4⟩ := hk
    obtain ⟨g, z2, S2, e5, e6⟩ := e4
    refine ⟨max f g + 1, z2, S2, ?_, e6⟩
    rw [ma_frun_s]
    simp only [ma_fbody, hm, hd, h1, h2, h3, h4, hm']
    rw [if_pos ⟨hr1, hr2, hz.1, hz.2⟩, ma_frun_le (Nat.le_max_left f g) e3]
    exact ma_frun_le (Nat.le_max_right f g) e5
  · cases hv
end ZF1
theorem ma_frun_sub {X : Nat × (Nat → Int32)} : ∀ (f k d w pc : Nat) (L L' : ma_L) (st : List ma_V) (S : ma_S) (r : Option ma_V × ma_S), ma_nd L → ma_nd L' → ma_le L L' → ma_frun X f k d w pc L st S = some r → ma_frun X f k d w pc L' st S = some r := by
  intro f
  induction f with
  | zero => intro k d w pc L L' st S r _ _ _ h; cases h
  | succ f ih =>
    intro k d w pc L L' st S r hn hn' hle h
    rw [ma_frun_s] at h ⊢
    unfold ma_fbody at h ⊢
    split at h
    · cases h
    · next cc nL ret hh hfi =>
      split at h
      · cases h
      · next i n hd =>
        split at h
        · next pc1 L1 st1 S1 h1 =>
          obtain ⟨L2, b1, b2, b3, b4⟩ := ma_one_le hn hn' hle h1
          simp only [b1]
          exact ih _ _ _ _ _ _ _ _ _ b3 b4 b2 h
        · next h1 =>
          rcases ma_one_no hle h1 ret with b1 | ⟨a4, a5, a6⟩
          · simp only [b1]
            split at h
            · exact h
            · split at h
              · split at h
                · cases h
                · split at h
                  · next hroom =>
                    rw [if_pos hroom]
                    split at h
                    · exact ih _ _ _ _ _ _ _ _ _ hn hn' hle h
                    · exact h
                    · cases h
                  · cases h
              · split at h
                · cases h
                · split at h
                  · cases h
                  · split at h
                    · next hroom =>
                      rw [if_pos hroom]
                      split at h
                      · exact ih _ _ _ _ _ _ _ _ _ hn hn' hle h
                      · cases h
                    · cases h
          · rw [a4, a5] at h
            simp only at h
            split at h
            · cases h
            · next k' as rest hcw =>
              unfold ma_cw at hcw
              split at hcw
              · exact absurd rfl (a6 _).2
              · cases hcw
theorem zf_sub {X : Nat × (Nat → Int32)} {k d w pc : Nat} {L L' : ma_L} {st : List ma_V} {S : ma_S} {Q : Option ma_V → ma_S → Prop} (hn : ma_nd L) (hn' : ma_nd L') (hle : ma_le L L') (h : ma_fp X k d w pc L st S Q) : ma_fp X k d w pc L' st S Q := by
  obtain ⟨f, z, S', h1, h2⟩ := h
  exact ⟨f, z, S', ma_frun_sub _ _ _ _ _ _ _ _ _ _ hn hn' hle h1, h2⟩
