/-! more of the backward rows: constants out of the pool, switches, constructors -/
section ZW2
variable {X : Nat × (Nat → Int32)} {d w M pc : Nat} {L : ma_L} {st r : List ma_V} {S : ma_S} {o nL : Nat} {y : MethodName} {cc : ByteArray} {ret : Option FieldType} {i : Instr} {n : Nat} {Q Q' : Option ma_V ⊕ Nat → ma_S → Prop}
theorem zw_l2 (hm : ma_md M = some (o, y, cc, nL, ret)) {x : Nat} (hd : decode cc pc = .ok (.ldc2_w x, 3)) {v : Int64} (h : ma_l2t o x = some v) (k : ma_wp X d w M (pc + 3) L (.inr (.inl v) :: st) S Q) : ma_wp X d w M pc L st S Q :=
  zw_one hm hd (by unfold ma_one; simp only [ma_push, ma_stk, ma_sto, ma_jmp, ma_hp, ma_sc, ma_ex, h, Option.map_some]) k
theorem zw_lc (hm : ma_md M = some (o, y, cc, nL, ret)) {x : Nat} (hd : decode cc pc = .ok (.ldc x, 2)) {v : Int32} (h : ma_lct o x = some v) (k : ma_wp X d w M (pc + 2) L (.inl v :: st) S Q) : ma_wp X d w M pc L st S Q :=
  zw_one hm hd (by unfold ma_one; simp only [ma_push, ma_stk, ma_sto, ma_jmp, ma_hp, ma_sc, ma_ex, h, Option.map_some]) k
end ZW2
def ma_tsw (df lo hi : Int) (offs : Array Int) (pc : Nat) (x : Int32) : Option Nat := if x.toInt < lo ∨ hi < x.toInt then ma_to pc df else match offs[(x.toInt - lo).toNat]? with
  | some o => ma_to pc o
  | none => none
theorem ma_jmp_tab {df lo hi : Int} {offs : Array Int} {n pc t : Nat} {x : Int32} {r : List ma_V} (h : ma_tsw df lo hi offs pc x = some t) : ma_jmp (.tableswitch df lo hi offs) n pc (.inl x :: r) = some (t, r) := by
  unfold ma_tsw at h
  unfold ma_jmp
  simp only
  split at h
  · next hc => rw [if_pos hc, h]; rfl
  · next hc =>
    rw [if_neg hc]
    split at h
    · next o ho => rw [ho]; simp only [h, Option.map_some]
    · cases h
theorem ma_jmp_def {df lo hi : Int} {offs : Array Int} {n pc t m : Nat} {x : Int32} {r : List ma_V} (hb : hi = lo + m - 1) (h : ∀ j, j < m → ¬ x = Int32.ofInt (lo + (j : Int))) (ht : ma_to pc df = some t) : ma_jmp (.tableswitch df lo hi offs) n pc (.inl x :: r) = some (t, r) := by
  refine ma_jmp_tab ?_
  unfold ma_tsw
  rw [if_pos]
  · exact ht
  · refine Classical.byContradiction (fun hc => ?_)
    have h1 : lo ≤ x.toInt ∧ x.toInt ≤ hi := by omega
    refine h (x.toInt - lo).toNat (by omega) ?_
    have e : lo + ((x.toInt - lo).toNat : Int) = x.toInt := by omega
    rw [e, Int32.ofInt_toInt]
