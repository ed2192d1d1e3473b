/-! EQUATIONS OF THE VALUE, on: locals by what they hold, fields, rows, answers, calls -/
theorem ma_get_self (L : ma_L) (i : Nat) (v : ma_V) : ma_get (ma_st L i v) i = some v := by
  unfold ma_get ma_st
  rw [List.find?_cons_of_pos (by simp)]
  rfl
theorem ma_get_other {L : ma_L} {i j : Nat} {u v : ma_V} (h : ma_get L j = some u) (h2 : ma_2 u = false) (hn : j ≠ i) : ma_get (ma_st L i v) j = some u := by
  unfold ma_get ma_st at *
  rw [List.find?_cons_of_neg (by simp; exact fun z => hn z.symm)]
  induction L with
  | nil => cases h
  | cons q L ih =>
    by_cases hq : q.1 = j
    · rw [List.find?_cons_of_pos (by simpa using hq)] at h
      have hu : q.2 = u := Option.some.inj h
      have hk : (!(q.1 == i) && !(q.1 + 1 == i && ma_2 q.2)) = true := by
        rw [hu, h2, hq]
        simp [hn]
      rw [List.filter_cons, if_pos hk, List.find?_cons_of_pos (by simpa using hq)]
      exact h
    · rw [List.find?_cons_of_neg (by simpa using hq)] at h
      by_cases hk : (!(q.1 == i) && !(q.1 + 1 == i && ma_2 q.2)) = true
      · rw [List.filter_cons, if_pos hk, List.find?_cons_of_neg (by simpa using hq)]
        exact ih h
      · rw [List.filter_cons, if_neg hk]
        exact ih h
/-- what a method begins with -/
theorem ma_get_args0 {as : List ma_V} {v : ma_V} : ma_get (ma_args 0 (v :: as)) 0 = some v := by
  unfold ma_get ma_args
  rw [List.find?_cons_of_pos (by simp)]
  rfl
section MA17
variable {X : Nat × (Nat → Int32)} {d w M pc : Nat} {L : ma_L} {st r : List ma_V} {S : ma_S} {o nL : Nat} {y : MethodName} {cc : ByteArray} {ret : Option FieldType} {i : Instr} {n : Nat}
theorem e_iload (hm : ma_md M = some (o, y, cc, nL, ret)) {k : Nat} (hd : decode cc pc = .ok (.iload k, 2)) {x : Int32} (h : ma_get L k = some (.inl x)) : ma_ev X d w M pc L st S = ma_ev X d w M (pc + 2) L (.inl x :: st) S := e_push hm hd (by simp only [ma_push, h])
theorem e_iload_n (hm : ma_md M = some (o, y, cc, nL, ret)) {k : Fin 4} (hd : decode cc pc = .ok (.iload_n k, 1)) {x : Int32} (h : ma_get L (k : Nat) = some (.inl x)) : ma_ev X d w M pc L st S = ma_ev X d w M (pc + 1) L (.inl x :: st) S := e_push hm hd (by simp only [ma_push, h])
theorem e_aload (hm : ma_md M = some (o, y, cc, nL, ret)) {k : Nat} (hd : decode cc pc = .ok (.aload k, 2)) {x : Option Nat} (h : ma_get L k = some (.inr (.inr x))) : ma_ev X d w M pc L st S = ma_ev X d w M (pc + 2) L (.inr (.inr x) :: st) S := e_push hm hd (by simp only [ma_push, h])
theorem e_aload_n (hm : ma_md M = some (o, y, cc, nL, ret)) {k : Fin 4} (hd : decode cc pc = .ok (.aload_n k, 1)) {x : Option Nat} (h : ma_get L (k : Nat) = some (.inr (.inr x))) : ma_ev X d w M pc L st S = ma_ev X d w M (pc + 1) L (.inr (.inr x) :: st) S := e_push hm hd (by simp only [ma_push, h])
theorem e_lload (hm : ma_md M = some (o, y, cc, nL, ret)) {k : Nat} (hd : decode cc pc = .ok (.lload k, 2)) {x : Int64} (h : ma_get L k = some (.inr (.inl x))) : ma_ev X d w M pc L st S = ma_ev X d w M (pc + 2) L (.inr (.inl x) :: st) S := e_push hm hd (by simp only [ma_push, h])
theorem e_lload_n (hm : ma_md M = some (o, y, cc, nL, ret)) {k : Fin 4} (hd : decode cc pc = .ok (.lload_n k, 1)) {x : Int64} (h : ma_get L (k : Nat) = some (.inr (.inl x))) : ma_ev X d w M pc L st S = ma_ev X d w M (pc + 1) L (.inr (.inl x) :: st) S := e_push hm hd (by simp only [ma_push, h])
theorem e_istore (hm : ma_md M = some (o, y, cc, nL, ret)) {k : Nat} (hd : decode cc pc = .ok (.istore k, 2)) (hk : k < nL) {x : Int32} : ma_ev X d w M pc L (.inl x :: r) S = ma_ev X d w M (pc + 2) (ma_st L k (.inl x)) r S := e_sto hm hd rfl rfl (if_pos hk)
theorem e_istore_n (hm : ma_md M = some (o, y, cc, nL, ret)) {k : Fin 4} (hd : decode cc pc = .ok (.istore_n k, 1)) (hk : (k : Nat) < nL) {x : Int32} : ma_ev X d w M pc L (.inl x :: r) S = ma_ev X d w M (pc + 1) (ma_st L k (.inl x)) r S := e_sto hm hd rfl rfl (if_pos hk)
theorem e_astore (hm : ma_md M = some (o, y, cc, nL, ret)) {k : Nat} (hd : decode cc pc = .ok (.astore k, 2)) (hk : k < nL) {x : Option Nat} : ma_ev X d w M pc L (.inr (.inr x) :: r) S = ma_ev X d w M (pc + 2) (ma_st L k (.inr (.inr x))) r S := e_sto hm hd rfl rfl (if_pos hk)
theorem e_astore_n (hm : ma_md M = some (o, y, cc, nL, ret)) {k : Fin 4} (hd : decode cc pc = .ok (.astore_n k, 1)) (hk : (k : Nat) < nL) {x : Option Nat} : ma_ev X d w M pc L (.inr (.inr x) :: r) S = ma_ev X d w M (pc + 1) (ma_st L k (.inr (.inr x))) r S := e_sto hm hd rfl rfl (if_pos hk)
theorem e_iinc (hm : ma_md M = some (o, y, cc, nL, ret)) {k : Nat} {c : Int} (hd : decode cc pc = .ok (.iinc k c, 3)) (hk : k < nL) {x : Int32} (h : ma_get L k = some (.inl x)) : ma_ev X d w M pc L st S = ma_ev X d w M (pc + 3) (ma_st L k (.inl (x + Int32.ofInt c))) st S :=
  e_sto hm hd rfl rfl (by unfold ma_sto; simp only [h, if_pos hk])
theorem e_idiv (hm : ma_md M = some (o, y, cc, nL, ret)) (hd : decode cc pc = .ok (.idiv, 1)) {x z : Int32} : ma_ev X d w M pc L (.inl z :: .inl x :: r) S = if z = 0 then none else ma_ev X d w M (pc + 1) L (.inl (x / z) :: r) S := by
  split
  · next h =>
    refine ma_ev_none hm hd ?_ rfl (ma_thr_no hd (fun _ h => by cases h)) rfl
    unfold ma_one
    simp only [ma_push, ma_stk, h, if_true, ma_sto, ma_jmp, ma_hp, ma_sc, ma_ex, ma_al, ma_pr, ma_tx]
  · next h => exact e_stk hm hd rfl (if_neg h)
theorem e_ret (hm : ma_md M = some (o, y, cc, nL, ret)) (hd : decode cc pc = .ok (i, n)) (h0 : ma_one X o (decide (y.name = "<init>")) nL d w i n pc L st S = none) {v : Option ma_V} (h : ma_ret ret i n st = some v) : ma_ev X d w M pc L st S = some (.inl v, S) := ma_ev_ret hm hd h0 h
theorem e_ireturn (hm : ma_md M = some (o, y, cc, nL, some .int)) (hd : decode cc pc = .ok (.ireturn, 1)) {x : Int32} : ma_ev X d w M pc L [.inl x] S = some (.inl (some (.inl x)), S) := by
  refine ma_ev_ret hm hd ?_ (by unfold ma_ret; simp [narrow])
  unfold ma_one
  rfl
theorem e_zreturn (hm : ma_md M = some (o, y, cc, nL, some .boolean)) (hd : decode cc pc = .ok (.ireturn, 1)) {x : Int32} (hx : x = 0 ∨ x = 1) : ma_ev X d w M pc L [.inl x] S = some (.inl (some (.inl x)), S) := by
  refine ma_ev_ret hm hd ?_ (by unfold ma_ret; rcases hx with rfl | rfl <;> simp [narrow])
  unfold ma_one
  rfl
theorem e_areturn {C : String} (hm : ma_md M = some (o, y, cc, nL, some (.object C))) (hd : decode cc pc = .ok (.areturn, 1)) {x : Option Nat} : ma_ev X d w M pc L [.inr (.inr x)] S = some (.inl (some (.inr (.inr x))), S) := by
  refine ma_ev_ret hm hd ?_ rfl
  unfold ma_one
  rfl
theorem e_return (hm : ma_md M = some (o, y, cc, nL, none)) (hd : decode cc pc = .ok (.return_, 1)) : ma_ev X d w M pc L [] S = some (.inl none, S) := by
  refine ma_ev_ret hm hd ?_ rfl
  unfold ma_one
  rfl
end MA17
