/-! THE SMALL MACHINE, part 1: values, locals, the instructions that touch no heap; and that the machine does what they say -/
abbrev ma_V : Type := Int32 ⊕ (Int64 ⊕ Option Nat)
abbrev ma_L : Type := List (Nat × ma_V)
def ma_tv (ad : Nat → Nat) (v : ma_V) : Value := match v with
  | .inl x => .int x
  | .inr (.inl x) => .long x
  | .inr (.inr r) => va_rf (r.map ad)
def ma_2 (v : ma_V) : Bool := match v with
  | .inr (.inl _) => true
  | _ => false
def ma_tl (ad : Nat → Nat) (L : ma_L) : List (Nat × Value) := L.map (fun q => (q.1, ma_tv ad q.2))
def ma_ts (ad : Nat → Nat) (st : List ma_V) : List Value := st.map (ma_tv ad)
def ma_st (L : ma_L) (i : Nat) (v : ma_V) : ma_L := (i, v) :: L.filter (fun q => !(q.1 == i) && !(q.1 + 1 == i && ma_2 q.2))
def ma_get (L : ma_L) (i : Nat) : Option ma_V := (L.find? (fun q => q.1 == i)).map (·.2)
theorem ma_cat (ad : Nat → Nat) (v : ma_V) : (ma_tv ad v).category = if ma_2 v then 2 else 1 := by
  rcases v with x | x | r
  · rfl
  · rfl
  · cases r <;> rfl
theorem ma_cat2 (ad : Nat → Nat) (v : ma_V) : ((ma_tv ad v).category == 2) = ma_2 v := by
  rw [ma_cat]; cases ma_2 v <;> rfl
theorem ma_cat1 (ad : Nat → Nat) {v : ma_V} (h : ma_2 v = false) : (ma_tv ad v).category = 1 := by
  rw [ma_cat, h]; rfl
theorem ma_tl_st (ad : Nat → Nat) (L : ma_L) (i : Nat) (v : ma_V) : (i, ma_tv ad v) :: (ma_tl ad L).filter (fun q => !(q.1 == i) && !(q.1 + 1 == i && q.2.category == 2)) = ma_tl ad (ma_st L i v) := by
  unfold ma_tl ma_st
  rw [List.map_cons, List.filter_map]
  congr 2
  apply List.filter_congr
  intro q _
  show (!(q.1 == i) && !(q.1 + 1 == i && (ma_tv ad q.2).category == 2)) = _
  rw [ma_cat2]
theorem ma_get_at {ad : Nat → Nat} {L : ma_L} {i : Nat} {v : ma_V} {ls : Array Slot} {nL : Nat} (h : ma_get L i = some v) (hl : lv_has ls nL (ma_tl ad L)) : ls[i]? = some (.val (ma_tv ad v)) := by
  unfold ma_get at h
  cases hf : L.find? (fun q => q.1 == i) with
  | none => rw [hf] at h; cases h
  | some q =>
    rw [hf] at h
    have h2 : q.2 = v := Option.some.inj h
    have h3 : q.1 = i := by have := List.find?_some hf; simpa using this
    have h4 : q ∈ L := List.mem_of_find?_eq_some hf
    have := hl.2.2 (q.1, ma_tv ad q.2) (List.mem_map.mpr ⟨q, h4, rfl⟩)
    rw [h2, h3] at this
    exact this
/-- constants and loads -/
def ma_push (i : Instr) (n : Nat) (L : ma_L) : Option ma_V := match i, n with
  | .iconst k, 1 => some (.inl (Int32.ofInt k))
  | .bipush k, 2 => some (.inl (Int8.ofInt k).toInt32)
  | .sipush k, 3 => some (.inl (Int16.ofInt k).toInt32)
  | .lconst k, 1 => some (.inr (.inl (Int64.ofNat (k : Nat))))
  | .aconst_null, 1 => some (.inr (.inr none))
  | .iload k, 2 => match ma_get L k with
    | some (.inl x) => some (.inl x)
    | _ => none
  | .iload_n k, 1 => match ma_get L (k : Nat) with
    | some (.inl x) => some (.inl x)
    | _ => none
  | .lload k, 2 => match ma_get L k with
    | some (.inr (.inl x)) => some (.inr (.inl x))
    | _ => none
  | .lload_n k, 1 => match ma_get L (k : Nat) with
    | some (.inr (.inl x)) => some (.inr (.inl x))
    | _ => none
  | .aload k, 2 => match ma_get L k with
    | some (.inr (.inr x)) => some (.inr (.inr x))
    | _ => none
  | .aload_n k, 1 => match ma_get L (k : Nat) with
    | some (.inr (.inr x)) => some (.inr (.inr x))
    | _ => none
  | _, _ => none
/-- what works on the operand stack alone -/
def ma_stk (i : Instr) (n : Nat) (st : List ma_V) : Option (List ma_V) := match i, n, st with
  | .iadd, 1, .inl y :: .inl x :: r => some (.inl (x + y) :: r)
  | .isub, 1, .inl y :: .inl x :: r => some (.inl (x - y) :: r)
  | .imul, 1, .inl y :: .inl x :: r => some (.inl (x * y) :: r)
  | .iand, 1, .inl y :: .inl x :: r => some (.inl (x &&& y) :: r)
  | .ior, 1, .inl y :: .inl x :: r => some (.inl (x ||| y) :: r)
  | .ixor, 1, .inl y :: .inl x :: r => some (.inl (x ^^^ y) :: r)
  | .ishl, 1, .inl y :: .inl x :: r => some (.inl (x <<< (y &&& 31)) :: r)
  | .ishr, 1, .inl y :: .inl x :: r => some (.inl (x >>> (y &&& 31)) :: r)
  | .iushr, 1, .inl y :: .inl x :: r => some (.inl (x.toUInt32 >>> (y.toUInt32 &&& Int32.toUInt32 31)).toInt32 :: r)
  | .idiv, 1, .inl y :: .inl x :: r => if y = 0 then none else some (.inl (x / y) :: r)
  | .i2b, 1, .inl x :: r => some (.inl x.toInt8.toInt32 :: r)
  | .i2c, 1, .inl x :: r => some (.inl (x.toUInt32 % 65536).toInt32 :: r)
  | .i2l, 1, .inl x :: r => some (.inr (.inl x.toInt64) :: r)
  | .land, 1, .inr (.inl y) :: .inr (.inl x) :: r => some (.inr (.inl (x &&& y)) :: r)
  | .lushr, 1, .inl y :: .inr (.inl x) :: r => some (.inr (.inl (x.toUInt64 >>> (y.toInt64.toUInt64 &&& Int64.toUInt64 63)).toInt64) :: r)
  | .lcmp, 1, .inr (.inl y) :: .inr (.inl x) :: r => some (.inl (lg_cmp x y) :: r)
  | .dup, 1, v :: r => if ma_2 v then none else some (v :: v :: r)
  | .pop, 1, v :: r => if ma_2 v then none else some r
  | .dup2, 1, v :: w :: r => if ma_2 v || ma_2 w then none else some (v :: w :: v :: w :: r)
  | _, _, _ => none
/-- stores, and the local that counts -/
def ma_sto (i : Instr) (n nL : Nat) (L : ma_L) (st : List ma_V) : Option (ma_L × List ma_V) := match i, n, st with
  | .istore k, 2, .inl x :: r => if k < nL then some (ma_st L k (.inl x), r) else none
  | .istore_n k, 1, .inl x :: r => if (k : Nat) < nL then some (ma_st L k (.inl x), r) else none
  | .astore k, 2, .inr (.inr x) :: r => if k < nL then some (ma_st L k (.inr (.inr x)), r) else none
  | .astore_n k, 1, .inr (.inr x) :: r => if (k : Nat) < nL then some (ma_st L k (.inr (.inr x)), r) else none
  | .iinc k d, 3, r => match ma_get L k with
    | some (.inl x) => if k < nL then some (ma_st L k (.inl (x + Int32.ofInt d)), r) else none
    | _ => none
  | _, _, _ => none
def ma_to (pc : Nat) (off : Int) : Option Nat := if 0 ≤ (pc : Int) + off then some ((pc : Int) + off).toNat else none
theorem ma_to_eq {pc : Nat} {off : Int} {t : Nat} (h : ma_to pc off = some t) : (pc : Int) + off = (t : Int) := by
  unfold ma_to at h
  split at h
  · cases h; omega
  · cases h
def ma_c0 (c : ClassFile.Cond) (x : Int32) : Bool := match c with
  | .eq => decide (x = 0)
  | .ne => decide (¬ x = 0)
  | .lt => decide (x < 0)
  | .ge => decide (0 ≤ x)
  | .gt => decide (0 < x)
  | .le => decide (x ≤ 0)
def ma_c2 (c : ClassFile.Cond) (x y : Int32) : Bool := match c with
  | .eq => decide (x = y)
  | .ne => decide (¬ x = y)
  | .lt => decide (x < y)
  | .ge => decide (y ≤ x)
  | .gt => decide (y < x)
  | .le => decide (x ≤ y)
/-- jumps: where to, and the stack behind -/
def ma_jmp (i : Instr) (n pc : Nat) (st : List ma_V) : Option (Nat × List ma_V) := match i, n, st with
  | .goto o, 3, r => (ma_to pc o).map (fun t => (t, r))
  | .ifCond c o, 3, .inl x :: r => (ma_to pc o).map (fun t => (if ma_c0 c x then t else pc + 3, r))
  | .if_icmp c o, 3, .inl y :: .inl x :: r => (ma_to pc o).map (fun t => (if ma_c2 c x y then t else pc + 3, r))
  | .ifnull o, 3, .inr (.inr x) :: r => match x with
    | none => (ma_to pc o).map (fun t => (t, r))
    | some _ => some (pc + 3, r)
  | .ifnonnull o, 3, .inr (.inr x) :: r => match x with
    | none => some (pc + 3, r)
    | some _ => (ma_to pc o).map (fun t => (t, r))
  | .tableswitch d lo hi offs, _, .inl x :: r => if x.toInt < lo ∨ hi < x.toInt then (ma_to pc d).map (fun t => (t, r)) else match offs[(x.toInt - lo).toNat]? with
    | some o => (ma_to pc o).map (fun t => (t, r))
    | none => none
  | .lookupswitch d ps, _, .inl x :: r => if (ps.toList.zip (ps.toList.drop 1)).all (fun (a, next) => a.1 < next.1) = true then (ma_to pc (Op.lookupswitch.offset ps.toList d x.toInt)).map (fun t => (t, r)) else none
  | _, _, _ => none
section MA1
variable {p : Program} {l : Launch} {e : Env} {R : Room} {s : State} {m : MethodId} {args : Array Value} {below : List Frame} {meth : Method} {c : Code} {H : Heap} {locs : List Loc} {cells slots : Nat} {Q : State → Prop} {cc : ByteArray} {pc : Nat} {ls : Array Slot} {ad : Nat → Nat}
theorem ma_push_ok (hx : p.tables.exec = Jvm.exec) (hb : c.code = cc) {i : Instr} {n nL : Nat} {L : ma_L} {v : ma_V} {rest : List Value} (hl : lv_has ls nL (ma_tl ad L)) (hd : decode cc pc = .ok (i, n)) (h : ma_push i n L = some v)
    (k : W p l e R s m args below meth c H locs cells slots Q (F0 m (pc + n) ls (ma_tv ad v :: rest))) : W p l e R s m args below meth c H locs cells slots Q (F0 m pc ls rest) := by
  unfold ma_push at h
  split at h
  · cases h; exact lv_iconst hx hb hd rfl k
  · cases h; exact lv_bipush hx hb hd rfl k
  · cases h; exact lv_sipush hx hb hd rfl k
  · cases h; exact lv_lconst hx hb hd rfl k
  · cases h; exact lv_null hx hb hd k
  · split at h
    · next hg => cases h; exact lv_iload hx hb hd (ma_get_at hg hl) k
    · cases h
  · split at h
    · next hg => cases h; exact lv_iload_n hx hb hd rfl (ma_get_at hg hl) k
    · cases h
  · split at h
    · next hg => cases h; exact lv_lload hx hb hd (ma_get_at hg hl) k
    · cases h
  · split at h
    · next hg => cases h; exact lv_lload_n hx hb hd rfl (ma_get_at hg hl) k
    · cases h
  · split at h
    · next x hg =>
      cases h
      have hg := ma_get_at hg hl
      cases x with
      | none => exact lv_aloadN hx hb hd hg k
      | some a => exact lv_aload hx hb hd hg k
    · cases h
  · split at h
    · next x hg =>
      cases h
      have hg := ma_get_at hg hl
      cases x with
      | none => exact lv_aload_nN hx hb hd rfl hg k
      | some a => exact lv_aload_n hx hb hd rfl hg k
    · cases h
  · cases h
theorem ma_stk_ok (hx : p.tables.exec = Jvm.exec) (hb : c.code = cc) {i : Instr} {n : Nat} {st st' : List ma_V} (hd : decode cc pc = .ok (i, n)) (h : ma_stk i n st = some st')
    (k : W p l e R s m args below meth c H locs cells slots Q (F0 m (pc + n) ls (ma_ts ad st'))) : W p l e R s m args below meth c H locs cells slots Q (F0 m pc ls (ma_ts ad st)) := by
  unfold ma_stk at h
  split at h
  · cases h; exact lv_iadd hx hb hd k
  · cases h; exact lv_isub hx hb hd k
  · cases h; exact lv_imul hx hb hd k
  · cases h; exact lv_iand hx hb hd k
  · cases h; exact lv_ior hx hb hd k
  · cases h; exact lv_ixor hx hb hd k
  · cases h; exact lv_ishl hx hb hd k
  · cases h; exact lv_ishr hx hb hd k
  · cases h; exact lv_iushr hx hb hd rfl k
  · split at h
    · cases h
    · next hy => cases h; exact lv_idiv hx hb hd hy k
  · cases h; exact lv_i2b hx hb hd rfl k
  · cases h; exact lv_i2c hx hb hd rfl k
  · cases h; exact lv_i2l hx hb hd rfl k
  · cases h; exact lv_land hx hb hd k
  · cases h; exact lv_lushr hx hb hd rfl k
  · cases h; exact W.lcmp hx hb hd k
  · split at h
    · cases h
    · next hv => cases h; exact lv_dup hx hb hd (ma_cat1 ad (by simpa using hv)) k
  · split at h
    · cases h
    · next hv => cases h; exact lv_pop hx hb hd (ma_cat1 ad (by simpa using hv)) k
  · split at h
    · cases h
    · next hv =>
      cases h
      simp only [Bool.or_eq_true, not_or, Bool.not_eq_true] at hv
      exact lv_dup2_11 hx hb hd (ma_cat1 ad hv.1) (ma_cat1 ad hv.2) k
  · cases h
theorem ma_sto_ok (hx : p.tables.exec = Jvm.exec) (hb : c.code = cc) {i : Instr} {n nL : Nat} {L L' : ma_L} {st st' : List ma_V} (hl : lv_has ls nL (ma_tl ad L)) (hd : decode cc pc = .ok (i, n)) (h : ma_sto i n nL L st = some (L', st'))
    (k : ∀ ls' : Array Slot, lv_has ls' nL (ma_tl ad L') → W p l e R s m args below meth c H locs cells slots Q (F0 m (pc + n) ls' (ma_ts ad st'))) : W p l e R s m args below meth c H locs cells slots Q (F0 m pc ls (ma_ts ad st)) := by
  unfold ma_sto at h
  split at h
  · split at h
    · next hk => cases h; exact lv_istore hx hb hd hl hk (ma_tl_st ad L _ (.inl _)) k
    · cases h
  · split at h
    · next hk => cases h; exact lv_istore_n hx hb hd rfl hl hk (ma_tl_st ad L _ (.inl _)) k
    · cases h
  · next x r =>
    split at h
    · next hk =>
      cases h
      cases x with
      | none => exact lv_astoreN hx hb hd hl hk (ma_tl_st ad L _ (.inr (.inr none))) k
      | some a => exact lv_astore hx hb hd hl hk (ma_tl_st ad L _ (.inr (.inr (some a)))) k
    · cases h
  · next x r =>
    split at h
    · next hk =>
      cases h
      cases x with
      | none => exact lv_astore_nN hx hb hd rfl hl hk (ma_tl_st ad L _ (.inr (.inr none))) k
      | some a => exact lv_astore_n hx hb hd rfl hl hk (ma_tl_st ad L _ (.inr (.inr (some a)))) k
    · cases h
  · split at h
    · next x hg =>
      split at h
      · next hk =>
        cases h
        have hm := ma_get_at hg hl
        obtain ⟨j, hj⟩ : ∃ j, (ma_tl ad L)[j]? = some (_, Value.int x) := by
          unfold ma_get at hg
          cases hf : L.find? (fun q => q.1 == _) with
          | none => rw [hf] at hg; cases hg
          | some q =>
            rw [hf] at hg
            have h2 : q.2 = .inl x := Option.some.inj hg
            have h3 := List.find?_some hf
            have h4 : q ∈ L := List.mem_of_find?_eq_some hf
            obtain ⟨j, hj⟩ := List.getElem?_of_mem (show (q.1, ma_tv ad q.2) ∈ ma_tl ad L from List.mem_map.mpr ⟨q, h4, rfl⟩)
            refine ⟨j, ?_⟩
            rw [hj, h2, eq_of_beq h3]
            rfl
        exact lv_iinc hx hb hd hl hj rfl hk (ma_tl_st ad L _ (.inl _)) k
      · cases h
    · cases h
  · cases h
theorem ma_jmp_ok (hx : p.tables.exec = Jvm.exec) (hb : c.code = cc) {i : Instr} {n t : Nat} {st st' : List ma_V} (hd : decode cc pc = .ok (i, n)) (h : ma_jmp i n pc st = some (t, st'))
    (k : W p l e R s m args below meth c H locs cells slots Q (F0 m t ls (ma_ts ad st'))) : W p l e R s m args below meth c H locs cells slots Q (F0 m pc ls (ma_ts ad st)) := by
  have tk : ∀ {o : Int} {r : List ma_V}, (ma_to pc o).map (fun t => (t, r)) = some (t, st') → (pc : Int) + o = (t : Int) ∧ r = st' := by
    intro o r hh
    cases ht : ma_to pc o with
    | none => rw [ht] at hh; cases hh
    | some t' => rw [ht] at hh; cases hh; exact ⟨ma_to_eq ht, rfl⟩
  have tk2 : ∀ {o : Int} {b : Bool} {r : List ma_V}, (ma_to pc o).map (fun t => (if b then t else pc + 3, r)) = some (t, st') → ∃ t' : Nat, (pc : Int) + o = (t' : Int) ∧ (if b then t' else pc + 3) = t ∧ r = st' := by
    intro o b r hh
    cases ht : ma_to pc o with
    | none => rw [ht] at hh; cases hh
    | some t' => rw [ht] at hh; cases hh; exact ⟨t', ma_to_eq ht, rfl, rfl⟩
  unfold ma_jmp at h
  split at h
  · obtain ⟨h1, rfl⟩ := tk h
    exact lv_goto hx hb hd h1 k
  · next cd o x r =>
    obtain ⟨t', h1, h2, rfl⟩ := tk2 h
    cases cd <;> simp only [ma_c0, decide_eq_true_eq] at h2
    · exact lv_if_eq hx hb hd h1 (fun q => by rw [if_pos q] at h2; rw [h2]; exact k) (fun q => by rw [if_neg q] at h2; rw [h2]; exact k)
    · exact lv_if_ne hx hb hd h1 (fun q => by rw [if_pos q] at h2; rw [h2]; exact k) (fun q => by rw [if_neg (fun z => z q)] at h2; rw [h2]; exact k)
    · exact lv_if_lt hx hb hd h1 (fun q => by rw [if_pos q] at h2; rw [h2]; exact k) (fun q => by rw [if_neg q] at h2; rw [h2]; exact k)
    · exact lv_if_ge hx hb hd h1 (fun q => by rw [if_pos q] at h2; rw [h2]; exact k) (fun q => by rw [if_neg q] at h2; rw [h2]; exact k)
    · exact lv_if_gt hx hb hd h1 (fun q => by rw [if_pos q] at h2; rw [h2]; exact k) (fun q => by rw [if_neg q] at h2; rw [h2]; exact k)
    · exact lv_if_le hx hb hd h1 (fun q => by rw [if_pos q] at h2; rw [h2]; exact k) (fun q => by rw [if_neg q] at h2; rw [h2]; exact k)
  · next cd o y x r =>
    obtain ⟨t', h1, h2, rfl⟩ := tk2 h
    cases cd <;> simp only [ma_c2, decide_eq_true_eq] at h2
    · exact lv_icmp_eq hx hb hd h1 (fun q => by rw [if_pos q] at h2; rw [h2]; exact k) (fun q => by rw [if_neg q] at h2; rw [h2]; exact k)
    · exact lv_icmp_ne hx hb hd h1 (fun q => by rw [if_pos q] at h2; rw [h2]; exact k) (fun q => by rw [if_neg (fun z => z q)] at h2; rw [h2]; exact k)
    · exact lv_icmp_lt hx hb hd h1 (fun q => by rw [if_pos q] at h2; rw [h2]; exact k) (fun q => by rw [if_neg q] at h2; rw [h2]; exact k)
    · exact lv_icmp_ge hx hb hd h1 (fun q => by rw [if_pos q] at h2; rw [h2]; exact k) (fun q => by rw [if_neg q] at h2; rw [h2]; exact k)
    · exact lv_icmp_gt hx hb hd h1 (fun q => by rw [if_pos q] at h2; rw [h2]; exact k) (fun q => by rw [if_neg q] at h2; rw [h2]; exact k)
    · exact lv_icmp_le hx hb hd h1 (fun q => by rw [if_pos q] at h2; rw [h2]; exact k) (fun q => by rw [if_neg q] at h2; rw [h2]; exact k)
  · next o x r =>
    cases x with
    | none =>
      obtain ⟨h1, rfl⟩ := tk h
      exact lv_ifnullN hx hb hd h1 k
    | some a =>
      cases h
      exact lv_ifnull hx hb hd k
  · next o x r =>
    cases x with
    | none =>
      cases h
      exact lv_ifnonnullN hx hb hd k
    | some a =>
      obtain ⟨h1, rfl⟩ := tk h
      exact lv_ifnonnull hx hb hd h1 k
  · split at h
    · next hc =>
      obtain ⟨h1, rfl⟩ := tk h
      exact lv_tableOut hx hb hd hc h1 k
    · next hc =>
      split at h
      · next o ho =>
        obtain ⟨h1, rfl⟩ := tk h
        exact lv_tableIn hx hb hd (fun q => hc (Or.inl q)) (fun q => hc (Or.inr q)) ho h1 k
      · cases h
  · split at h
    · next hp =>
      obtain ⟨h1, rfl⟩ := tk h
      exact lv_lookup hx hb hd hp rfl h1 k
    · cases h
  · cases h
end MA1
