/-! from 10.simple -/
/-! THE SMALL MACHINE, part 1: values, locals, the instructions that touch no heap; and that the machine does what they say -/
abbrev ma_V : Type := Int32 ⊕ (Int64 ⊕ Option Nat)
abbrev ma_L : Type := List (Nat × ma_V)
def ma_tv (ad : Nat → Nat) (v : ma_V) : Value := match v with
  | .inl x => .int x
  | .inr (.inl x) => .long x
  | .inr (.inr r) => va_rf (r.map ad)
def ma_2 (v : ma_V) : Bool := match v with
  | .inr (.inl _) => true
  | _ => false
def ma_tl (ad : Nat → Nat) (L : ma_L) : List (Nat × Value) := L.map (fun q => (q.1, ma_tv ad q.2))
def ma_ts (ad : Nat → Nat) (st : List ma_V) : List Value := st.map (ma_tv ad)
def ma_st (L : ma_L) (i : Nat) (v : ma_V) : ma_L := (i, v) :: L.filter (fun q => !(q.1 == i) && !(q.1 + 1 == i && ma_2 q.2))
def ma_get (L : ma_L) (i : Nat) : Option ma_V := (L.find? (fun q => q.1 == i)).map (·.2)
theorem ma_cat (ad : Nat → Nat) (v : ma_V) : (ma_tv ad v).category = if ma_2 v then 2 else 1 := by
  rcases v with x | x | r
  · rfl
  · rfl
  · cases r <;> rfl
theorem ma_cat2 (ad : Nat → Nat) (v : ma_V) : ((ma_tv ad v).category == 2) = ma_2 v := by
  rw [ma_cat]; cases ma_2 v <;> rfl
theorem ma_cat1 (ad : Nat → Nat) {v : ma_V} (h : ma_2 v = false) : (ma_tv ad v).category = 1 := by
  rw [ma_cat, h]; rfl
theorem ma_tl_st (ad : Nat → Nat) (L : ma_L) (i : Nat) (v : ma_V) : (i, ma_tv ad v) :: (ma_tl ad L).filter (fun q => !(q.1 == i) && !(q.1 + 1 == i && q.2.category == 2)) = ma_tl ad (ma_st L i v) := by
  unfold ma_tl ma_st
  rw [List.map_cons, List.filter_map]
  congr 2
  apply List.filter_congr
  intro q _
  show (!(q.1 == i) && !(q.1 + 1 == i && (ma_tv ad q.2).category == 2)) = _
  rw [ma_cat2]
theorem ma_get_at {ad : Nat → Nat} {L : ma_L} {i : Nat} {v : ma_V} {ls : Array Slot} {nL : Nat} (h : ma_get L i = some v) (hl : lv_has ls nL (ma_tl ad L)) : ls[i]? = some (.val (ma_tv ad v)) := by
  unfold ma_get at h
  cases hf : L.find? (fun q => q.1 == i) with
  | none => rw [hf] at h; cases h
  | some q =>
    rw [hf] at h
    have h2 : q.2 = v := Option.some.inj h
    have h3 : q.1 = i := by have := List.find?_some hf; simpa using this
    have h4 : q ∈ L := List.mem_of_find?_eq_some hf
    have := hl.2.2 (q.1, ma_tv ad q.2) (List.mem_map.mpr ⟨q, h4, rfl⟩)
    rw [h2, h3] at this
    exact this
/-- constants and loads -/
def ma_push (i : Instr) (n : Nat) (L : ma_L) : Option ma_V := match i, n with
  | .iconst k, 1 => some (.inl (Int32.ofInt k))
  | .bipush k, 2 => some (.inl (Int8.ofInt k).toInt32)
  | .sipush k, 3 => some (.inl (Int16.ofInt k).toInt32)
  | .lconst k, 1 => some (.inr (.inl (Int64.ofNat (k : Nat))))
  | .aconst_null, 1 => some (.inr (.inr none))
  | .iload k, 2 => match ma_get L k with
    | some (.inl x) => some (.inl x)
    | _ => none
  | .iload_n k, 1 => match ma_get L (k : Nat) with
    | some (.inl x) => some (.inl x)
    | _ => none
  | .lload k, 2 => match ma_get L k with
    | some (.inr (.inl x)) => some (.inr (.inl x))
    | _ => none
  | .lload_n k, 1 => match ma_get L (k : Nat) with
    | some (.inr (.inl x)) => some (.inr (.inl x))
    | _ => none
  | .aload k, 2 => match ma_get L k with
    | some (.inr (.inr x)) => some (.inr (.inr x))
    | _ => none
  | .aload_n k, 1 => match ma_get L (k : Nat) with
    | some (.inr (.inr x)) => some (.inr (.inr x))
    | _ => none
  | _, _ => none
/-- what works on the operand stack alone -/
def ma_stk (i : Instr) (n : Nat) (st : List ma_V) : Option (List ma_V) := match i, n, st with
  | .iadd, 1, .inl y :: .inl x :: r => some (.inl (x + y) :: r)
  | .isub, 1, .inl y :: .inl x :: r => some (.inl (x - y) :: r)
  | .imul, 1, .inl y :: .inl x :: r => some (.inl (x * y) :: r)
  | .iand, 1, .inl y :: .inl x :: r => some (.inl (x &&& y) :: r)
  | .ior, 1, .inl y :: .inl x :: r => some (.inl (x ||| y) :: r)
  | .ixor, 1, .inl y :: .inl x :: r => some (.inl (x ^^^ y) :: r)
  | .ishl, 1, .inl y :: .inl x :: r => some (.inl (x <<< (y &&& 31)) :: r)
  | .ishr, 1, .inl y :: .inl x :: r => some (.inl (x >>> (y &&& 31)) :: r)
  | .iushr, 1, .inl y :: .inl x :: r => some (.inl (x.toUInt32 >>> (y.toUInt32 &&& Int32.toUInt32 31)).toInt32 :: r)
  | .idiv, 1, .inl y :: .inl x :: r => if y = 0 then none else some (.inl (x / y) :: r)
  | .i2b, 1, .inl x :: r => some (.inl x.toInt8.toInt32 :: r)
  | .i2c, 1, .inl x :: r => some (.inl (x.toUInt32 % 65536).toInt32 :: r)
  | .i2l, 1, .inl x :: r => some (.inr (.inl x.toInt64) :: r)
  | .land, 1, .inr (.inl y) :: .inr (.inl x) :: r => some (.inr (.inl (x &&& y)) :: r)
  | .lushr, 1, .inl y :: .inr (.inl x) :: r => some (.inr (.inl (x.toUInt64 >>> (y.toInt64.toUInt64 &&& Int64.toUInt64 63)).toInt64) :: r)
  | .lcmp, 1, .inr (.inl y) :: .inr (.inl x) :: r => some (.inl (lg_cmp x y) :: r)
  | .dup, 1, v :: r => if ma_2 v then none else some (v :: v :: r)
  | .pop, 1, v :: r => if ma_2 v then none else some r
  | .dup2, 1, v :: w :: r => if ma_2 v || ma_2 w then none else some (v :: w :: v :: w :: r)
  | _, _, _ => none
/-- stores, and the local that counts -/
def ma_sto (i : Instr) (n nL : Nat) (L : ma_L) (st : List ma_V) : Option (ma_L × List ma_V) := match i, n, st with
  | .istore k, 2, .inl x :: r => if k < nL then some (ma_st L k (.inl x), r) else none
  | .istore_n k, 1, .inl x :: r => if (k : Nat) < nL then some (ma_st L k (.inl x), r) else none
  | .astore k, 2, .inr (.inr x) :: r => if k < nL then some (ma_st L k (.inr (.inr x)), r) else none
  | .astore_n k, 1, .inr (.inr x) :: r => if (k : Nat) < nL then some (ma_st L k (.inr (.inr x)), r) else none
  | .iinc k d, 3, r => match ma_get L k with
    | some (.inl x) => if k < nL then some (ma_st L k (.inl (x + Int32.ofInt d)), r) else none
    | _ => none
  | _, _, _ => none
def ma_to (pc : Nat) (off : Int) : Option Nat := if 0 ≤ (pc : Int) + off then some ((pc : Int) + off).toNat else none
theorem ma_to_eq {pc : Nat} {off : Int} {t : Nat} (h : ma_to pc off = some t) : (pc : Int) + off = (t : Int) := by
  unfold ma_to at h
  split at h
  · cases h; omega
  · cases h
def ma_c0 (c : ClassFile.Cond) (x : Int32) : Bool := match c with
  | .eq => decide (x = 0)
  | .ne => decide (¬ x = 0)
  | .lt => decide (x < 0)
  | .ge => decide (0 ≤ x)
  | .gt => decide (0 < x)
  | .le => decide (x ≤ 0)
def ma_c2 (c : ClassFile.Cond) (x y : Int32) : Bool := match c with
  | .eq => decide (x = y)
  | .ne => decide (¬ x = y)
  | .lt => decide (x < y)
  | .ge => decide (y ≤ x)
  | .gt => decide (y < x)
  | .le => decide (x ≤ y)
/-- jumps: where to, and the stack behind -/
def ma_jmp (i : Instr) (n pc : Nat) (st : List ma_V) : Option (Nat × List ma_V) := match i, n, st with
  | .goto o, 3, r => (ma_to pc o).map (fun t => (t, r))
  | .ifCond c o, 3, .inl x :: r => (ma_to pc o).map (fun t => (if ma_c0 c x then t else pc + 3, r))
  | .if_icmp c o, 3, .inl y :: .inl x :: r => (ma_to pc o).map (fun t => (if ma_c2 c x y then t else pc + 3, r))
  | .ifnull o, 3, .inr (.inr x) :: r => match x with
    | none => (ma_to pc o).map (fun t => (t, r))
    | some _ => some (pc + 3, r)
  | .ifnonnull o, 3, .inr (.inr x) :: r => match x with
    | none => some (pc + 3, r)
    | some _ => (ma_to pc o).map (fun t => (t, r))
  | .tableswitch d lo hi offs, _, .inl x :: r => if x.toInt < lo ∨ hi < x.toInt then (ma_to pc d).map (fun t => (t, r)) else match offs[(x.toInt - lo).toNat]? with
    | some o => (ma_to pc o).map (fun t => (t, r))
    | none => none
  | .lookupswitch d ps, _, .inl x :: r => if (ps.toList.zip (ps.toList.drop 1)).all (fun (a, next) => a.1 < next.1) = true then (ma_to pc (Op.lookupswitch.offset ps.toList d x.toInt)).map (fun t => (t, r)) else none
  | _, _, _ => none
section MA1
variable {p : Program} {l : Launch} {e : Env} {R : Room} {s : State} {m : MethodId} {args : Array Value} {below : List Frame} {meth : Method} {c : Code} {H : Heap} {locs : List Loc} {cells slots : Nat} {Q : State → Prop} {cc : ByteArray} {pc : Nat} {ls : Array Slot} {ad : Nat → Nat}
theorem ma_push_ok (hx : p.tables.exec = Jvm.exec) (hb : c.code = cc) {i : Instr} {n nL : Nat} {L : ma_L} {v : ma_V} {rest : List Value} (hl : lv_has ls nL (ma_tl ad L)) (hd : decode cc pc = .ok (i, n)) (h : ma_push i n L = some v)
    (k : W p l e R s m args below meth c H locs cells slots Q (F0 m (pc + n) ls (ma_tv ad v :: rest))) : W p l e R s m args below meth c H locs cells slots Q (F0 m pc ls rest) := by
  unfold ma_push at h
  split at h
  · cases h; exact lv_iconst hx hb hd rfl k
  · cases h; exact lv_bipush hx hb hd rfl k
  · cases h; exact lv_sipush hx hb hd rfl k
  · cases h; exact lv_lconst hx hb hd rfl k
  · cases h; exact lv_null hx hb hd k
  · split at h
    · next hg => cases h; exact lv_iload hx hb hd (ma_get_at hg hl) k
    · cases h
  · split at h
    · next hg => cases h; exact lv_iload_n hx hb hd rfl (ma_get_at hg hl) k
    · cases h
  · split at h
    · next hg => cases h; exact lv_lload hx hb hd (ma_get_at hg hl) k
    · cases h
  · split at h
    · next hg => cases h; exact lv_lload_n hx hb hd rfl (ma_get_at hg hl) k
    · cases h
  · split at h
    · next x hg =>
      cases h
      have hg := ma_get_at hg hl
      cases x with
      | none => exact lv_aloadN hx hb hd hg k
      | some a => exact lv_aload hx hb hd hg k
    · cases h
  · split at h
    · next x hg =>
      cases h
      have hg := ma_get_at hg hl
      cases x with
      | none => exact lv_aload_nN hx hb hd rfl hg k
      | some a => exact lv_aload_n hx hb hd rfl hg k
    · cases h
  · cases h
theorem ma_stk_ok (hx : p.tables.exec = Jvm.exec) (hb : c.code = cc) {i : Instr} {n : Nat} {st st₉ : List ma_V} (hd : decode cc pc = .ok (i, n)) (h : ma_stk i n st = some st₉)
    (k : W p l e R s m args below meth c H locs cells slots Q (F0 m (pc + n) ls (ma_ts ad st₉))) : W p l e R s m args below meth c H locs cells slots Q (F0 m pc ls (ma_ts ad st)) := by
  unfold ma_stk at h
  split at h
  · cases h; exact lv_iadd hx hb hd k
  · cases h; exact lv_isub hx hb hd k
  · cases h; exact lv_imul hx hb hd k
  · cases h; exact lv_iand hx hb hd k
  · cases h; exact lv_ior hx hb hd k
  · cases h; exact lv_ixor hx hb hd k
  · cases h; exact lv_ishl hx hb hd k
  · cases h; exact lv_ishr hx hb hd k
  · cases h; exact lv_iushr hx hb hd rfl k
  · split at h
    · cases h
    · next hy => cases h; exact lv_idiv hx hb hd hy k
  · cases h; exact lv_i2b hx hb hd rfl k
  · cases h; exact lv_i2c hx hb hd rfl k
  · cases h; exact lv_i2l hx hb hd rfl k
  · cases h; exact lv_land hx hb hd k
  · cases h; exact lv_lushr hx hb hd rfl k
  · cases h; exact W.lcmp hx hb hd k
  · split at h
    · cases h
    · next hv => cases h; exact lv_dup hx hb hd (ma_cat1 ad (by simpa using hv)) k
  · split at h
    · cases h
    · next hv => cases h; exact lv_pop hx hb hd (ma_cat1 ad (by simpa using hv)) k
  · split at h
    · cases h
    · next hv =>
      cases h
      simp only [Bool.or_eq_true, not_or, Bool.not_eq_true] at hv
      exact lv_dup2_11 hx hb hd (ma_cat1 ad hv.1) (ma_cat1 ad hv.2) k
  · cases h
theorem ma_sto_ok (hx : p.tables.exec = Jvm.exec) (hb : c.code = cc) {i : Instr} {n nL : Nat} {L L₉ : ma_L} {st st₉ : List ma_V} (hl : lv_has ls nL (ma_tl ad L)) (hd : decode cc pc = .ok (i, n)) (h : ma_sto i n nL L st = some (L₉, st₉))
    (k : ∀ ls₉ : Array Slot, lv_has ls₉ nL (ma_tl ad L₉) → W p l e R s m args below meth c H locs cells slots Q (F0 m (pc + n) ls₉ (ma_ts ad st₉))) : W p l e R s m args below meth c H locs cells slots Q (F0 m pc ls (ma_ts ad st)) := by
  unfold ma_sto at h
  split at h
  · split at h
    · next hk => cases h; exact lv_istore hx hb hd hl hk (ma_tl_st ad L _ (.inl _)) k
    · cases h
  · split at h
    · next hk => cases h; exact lv_istore_n hx hb hd rfl hl hk (ma_tl_st ad L _ (.inl _)) k
    · cases h
  · next x r =>
    split at h
    · next hk =>
      cases h
      cases x with
      | none => exact lv_astoreN hx hb hd hl hk (ma_tl_st ad L _ (.inr (.inr none))) k
      | some a => exact lv_astore hx hb hd hl hk (ma_tl_st ad L _ (.inr (.inr (some a)))) k
    · cases h
  · next x r =>
    split at h
    · next hk =>
      cases h
      cases x with
      | none => exact lv_astore_nN hx hb hd rfl hl hk (ma_tl_st ad L _ (.inr (.inr none))) k
      | some a => exact lv_astore_n hx hb hd rfl hl hk (ma_tl_st ad L _ (.inr (.inr (some a)))) k
    · cases h
  · split at h
    · next x hg =>
      split at h
      · next hk =>
        cases h
        have hm := ma_get_at hg hl
        obtain ⟨j, hj⟩ : ∃ j, (ma_tl ad L)[j]? = some (_, Value.int x) := by
          unfold ma_get at hg
          cases hf : L.find? (fun q => q.1 == _) with
          | none => rw [hf] at hg; cases hg
          | some q =>
            rw [hf] at hg
            have h2 : q.2 = .inl x := Option.some.inj hg
            have h3 := List.find?_some hf
            have h4 : q ∈ L := List.mem_of_find?_eq_some hf
            obtain ⟨j, hj⟩ := List.getElem?_of_mem (show (q.1, ma_tv ad q.2) ∈ ma_tl ad L from List.mem_map.mpr ⟨q, h4, rfl⟩)
            refine ⟨j, ?_⟩
            rw [hj, h2, eq_of_beq h3]
            rfl
        exact lv_iinc hx hb hd hl hj rfl hk (ma_tl_st ad L _ (.inl _)) k
      · cases h
    · cases h
  · cases h
theorem ma_jmp_ok (hx : p.tables.exec = Jvm.exec) (hb : c.code = cc) {i : Instr} {n t : Nat} {st st₉ : List ma_V} (hd : decode cc pc = .ok (i, n)) (h : ma_jmp i n pc st = some (t, st₉))
    (k : W p l e R s m args below meth c H locs cells slots Q (F0 m t ls (ma_ts ad st₉))) : W p l e R s m args below meth c H locs cells slots Q (F0 m pc ls (ma_ts ad st)) := by
  have tk : ∀ {o : Int} {r : List ma_V}, (ma_to pc o).map (fun t => (t, r)) = some (t, st₉) → (pc : Int) + o = (t : Int) ∧ r = st₉ := by
    intro o r hh
    cases ht : ma_to pc o with
    | none => rw [ht] at hh; cases hh
    | some t₉ => rw [ht] at hh; cases hh; exact ⟨ma_to_eq ht, rfl⟩
  have tk2 : ∀ {o : Int} {b : Bool} {r : List ma_V}, (ma_to pc o).map (fun t => (if b then t else pc + 3, r)) = some (t, st₉) → ∃ t₉ : Nat, (pc : Int) + o = (t₉ : Int) ∧ (if b then t₉ else pc + 3) = t ∧ r = st₉ := by
    intro o b r hh
    cases ht : ma_to pc o with
    | none => rw [ht] at hh; cases hh
    | some t₉ => rw [ht] at hh; cases hh; exact ⟨t₉, ma_to_eq ht, rfl, rfl⟩
  unfold ma_jmp at h
  split at h
  · obtain ⟨h1, rfl⟩ := tk h
    exact lv_goto hx hb hd h1 k
  · next cd o x r =>
    obtain ⟨t₉, h1, h2, rfl⟩ := tk2 h
    cases cd <;> simp only [ma_c0, decide_eq_true_eq] at h2
    · exact lv_if_eq hx hb hd h1 (fun q => by rw [if_pos q] at h2; rw [h2]; exact k) (fun q => by rw [if_neg q] at h2; rw [h2]; exact k)
    · exact lv_if_ne hx hb hd h1 (fun q => by rw [if_pos q] at h2; rw [h2]; exact k) (fun q => by rw [if_neg (fun z => z q)] at h2; rw [h2]; exact k)
    · exact lv_if_lt hx hb hd h1 (fun q => by rw [if_pos q] at h2; rw [h2]; exact k) (fun q => by rw [if_neg q] at h2; rw [h2]; exact k)
    · exact lv_if_ge hx hb hd h1 (fun q => by rw [if_pos q] at h2; rw [h2]; exact k) (fun q => by rw [if_neg q] at h2; rw [h2]; exact k)
    · exact lv_if_gt hx hb hd h1 (fun q => by rw [if_pos q] at h2; rw [h2]; exact k) (fun q => by rw [if_neg q] at h2; rw [h2]; exact k)
    · exact lv_if_le hx hb hd h1 (fun q => by rw [if_pos q] at h2; rw [h2]; exact k) (fun q => by rw [if_neg q] at h2; rw [h2]; exact k)
  · next cd o y x r =>
    obtain ⟨t₉, h1, h2, rfl⟩ := tk2 h
    cases cd <;> simp only [ma_c2, decide_eq_true_eq] at h2
    · exact lv_icmp_eq hx hb hd h1 (fun q => by rw [if_pos q] at h2; rw [h2]; exact k) (fun q => by rw [if_neg q] at h2; rw [h2]; exact k)
    · exact lv_icmp_ne hx hb hd h1 (fun q => by rw [if_pos q] at h2; rw [h2]; exact k) (fun q => by rw [if_neg (fun z => z q)] at h2; rw [h2]; exact k)
    · exact lv_icmp_lt hx hb hd h1 (fun q => by rw [if_pos q] at h2; rw [h2]; exact k) (fun q => by rw [if_neg q] at h2; rw [h2]; exact k)
    · exact lv_icmp_ge hx hb hd h1 (fun q => by rw [if_pos q] at h2; rw [h2]; exact k) (fun q => by rw [if_neg q] at h2; rw [h2]; exact k)
    · exact lv_icmp_gt hx hb hd h1 (fun q => by rw [if_pos q] at h2; rw [h2]; exact k) (fun q => by rw [if_neg q] at h2; rw [h2]; exact k)
    · exact lv_icmp_le hx hb hd h1 (fun q => by rw [if_pos q] at h2; rw [h2]; exact k) (fun q => by rw [if_neg q] at h2; rw [h2]; exact k)
  · next o x r =>
    cases x with
    | none =>
      obtain ⟨h1, rfl⟩ := tk h
      exact lv_ifnullN hx hb hd h1 k
    | some a =>
      cases h
      exact lv_ifnull hx hb hd k
  · next o x r =>
    cases x with
    | none =>
      cases h
      exact lv_ifnonnullN hx hb hd k
    | some a =>
      obtain ⟨h1, rfl⟩ := tk h
      exact lv_ifnonnull hx hb hd h1 k
  · split at h
    · next hc =>
      obtain ⟨h1, rfl⟩ := tk h
      exact lv_tableOut hx hb hd hc h1 k
    · next hc =>
      split at h
      · next o ho =>
        obtain ⟨h1, rfl⟩ := tk h
        exact lv_tableIn hx hb hd (fun q => hc (Or.inl q)) (fun q => hc (Or.inr q)) ho h1 k
      · cases h
  · split at h
    · next hp =>
      obtain ⟨h1, rfl⟩ := tk h
      exact lv_lookup hx hb hd hp rfl h1 k
    · cases h
  · cases h
end MA1

/-! from 20.world -/
/-! THE SMALL MACHINE, part 2: its heap (cells by number: shape, ints, longs, references), and the world of cells that stands for it.
Numbers below 64 name what lies outside: the script is 30, constant texts are 0 .., their rows of bytes 32 .. -/
abbrev ma_S : Type := Nat × Nat × Nat × (Nat → Nat × Nat) × (Nat → Nat → Int32) × (Nat → Nat → Int64) × (Nat → Nat → Option Nat)
/-- the next cell's number; cells made; slots made; shapes (kind, length); contents -/
abbrev mN (S : ma_S) : Nat := S.1
abbrev mC (S : ma_S) : Nat := S.2.1
abbrev mZ (S : ma_S) : Nat := S.2.2.1
abbrev mH (S : ma_S) : Nat → Nat × Nat := S.2.2.2.1
abbrev mI (S : ma_S) : Nat → Nat → Int32 := S.2.2.2.2.1
abbrev mL (S : ma_S) : Nat → Nat → Int64 := S.2.2.2.2.2.1
abbrev mR (S : ma_S) : Nat → Nat → Option Nat := S.2.2.2.2.2.2
/-- one slot of one cell -/
def ma_u {α : Type} (h : Nat → Nat → α) (c k : Nat) (x : α) : Nat → Nat → α := fun c₉ k₉ => if c₉ = c ∧ k₉ = k then x else h c₉ k₉
/-- one cell -/
def ma_uc {α : Type} (h : Nat → α) (c : Nat) (x : α) : Nat → α := fun c₉ => if c₉ = c then x else h c₉
theorem ma_u_eq {α : Type} (h : Nat → Nat → α) (c k : Nat) (x : α) : ma_u h c k x c = va_up (h c) k x := by
  funext j; unfold ma_u va_up; simp
theorem ma_u_ne {α : Type} (h : Nat → Nat → α) {c c₉ : Nat} (k : Nat) (x : α) (hn : c₉ ≠ c) : ma_u h c k x c₉ = h c₉ := by
  funext j; unfold ma_u; simp [hn]
theorem ma_u_at {α : Type} (h : Nat → Nat → α) (c k : Nat) (x : α) (k₉ : Nat) : ma_u h c k x c k₉ = if k₉ = k then x else h c k₉ := by
  unfold ma_u; simp
def ma_put (S : ma_S) (c k : Nat) (v : ma_V) : ma_S := match v with
  | .inl x => (S.1, S.2.1, S.2.2.1, S.2.2.2.1, ma_u (mI S) c k x, mL S, mR S)
  | .inr (.inl x) => (S.1, S.2.1, S.2.2.1, S.2.2.2.1, mI S, ma_u (mL S) c k x, mR S)
  | .inr (.inr r) => (S.1, S.2.1, S.2.2.1, S.2.2.2.1, mI S, mL S, ma_u (mR S) c k r)
/-- a new cell of kind t with n slots, all 0 or null -/
def ma_new (S : ma_S) (t n : Nat) : ma_S := (S.1 + 1, S.2.1 + 1, S.2.2.1 + n, ma_uc (mH S) S.1 (t, n), ma_uc (mI S) S.1 (fun _ => 0), ma_uc (mL S) S.1 (fun _ => 0), ma_uc (mR S) S.1 (fun _ => none))
/-- the value that a slot of that type has -/
def ma_rd (S : ma_S) (c k : Nat) (ty : FieldType) : ma_V := match ty with
  | .long => .inr (.inl (mL S c k))
  | .object _ => .inr (.inr (mR S c k))
  | .array _ => .inr (.inr (mR S c k))
  | _ => .inl (mI S c k)
/-- classes: by their places in vwCl -/
def ma_ft (t : Nat) : Nat → FieldType := match t with
  | 1 => tyX0 | 2 => tyX2 | 3 => tyX3 | 4 => tyX4 | 5 => tyX5 | 6 => tyX6 | 7 => tyX7 | 8 => tyX8 | 9 => tyX9 | 10 => tyX10 | 11 => tyX11 | 12 => tyX12
  | _ => fun _ => .int
def ma_fn (t : Nat) : Nat := match t with
  | 1 => 10 | 2 => 8 | 3 => 5 | 4 => 9 | 5 => 4 | 6 => 9 | 7 => 13 | 8 => 5 | 9 => 9 | 10 => 6 | 11 => 12 | 12 => 85
  | _ => 0
def ma_fs (ad : Nat → Nat) (S : ma_S) (c t : Nat) : List Value := (List.range (ma_fn t)).map (fun k => ma_tv ad (ma_rd S c k (ma_ft t k)))
/-- arrays: 20 int, 21 byte, 22 boolean, 23 long, 24 Thing, 25 Collector -/
def ma_tys (kA : Nat → ClassId) : List (ClassId × FieldType) := [(kA 20, .int), (kA 21, .byte), (kA 22, .boolean), (kA 23, .long), (kA 24, .object RX9), (kA 25, .object RX1)]
def ma_E (kA : Nat → ClassId) (ad : Nat → Nat) (S : ma_S) (c : Nat) : va_E :=
  if (mH S c).1 < 20 then .inr ((mH S c).1, ma_fs ad S c (mH S c).1)
  else if (mH S c).1 < 23 then .inl (kA (mH S c).1, (mH S c).2, .inl (mI S c))
  else if (mH S c).1 < 24 then .inl (kA (mH S c).1, (mH S c).2, .inr (.inl (mL S c)))
  else .inl (kA (mH S c).1, (mH S c).2, .inr (.inr (.inr (.inr (fun j => (mR S c j).map ad)))))
def ma_wl (kA : Nat → ClassId) (ad : Nat → Nat) (S : ma_S) : va_W := (List.range (mN S - 64)).map (fun j => (ad (j + 64), ma_E kA ad S (j + 64)))
theorem ma_wl_at {kA : Nat → ClassId} {ad : Nat → Nat} {S : ma_S} {c : Nat} (h1 : 64 ≤ c) (h2 : c < mN S) : (ma_wl kA ad S)[c - 64]? = some (ad c, ma_E kA ad S c) := by
  unfold ma_wl
  rw [List.getElem?_map, List.getElem?_range (by omega)]
  show some (ad (c - 64 + 64), ma_E kA ad S (c - 64 + 64)) = _
  rw [Nat.sub_add_cancel h1]
theorem ma_wl_set {kA : Nat → ClassId} {ad : Nat → Nat} {S S₉ : ma_S} {c : Nat} {e : va_E} (h1 : 64 ≤ c) (h2 : c < mN S) (hn : mN S₉ = mN S) (he : ma_E kA ad S₉ c = e) (ho : ∀ c₉, c₉ ≠ c → ma_E kA ad S₉ c₉ = ma_E kA ad S c₉) : (ma_wl kA ad S).set (c - 64) (ad c, e) = ma_wl kA ad S₉ := by
  apply List.ext_getElem?
  intro j
  unfold ma_wl
  rw [hn]
  by_cases hj : j = c - 64
  · subst hj
    rw [List.getElem?_set_self (by simp; omega), List.getElem?_map, List.getElem?_range (by omega)]
    show _ = some (ad (c - 64 + 64), ma_E kA ad S₉ (c - 64 + 64))
    rw [Nat.sub_add_cancel h1, he]
  · rw [List.getElem?_set_ne (Ne.symm hj), List.getElem?_map, List.getElem?_map]
    by_cases hl : j < mN S - 64
    · rw [List.getElem?_range hl]
      show some (ad (j + 64), ma_E kA ad S (j + 64)) = some (ad (j + 64), ma_E kA ad S₉ (j + 64))
      rw [ho (j + 64) (by omega)]
    · rw [List.getElem?_eq_none (by simp; omega)]
      rfl
/-- no reference beyond the last cell -/
def ma_cv (n : Nat) (v : ma_V) : Prop := ∀ b, v = .inr (.inr (some b)) → b < n
def ma_ch (S : ma_S) : Prop := (∀ c k b, mR S c k = some b → b < mN S) ∧ 64 ≤ mN S
def ma_cL (n : Nat) (L : ma_L) : Prop := ∀ q ∈ L, ma_cv n q.2
def ma_cs (n : Nat) (st : List ma_V) : Prop := ∀ v ∈ st, ma_cv n v
theorem ma_cv_i {n : Nat} {x : Int32} : ma_cv n (.inl x) := fun _ h => by cases h
theorem ma_cv_l {n : Nat} {x : Int64} : ma_cv n (.inr (.inl x)) := fun _ h => by cases h
theorem ma_cv_n {n : Nat} : ma_cv n (.inr (.inr none)) := fun _ h => by cases h
theorem ma_cv.mono {n n₉ : Nat} {v : ma_V} (h : ma_cv n v) (hn : n ≤ n₉) : ma_cv n₉ v := fun b hb => Nat.lt_of_lt_of_le (h b hb) hn
theorem ma_tv_ad {ad ad₉ : Nat → Nat} {n : Nat} {v : ma_V} (h : ma_cv n v) (ha : ∀ b, b < n → ad₉ b = ad b) : ma_tv ad₉ v = ma_tv ad v := by
  rcases v with x | x | r
  · rfl
  · rfl
  · cases r with
    | none => rfl
    | some b => show Value.ref (ad₉ b) = Value.ref (ad b); rw [ha b (h b rfl)]
theorem ma_tl_ad {ad ad₉ : Nat → Nat} {n : Nat} {L : ma_L} (h : ma_cL n L) (ha : ∀ b, b < n → ad₉ b = ad b) : ma_tl ad₉ L = ma_tl ad L := by
  unfold ma_tl
  apply List.map_congr_left
  intro q hq
  rw [ma_tv_ad (h q hq) ha]
theorem ma_ts_ad {ad ad₉ : Nat → Nat} {n : Nat} {st : List ma_V} (h : ma_cs n st) (ha : ∀ b, b < n → ad₉ b = ad b) : ma_ts ad₉ st = ma_ts ad st := by
  unfold ma_ts
  apply List.map_congr_left
  intro q hq
  rw [ma_tv_ad (h q hq) ha]
theorem ma_rd_cv {S : ma_S} (h : ma_ch S) (c k : Nat) (ty : FieldType) : ma_cv (mN S) (ma_rd S c k ty) := by
  intro b hb
  cases ty <;> simp only [ma_rd, reduceCtorEq, Sum.inr.injEq] at hb
  · exact h.1 c k b hb
  · exact h.1 c k b hb
theorem ma_E_ad {kA : Nat → ClassId} {ad ad₉ : Nat → Nat} {S : ma_S} (h : ma_ch S) (ha : ∀ b, b < mN S → ad₉ b = ad b) (c : Nat) : ma_E kA ad₉ S c = ma_E kA ad S c := by
  unfold ma_E
  have h1 : ma_fs ad₉ S c (mH S c).1 = ma_fs ad S c (mH S c).1 := by
    unfold ma_fs
    apply List.map_congr_left
    intro k _
    rw [ma_tv_ad (ma_rd_cv h c k _) ha]
  have h2 : (fun j => (mR S c j).map ad₉) = (fun j => (mR S c j).map ad) := by
    funext j
    cases hr : mR S c j with
    | none => rfl
    | some b => show some (ad₉ b) = some (ad b); rw [ha b (h.1 c j b hr)]
  rw [h1, h2]
theorem ma_E_congr {kA : Nat → ClassId} {ad : Nat → Nat} {S S₉ : ma_S} {c : Nat} (h1 : mH S₉ c = mH S c) (h2 : mI S₉ c = mI S c) (h3 : mL S₉ c = mL S c) (h4 : mR S₉ c = mR S c) : ma_E kA ad S₉ c = ma_E kA ad S c := by
  have h5 : ∀ k ty, ma_rd S₉ c k ty = ma_rd S c k ty := by
    intro k ty
    cases ty <;> simp only [ma_rd, h2, h3, h4]
  unfold ma_E ma_fs
  simp only [h1, h2, h3, h4, h5]
theorem ma_wl_new {kA : Nat → ClassId} {ad : Nat → Nat} {S : ma_S} (h : ma_ch S) (t n q : Nat) : ma_wl kA (va_up ad (mN S) q) (ma_new S t n) = ma_wl kA ad S ++ [(q, ma_E kA (va_up ad (mN S) q) (ma_new S t n) (mN S))] := by
  have h32 := h.2
  unfold ma_wl
  have hn : mN (ma_new S t n) - 64 = (mN S - 64) + 1 := by show S.1 + 1 - 64 = _; show _ = S.1 - 64 + 1; have : 64 ≤ S.1 := h32; omega
  rw [hn, List.range_succ, List.map_append]
  congr 1
  · apply List.map_congr_left
    intro j hj
    have hj := List.mem_range.mp hj
    have hne : j + 64 ≠ mN S := by omega
    have e1 : va_up ad (mN S) q (j + 64) = ad (j + 64) := va_up_ne ad q hne
    have e2 : ma_E kA (va_up ad (mN S) q) (ma_new S t n) (j + 64) = ma_E kA ad S (j + 64) := by
      rw [← ma_E_ad (ad₉ := va_up ad (mN S) q) h (fun b hb => va_up_ne ad q (by omega))]
      have hne : j + 64 ≠ S.1 := hne
      exact ma_E_congr (if_neg hne) (if_neg hne) (if_neg hne) (if_neg hne)
    rw [e1, e2]
  · have e : mN S - 64 + 64 = mN S := Nat.sub_add_cancel h32
    rw [List.map_cons, List.map_nil, e, va_up_self]
theorem ma_new_ch {S : ma_S} (h : ma_ch S) (t n : Nat) : ma_ch (ma_new S t n) := by
  refine ⟨fun c k b hb => ?_, Nat.le_succ_of_le h.2⟩
  have hb : ma_uc (mR S) S.1 (fun _ => none) c k = some b := hb
  unfold ma_uc at hb
  split at hb
  · cases hb
  · exact Nat.lt_succ_of_lt (h.1 c k b hb)
theorem ma_put_ch {S : ma_S} (h : ma_ch S) {c k : Nat} {v : ma_V} (hv : ma_cv (mN S) v) : ma_ch (ma_put S c k v) := by
  rcases v with x | x | r
  · exact h
  · exact h
  · refine ⟨fun c₉ k₉ b hb => ?_, h.2⟩
    have hb : ma_u (mR S) c k r c₉ k₉ = some b := hb
    unfold ma_u at hb
    split at hb
    · exact hv b (by rw [hb])
    · exact h.1 c₉ k₉ b hb
theorem ma_put_n (S : ma_S) (c k : Nat) (v : ma_V) : mN (ma_put S c k v) = mN S ∧ mC (ma_put S c k v) = mC S ∧ mZ (ma_put S c k v) = mZ S ∧ mH (ma_put S c k v) = mH S := by
  rcases v with x | x | r <;> exact ⟨rfl, rfl, rfl, rfl⟩
theorem ma_put_o {kA : Nat → ClassId} {ad : Nat → Nat} {S : ma_S} {c k : Nat} {v : ma_V} {c₉ : Nat} (h : c₉ ≠ c) : ma_E kA ad (ma_put S c k v) c₉ = ma_E kA ad S c₉ := by
  rcases v with x | x | r
  · exact ma_E_congr rfl (ma_u_ne _ _ _ h) rfl rfl
  · exact ma_E_congr rfl rfl (ma_u_ne _ _ _ h) rfl
  · exact ma_E_congr rfl rfl rfl (ma_u_ne _ _ _ h)

/-! from 25.links -/
/-! field links by numbers: (own class, pool entry, class of the object) to the field's place; each with its rows of tables_1 -/
def ma_cn (o : Nat) : String := match o with
  | 0 => "java/lang/ClassCastException"
  | 1 => "CollectorHouse$Ages"
  | 2 => "CollectorHouse$Counts"
  | 3 => "CollectorHouse$Halves"
  | 4 => "CollectorHouse$Regions"
  | 5 => "CollectorHouse$Slide"
  | 6 => "CollectorHouse$Steps"
  | 7 => "CollectorHouse$Store"
  | 8 => "CollectorHouse$Sweep"
  | 9 => "CollectorHouse$Thing"
  | 10 => "CollectorHouse$Walk"
  | 11 => "CollectorHouse"
  | 12 => "CollectorHouseModel"
  | 13 => "CollectorHouse$Collector"
  | 14 => "CollectorHouseLaw"
  | 15 => "java/util/Arrays"
  | 16 => "java/lang/Math"
  | 17 => "java/lang/String"
  | 18 => "java/lang/StringLatin1"
  | 19 => "jdk/internal/util/Preconditions"
  | _ => ""
/-- private methods, called on objects of a class below -/
def ma_sx : List Cond := [.selects "CollectorHouse$Counts" ⟨"CollectorHouse$Sweep", "fitFirst", "(III)I"⟩ ⟨"CollectorHouse$Sweep", "fitFirst", "(III)I"⟩, .selects "CollectorHouse$Counts" ⟨"CollectorHouse$Sweep", "fitNext", "(I)I"⟩ ⟨"CollectorHouse$Sweep", "fitNext", "(I)I"⟩, .selects "CollectorHouse$Counts" ⟨"CollectorHouse$Sweep", "fitByLength", "(IZ)I"⟩ ⟨"CollectorHouse$Sweep", "fitByLength", "(IZ)I"⟩, .selects "CollectorHouse$Steps" ⟨"CollectorHouse$Sweep", "fitFirst", "(III)I"⟩ ⟨"CollectorHouse$Sweep", "fitFirst", "(III)I"⟩, .selects "CollectorHouse$Steps" ⟨"CollectorHouse$Sweep", "fitNext", "(I)I"⟩ ⟨"CollectorHouse$Sweep", "fitNext", "(I)I"⟩, .selects "CollectorHouse$Steps" ⟨"CollectorHouse$Sweep", "fitByLength", "(IZ)I"⟩ ⟨"CollectorHouse$Sweep", "fitByLength", "(IZ)I"⟩]
def ma_TB : List Cond := (ma_sx ++ lw_tbl).filter goodWord
theorem ma_TB_in {w : Cond} {j : Nat} (h : decide (tables_1[j]? = some w) = true) (hg : goodWord w = true) : w ∈ ma_TB :=
  List.mem_filter.mpr ⟨List.mem_append_right _ (List.mem_append_right _ (List.mem_of_getElem? (of_decide_eq_true h))), hg⟩
theorem ma_TB_p {w : Cond} (h : (decide (w ∈ ma_sx) || decide (w ∈ k2_sels lw_privs)) = true) (hg : goodWord w = true) : w ∈ ma_TB := by
  simp only [Bool.or_eq_true, decide_eq_true_eq] at h
  refine List.mem_filter.mpr ⟨?_, hg⟩
  rcases h with h | h
  · exact List.mem_append_left _ h
  · exact List.mem_append_right _ (List.mem_append_left _ h)
def ma_flc (q : (Nat × Nat × Nat × Nat) × String × Nat × Nat) : Bool := match vwCl[q.1.2.2.1]? with
  | some (_, T, N) => decide (q.1.2.2.2 < N) && decide (N = ma_fn q.1.2.2.1) && decide (parseFieldDescriptor (T q.1.2.2.2).2.2.1 = some (ma_ft q.1.2.2.1 q.1.2.2.2)) &&
    (decide (tables_1[q.2.2.1]? = some (.fieldLink (ma_cn q.1.1) q.1.2.1 q.2.1 (T q.1.2.2.2).2.1 (T q.1.2.2.2).2.2.1)) && goodWord (.fieldLink (ma_cn q.1.1) q.1.2.1 q.2.1 (T q.1.2.2.2).2.1 (T q.1.2.2.2).2.2.1)) &&
    (decide (q.2.1 = (T q.1.2.2.2).1) || (decide (tables_1[q.2.2.2]? = some (.sameField q.2.1 (T q.1.2.2.2).1 (T q.1.2.2.2).2.1 (T q.1.2.2.2).2.2.1)) && goodWord (.sameField q.2.1 (T q.1.2.2.2).1 (T q.1.2.2.2).2.1 (T q.1.2.2.2).2.2.1)))
  | none => false
def ma_flh_0 : List ((Nat × Nat × Nat × Nat) × String × Nat × Nat) := [((7, 11, 7, 0), "CollectorHouse$Store", 46, 0), ((7, 17, 7, 1), "CollectorHouse$Store", 47, 0), ((7, 21, 7, 2), "CollectorHouse$Store", 48, 0), ((10, 61, 7, 2), "CollectorHouse$Store", 49, 0), ((7, 24, 7, 3), "CollectorHouse$Store", 50, 0), ((11, 173, 7, 3), "CollectorHouse$Store", 51, 0), ((7, 27, 7, 4), "CollectorHouse$Store", 52, 0), ((10, 77, 7, 4), "CollectorHouse$Store", 53, 0), ((7, 36, 7, 5), "CollectorHouse$Store", 54, 0), ((10, 74, 7, 5), "CollectorHouse$Store", 55, 0), ((11, 259, 7, 5), "CollectorHouse$Store", 56, 0), ((7, 40, 7, 6), "CollectorHouse$Store", 57, 0), ((10, 80, 7, 6), "CollectorHouse$Store", 58, 0), ((1, 119, 7, 6), "CollectorHouse$Store", 59, 0), ((4, 104, 7, 6), "CollectorHouse$Store", 60, 0), ((11, 244, 7, 6), "CollectorHouse$Store", 61, 0), ((7, 43, 7, 7), "CollectorHouse$Store", 62, 0), ((11, 238, 7, 7), "CollectorHouse$Store", 63, 0), ((7, 46, 7, 8), "CollectorHouse$Store", 64, 0), ((6, 42, 7, 8), "CollectorHouse$Store", 65, 0), ((11, 241, 7, 8), "CollectorHouse$Store", 66, 0), ((7, 49, 7, 9), "CollectorHouse$Store", 67, 0), ((11, 247, 7, 9), "CollectorHouse$Store", 68, 0), ((7, 52, 7, 10), "CollectorHouse$Store", 69, 0), ((11, 250, 7, 10), "CollectorHouse$Store", 70, 0), ((7, 55, 7, 11), "CollectorHouse$Store", 71, 0), ((11, 253, 7, 11), "CollectorHouse$Store", 72, 0), ((7, 58, 7, 12), "CollectorHouse$Store", 73, 0), ((8, 67, 7, 12), "CollectorHouse$Store", 74, 0), ((11, 256, 7, 12), "CollectorHouse$Store", 75, 0), ((10, 18, 10, 0), "CollectorHouse$Walk", 111, 0), ((10, 9, 10, 1), "CollectorHouse$Walk", 112, 0), ((10, 15, 10, 2), "CollectorHouse$Walk", 113, 0), ((10, 28, 10, 3), "CollectorHouse$Walk", 114, 0), ((6, 107, 10, 3), "CollectorHouse$Walk", 115, 0), ((10, 32, 10, 4), "CollectorHouse$Walk", 116, 0), ((3, 44, 10, 4), "CollectorHouse$Walk", 117, 0), ((6, 104, 10, 4), "CollectorHouse$Walk", 118, 0), ((1, 147, 10, 4), "CollectorHouse$Walk", 119, 0), ((10, 35, 10, 5), "CollectorHouse$Walk", 120, 0), ((8, 9, 2, 0), "CollectorHouse$Sweep", 145, 0), ((8, 9, 6, 0), "CollectorHouse$Sweep", 145, 0), ((8, 9, 8, 2), "CollectorHouse$Sweep", 145, 0), ((6, 35, 6, 0), "CollectorHouse$Steps", 146, 147), ((8, 15, 2, 1), "CollectorHouse$Sweep", 148, 0), ((8, 15, 6, 1), "CollectorHouse$Sweep", 148, 0), ((8, 15, 8, 3), "CollectorHouse$Sweep", 148, 0), ((8, 18, 2, 2), "CollectorHouse$Sweep", 149, 0), ((8, 18, 6, 2), "CollectorHouse$Sweep", 149, 0), ((8, 18, 8, 4), "CollectorHouse$Sweep", 149, 0), ((13, 9, 1, 0), "CollectorHouse$Collector", 150, 0), ((13, 9, 2, 3), "CollectorHouse$Collector", 150, 0), ((13, 9, 3, 0), "CollectorHouse$Collector", 150, 0), ((13, 9, 4, 0), "CollectorHouse$Collector", 150, 0), ((13, 9, 5, 0), "CollectorHouse$Collector", 150, 0), ((13, 9, 6, 3), "CollectorHouse$Collector", 150, 0), ((13, 9, 8, 0), "CollectorHouse$Collector", 150, 0), ((6, 38, 6, 3), "CollectorHouse$Steps", 151, 152), ((2, 41, 2, 3), "CollectorHouse$Counts", 153, 154), ((3, 53, 3, 0), "CollectorHouse$Halves", 155, 156)]
def ma_flh_1 : List ((Nat × Nat × Nat × Nat) × String × Nat × Nat) := [((8, 46, 2, 3), "CollectorHouse$Sweep", 157, 158), ((8, 46, 6, 3), "CollectorHouse$Sweep", 157, 158), ((8, 46, 8, 0), "CollectorHouse$Sweep", 157, 158), ((1, 80, 1, 0), "CollectorHouse$Ages", 159, 160), ((4, 100, 4, 0), "CollectorHouse$Regions", 161, 162), ((13, 15, 1, 1), "CollectorHouse$Collector", 163, 0), ((13, 15, 2, 4), "CollectorHouse$Collector", 163, 0), ((13, 15, 3, 1), "CollectorHouse$Collector", 163, 0), ((13, 15, 4, 1), "CollectorHouse$Collector", 163, 0), ((13, 15, 5, 1), "CollectorHouse$Collector", 163, 0), ((13, 15, 6, 4), "CollectorHouse$Collector", 163, 0), ((13, 15, 8, 1), "CollectorHouse$Collector", 163, 0), ((3, 40, 3, 1), "CollectorHouse$Halves", 164, 165), ((1, 70, 1, 1), "CollectorHouse$Ages", 166, 167), ((5, 9, 5, 2), "CollectorHouse$Slide", 185, 0), ((5, 15, 5, 3), "CollectorHouse$Slide", 186, 0), ((3, 9, 3, 2), "CollectorHouse$Halves", 200, 0), ((3, 15, 3, 3), "CollectorHouse$Halves", 201, 0), ((3, 18, 3, 4), "CollectorHouse$Halves", 202, 0), ((1, 15, 1, 2), "CollectorHouse$Ages", 218, 0), ((1, 19, 1, 3), "CollectorHouse$Ages", 219, 0), ((1, 22, 1, 4), "CollectorHouse$Ages", 220, 0), ((1, 25, 1, 5), "CollectorHouse$Ages", 221, 0), ((1, 28, 1, 6), "CollectorHouse$Ages", 222, 0), ((1, 31, 1, 7), "CollectorHouse$Ages", 223, 0), ((1, 34, 1, 8), "CollectorHouse$Ages", 224, 0), ((1, 9, 1, 9), "CollectorHouse$Ages", 225, 0), ((2, 11, 2, 5), "CollectorHouse$Counts", 252, 0), ((2, 17, 2, 6), "CollectorHouse$Counts", 253, 0), ((2, 25, 2, 7), "CollectorHouse$Counts", 254, 0), ((6, 14, 6, 5), "CollectorHouse$Steps", 275, 0), ((6, 24, 6, 6), "CollectorHouse$Steps", 276, 0), ((6, 28, 6, 7), "CollectorHouse$Steps", 277, 0), ((6, 31, 6, 8), "CollectorHouse$Steps", 278, 0), ((4, 18, 4, 2), "CollectorHouse$Regions", 299, 0), ((4, 28, 4, 3), "CollectorHouse$Regions", 300, 0), ((4, 31, 4, 4), "CollectorHouse$Regions", 301, 0), ((4, 34, 4, 5), "CollectorHouse$Regions", 302, 0), ((4, 83, 4, 6), "CollectorHouse$Regions", 303, 0), ((4, 9, 4, 7), "CollectorHouse$Regions", 304, 0), ((4, 15, 4, 8), "CollectorHouse$Regions", 305, 0), ((11, 9, 11, 0), "CollectorHouse", 323, 0), ((11, 68, 11, 1), "CollectorHouse", 324, 0), ((11, 92, 11, 2), "CollectorHouse", 325, 0), ((11, 275, 11, 3), "CollectorHouse", 326, 0), ((11, 13, 11, 4), "CollectorHouse", 327, 0), ((11, 17, 11, 5), "CollectorHouse", 328, 0), ((11, 20, 11, 6), "CollectorHouse", 329, 0), ((11, 82, 11, 7), "CollectorHouse", 330, 0), ((11, 26, 11, 8), "CollectorHouse", 331, 0), ((11, 35, 11, 9), "CollectorHouse", 332, 0), ((11, 64, 11, 10), "CollectorHouse", 333, 0), ((11, 98, 11, 11), "CollectorHouse", 334, 0), ((9, 7, 9, 0), "CollectorHouse$Thing", 1017, 0), ((10, 58, 9, 0), "CollectorHouse$Thing", 1018, 0), ((7, 67, 9, 0), "CollectorHouse$Thing", 1019, 0), ((11, 182, 9, 0), "CollectorHouse$Thing", 1020, 0), ((9, 13, 9, 1), "CollectorHouse$Thing", 1021, 0), ((11, 220, 9, 1), "CollectorHouse$Thing", 1022, 0), ((9, 16, 9, 2), "CollectorHouse$Thing", 1023, 0)]
def ma_flh_2 : List ((Nat × Nat × Nat × Nat) × String × Nat × Nat) := [((7, 64, 9, 2), "CollectorHouse$Thing", 1024, 0), ((8, 34, 9, 2), "CollectorHouse$Thing", 1025, 0), ((5, 27, 9, 2), "CollectorHouse$Thing", 1026, 0), ((3, 34, 9, 2), "CollectorHouse$Thing", 1027, 0), ((1, 67, 9, 2), "CollectorHouse$Thing", 1028, 0), ((4, 63, 9, 2), "CollectorHouse$Thing", 1029, 0), ((10, 89, 9, 2), "CollectorHouse$Thing", 1030, 0), ((13, 38, 9, 2), "CollectorHouse$Thing", 1031, 0), ((11, 217, 9, 2), "CollectorHouse$Thing", 1032, 0), ((9, 19, 9, 3), "CollectorHouse$Thing", 1033, 0), ((7, 74, 9, 3), "CollectorHouse$Thing", 1034, 0), ((9, 23, 9, 4), "CollectorHouse$Thing", 1035, 0), ((10, 49, 9, 4), "CollectorHouse$Thing", 1036, 0), ((7, 61, 9, 4), "CollectorHouse$Thing", 1037, 0), ((8, 29, 9, 4), "CollectorHouse$Thing", 1038, 0), ((5, 22, 9, 4), "CollectorHouse$Thing", 1039, 0), ((3, 29, 9, 4), "CollectorHouse$Thing", 1040, 0), ((1, 62, 9, 4), "CollectorHouse$Thing", 1041, 0), ((4, 97, 9, 4), "CollectorHouse$Thing", 1042, 0), ((13, 51, 9, 4), "CollectorHouse$Thing", 1043, 0), ((11, 214, 9, 4), "CollectorHouse$Thing", 1044, 0), ((1, 126, 9, 5), "CollectorHouse$Thing", 1045, 0), ((11, 223, 9, 5), "CollectorHouse$Thing", 1046, 0), ((2, 21, 9, 6), "CollectorHouse$Thing", 1047, 0), ((7, 98, 9, 6), "CollectorHouse$Thing", 1048, 0), ((10, 83, 9, 7), "CollectorHouse$Thing", 1049, 0), ((7, 101, 9, 7), "CollectorHouse$Thing", 1050, 0), ((11, 189, 9, 7), "CollectorHouse$Thing", 1051, 0), ((4, 117, 9, 7), "CollectorHouse$Thing", 1052, 0), ((13, 44, 9, 7), "CollectorHouse$Thing", 1053, 0), ((2, 57, 9, 8), "CollectorHouse$Thing", 1054, 0), ((7, 108, 9, 8), "CollectorHouse$Thing", 1055, 0), ((11, 199, 9, 8), "CollectorHouse$Thing", 1056, 0), ((12, 1, 12, 0), "CollectorHouseModel", 1514, 0), ((12, 13, 12, 1), "CollectorHouseModel", 1515, 0), ((12, 17, 12, 2), "CollectorHouseModel", 1516, 0), ((12, 107, 12, 3), "CollectorHouseModel", 1517, 0), ((12, 124, 12, 4), "CollectorHouseModel", 1518, 0), ((12, 20, 12, 5), "CollectorHouseModel", 1519, 0), ((12, 24, 12, 6), "CollectorHouseModel", 1520, 0), ((12, 118, 12, 7), "CollectorHouseModel", 1521, 0), ((12, 237, 12, 8), "CollectorHouseModel", 1522, 0), ((12, 228, 12, 9), "CollectorHouseModel", 1523, 0), ((12, 199, 12, 10), "CollectorHouseModel", 1524, 0), ((12, 202, 12, 11), "CollectorHouseModel", 1525, 0), ((12, 205, 12, 12), "CollectorHouseModel", 1526, 0), ((12, 207, 12, 13), "CollectorHouseModel", 1527, 0), ((12, 210, 12, 14), "CollectorHouseModel", 1528, 0), ((12, 213, 12, 15), "CollectorHouseModel", 1529, 0), ((12, 216, 12, 16), "CollectorHouseModel", 1530, 0), ((12, 219, 12, 17), "CollectorHouseModel", 1531, 0), ((12, 222, 12, 18), "CollectorHouseModel", 1532, 0), ((12, 225, 12, 19), "CollectorHouseModel", 1533, 0), ((12, 162, 12, 20), "CollectorHouseModel", 1534, 0), ((12, 159, 12, 21), "CollectorHouseModel", 1535, 0), ((12, 154, 12, 22), "CollectorHouseModel", 1536, 0), ((12, 165, 12, 23), "CollectorHouseModel", 1537, 0), ((12, 168, 12, 24), "CollectorHouseModel", 1538, 0), ((12, 171, 12, 25), "CollectorHouseModel", 1539, 0), ((12, 174, 12, 26), "CollectorHouseModel", 1540, 0)]
def ma_flh_3 : List ((Nat × Nat × Nat × Nat) × String × Nat × Nat) := [((12, 183, 12, 27), "CollectorHouseModel", 1541, 0), ((12, 190, 12, 28), "CollectorHouseModel", 1542, 0), ((12, 193, 12, 29), "CollectorHouseModel", 1543, 0), ((12, 186, 12, 30), "CollectorHouseModel", 1544, 0), ((12, 27, 12, 31), "CollectorHouseModel", 1545, 0), ((12, 31, 12, 32), "CollectorHouseModel", 1546, 0), ((12, 34, 12, 33), "CollectorHouseModel", 1547, 0), ((12, 37, 12, 34), "CollectorHouseModel", 1548, 0), ((12, 40, 12, 35), "CollectorHouseModel", 1549, 0), ((12, 43, 12, 36), "CollectorHouseModel", 1550, 0), ((12, 46, 12, 37), "CollectorHouseModel", 1551, 0), ((12, 49, 12, 38), "CollectorHouseModel", 1552, 0), ((12, 52, 12, 39), "CollectorHouseModel", 1553, 0), ((12, 56, 12, 40), "CollectorHouseModel", 1554, 0), ((12, 59, 12, 41), "CollectorHouseModel", 1555, 0), ((12, 62, 12, 42), "CollectorHouseModel", 1556, 0), ((12, 65, 12, 43), "CollectorHouseModel", 1557, 0), ((12, 240, 12, 44), "CollectorHouseModel", 1558, 0), ((12, 243, 12, 45), "CollectorHouseModel", 1559, 0), ((12, 246, 12, 46), "CollectorHouseModel", 1560, 0), ((12, 249, 12, 47), "CollectorHouseModel", 1561, 0), ((12, 252, 12, 48), "CollectorHouseModel", 1562, 0), ((12, 255, 12, 49), "CollectorHouseModel", 1563, 0), ((12, 258, 12, 50), "CollectorHouseModel", 1564, 0), ((12, 68, 12, 51), "CollectorHouseModel", 1565, 0), ((12, 71, 12, 52), "CollectorHouseModel", 1566, 0), ((12, 74, 12, 53), "CollectorHouseModel", 1567, 0), ((12, 77, 12, 54), "CollectorHouseModel", 1568, 0), ((12, 261, 12, 55), "CollectorHouseModel", 1569, 0), ((12, 264, 12, 56), "CollectorHouseModel", 1570, 0), ((12, 267, 12, 57), "CollectorHouseModel", 1571, 0), ((12, 270, 12, 58), "CollectorHouseModel", 1572, 0), ((12, 276, 12, 59), "CollectorHouseModel", 1573, 0), ((12, 279, 12, 60), "CollectorHouseModel", 1574, 0), ((12, 273, 12, 61), "CollectorHouseModel", 1575, 0), ((12, 282, 12, 62), "CollectorHouseModel", 1576, 0), ((12, 285, 12, 63), "CollectorHouseModel", 1577, 0), ((12, 234, 12, 64), "CollectorHouseModel", 1578, 0), ((12, 80, 12, 65), "CollectorHouseModel", 1579, 0), ((12, 83, 12, 66), "CollectorHouseModel", 1580, 0), ((12, 121, 12, 67), "CollectorHouseModel", 1581, 0), ((12, 127, 12, 68), "CollectorHouseModel", 1582, 0), ((12, 130, 12, 69), "CollectorHouseModel", 1583, 0), ((12, 133, 12, 70), "CollectorHouseModel", 1584, 0), ((12, 147, 12, 71), "CollectorHouseModel", 1585, 0), ((12, 86, 12, 72), "CollectorHouseModel", 1586, 0), ((12, 291, 12, 73), "CollectorHouseModel", 1587, 0), ((12, 89, 12, 74), "CollectorHouseModel", 1588, 0), ((12, 356, 12, 75), "CollectorHouseModel", 1589, 0), ((12, 362, 12, 76), "CollectorHouseModel", 1590, 0), ((12, 359, 12, 77), "CollectorHouseModel", 1591, 0), ((12, 92, 12, 78), "CollectorHouseModel", 1592, 0), ((12, 95, 12, 79), "CollectorHouseModel", 1593, 0), ((12, 390, 12, 80), "CollectorHouseModel", 1594, 0), ((12, 98, 12, 81), "CollectorHouseModel", 1595, 0), ((12, 101, 12, 82), "CollectorHouseModel", 1596, 0), ((12, 104, 12, 83), "CollectorHouseModel", 1597, 0), ((12, 420, 12, 84), "CollectorHouseModel", 1598, 0)]
def ma_flh : List ((Nat × Nat × Nat × Nat) × String × Nat × Nat) := ma_flh_0 ++ ma_flh_1 ++ ma_flh_2 ++ ma_flh_3
theorem ma_flh_ok0 : ma_flh_0.all ma_flc = true := by decide +kernel
theorem ma_flh_ok1 : ma_flh_1.all ma_flc = true := by decide +kernel
theorem ma_flh_ok2 : ma_flh_2.all ma_flc = true := by decide +kernel
theorem ma_flh_ok3 : ma_flh_3.all ma_flc = true := by decide +kernel
theorem ma_flh_ok : ∀ q ∈ ma_flh, ma_flc q = true := by
  intro q hq
  simp only [ma_flh, List.mem_append] at hq
  rcases hq with ((hq | hq) | hq) | hq
  · exact List.all_eq_true.mp ma_flh_ok0 q hq
  · exact List.all_eq_true.mp ma_flh_ok1 q hq
  · exact List.all_eq_true.mp ma_flh_ok2 q hq
  · exact List.all_eq_true.mp ma_flh_ok3 q hq
def ma_fld (o i t : Nat) : Option Nat := (ma_flh.find? (fun q => q.1.1 == o && q.1.2.1 == i && q.1.2.2.1 == t)).map (fun q => q.1.2.2.2)

/-! from 26.classes -/
/-! the classes of the world, by their numbers: their words, types and names -/
theorem ma_lay_in {C : String} {T : u_T} {N : Nat} (is : List Nat) (h : (List.range N).all (fun k => decide (tables_1[is.getD k 0]? = some (u_lay C T k)) && goodWord (u_lay C T k)) = true) : ∀ w ∈ u_ws C T N, w ∈ ma_TB := by
  intro w hw
  obtain ⟨k, hk, rfl⟩ := List.mem_map.mp hw
  have := List.all_eq_true.mp h k hk
  simp only [Bool.and_eq_true] at this
  exact ma_TB_in this.1 this.2
def ma_clok (t : Nat) : Prop := ∃ (C : String) (T : u_T), vwCl[t]? = some (C, T, ma_fn t) ∧ (∀ w ∈ u_ws C T (ma_fn t), w ∈ ma_TB) ∧ (∀ k, k < ma_fn t → parseFieldDescriptor (T k).2.2.1 = some (ma_ft t k)) ∧ ∀ a, a < ma_fn t → ∀ b, b < ma_fn t → a ≠ b → (T a).2.1 ≠ (T b).2.1
theorem ma_clw1 : ∀ w ∈ u_ws RX0 TX0 10, w ∈ ma_TB := ma_lay_in [242, 243, 226, 228, 230, 232, 234, 236, 238, 240] (by decide +kernel)
theorem ma_clok1 : ma_clok 1 := ⟨RX0, TX0, rfl, ma_clw1, tyX0_ok, nmX0⟩
theorem ma_clw2 : ∀ w ∈ u_ws RX2 TX2 8, w ∈ ma_TB := ma_lay_in [261, 262, 263, 264, 265, 255, 257, 259] (by decide +kernel)
theorem ma_clok2 : ma_clok 2 := ⟨RX2, TX2, rfl, ma_clw2, tyX2_ok, nmX2⟩
theorem ma_clw3 : ∀ w ∈ u_ws RX3 TX3 5, w ∈ ma_TB := ma_lay_in [209, 210, 203, 205, 207] (by decide +kernel)
theorem ma_clok3 : ma_clok 3 := ⟨RX3, TX3, rfl, ma_clw3, tyX3_ok, nmX3⟩
theorem ma_clw4 : ∀ w ∈ u_ws RX4 TX4 9, w ∈ ma_TB := ma_lay_in [320, 321, 306, 308, 310, 312, 314, 316, 318] (by decide +kernel)
theorem ma_clok4 : ma_clok 4 := ⟨RX4, TX4, rfl, ma_clw4, tyX4_ok, nmX4⟩
theorem ma_clw5 : ∀ w ∈ u_ws RX5 TX5 4, w ∈ ma_TB := ma_lay_in [191, 192, 187, 189] (by decide +kernel)
theorem ma_clok5 : ma_clok 5 := ⟨RX5, TX5, rfl, ma_clw5, tyX5_ok, nmX5⟩
theorem ma_clw6 : ∀ w ∈ u_ws RX6 TX6 9, w ∈ ma_TB := ma_lay_in [287, 288, 289, 290, 291, 279, 281, 283, 285] (by decide +kernel)
theorem ma_clok6 : ma_clok 6 := ⟨RX6, TX6, rfl, ma_clw6, tyX6_ok, nmX6⟩
theorem ma_clw7 : ∀ w ∈ u_ws RX7 TX7 13, w ∈ ma_TB := ma_lay_in [76, 78, 80, 82, 84, 86, 88, 90, 92, 94, 96, 98, 100] (by decide +kernel)
theorem ma_clok7 : ma_clok 7 := ⟨RX7, TX7, rfl, ma_clw7, tyX7_ok, nmX7⟩
theorem ma_clw8 : ∀ w ∈ u_ws RX8 TX8 5, w ∈ ma_TB := ma_lay_in [174, 176, 168, 170, 172] (by decide +kernel)
theorem ma_clok8 : ma_clok 8 := ⟨RX8, TX8, rfl, ma_clw8, tyX8_ok, nmX8⟩
theorem ma_clw9 : ∀ w ∈ u_ws RX9 TX9 9, w ∈ ma_TB := ma_lay_in [1057, 1059, 1061, 1063, 1065, 1067, 1069, 1071, 1073] (by decide +kernel)
theorem ma_clok9 : ma_clok 9 := ⟨RX9, TX9, rfl, ma_clw9, tyX9_ok, nmX9⟩
theorem ma_clw10 : ∀ w ∈ u_ws RX10 TX10 6, w ∈ ma_TB := ma_lay_in [121, 123, 125, 127, 129, 131] (by decide +kernel)
theorem ma_clok10 : ma_clok 10 := ⟨RX10, TX10, rfl, ma_clw10, tyX10_ok, nmX10⟩
theorem ma_clw11 : ∀ w ∈ u_ws RX11 TX11 12, w ∈ ma_TB := ma_lay_in [335, 337, 339, 341, 343, 345, 347, 349, 351, 353, 355, 357] (by decide +kernel)
theorem ma_clok11 : ma_clok 11 := ⟨RX11, TX11, rfl, ma_clw11, tyX11_ok, nmX11⟩
theorem ma_clw12 : ∀ w ∈ u_ws RX12 TX12 85, w ∈ ma_TB := ma_lay_in [1599, 1601, 1603, 1605, 1607, 1609, 1611, 1613, 1615, 1617, 1619, 1621, 1623, 1625, 1627, 1629, 1631, 1633, 1635, 1637, 1639, 1641, 1643, 1645, 1647, 1649, 1651, 1653, 1655, 1657, 1659, 1661, 1663, 1665, 1667, 1669, 1671, 1673, 1675, 1677, 1679, 1681, 1683, 1685, 1687, 1689, 1691, 1693, 1695, 1697, 1699, 1701, 1703, 1705, 1707, 1709, 1711, 1713, 1715, 1717, 1719, 1721, 1723, 1725, 1727, 1729, 1731, 1733, 1735, 1737, 1739, 1741, 1743, 1745, 1747, 1749, 1751, 1753, 1755, 1757, 1759, 1761, 1763, 1765, 1767] (by decide +kernel)
theorem ma_clok12 : ma_clok 12 := ⟨RX12, TX12, rfl, ma_clw12, tyX12_ok, nmX12⟩
theorem ma_clok_all {t : Nat} (h1 : 1 ≤ t) (h2 : t ≤ 12) : ma_clok t := by
  have h : t = 1 ∨ t = 2 ∨ t = 3 ∨ t = 4 ∨ t = 5 ∨ t = 6 ∨ t = 7 ∨ t = 8 ∨ t = 9 ∨ t = 10 ∨ t = 11 ∨ t = 12 := by omega
  rcases h with rfl | rfl | rfl | rfl | rfl | rfl | rfl | rfl | rfl | rfl | rfl | rfl
  · exact ma_clok1
  · exact ma_clok2
  · exact ma_clok3
  · exact ma_clok4
  · exact ma_clok5
  · exact ma_clok6
  · exact ma_clok7
  · exact ma_clok8
  · exact ma_clok9
  · exact ma_clok10
  · exact ma_clok11
  · exact ma_clok12

