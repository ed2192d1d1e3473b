/-! from 30.heap -/
/-! THE SMALL MACHINE, part 3: instructions on cells that are there -/
/-- what a field of that type takes as it is -/
def ma_ok (ty : FieldType) (v : ma_V) : Bool := match v with
  | .inl x => decide (narrow ty (.int x) = .int x) && fits ty (.int x)
  | .inr (.inl _) => decide (ty = .long)
  | .inr (.inr _) => match ty with
    | .object _ => true
    | .array _ => true
    | _ => false
theorem ma_ok_spec (ad : Nat → Nat) {ty : FieldType} {v : ma_V} (h : ma_ok ty v = true) : narrow ty (ma_tv ad v) = ma_tv ad v ∧ fits ty (ma_tv ad v) = true := by
  rcases v with x | x | r
  · simp only [ma_ok, Bool.and_eq_true, decide_eq_true_eq] at h
    exact h
  · simp only [ma_ok, decide_eq_true_eq] at h
    subst h
    exact ⟨rfl, rfl⟩
  · cases ty <;> simp only [ma_ok, Bool.false_eq_true] at h
    · cases r <;> exact ⟨rfl, rfl⟩
    · cases r <;> exact ⟨rfl, rfl⟩
/-- what is put there is what is read there -/
theorem ma_rd_put {S : ma_S} {c k : Nat} {ty : FieldType} {v : ma_V} (h : ma_ok ty v = true) : ma_rd (ma_put S c k v) c k ty = v := by
  rcases v with x | x | r
  · cases ty <;> first | (simp [ma_ok, narrow, fits] at h; done) | (simp [ma_rd, ma_put, ma_u, mI, mL, mR]; done)
  · simp only [ma_ok, decide_eq_true_eq] at h
    subst h
    simp [ma_rd, ma_put, ma_u, mI, mL, mR]
  · cases ty <;> simp only [ma_ok, Bool.false_eq_true] at h
    · simp [ma_rd, ma_put, ma_u, mI, mL, mR]
    · simp [ma_rd, ma_put, ma_u, mI, mL, mR]
theorem ma_rd_put_ne {S : ma_S} {c k k₉ : Nat} {ty : FieldType} {v : ma_V} (h : k₉ ≠ k) : ma_rd (ma_put S c k v) c k₉ ty = ma_rd S c k₉ ty := by
  rcases v with x | x | r <;> cases ty <;> simp [ma_rd, ma_put, ma_u, mI, mL, mR, h]
theorem ma_fs_put (ad : Nat → Nat) {S : ma_S} {c k t : Nat} {v : ma_V} (h : ma_ok (ma_ft t k) v = true) : (ma_fs ad S c t).set k (ma_tv ad v) = ma_fs ad (ma_put S c k v) c t := by
  apply List.ext_getElem?
  intro j
  unfold ma_fs
  by_cases hj : j = k
  · subst hj
    by_cases hl : j < ma_fn t
    · rw [List.getElem?_set_self (by simpa using hl), List.getElem?_map, List.getElem?_range hl]
      show _ = some (ma_tv ad (ma_rd (ma_put S c j v) c j (ma_ft t j)))
      rw [ma_rd_put h]
    · rw [List.getElem?_eq_none (by simp; omega), List.getElem?_eq_none (by simp; omega)]
  · rw [List.getElem?_set_ne (Ne.symm hj), List.getElem?_map, List.getElem?_map]
    by_cases hl : j < ma_fn t
    · rw [List.getElem?_range hl]
      show some (ma_tv ad (ma_rd S c j (ma_ft t j))) = some (ma_tv ad (ma_rd (ma_put S c k v) c j (ma_ft t j)))
      rw [ma_rd_put_ne hj]
    · rw [List.getElem?_eq_none (by simp; omega)]
      rfl
/-- a cell of the world -/
def ma_is (S : ma_S) (c : Nat) : Bool := decide (64 ≤ c) && decide (c < mN S)
/-- an index in its row -/
def ma_ix (S : ma_S) (c : Nat) (i : Int32) : Bool := decide (0 ≤ i) && decide (i.toNatClampNeg < (mH S c).2)
theorem ma_ix_in {S : ma_S} {c : Nat} {i : Int32} (h : ma_ix S c i = true) : vp_in i (mH S c).2 := by
  simp only [ma_ix, Bool.and_eq_true, decide_eq_true_eq] at h
  intro q
  rcases q with q | q
  · exact absurd h.1 (Int32.not_le.mpr q)
  · omega
/-- fields and rows: the stack and the heap behind. o: the own class's number; ini: it is a constructor -/
def ma_hp (o : Nat) (ini : Bool) (i : Instr) (n : Nat) (st : List ma_V) (S : ma_S) : Option (List ma_V × ma_S) := match i, n, st with
  | .getfield x, 3, .inr (.inr (some c)) :: r => if ma_is S c && decide (1 ≤ (mH S c).1) && decide ((mH S c).1 ≤ 12) then (ma_fld o x (mH S c).1).map (fun k => (ma_rd S c k (ma_ft (mH S c).1 k) :: r, S)) else none
  | .putfield x, 3, v :: .inr (.inr (some c)) :: r => if ma_is S c && decide (1 ≤ (mH S c).1) && decide ((mH S c).1 ≤ 12) then (match ma_fld o x (mH S c).1, vwCl[(mH S c).1]? with
    | some k, some (_, T, _) => if ma_ok (ma_ft (mH S c).1 k) v && (!(T k).2.2.2 || (ini && decide ((T k).1 = ma_cn o))) then some (r, ma_put S c k v) else none
    | _, _ => none) else none
  | .iaload, 1, .inl j :: .inr (.inr (some c)) :: r => if ma_is S c && decide ((mH S c).1 = 20) && ma_ix S c j then some (.inl (mI S c j.toNatClampNeg) :: r, S) else none
  | .baload, 1, .inl j :: .inr (.inr (some c)) :: r => if ma_is S c && (decide ((mH S c).1 = 21) || decide ((mH S c).1 = 22)) && ma_ix S c j then some (.inl (mI S c j.toNatClampNeg) :: r, S) else none
  | .laload, 1, .inl j :: .inr (.inr (some c)) :: r => if ma_is S c && decide ((mH S c).1 = 23) && ma_ix S c j then some (.inr (.inl (mL S c j.toNatClampNeg)) :: r, S) else none
  | .aaload, 1, .inl j :: .inr (.inr (some c)) :: r => if ma_is S c && (decide ((mH S c).1 = 24) || decide ((mH S c).1 = 25)) && ma_ix S c j then some (.inr (.inr (mR S c j.toNatClampNeg)) :: r, S) else none
  | .iastore, 1, .inl x :: .inl j :: .inr (.inr (some c)) :: r => if ma_is S c && decide ((mH S c).1 = 20) && ma_ix S c j then some (r, ma_put S c j.toNatClampNeg (.inl x)) else none
  | .bastore, 1, .inl x :: .inl j :: .inr (.inr (some c)) :: r => if ma_is S c && ma_ix S c j then (if (mH S c).1 = 21 then some (r, ma_put S c j.toNatClampNeg (.inl (vp_nar .byte x))) else if (mH S c).1 = 22 then some (r, ma_put S c j.toNatClampNeg (.inl (vp_nar .boolean x))) else none) else none
  | .lastore, 1, .inr (.inl x) :: .inl j :: .inr (.inr (some c)) :: r => if ma_is S c && decide ((mH S c).1 = 23) && ma_ix S c j then some (r, ma_put S c j.toNatClampNeg (.inr (.inl x))) else none
  | .aastore, 1, .inr (.inr x) :: .inl j :: .inr (.inr (some c)) :: r => if ma_is S c && decide ((mH S c).1 = 24) && ma_ix S c j then (match x with
    | none => some (r, ma_put S c j.toNatClampNeg (.inr (.inr none)))
    | some b => if ma_is S b && decide ((mH S b).1 = 9) then some (r, ma_put S c j.toNatClampNeg (.inr (.inr (some b)))) else none) else none
  | .arraylength, 1, .inr (.inr (some c)) :: r => if ma_is S c && decide (20 ≤ (mH S c).1) && decide ((mH S c).1 ≤ 25) then some (.inl (Int32.ofNat (mH S c).2) :: r, S) else none
  | _, _, _ => none

theorem ma_fld_spec {o x t k : Nat} {C : String} {T : u_T} {N : Nat} (h : ma_fld o x t = some k) (hc : vwCl[t]? = some (C, T, N)) :
    k < N ∧ ∃ ref : String, Cond.fieldLink (ma_cn o) x ref (T k).2.1 (T k).2.2.1 ∈ ma_TB ∧ (ref = (T k).1 ∨ Cond.sameField ref (T k).1 (T k).2.1 (T k).2.2.1 ∈ ma_TB) := by
  unfold ma_fld at h
  cases hf : ma_flh.find? (fun q => q.1.1 == o && q.1.2.1 == x && q.1.2.2.1 == t) with
  | none => rw [hf] at h; cases h
  | some q =>
    rw [hf] at h
    have hk : q.1.2.2.2 = k := Option.some.inj h
    have h1 := List.find?_some hf
    simp only [Bool.and_eq_true, beq_iff_eq] at h1
    obtain ⟨⟨e1, e2⟩, e3⟩ := h1
    have h2 := ma_flh_ok q (List.mem_of_find?_eq_some hf)
    unfold ma_flc at h2
    rw [e3, hc] at h2
    simp only [Bool.and_eq_true, Bool.or_eq_true, e1, e2, e3, hk] at h2
    obtain ⟨⟨⟨⟨a1, a2⟩, a3⟩, a4, a5⟩, a6⟩ := h2
    refine ⟨of_decide_eq_true a1, q.2.1, ma_TB_in a4 a5, ?_⟩
    rcases a6 with a6 | a6
    · exact Or.inl (of_decide_eq_true a6)
    · exact Or.inr (ma_TB_in a6.1 a6.2)
theorem ma_E_obj {kA : Nat → ClassId} {ad : Nat → Nat} {S : ma_S} {c : Nat} (h : (mH S c).1 < 20) : ma_E kA ad S c = .inr ((mH S c).1, ma_fs ad S c (mH S c).1) := if_pos h
theorem ma_E_int {kA : Nat → ClassId} {ad : Nat → Nat} {S : ma_S} {c t : Nat} (ht : (mH S c).1 = t) (h1 : 20 ≤ t) (h2 : t < 23) : ma_E kA ad S c = .inl (kA t, (mH S c).2, .inl (mI S c)) := by
  unfold ma_E; rw [ht, if_neg (by omega), if_pos h2]
theorem ma_E_long {kA : Nat → ClassId} {ad : Nat → Nat} {S : ma_S} {c : Nat} (ht : (mH S c).1 = 23) : ma_E kA ad S c = .inl (kA 23, (mH S c).2, .inr (.inl (mL S c))) := by
  unfold ma_E; rw [ht, if_neg (by omega), if_neg (by omega), if_pos (by omega)]
theorem ma_E_ref {kA : Nat → ClassId} {ad : Nat → Nat} {S : ma_S} {c t : Nat} (ht : (mH S c).1 = t) (h : 24 ≤ t) : ma_E kA ad S c = .inl (kA t, (mH S c).2, .inr (.inr (.inr (.inr (fun j => (mR S c j).map ad))))) := by
  unfold ma_E; rw [ht, if_neg (by omega), if_neg (by omega), if_neg (by omega)]
section MA3
variable {p : Program} {l : Launch} {e : Env} {R : Room} {s : State} {m : MethodId} {args : Array Value} {below : List Frame} {meth : Method} {c : Code} {H H0 : Heap} {locs : List Loc} {cells slots : Nat} {Q : State → Prop} {cc : ByteArray} {pc : Nat} {ls : Array Slot} {ad : Nat → Nat} {kA : Nat → ClassId} {D : va_G} {A : Nat → Prop}
theorem ma_hp_ok (hx : p.tables.exec = Jvm.exec) (hb : c.code = cc) {o n : Nat} {ini : Bool} {i : Instr} {st st₉ : List ma_V} {S S₉ : ma_S} (hown : s.vm.findClass (ma_cn o) = some m.cls) (hts : ∀ w ∈ ma_TB, w.before args s = true) (hK : va_K D vwCl (ma_tys kA) s) (hini : ini = true → meth.name = "<init>")
    (hP : va_P D vwCl (ma_wl kA ad S) H) (hD : va_D A (ma_wl kA ad S)) (hS : va_S A H0 H locs) (hd : decode cc pc = .ok (i, n)) (h : ma_hp o ini i n st S = some (st₉, S₉))
    (k : ∀ (H1 : Heap) (locs1 : List Loc), va_P D vwCl (ma_wl kA ad S₉) H1 → va_D A (ma_wl kA ad S₉) → va_S A H0 H1 locs1 → W p l e R s m args below meth c H1 locs1 cells slots Q (F0 m (pc + n) ls (ma_ts ad st₉))) : W p l e R s m args below meth c H locs cells slots Q (F0 m pc ls (ma_ts ad st)) := by
  have is2 : ∀ {c : Nat}, ma_is S c = true → 64 ≤ c ∧ c < mN S := fun hh => by simpa [ma_is] using hh
  unfold ma_hp at h
  split at h
  · next x cx r =>
    split at h
    · next hc =>
      simp only [Bool.and_eq_true, decide_eq_true_eq] at hc
      obtain ⟨⟨hi, t1⟩, t2⟩ := hc
      obtain ⟨i1, i2⟩ := is2 hi
      obtain ⟨C, T, hcl, hw, hty, hnm⟩ := ma_clok_all t1 t2
      cases hf : ma_fld o x (mH S cx).1 with
      | none => rw [hf] at h; cases h
      | some kf =>
        rw [hf] at h
        cases h
        obtain ⟨hk, ref, hl, hsm⟩ := ma_fld_spec hf hcl
        refine va_get hx hb hts hw hown hK hP (cx - 64) ((ma_wl_at i1 i2).trans (by rw [ma_E_obj (by omega)])) hcl kf hk (hts _ hl) ?_ (v := ma_tv ad (ma_rd S cx kf (ma_ft (mH S cx).1 kf))) ?_ hd (k H locs hP hD hS)
        · rcases hsm with e1 | e1
          · rw [e1]; exact fun _ z => z
          · exact u_same (hts _ e1)
        · unfold ma_fs
          rw [List.getElem?_map, List.getElem?_range hk]
          rfl
    · cases h
  · next x v cx r =>
    split at h
    · next hc =>
      simp only [Bool.and_eq_true, decide_eq_true_eq] at hc
      obtain ⟨⟨hi, t1⟩, t2⟩ := hc
      obtain ⟨i1, i2⟩ := is2 hi
      obtain ⟨C, T, hcl, hw, hty, hnm⟩ := ma_clok_all t1 t2
      split at h
      · next kf C9 T9 N9 hf hcl9 =>
        cases hcl.symm.trans hcl9
        obtain ⟨hk, ref, hl, hsm⟩ := ma_fld_spec hf hcl
        have hsame : ∀ x, s.fieldFound? (T kf).1 (T kf).2.1 (T kf).2.2.1 = some x → s.fieldFound? ref (T kf).2.1 (T kf).2.2.1 = some x := by
          rcases hsm with e1 | e1
          · rw [e1]; exact fun _ z => z
          · exact u_same (hts _ e1)
        split at h
        · next hg =>
          cases h
          simp only [Bool.and_eq_true, Bool.or_eq_true, Bool.not_eq_true', decide_eq_true_eq] at hg
          obtain ⟨hok, hfin⟩ := hg
          obtain ⟨hn1, hn2⟩ := ma_ok_spec ad hok
          have hset : (ma_wl kA ad S).set (cx - 64) (ad cx, .inr ((mH S cx).1, (ma_fs ad S cx (mH S cx).1).set kf (ma_tv ad v))) = ma_wl kA ad (ma_put S cx kf v) := by
            refine ma_wl_set i1 i2 (ma_put_n S cx kf v).1 ?_ (fun c₉ hc₉ => ma_put_o hc₉)
            have hh : mH (ma_put S cx kf v) = mH S := (ma_put_n S cx kf v).2.2.2
            rw [ma_E_obj (by rw [hh]; omega), hh, ma_fs_put ad hok]
          have hlen : kf < (ma_fs ad S cx (mH S cx).1).length := by unfold ma_fs; simpa using hk
          have he := (ma_wl_at (kA := kA) (ad := ad) i1 i2).trans (by rw [ma_E_obj (by omega)])
          rcases hfin with hfin | ⟨hfi, hfo⟩
          · exact va_put hx hb hts hw (ma_ft (mH S cx).1) hty hnm hown hK hP hD hS (cx - 64) he hcl kf hk (hts _ hl) hsame hfin (hty kf hk) hn1 hn2 hlen hd (fun H1 locs1 a1 a2 a3 => k H1 locs1 (hset ▸ a1) (hset ▸ a2) a3)
          · cases hf2 : (T kf).2.2.2 with
            | false => exact va_put hx hb hts hw (ma_ft (mH S cx).1) hty hnm hown hK hP hD hS (cx - 64) he hcl kf hk (hts _ hl) hsame hf2 (hty kf hk) hn1 hn2 hlen hd (fun H1 locs1 a1 a2 a3 => k H1 locs1 (hset ▸ a1) (hset ▸ a2) a3)
            | true => exact va_putF hx hb hts hw (ma_ft (mH S cx).1) hty hnm hown hK hP hD hS (cx - 64) he hcl kf hk (hts _ hl) hsame hf2 (hini hfi) hfo (hty kf hk) hn1 hn2 hlen hd (fun H1 locs1 a1 a2 a3 => k H1 locs1 (hset ▸ a1) (hset ▸ a2) a3)
        · cases h
      · cases h
    · cases h
  · next j cx r =>
    split at h
    · next hc =>
      simp only [Bool.and_eq_true, decide_eq_true_eq] at hc
      obtain ⟨⟨hi, t1⟩, t2⟩ := hc
      obtain ⟨i1, i2⟩ := is2 hi
      cases h
      exact va_iald hx hb hK hP (cx - 64) 0 ((ma_wl_at i1 i2).trans (by rw [ma_E_int t1 (by omega) (by omega)])) rfl (ma_ix_in t2) hd (k H locs hP hD hS)
    · cases h
  · next j cx r =>
    split at h
    · next hc =>
      simp only [Bool.and_eq_true, Bool.or_eq_true, decide_eq_true_eq] at hc
      obtain ⟨⟨hi, t1⟩, t2⟩ := hc
      obtain ⟨i1, i2⟩ := is2 hi
      cases h
      rcases t1 with t1 | t1
      · exact va_bald hx hb hK hP (cx - 64) 1 ((ma_wl_at i1 i2).trans (by rw [ma_E_int t1 (by omega) (by omega)])) rfl (ma_ix_in t2) hd (k H locs hP hD hS)
      · exact va_zald hx hb hK hP (cx - 64) 2 ((ma_wl_at i1 i2).trans (by rw [ma_E_int t1 (by omega) (by omega)])) rfl (ma_ix_in t2) hd (k H locs hP hD hS)
    · cases h
  · next j cx r =>
    split at h
    · next hc =>
      simp only [Bool.and_eq_true, decide_eq_true_eq] at hc
      obtain ⟨⟨hi, t1⟩, t2⟩ := hc
      obtain ⟨i1, i2⟩ := is2 hi
      cases h
      exact va_lald hx hb hK hP (cx - 64) 3 ((ma_wl_at i1 i2).trans (by rw [ma_E_long t1])) rfl (ma_ix_in t2) hd (k H locs hP hD hS)
    · cases h
  · next j cx r =>
    split at h
    · next hc =>
      simp only [Bool.and_eq_true, Bool.or_eq_true, decide_eq_true_eq] at hc
      obtain ⟨⟨hi, t1⟩, t2⟩ := hc
      obtain ⟨i1, i2⟩ := is2 hi
      cases h
      rcases t1 with t1 | t1
      · exact va_aldq (f := fun j => (mR S cx j).map ad) hx hb hK hP (cx - 64) 4 ((ma_wl_at i1 i2).trans (by rw [ma_E_ref t1 (by omega)])) rfl (ma_ix_in t2) hd (k H locs hP hD hS)
      · exact va_aldq (f := fun j => (mR S cx j).map ad) hx hb hK hP (cx - 64) 5 ((ma_wl_at i1 i2).trans (by rw [ma_E_ref t1 (by omega)])) rfl (ma_ix_in t2) hd (k H locs hP hD hS)
    · cases h
  · next x j cx r =>
    split at h
    · next hc =>
      simp only [Bool.and_eq_true, decide_eq_true_eq] at hc
      obtain ⟨⟨hi, t1⟩, t2⟩ := hc
      obtain ⟨i1, i2⟩ := is2 hi
      cases h
      have hset : (ma_wl kA ad S).set (cx - 64) (ad cx, .inl (kA 20, (mH S cx).2, .inl (upd (mI S cx) j.toNatClampNeg x))) = ma_wl kA ad (ma_put S cx j.toNatClampNeg (.inl x)) := by
        refine ma_wl_set i1 i2 rfl ?_ (fun c₉ hc₉ => ma_put_o hc₉)
        rw [ma_E_int (S := ma_put S cx j.toNatClampNeg (.inl x)) (t := 20) t1 (by omega) (by omega)]
        show Sum.inl (kA 20, (mH S cx).2, Sum.inl (ma_u (mI S) cx j.toNatClampNeg x cx)) = _
        rw [ma_u_eq]; rfl
      exact va_iast hx hb hK hP hD hS (cx - 64) 0 ((ma_wl_at i1 i2).trans (by rw [ma_E_int t1 (by omega) (by omega)])) rfl (ma_ix_in t2) hd (fun H1 locs1 a1 a2 a3 => k H1 locs1 (hset ▸ a1) (hset ▸ a2) a3)
    · cases h
  · next x j cx r =>
    split at h
    · next hc =>
      simp only [Bool.and_eq_true, decide_eq_true_eq] at hc
      obtain ⟨hi, t2⟩ := hc
      obtain ⟨i1, i2⟩ := is2 hi
      split at h
      · next t1 =>
        cases h
        have hset : (ma_wl kA ad S).set (cx - 64) (ad cx, .inl (kA 21, (mH S cx).2, .inl (upd (mI S cx) j.toNatClampNeg (vp_nar .byte x)))) = ma_wl kA ad (ma_put S cx j.toNatClampNeg (.inl (vp_nar .byte x))) := by
          refine ma_wl_set i1 i2 rfl ?_ (fun c₉ hc₉ => ma_put_o hc₉)
          rw [ma_E_int (S := ma_put S cx j.toNatClampNeg (.inl (vp_nar .byte x))) (t := 21) t1 (by omega) (by omega)]
          show Sum.inl (kA 21, (mH S cx).2, Sum.inl (ma_u (mI S) cx j.toNatClampNeg _ cx)) = _
          rw [ma_u_eq]; rfl
        exact va_bast hx hb hK hP hD hS (cx - 64) 1 ((ma_wl_at i1 i2).trans (by rw [ma_E_int t1 (by omega) (by omega)])) rfl (ma_ix_in t2) hd (fun H1 locs1 a1 a2 a3 => k H1 locs1 (hset ▸ a1) (hset ▸ a2) a3)
      · split at h
        · next t1 =>
          cases h
          have hset : (ma_wl kA ad S).set (cx - 64) (ad cx, .inl (kA 22, (mH S cx).2, .inl (upd (mI S cx) j.toNatClampNeg (vp_nar .boolean x)))) = ma_wl kA ad (ma_put S cx j.toNatClampNeg (.inl (vp_nar .boolean x))) := by
            refine ma_wl_set i1 i2 rfl ?_ (fun c₉ hc₉ => ma_put_o hc₉)
            rw [ma_E_int (S := ma_put S cx j.toNatClampNeg (.inl (vp_nar .boolean x))) (t := 22) t1 (by omega) (by omega)]
            show Sum.inl (kA 22, (mH S cx).2, Sum.inl (ma_u (mI S) cx j.toNatClampNeg _ cx)) = _
            rw [ma_u_eq]; rfl
          exact va_zast hx hb hK hP hD hS (cx - 64) 2 ((ma_wl_at i1 i2).trans (by rw [ma_E_int t1 (by omega) (by omega)])) rfl (ma_ix_in t2) hd (fun H1 locs1 a1 a2 a3 => k H1 locs1 (hset ▸ a1) (hset ▸ a2) a3)
        · cases h
    · cases h
  · next x j cx r =>
    split at h
    · next hc =>
      simp only [Bool.and_eq_true, decide_eq_true_eq] at hc
      obtain ⟨⟨hi, t1⟩, t2⟩ := hc
      obtain ⟨i1, i2⟩ := is2 hi
      cases h
      have hset : (ma_wl kA ad S).set (cx - 64) (ad cx, .inl (kA 23, (mH S cx).2, .inr (.inl (vp_updL (mL S cx) j.toNatClampNeg x)))) = ma_wl kA ad (ma_put S cx j.toNatClampNeg (.inr (.inl x))) := by
        refine ma_wl_set i1 i2 rfl ?_ (fun c₉ hc₉ => ma_put_o hc₉)
        rw [ma_E_long (S := ma_put S cx j.toNatClampNeg (.inr (.inl x))) t1]
        show Sum.inl (kA 23, (mH S cx).2, Sum.inr (Sum.inl (ma_u (mL S) cx j.toNatClampNeg x cx))) = _
        rw [ma_u_eq]; rfl
      exact va_last hx hb hK hP hD hS (cx - 64) 3 ((ma_wl_at i1 i2).trans (by rw [ma_E_long t1])) rfl (ma_ix_in t2) hd (fun H1 locs1 a1 a2 a3 => k H1 locs1 (hset ▸ a1) (hset ▸ a2) a3)
    · cases h
  · next x j cx r =>
    split at h
    · next hc =>
      simp only [Bool.and_eq_true, decide_eq_true_eq] at hc
      obtain ⟨⟨hi, t1⟩, t2⟩ := hc
      obtain ⟨i1, i2⟩ := is2 hi
      have hset : ∀ y : Option Nat, (ma_wl kA ad S).set (cx - 64) (ad cx, .inl (kA 24, (mH S cx).2, .inr (.inr (.inr (.inr (va_up (fun j => (mR S cx j).map ad) j.toNatClampNeg (y.map ad))))))) = ma_wl kA ad (ma_put S cx j.toNatClampNeg (.inr (.inr y))) := by
        intro y
        refine ma_wl_set i1 i2 rfl ?_ (fun c₉ hc₉ => ma_put_o hc₉)
        rw [ma_E_ref (S := ma_put S cx j.toNatClampNeg (.inr (.inr y))) (t := 24) t1 (by omega)]
        show Sum.inl (kA 24, (mH S cx).2, Sum.inr (Sum.inr (Sum.inr (Sum.inr (fun i => (ma_u (mR S) cx j.toNatClampNeg y cx i).map ad))))) = _
        rw [ma_u_eq]
        have : (fun i => (va_up (mR S cx) j.toNatClampNeg y i).map ad) = va_up (fun j => (mR S cx j).map ad) j.toNatClampNeg (y.map ad) := by
          funext i; unfold va_up; split <;> rfl
        rw [this]
      split at h
      · cases h
        exact va_astqN hx hb hK hP hD hS (cx - 64) 4 ((ma_wl_at i1 i2).trans (by rw [ma_E_ref t1 (by omega)])) rfl (ma_ix_in t2) hd (fun H1 locs1 a1 a2 a3 => k H1 locs1 (hset none ▸ a1) (hset none ▸ a2) a3)
      · next bx =>
        split at h
        · next hv =>
          simp only [Bool.and_eq_true, decide_eq_true_eq] at hv
          obtain ⟨v1, v2⟩ := is2 hv.1
          cases h
          exact va_astq hx hb hK hP hD hS (cx - 64) 4 (bx - 64) 9 ((ma_wl_at i1 i2).trans (by rw [ma_E_ref t1 (by omega)])) (r := (RX9, TX9, 9)) rfl ((ma_wl_at v1 v2).trans (by rw [ma_E_obj (by omega), hv.2])) rfl (ma_ix_in t2) hd (fun H1 locs1 a1 a2 a3 => k H1 locs1 (hset (some bx) ▸ a1) (hset (some bx) ▸ a2) a3)
        · cases h
    · cases h
  · next cx r =>
    split at h
    · next hc =>
      simp only [Bool.and_eq_true, decide_eq_true_eq] at hc
      obtain ⟨⟨hi, t1⟩, t2⟩ := hc
      obtain ⟨i1, i2⟩ := is2 hi
      cases h
      have ht : (mH S cx).1 = 20 ∨ (mH S cx).1 = 21 ∨ (mH S cx).1 = 22 ∨ (mH S cx).1 = 23 ∨ (mH S cx).1 = 24 ∨ (mH S cx).1 = 25 := by omega
      have go : ∀ (t0 : Nat) (cA : ClassId) (x : vp_A) (ty : FieldType), ma_E kA ad S cx = .inl (cA, x) → (ma_tys kA)[t0]? = some (cA, ty) → x.1 = (mH S cx).2 → W p l e R s m args below meth c H locs cells slots Q (F0 m pc ls (ma_ts ad (.inr (.inr (some cx)) :: r))) := by
        intro t0 cA x ty hE htt hlen
        exact va_alen hx hb hK hP (cx - 64) t0 ((ma_wl_at i1 i2).trans (by rw [hE])) htt (by rw [hlen]) hd (k H locs hP hD hS)
      rcases ht with ht | ht | ht | ht | ht | ht
      · exact go 0 _ _ _ (ma_E_int ht (by omega) (by omega)) rfl rfl
      · exact go 1 _ _ _ (ma_E_int ht (by omega) (by omega)) rfl rfl
      · exact go 2 _ _ _ (ma_E_int ht (by omega) (by omega)) rfl rfl
      · exact go 3 _ _ _ (ma_E_long ht) rfl rfl
      · exact go 4 _ _ _ (ma_E_ref ht (by omega)) rfl rfl
      · exact go 5 _ _ _ (ma_E_ref ht (by omega)) rfl rfl
    · cases h
  · cases h
end MA3

/-! from 35.make -/
/-! THE SMALL MACHINE, part 4: references stay inside; new cells -/
theorem ma_get_cv {n : Nat} {L : ma_L} {i : Nat} {v : ma_V} (hL : ma_cL n L) (h : ma_get L i = some v) : ma_cv n v := by
  unfold ma_get at h
  cases hf : L.find? (fun q => q.1 == i) with
  | none => rw [hf] at h; cases h
  | some q =>
    rw [hf] at h
    have h2 : q.2 = v := Option.some.inj h
    rw [← h2]
    exact hL q (List.mem_of_find?_eq_some hf)
theorem ma_push_cv {N : Nat} {i : Instr} {n : Nat} {L : ma_L} {v : ma_V} (hL : ma_cL N L) (h : ma_push i n L = some v) : ma_cv N v := by
  unfold ma_push at h
  split at h
  · cases h; exact ma_cv_i
  · cases h; exact ma_cv_i
  · cases h; exact ma_cv_i
  · cases h; exact ma_cv_l
  · cases h; exact ma_cv_n
  all_goals first | (cases h; done) | (split at h; (next hg => cases h; exact ma_get_cv hL hg); (cases h; done))
theorem ma_cs_tl {n : Nat} {v : ma_V} {r : List ma_V} (h : ma_cs n (v :: r)) : ma_cs n r := fun w hw => h w (List.mem_cons_of_mem _ hw)
theorem ma_cs_hd {n : Nat} {v : ma_V} {r : List ma_V} (h : ma_cs n (v :: r)) : ma_cv n v := h v List.mem_cons_self
theorem ma_cs_cons {n : Nat} {v : ma_V} {r : List ma_V} (h1 : ma_cv n v) (h2 : ma_cs n r) : ma_cs n (v :: r) := fun w hw => (List.mem_cons.mp hw).elim (fun e => e ▸ h1) (h2 w)
theorem ma_stk_cs {N : Nat} {i : Instr} {n : Nat} {st st₉ : List ma_V} (hc : ma_cs N st) (h : ma_stk i n st = some st₉) : ma_cs N st₉ := by
  unfold ma_stk at h
  split at h
  all_goals first
    | (cases h; done)
    | (cases h; exact ma_cs_cons ma_cv_i (ma_cs_tl (ma_cs_tl hc)))
    | (cases h; exact ma_cs_cons ma_cv_l (ma_cs_tl (ma_cs_tl hc)))
    | (cases h; exact ma_cs_cons ma_cv_i (ma_cs_tl hc))
    | (cases h; exact ma_cs_cons ma_cv_l (ma_cs_tl hc))
    | (split at h; (focus cases h); (focus (cases h; exact ma_cs_cons ma_cv_i (ma_cs_tl (ma_cs_tl hc)))))
    | (split at h; (focus cases h); (focus (cases h; exact ma_cs_cons (ma_cs_hd hc) hc)))
    | (split at h; (focus cases h); (focus (cases h; exact ma_cs_tl hc)))
    | (split at h; (focus cases h); (focus (cases h; exact ma_cs_cons (ma_cs_hd hc) (ma_cs_cons (ma_cs_hd (ma_cs_tl hc)) hc))))
theorem ma_st_cL {n : Nat} {L : ma_L} {i : Nat} {v : ma_V} (hL : ma_cL n L) (hv : ma_cv n v) : ma_cL n (ma_st L i v) := by
  intro q hq
  rcases List.mem_cons.mp hq with e | e
  · rw [e]; exact hv
  · exact hL q (List.mem_filter.mp e).1
theorem ma_sto_c {N : Nat} {i : Instr} {n nL : Nat} {L L₉ : ma_L} {st st₉ : List ma_V} (hL : ma_cL N L) (hc : ma_cs N st) (h : ma_sto i n nL L st = some (L₉, st₉)) : ma_cL N L₉ ∧ ma_cs N st₉ := by
  unfold ma_sto at h
  split at h
  · split at h
    · cases h; exact ⟨ma_st_cL hL ma_cv_i, ma_cs_tl hc⟩
    · cases h
  · split at h
    · cases h; exact ⟨ma_st_cL hL ma_cv_i, ma_cs_tl hc⟩
    · cases h
  · split at h
    · cases h; exact ⟨ma_st_cL hL (ma_cs_hd hc), ma_cs_tl hc⟩
    · cases h
  · split at h
    · cases h; exact ⟨ma_st_cL hL (ma_cs_hd hc), ma_cs_tl hc⟩
    · cases h
  · split at h
    · split at h
      · cases h; exact ⟨ma_st_cL hL ma_cv_i, hc⟩
      · cases h
    · cases h
  · cases h
theorem ma_jmp_cs {N : Nat} {i : Instr} {n pc t : Nat} {st st₉ : List ma_V} (hc : ma_cs N st) (h : ma_jmp i n pc st = some (t, st₉)) : ma_cs N st₉ := by
  have key : ∀ {o : Option Nat} {f : Nat → Nat} {r : List ma_V}, o.map (fun t => (f t, r)) = some (t, st₉) → r = st₉ := by
    intro o f r hh
    cases o with
    | none => cases hh
    | some t₉ => cases hh; rfl
  unfold ma_jmp at h
  split at h
  · cases key (f := fun t => t) h; exact hc
  · cases key h; exact ma_cs_tl hc
  · cases key h; exact ma_cs_tl (ma_cs_tl hc)
  · split at h
    · cases key (f := fun t => t) h; exact ma_cs_tl hc
    · cases h; exact ma_cs_tl hc
  · split at h
    · cases h; exact ma_cs_tl hc
    · cases key (f := fun t => t) h; exact ma_cs_tl hc
  · split at h
    · cases key (f := fun t => t) h; exact ma_cs_tl hc
    · split at h
      · cases key (f := fun t => t) h; exact ma_cs_tl hc
      · cases h
  · split at h
    · cases key (f := fun t => t) h; exact ma_cs_tl hc
    · cases h
  · cases h
/-- behind an instruction on cells that are there: as many cells, references inside -/
theorem ma_hp_c {o n : Nat} {ini : Bool} {i : Instr} {st st₉ : List ma_V} {S S₉ : ma_S} (hh : ma_ch S) (hc : ma_cs (mN S) st) (h : ma_hp o ini i n st S = some (st₉, S₉)) : ma_ch S₉ ∧ ma_cs (mN S₉) st₉ ∧ mN S₉ = mN S ∧ mC S₉ = mC S ∧ mZ S₉ = mZ S := by
  have put : ∀ (c k : Nat) (v : ma_V) (r : List ma_V), ma_cv (mN S) v → ma_cs (mN S) r → ma_ch (ma_put S c k v) ∧ ma_cs (mN (ma_put S c k v)) r ∧ mN (ma_put S c k v) = mN S ∧ mC (ma_put S c k v) = mC S ∧ mZ (ma_put S c k v) = mZ S := by
    intro c k v r hv hr
    obtain ⟨e1, e2, e3, e4⟩ := ma_put_n S c k v
    exact ⟨ma_put_ch hh hv, by rw [e1]; exact hr, e1, e2, e3⟩
  unfold ma_hp at h
  split at h
  · split at h
    · next x cx r hcc =>
      cases hf : ma_fld o x (mH S cx).1 with
      | none => rw [hf] at h; cases h
      | some kf => rw [hf] at h; cases h; exact ⟨hh, ma_cs_cons (ma_rd_cv hh _ _ _) (ma_cs_tl hc), rfl, rfl, rfl⟩
    · cases h
  · split at h
    · split at h
      · split at h
        · cases h; exact put _ _ _ _ (ma_cs_hd hc) (ma_cs_tl (ma_cs_tl hc))
        · cases h
      · cases h
    · cases h
  · split at h
    · cases h; exact ⟨hh, ma_cs_cons ma_cv_i (ma_cs_tl (ma_cs_tl hc)), rfl, rfl, rfl⟩
    · cases h
  · split at h
    · cases h; exact ⟨hh, ma_cs_cons ma_cv_i (ma_cs_tl (ma_cs_tl hc)), rfl, rfl, rfl⟩
    · cases h
  · split at h
    · cases h; exact ⟨hh, ma_cs_cons ma_cv_l (ma_cs_tl (ma_cs_tl hc)), rfl, rfl, rfl⟩
    · cases h
  · split at h
    · cases h
      exact ⟨hh, ma_cs_cons (fun b hb => hh.1 _ _ _ (Sum.inr.inj (Sum.inr.inj hb))) (ma_cs_tl (ma_cs_tl hc)), rfl, rfl, rfl⟩
    · cases h
  · split at h
    · cases h; exact put _ _ _ _ ma_cv_i (ma_cs_tl (ma_cs_tl (ma_cs_tl hc)))
    · cases h
  · split at h
    · split at h
      · cases h; exact put _ _ _ _ ma_cv_i (ma_cs_tl (ma_cs_tl (ma_cs_tl hc)))
      · split at h
        · cases h; exact put _ _ _ _ ma_cv_i (ma_cs_tl (ma_cs_tl (ma_cs_tl hc)))
        · cases h
    · cases h
  · split at h
    · cases h; exact put _ _ _ _ ma_cv_l (ma_cs_tl (ma_cs_tl (ma_cs_tl hc)))
    · cases h
  · split at h
    · split at h
      · cases h; exact put _ _ _ _ ma_cv_n (ma_cs_tl (ma_cs_tl (ma_cs_tl hc)))
      · split at h
        · cases h; exact put _ _ _ _ (ma_cs_hd hc) (ma_cs_tl (ma_cs_tl (ma_cs_tl hc)))
        · cases h
    · cases h
  · split at h
    · cases h; exact ⟨hh, ma_cs_cons ma_cv_i (ma_cs_tl hc), rfl, rfl, rfl⟩
    · cases h
  · cases h

/-! new cells -/
def ma_nwh : List ((Nat × Nat × Nat) × Nat × Nat × Nat) := [((11, 23, 7), 38, 39, 2), ((11, 30, 10), 105, 106, 3), ((11, 41, 8), 136, 137, 5), ((11, 46, 5), 179, 180, 6), ((11, 49, 3), 194, 195, 7), ((11, 52, 1), 212, 213, 8), ((11, 55, 2), 245, 246, 9), ((11, 58, 6), 267, 268, 10), ((11, 61, 4), 293, 294, 11), ((11, 128, 9), 1011, 1012, 26), ((2, 9, 9), 251, 1012, 26), ((6, 9, 10), 273, 106, 3), ((7, 9, 9), 44, 1012, 26), ((14, 8, 11), 30, 31, 1), ((14, 86, 12), 1507, 1508, 12)]
def ma_nwc (q : (Nat × Nat × Nat) × Nat × Nat × Nat) : Bool := match vwCl[q.1.2.2]? with
  | some (C, _, N) => decide (1 ≤ q.1.2.2) && decide (q.1.2.2 ≤ 12) && decide (N = ma_fn q.1.2.2) && (decide (tables_1[q.2.1]? = some (.classLink (ma_cn q.1.1) q.1.2.1 C)) && goodWord (.classLink (ma_cn q.1.1) q.1.2.1 C)) && (decide (tables_1[q.2.2.1]? = some (.instantiable C N)) && goodWord (.instantiable C N)) && (decide (tables_1[q.2.2.2]? = some (.initialized C)) && goodWord (.initialized C))
  | none => false
theorem ma_nwh_ok : ∀ q ∈ ma_nwh, ma_nwc q = true := List.all_eq_true.mp (by decide +kernel)
def ma_nwt (o i : Nat) : Option Nat := (ma_nwh.find? (fun q => q.1.1 == o && q.1.2.1 == i)).map (fun q => q.1.2.2)
theorem ma_nwt_spec {o i t : Nat} (h : ma_nwt o i = some t) : 1 ≤ t ∧ t ≤ 12 ∧ ∃ (C : String) (T : u_T), vwCl[t]? = some (C, T, ma_fn t) ∧ Cond.classLink (ma_cn o) i C ∈ ma_TB ∧ Cond.instantiable C (ma_fn t) ∈ ma_TB ∧ Cond.initialized C ∈ ma_TB := by
  unfold ma_nwt at h
  cases hf : ma_nwh.find? (fun q => q.1.1 == o && q.1.2.1 == i) with
  | none => rw [hf] at h; cases h
  | some q =>
    rw [hf] at h
    have hk : q.1.2.2 = t := Option.some.inj h
    have h1 := List.find?_some hf
    simp only [Bool.and_eq_true, beq_iff_eq] at h1
    have h2 := ma_nwh_ok q (List.mem_of_find?_eq_some hf)
    unfold ma_nwc at h2
    rw [hk, h1.1, h1.2] at h2
    split at h2
    · next C T N hc =>
      simp only [Bool.and_eq_true] at h2
      obtain ⟨⟨⟨⟨⟨a1, a2⟩, a3⟩, a4, a5⟩, a6, a7⟩, a8, a9⟩ := h2
      have a3 := of_decide_eq_true a3
      subst a3
      exact ⟨of_decide_eq_true a1, of_decide_eq_true a2, C, T, hc, ma_TB_in a4 a5, ma_TB_in a6 a7, ma_TB_in a8 a9⟩
    · cases h2
/-- rows of references: the class of what they hold -/
def ma_anh : List ((Nat × Nat × Nat) × Nat) := [((11, 39, 25), 134), ((11, 128, 24), 1011), ((2, 9, 24), 251), ((7, 9, 24), 44)]
def ma_anC (t : Nat) : String := if t = 24 then RX9 else RX1
def ma_anc (q : (Nat × Nat × Nat) × Nat) : Bool := (decide (q.1.2.2 = 24) || decide (q.1.2.2 = 25)) && decide (tables_1[q.2]? = some (.classLink (ma_cn q.1.1) q.1.2.1 (ma_anC q.1.2.2))) && goodWord (.classLink (ma_cn q.1.1) q.1.2.1 (ma_anC q.1.2.2))
theorem ma_anh_ok : ∀ q ∈ ma_anh, ma_anc q = true := List.all_eq_true.mp (by decide +kernel)
def ma_ant (o i : Nat) : Option Nat := (ma_anh.find? (fun q => q.1.1 == o && q.1.2.1 == i)).map (fun q => q.1.2.2)
theorem ma_ant_spec {o i t : Nat} (h : ma_ant o i = some t) : (t = 24 ∨ t = 25) ∧ Cond.classLink (ma_cn o) i (ma_anC t) ∈ ma_TB := by
  unfold ma_ant at h
  cases hf : ma_anh.find? (fun q => q.1.1 == o && q.1.2.1 == i) with
  | none => rw [hf] at h; cases h
  | some q =>
    rw [hf] at h
    have hk : q.1.2.2 = t := Option.some.inj h
    have h1 := List.find?_some hf
    simp only [Bool.and_eq_true, beq_iff_eq] at h1
    have h2 := ma_anh_ok q (List.mem_of_find?_eq_some hf)
    unfold ma_anc at h2
    rw [hk, h1.1, h1.2] at h2
    simp only [Bool.and_eq_true, Bool.or_eq_true] at h2
    exact ⟨h2.1.1.imp of_decide_eq_true of_decide_eq_true, ma_TB_in h2.1.2 h2.2⟩
def ma_at (a : ArrayType) : Option Nat := match a with
  | .int => some 20
  | .byte => some 21
  | .boolean => some 22
  | .long => some 23
  | _ => none
def ma_al (o : Nat) (i : Instr) (n : Nat) (st : List ma_V) (S : ma_S) : Option (List ma_V × ma_S) := match i, n, st with
  | .new x, 3, r => (ma_nwt o x).map (fun t => (.inr (.inr (some (mN S))) :: r, ma_new S t (ma_fn t)))
  | .newarray a, 2, .inl k :: r => if decide (0 ≤ k) && decide (k.toNatClampNeg ≤ 1000000) then (ma_at a).map (fun t => (.inr (.inr (some (mN S))) :: r, ma_new S t k.toNatClampNeg)) else none
  | .anewarray x, 3, .inl k :: r => if decide (0 ≤ k) && decide (k.toNatClampNeg ≤ 1000000) then (ma_ant o x).map (fun t => (.inr (.inr (some (mN S))) :: r, ma_new S t k.toNatClampNeg)) else none
  | _, _, _ => none
/-- no type of the world's fields is one with a point -/
def ma_nf (ty : FieldType) : Bool := match ty with
  | .float => false
  | .double => false
  | _ => true
theorem ma_nf_all : (List.range 13).all (fun t => (List.range (ma_fn t)).all (fun k => ma_nf (ma_ft t k))) = true := by decide +kernel
theorem ma_new_rd (S : ma_S) (t n k : Nat) (ty : FieldType) (ad : Nat → Nat) (h : ma_nf ty = true) : ma_tv ad (ma_rd (ma_new S t n) (mN S) k ty) = defaultValue ty := by
  cases ty <;> first | (cases h; done) | (simp [ma_rd, ma_new, ma_uc, mI, mL, mR, mN, ma_tv, va_rf, defaultValue]; done)
theorem ma_new_fs (S : ma_S) {t n : Nat} (ht : t < 13) (ad ad₉ : Nat → Nat) : ma_fs ad₉ (ma_new S t n) (mN S) t = ma_fs ad (ma_new S t n) (mN S) t ∧ ∀ j, j < ma_fn t → defaultValue (ma_ft t j) = vp_V (ma_fs ad (ma_new S t n) (mN S) t) j := by
  have hall := List.all_eq_true.mp ma_nf_all t (List.mem_range.mpr ht)
  have hnf : ∀ k, k < ma_fn t → ma_nf (ma_ft t k) = true := fun k hk => List.all_eq_true.mp hall k (List.mem_range.mpr hk)
  refine ⟨?_, fun j hj => ?_⟩
  · unfold ma_fs
    apply List.map_congr_left
    intro k hk
    rw [ma_new_rd S t n k _ ad₉ (hnf k (List.mem_range.mp hk)), ma_new_rd S t n k _ ad (hnf k (List.mem_range.mp hk))]
  · unfold vp_V ma_fs
    rw [List.getD_eq_getElem?_getD, List.getElem?_map, List.getElem?_range hj]
    show _ = ma_tv ad (ma_rd (ma_new S t n) (mN S) j (ma_ft t j))
    rw [ma_new_rd S t n j _ ad (hnf j hj)]
theorem ma_new_H (S : ma_S) (t n : Nat) : mH (ma_new S t n) (mN S) = (t, n) := if_pos rfl
section MA4
variable {p : Program} {l : Launch} {e : Env} {R : Room} {s : State} {m : MethodId} {args : Array Value} {below : List Frame} {meth : Method} {c : Code} {H H0 : Heap} {locs : List Loc} {cells slots : Nat} {Q : State → Prop} {cc : ByteArray} {pc : Nat} {ls : Array Slot} {ad : Nat → Nat} {kA : Nat → ClassId} {D : va_G} {A : Nat → Prop}
theorem ma_al_ok (hx : p.tables.exec = Jvm.exec) (hb : c.code = cc) {o n : Nat} {i : Instr} {st st₉ : List ma_V} {S S₉ : ma_S} (hown : s.vm.findClass (ma_cn o) = some m.cls) (hts : ∀ w ∈ ma_TB, w.before args s = true) (hK : va_K D vwCl (ma_tys kA) s) (hO : va_AO RX9 s ∧ va_AO RX1 s) (hA : ∀ q, H0.size ≤ q → A q)
    (hh : ma_ch S) (hc : ma_cs (mN S) st) (hP : va_P D vwCl (ma_wl kA ad S) H) (hD : va_D A (ma_wl kA ad S)) (hS : va_S A H0 H locs) (hd : decode cc pc = .ok (i, n)) (h : ma_al o i n st S = some (st₉, S₉)) (hr1 : cells + (mC S₉ - mC S) ≤ R.cells) (hr2 : slots + (mZ S₉ - mZ S) ≤ R.slots)
    (k : ∀ (q : Nat) (H1 : Heap), va_P D vwCl (ma_wl kA (va_up ad (mN S) q) S₉) H1 → va_D A (ma_wl kA (va_up ad (mN S) q) S₉) → va_S A H0 H1 locs → W p l e R s m args below meth c H1 locs (cells + (mC S₉ - mC S)) (slots + (mZ S₉ - mZ S)) Q (F0 m (pc + n) ls (ma_ts (va_up ad (mN S) q) st₉))) :
    W p l e R s m args below meth c H locs cells slots Q (F0 m pc ls (ma_ts ad st)) ∧ ma_ch S₉ ∧ ma_cs (mN S₉) st₉ ∧ mN S₉ = mN S + 1 ∧ mC S₉ = mC S + 1 ∧ mZ S ≤ mZ S₉ := by
  have fin : ∀ (t N : Nat) (r : List ma_V), ma_cs (mN S) r → ma_ch (ma_new S t N) ∧ ma_cs (mN (ma_new S t N)) (.inr (.inr (some (mN S))) :: r) ∧ mN (ma_new S t N) = mN S + 1 ∧ mC (ma_new S t N) = mC S + 1 ∧ mZ S ≤ mZ (ma_new S t N) := by
    intro t N r hr
    exact ⟨ma_new_ch hh t N, ma_cs_cons (fun b hb => by cases hb; exact Nat.lt_succ_self _) (fun v hv => (hr v hv).mono (Nat.le_succ _)), rfl, rfl, Nat.le_add_right _ _⟩
  have e1 : ∀ t N : Nat, mC (ma_new S t N) - mC S = 1 := fun t N => by show S.2.1 + 1 - S.2.1 = 1; omega
  have e2 : ∀ t N : Nat, mZ (ma_new S t N) - mZ S = N := fun t N => by show S.2.2.1 + N - S.2.2.1 = N; omega
  have tsr : ∀ (q : Nat) (r : List ma_V), ma_cs (mN S) r → ma_ts (va_up ad (mN S) q) (.inr (.inr (some (mN S))) :: r) = .ref q :: ma_ts ad r := by
    intro q r hr
    show Value.ref (va_up ad (mN S) q (mN S)) :: ma_ts (va_up ad (mN S) q) r = _
    rw [va_up_self, ma_ts_ad hr (fun b hb => va_up_ne ad q (by omega))]
  unfold ma_al at h
  split at h
  · next r x =>
    cases ht : ma_nwt o x with
    | none => rw [ht] at h; cases h
    | some t =>
      rw [ht] at h
      cases h
      obtain ⟨t1, t2, C, T, hcl, w1, w2, w3⟩ := ma_nwt_spec ht
      obtain ⟨C9, T9, hcl9, hw, hty, hnm⟩ := ma_clok_all t1 t2
      cases hcl.symm.trans hcl9
      rw [e1] at hr1
      rw [e2] at hr2
      simp only [e1, e2] at k
      refine ⟨?_, fin t (ma_fn t) st hc⟩
      obtain ⟨f1, f2⟩ := ma_new_fs S (t := t) (n := ma_fn t) (by omega) ad ad
      refine va_new (c0 := c) (ci := t) (fs := ma_fs ad (ma_new S t (ma_fn t)) (mN S) t) hx hb hts hw (ma_ft t) hty hown (hts _ w1) (hts _ w2) (hts _ w3) hK hP hD hS hA hcl f2 hr1 hr2 hd (fun q H1 a1 a2 a3 => ?_)
      have hE : ma_wl kA ad S ++ [(q, .inr (t, ma_fs ad (ma_new S t (ma_fn t)) (mN S) t))] = ma_wl kA (va_up ad (mN S) q) (ma_new S t (ma_fn t)) := by
        rw [ma_wl_new hh, ma_E_obj (by rw [ma_new_H]; show t < 20; omega), ma_new_H, (ma_new_fs S (t := t) (n := ma_fn t) (by omega) ad (va_up ad (mN S) q)).1]
      have := k q H1 (hE ▸ a1) (hE ▸ a2) a3
      rw [tsr q st hc] at this
      exact this
  · next a kx r =>
    split at h
    · next hk =>
      simp only [Bool.and_eq_true, decide_eq_true_eq] at hk
      have hneg : ¬ kx < 0 := fun z => absurd hk.1 (Int32.not_le.mpr z)
      cases ht : ma_at a with
      | none => rw [ht] at h; cases h
      | some t =>
        rw [ht] at h
        cases h
        rw [e1] at hr1
        rw [e2] at hr2
        simp only [e1, e2] at k
        refine ⟨?_, fin t kx.toNatClampNeg r (ma_cs_tl hc)⟩
        have go : ∀ (t0 : Nat) (ty : FieldType) (a0 : vp_A), newarray.typeOf a = ty → Cond.arrayClass ty ∈ ma_TB → (ma_tys kA)[t0]? = some (kA t, ty) → (∀ cA cA₉ : ClassId, va_RA s cA ty → va_RA s cA₉ ty → cA = cA₉) → (∀ cA : ClassId, vp_cell cA a0 = arrV cA kx.toNatClampNeg (fun _ => defaultValue ty)) → kx.toNatClampNeg * componentBytes ty ≤ 536870912 → (∀ q, ma_E kA (va_up ad (mN S) q) (ma_new S t kx.toNatClampNeg) (mN S) = .inl (kA t, a0)) → W p l e R s m args below meth c H locs cells slots Q (F0 m pc ls (ma_ts ad (.inl kx :: r))) := by
          intro t0 ty a0 hty hw ht0 huni ha0 hby hE
          refine va_newa hx hb (hty ▸ hts _ hw) hty hK hP hD hS hA ha0 hneg rfl hby hr1 hr2 hd (fun q cA H1 b1 b2 b3 b4 => ?_)
          have hcA : cA = kA t := huni cA (kA t) (b1.2 (ma_tys kA).length (cA, ty) (by rw [List.getElem?_append_right (Nat.le_refl _), Nat.sub_self]; rfl)).2 (hK.2 t0 _ ht0).2
          subst hcA
          have hE : ma_wl kA ad S ++ [(q, .inl (kA t, a0))] = ma_wl kA (va_up ad (mN S) q) (ma_new S t kx.toNatClampNeg) := by
            rw [ma_wl_new hh, hE]
          have := k q H1 (hE ▸ b2) (hE ▸ b3) b4
          rw [tsr q r (ma_cs_tl hc)] at this
          exact this
        cases a <;> simp only [ma_at, reduceCtorEq, Option.some.injEq] at ht
        · subst ht
          exact go 2 .boolean (kx.toNatClampNeg, .inl (fun _ => 0)) rfl (ma_TB_in (j := 1770) (by decide +kernel) rfl) rfl (fun _ _ h1 h2 => Option.some.inj (h1.symm.trans h2)) (fun _ => rfl) (by show _ * 1 ≤ _; omega) (fun q => by rw [ma_E_int (t := 22) (by rw [ma_new_H]) (by omega) (by omega), ma_new_H]; show Sum.inl (kA 22, _, Sum.inl (ma_uc (mI S) S.1 (fun _ => 0) (mN S))) = _; rw [show ma_uc (mI S) S.1 (fun _ => 0) (mN S) = (fun _ => 0) from if_pos rfl])
        · subst ht
          exact go 1 .byte (kx.toNatClampNeg, .inl (fun _ => 0)) rfl (ma_TB_in (j := 103) (by decide +kernel) rfl) rfl (fun _ _ h1 h2 => Option.some.inj (h1.symm.trans h2)) (fun _ => rfl) (by show _ * 1 ≤ _; omega) (fun q => by rw [ma_E_int (t := 21) (by rw [ma_new_H]) (by omega) (by omega), ma_new_H]; show Sum.inl (kA 21, _, Sum.inl (ma_uc (mI S) S.1 (fun _ => 0) (mN S))) = _; rw [show ma_uc (mI S) S.1 (fun _ => 0) (mN S) = (fun _ => 0) from if_pos rfl])
        · subst ht
          exact go 0 .int (kx.toNatClampNeg, .inl (fun _ => 0)) rfl (ma_TB_in (j := 104) (by decide +kernel) rfl) rfl (fun _ _ h1 h2 => Option.some.inj (h1.symm.trans h2)) (fun _ => rfl) (by show _ * 4 ≤ _; omega) (fun q => by rw [ma_E_int (t := 20) (by rw [ma_new_H]) (by omega) (by omega), ma_new_H]; show Sum.inl (kA 20, _, Sum.inl (ma_uc (mI S) S.1 (fun _ => 0) (mN S))) = _; rw [show ma_uc (mI S) S.1 (fun _ => 0) (mN S) = (fun _ => 0) from if_pos rfl])
        · subst ht
          exact go 3 .long (kx.toNatClampNeg, .inr (.inl (fun _ => 0))) rfl (ma_TB_in (j := 2155) (by decide +kernel) rfl) rfl (fun _ _ h1 h2 => Option.some.inj (h1.symm.trans h2)) (fun _ => rfl) (by show _ * 8 ≤ _; omega) (fun q => by rw [ma_E_long (by rw [ma_new_H]), ma_new_H]; show Sum.inl (kA 23, _, Sum.inr (Sum.inl (ma_uc (mL S) S.1 (fun _ => 0) (mN S)))) = _; rw [show ma_uc (mL S) S.1 (fun _ => 0) (mN S) = (fun _ => 0) from if_pos rfl])
    · cases h
  · next x kx r =>
    split at h
    · next hk =>
      simp only [Bool.and_eq_true, decide_eq_true_eq] at hk
      have hneg : ¬ kx < 0 := fun z => absurd hk.1 (Int32.not_le.mpr z)
      cases ht : ma_ant o x with
      | none => rw [ht] at h; cases h
      | some t =>
        rw [ht] at h
        cases h
        rw [e1] at hr1
        rw [e2] at hr2
        simp only [e1, e2] at k
        refine ⟨?_, fin t kx.toNatClampNeg r (ma_cs_tl hc)⟩
        obtain ⟨ht2, hw⟩ := ma_ant_spec ht
        have hAO : va_AO (ma_anC t) s := by
          rcases ht2 with rfl | rfl
          · exact hO.1
          · exact hO.2
        obtain ⟨t0, ht0⟩ : ∃ t0, (ma_tys kA)[t0]? = some (kA t, FieldType.object (ma_anC t)) := by
          rcases ht2 with rfl | rfl
          · exact ⟨4, rfl⟩
          · exact ⟨5, rfl⟩
        refine va_newq hx hb hown (hts _ hw) hAO hK hP hD hS hA hneg rfl (by omega) hr1 hr2 hd (fun q cA H1 b1 b2 b3 b4 => ?_)
        have hcA : cA = kA t := by
          obtain ⟨_, _, _, _, _, g1⟩ := (b1.2 (ma_tys kA).length (cA, .object (ma_anC t)) (by rw [List.getElem?_append_right (Nat.le_refl _), Nat.sub_self]; rfl)).2
          obtain ⟨_, _, _, _, _, g2⟩ := (hK.2 t0 _ ht0).2
          exact Option.some.inj (g1.symm.trans g2)
        subst hcA
        have hE : ma_wl kA ad S ++ [(q, .inl (kA t, kx.toNatClampNeg, .inr (.inr (.inr (.inr (fun _ => none))))))] = ma_wl kA (va_up ad (mN S) q) (ma_new S t kx.toNatClampNeg) := by
          rw [ma_wl_new hh, ma_E_ref (t := t) (by rw [ma_new_H]) (by omega), ma_new_H]
          show _ = _ ++ [(q, Sum.inl (kA t, _, Sum.inr (Sum.inr (Sum.inr (Sum.inr (fun j => (ma_uc (mR S) S.1 (fun _ => none) (mN S) j).map (va_up ad (mN S) q)))))))]
          rw [show ma_uc (mR S) S.1 (fun _ => none) (mN S) = (fun _ => none) from if_pos rfl]
          rfl
        have := k q H1 (hE ▸ b2) (hE ▸ b3) b4
        rw [tsr q r (ma_cs_tl hc)] at this
        exact this
    · cases h
  · cases h
end MA4

