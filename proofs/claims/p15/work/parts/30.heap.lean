/-! THE SMALL MACHINE, part 3: instructions on cells that are there -/
/-- what a field of that type takes as it is -/
def ma_ok (ty : FieldType) (v : ma_V) : Bool := match v with
  | .inl x => decide (narrow ty (.int x) = .int x) && fits ty (.int x)
  | .inr (.inl _) => decide (ty = .long)
  | .inr (.inr _) => match ty with
    | .object _ => true
    | .array _ => true
    | _ => false
theorem ma_ok_spec (ad : Nat → Nat) {ty : FieldType} {v : ma_V} (h : ma_ok ty v = true) : narrow ty (ma_tv ad v) = ma_tv ad v ∧ fits ty (ma_tv ad v) = true := by
  rcases v with x | x | r
  · simp only [ma_ok, Bool.and_eq_true, decide_eq_true_eq] at h
    exact h
  · simp only [ma_ok, decide_eq_true_eq] at h
    subst h
    exact ⟨rfl, rfl⟩
  · cases ty <;> simp only [ma_ok, Bool.false_eq_true] at h
    · cases r <;> exact ⟨rfl, rfl⟩
    · cases r <;> exact ⟨rfl, rfl⟩
/-- what is put there is what is read there -/
theorem ma_rd_put {S : ma_S} {c k : Nat} {ty : FieldType} {v : ma_V} (h : ma_ok ty v = true) : ma_rd (ma_put S c k v) c k ty = v := by
  rcases v with x | x | r
  · cases ty <;> first | (simp [ma_ok, narrow, fits] at h; done) | (simp [ma_rd, ma_put, ma_u, mI, mL, mR]; done)
  · simp only [ma_ok, decide_eq_true_eq] at h
    subst h
    simp [ma_rd, ma_put, ma_u, mI, mL, mR]
  · cases ty <;> simp only [ma_ok, Bool.false_eq_true] at h
    · simp [ma_rd, ma_put, ma_u, mI, mL, mR]
    · simp [ma_rd, ma_put, ma_u, mI, mL, mR]
theorem ma_rd_put_ne {S : ma_S} {c k k' : Nat} {ty : FieldType} {v : ma_V} (h : k' ≠ k) : ma_rd (ma_put S c k v) c k' ty = ma_rd S c k' ty := by
  rcases v with x | x | r <;> cases ty <;> simp [ma_rd, ma_put, ma_u, mI, mL, mR, h]
theorem ma_fs_put (ad : Nat → Nat) {S : ma_S} {c k t : Nat} {v : ma_V} (h : ma_ok (ma_ft t k) v = true) : (ma_fs ad S c t).set k (ma_tv ad v) = ma_fs ad (ma_put S c k v) c t := by
  apply List.ext_getElem?
  intro j
  unfold ma_fs
  by_cases hj : j = k
  · subst hj
    by_cases hl : j < ma_fn t
    · rw [List.getElem?_set_self (by simpa using hl), List.getElem?_map, List.getElem?_range hl]
      show _ = some (ma_tv ad (ma_rd (ma_put S c j v) c j (ma_ft t j)))
      rw [ma_rd_put h]
    · rw [List.getElem?_eq_none (by simp; omega), List.getElem?_eq_none (by simp; omega)]
  · rw [List.getElem?_set_ne (Ne.symm hj), List.getElem?_map, List.getElem?_map]
    by_cases hl : j < ma_fn t
    · rw [List.getElem?_range hl]
      show some (ma_tv ad (ma_rd S c j (ma_ft t j))) = some (ma_tv ad (ma_rd (ma_put S c k v) c j (ma_ft t j)))
      rw [ma_rd_put_ne hj]
    · rw [List.getElem?_eq_none (by simp; omega)]
      rfl
/-- a cell of the world -/
def ma_is (S : ma_S) (c : Nat) : Bool := decide (64 ≤ c) && decide (c < mN S)
/-- an index in its row -/
def ma_ix (S : ma_S) (c : Nat) (i : Int32) : Bool := decide (0 ≤ i) && decide (i.toNatClampNeg < (mH S c).2)
theorem ma_ix_in {S : ma_S} {c : Nat} {i : Int32} (h : ma_ix S c i = true) : vp_in i (mH S c).2 := by
  simp only [ma_ix, Bool.and_eq_true, decide_eq_true_eq] at h
  intro q
  rcases q with q | q
  · exact absurd h.1 (Int32.not_le.mpr q)
  · omega
/-- fields and rows: the stack and the heap behind. o: the own class's number; ini: it is a constructor -/
def ma_hp (o : Nat) (ini : Bool) (i : Instr) (n : Nat) (st : List ma_V) (S : ma_S) : Option (List ma_V × ma_S) := match i, n, st with
  | .getfield x, 3, .inr (.inr (some c)) :: r => if ma_is S c && decide (1 ≤ (mH S c).1) && decide ((mH S c).1 ≤ 12) then (ma_fld o x (mH S c).1).map (fun k => (ma_rd S c k (ma_ft (mH S c).1 k) :: r, S)) else none
  | .putfield x, 3, v :: .inr (.inr (some c)) :: r => if ma_is S c && decide (1 ≤ (mH S c).1) && decide ((mH S c).1 ≤ 12) then (match ma_fld o x (mH S c).1, vwCl[(mH S c).1]? with
    | some k, some (_, T, _) => if ma_ok (ma_ft (mH S c).1 k) v && (!(T k).2.2.2 || (ini && decide ((T k).1 = ma_cn o))) then some (r, ma_put S c k v) else none
    | _, _ => none) else none
  | .iaload, 1, .inl j :: .inr (.inr (some c)) :: r => if ma_is S c && decide ((mH S c).1 = 20) && ma_ix S c j then some (.inl (mI S c j.toNatClampNeg) :: r, S) else none
  | .baload, 1, .inl j :: .inr (.inr (some c)) :: r => if ma_is S c && (decide ((mH S c).1 = 21) || decide ((mH S c).1 = 22)) && ma_ix S c j then some (.inl (mI S c j.toNatClampNeg) :: r, S) else none
  | .laload, 1, .inl j :: .inr (.inr (some c)) :: r => if ma_is S c && decide ((mH S c).1 = 23) && ma_ix S c j then some (.inr (.inl (mL S c j.toNatClampNeg)) :: r, S) else none
  | .aaload, 1, .inl j :: .inr (.inr (some c)) :: r => if ma_is S c && (decide ((mH S c).1 = 24) || decide ((mH S c).1 = 25)) && ma_ix S c j then some (.inr (.inr (mR S c j.toNatClampNeg)) :: r, S) else none
  | .iastore, 1, .inl x :: .inl j :: .inr (.inr (some c)) :: r => if ma_is S c && decide ((mH S c).1 = 20) && ma_ix S c j then some (r, ma_put S c j.toNatClampNeg (.inl x)) else none
  | .bastore, 1, .inl x :: .inl j :: .inr (.inr (some c)) :: r => if ma_is S c && ma_ix S c j then (if (mH S c).1 = 21 then some (r, ma_put S c j.toNatClampNeg (.inl (vp_nar .byte x))) else if (mH S c).1 = 22 then some (r, ma_put S c j.toNatClampNeg (.inl (vp_nar .boolean x))) else none) else none
  | .lastore, 1, .inr (.inl x) :: .inl j :: .inr (.inr (some c)) :: r => if ma_is S c && decide ((mH S c).1 = 23) && ma_ix S c j then some (r, ma_put S c j.toNatClampNeg (.inr (.inl x))) else none
  | .aastore, 1, .inr (.inr x) :: .inl j :: .inr (.inr (some c)) :: r => if ma_is S c && decide ((mH S c).1 = 24) && ma_ix S c j then (match x with
    | none => some (r, ma_put S c j.toNatClampNeg (.inr (.inr none)))
    | some b => if ma_is S b && decide ((mH S b).1 = 9) then some (r, ma_put S c j.toNatClampNeg (.inr (.inr (some b)))) else none) else none
  | .arraylength, 1, .inr (.inr (some c)) :: r => if ma_is S c && decide (20 ≤ (mH S c).1) && decide ((mH S c).1 ≤ 25) then some (.inl (Int32.ofNat (mH S c).2) :: r, S) else none
  | _, _, _ => none

theorem ma_fld_spec {o x t k : Nat} {C : String} {T : u_T} {N : Nat} (h : ma_fld o x t = some k) (hc : vwCl[t]? = some (C, T, N)) :
    k < N ∧ ∃ ref : String, Cond.fieldLink (ma_cn o) x ref (T k).2.1 (T k).2.2.1 ∈ ma_TB ∧ (ref = (T k).1 ∨ Cond.sameField ref (T k).1 (T k).2.1 (T k).2.2.1 ∈ ma_TB) := by
  unfold ma_fld at h
  cases hf : ma_flh.find? (fun q => q.1.1 == o && q.1.2.1 == x && q.1.2.2.1 == t) with
  | none => rw [hf] at h; cases h
  | some q =>
    rw [hf] at h
    have hk : q.1.2.2.2 = k := Option.some.inj h
    have h1 := List.find?_some hf
    simp only [Bool.and_eq_true, beq_iff_eq] at h1
    obtain ⟨⟨e1, e2⟩, e3⟩ := h1
    have h2 := ma_flh_ok q (List.mem_of_find?_eq_some hf)
    unfold ma_flc at h2
    rw [e3, hc] at h2
    simp only [Bool.and_eq_true, Bool.or_eq_true, e1, e2, e3, hk] at h2
    obtain ⟨⟨⟨⟨a1, a2⟩, a3⟩, a4, a5⟩, a6⟩ := h2
    refine ⟨of_decide_eq_true a1, q.2.1, ma_TB_in a4 a5, ?_⟩
    rcases a6 with a6 | a6
    · exact Or.inl (of_decide_eq_true a6)
    · exact Or.inr (ma_TB_in a6.1 a6.2)
theorem ma_E_obj {kA : Nat → ClassId} {ad : Nat → Nat} {S : ma_S} {c : Nat} (h : (mH S c).1 < 20) : ma_E kA ad S c = .inr ((mH S c).1, ma_fs ad S c (mH S c).1) := if_pos h
theorem ma_E_int {kA : Nat → ClassId} {ad : Nat → Nat} {S : ma_S} {c t : Nat} (ht : (mH S c).1 = t) (h1 : 20 ≤ t) (h2 : t < 23) : ma_E kA ad S c = .inl (kA t, (mH S c).2, .inl (mI S c)) := by
  unfold ma_E; rw [ht, if_neg (by omega), if_pos h2]
theorem ma_E_long {kA : Nat → ClassId} {ad : Nat → Nat} {S : ma_S} {c : Nat} (ht : (mH S c).1 = 23) : ma_E kA ad S c = .inl (kA 23, (mH S c).2, .inr (.inl (mL S c))) := by
  unfold ma_E; rw [ht, if_neg (by omega), if_neg (by omega), if_pos (by omega)]
theorem ma_E_ref {kA : Nat → ClassId} {ad : Nat → Nat} {S : ma_S} {c t : Nat} (ht : (mH S c).1 = t) (h : 24 ≤ t) : ma_E kA ad S c = .inl (kA t, (mH S c).2, .inr (.inr (.inr (.inr (fun j => (mR S c j).map ad))))) := by
  unfold ma_E; rw [ht, if_neg (by omega), if_neg (by omega), if_neg (by omega)]
section MA3
variable {p : Program} {l : Launch} {e : Env} {R : Room} {s : State} {m : MethodId} {args : Array Value} {below : List Frame} {meth : Method} {c : Code} {H H0 : Heap} {locs : List Loc} {cells slots : Nat} {Q : State → Prop} {cc : ByteArray} {pc : Nat} {ls : Array Slot} {ad : Nat → Nat} {kA : Nat → ClassId} {D : va_G} {A : Nat → Prop}
theorem ma_hp_ok (hx : p.tables.exec = Jvm.exec) (hb : c.code = cc) {o n : Nat} {ini : Bool} {i : Instr} {st st' : List ma_V} {S S' : ma_S} (hown : s.vm.findClass (ma_cn o) = some m.cls) (hts : ∀ w ∈ ma_TB, w.before args s = true) (hK : va_K D vwCl (ma_tys kA) s) (hini : ini = true → meth.name = "<init>")
    (hP : va_P D vwCl (ma_wl kA ad S) H) (hD : va_D A (ma_wl kA ad S)) (hS : va_S A H0 H locs) (hd : decode cc pc = .ok (i, n)) (h : ma_hp o ini i n st S = some (st', S'))
    (k : ∀ (H1 : Heap) (locs1 : List Loc), va_P D vwCl (ma_wl kA ad S') H1 → va_D A (ma_wl kA ad S') → va_S A H0 H1 locs1 → W p l e R s m args below meth c H1 locs1 cells slots Q (F0 m (pc + n) ls (ma_ts ad st'))) : W p l e R s m args below meth c H locs cells slots Q (F0 m pc ls (ma_ts ad st)) := by
  have is2 : ∀ {c : Nat}, ma_is S c = true → 64 ≤ c ∧ c < mN S := fun hh => by simpa [ma_is] using hh
  unfold ma_hp at h
  split at h
  · next x cx r =>
    split at h
    · next hc =>
      simp only [Bool.and_eq_true, decide_eq_true_eq] at hc
      obtain ⟨⟨hi, t1⟩, t2⟩ := hc
      obtain ⟨i1, i2⟩ := is2 hi
      obtain ⟨C, T, hcl, hw, hty, hnm⟩ := ma_clok_all t1 t2
      cases hf : ma_fld o x (mH S cx).1 with
      | none => rw [hf] at h; cases h
      | some kf =>
        rw [hf] at h
        cases h
        obtain ⟨hk, ref, hl, hsm⟩ := ma_fld_spec hf hcl
        refine va_get hx hb hts hw hown hK hP (cx - 64) ((ma_wl_at i1 i2).trans (by rw [ma_E_obj (by omega)])) hcl kf hk (hts _ hl) ?_ (v := ma_tv ad (ma_rd S cx kf (ma_ft (mH S cx).1 kf))) ?_ hd (k H locs hP hD hS)
        · rcases hsm with e1 | e1
          · rw [e1]; exact fun _ z => z
          · exact u_same (hts _ e1)
        · unfold ma_fs
          rw [List.getElem?_map, List.getElem?_range hk]
          rfl
    · cases h
  · next x v cx r =>
    split at h
    · next hc =>
      simp only [Bool.and_eq_true, decide_eq_true_eq] at hc
      obtain ⟨⟨hi, t1⟩, t2⟩ := hc
      obtain ⟨i1, i2⟩ := is2 hi
      obtain ⟨C, T, hcl, hw, hty, hnm⟩ := ma_clok_all t1 t2
      split at h
      · next kf C9 T9 N9 hf hcl9 =>
        cases hcl.symm.trans hcl9
        obtain ⟨hk, ref, hl, hsm⟩ := ma_fld_spec hf hcl
        have hsame : ∀ x, s.fieldFound? (T kf).1 (T kf).2.1 (T kf).2.2.1 = some x → s.fieldFound? ref (T kf).2.1 (T kf).2.2.1 = some x := by
          rcases hsm with e1 | e1
          · rw [e1]; exact fun _ z => z
          · exact u_same (hts _ e1)
        split at h
        · next hg =>
          cases h
          simp only [Bool.and_eq_true, Bool.or_eq_true, Bool.not_eq_true', decide_eq_true_eq] at hg
          obtain ⟨hok, hfin⟩ := hg
          obtain ⟨hn1, hn2⟩ := ma_ok_spec ad hok
          have hset : (ma_wl kA ad S).set (cx - 64) (ad cx, .inr ((mH S cx).1, (ma_fs ad S cx (mH S cx).1).set kf (ma_tv ad v))) = ma_wl kA ad (ma_put S cx kf v) := by
            refine ma_wl_set i1 i2 (ma_put_n S cx kf v).1 ?_ (fun c' hc' => ma_put_o hc')
            have hh : mH (ma_put S cx kf v) = mH S := (ma_put_n S cx kf v).2.2.2
            rw [ma_E_obj (by rw [hh]; omega), hh, ma_fs_put ad hok]
          have hlen : kf < (ma_fs ad S cx (mH S cx).1).length := by unfold ma_fs; simpa using hk
          have he := (ma_wl_at (kA := kA) (ad := ad) i1 i2).trans (by rw [ma_E_obj (by omega)])
          rcases hfin with hfin | ⟨hfi, hfo⟩
          · exact va_put hx hb hts hw (ma_ft (mH S cx).1) hty hnm hown hK hP hD hS (cx - 64) he hcl kf hk (hts _ hl) hsame hfin (hty kf hk) hn1 hn2 hlen hd (fun H1 locs1 a1 a2 a3 => k H1 locs1 (hset ▸ a1) (hset ▸ a2) a3)
          · cases hf2 : (T kf).2.2.2 with
            | false => exact va_put hx hb hts hw (ma_ft (mH S cx).1) hty hnm hown hK hP hD hS (cx - 64) he hcl kf hk (hts _ hl) hsame hf2 (hty kf hk) hn1 hn2 hlen hd (fun H1 locs1 a1 a2 a3 => k H1 locs1 (hset ▸ a1) (hset ▸ a2) a3)
            | true => exact va_putF hx hb hts hw (ma_ft (mH S cx).1) hty hnm hown hK hP hD hS (cx - 64) he hcl kf hk (hts _ hl) hsame hf2 (hini hfi) hfo (hty kf hk) hn1 hn2 hlen hd (fun H1 locs1 a1 a2 a3 => k H1 locs1 (hset ▸ a1) (hset ▸ a2) a3)
        · cases h
      · cases h
    · cases h
  · next j cx r =>
    split at h
    · next hc =>
      simp only [Bool.and_eq_true, decide_eq_true_eq] at hc
      obtain ⟨⟨hi, t1⟩, t2⟩ := hc
      obtain ⟨i1, i2⟩ := is2 hi
      cases h
      exact va_iald hx hb hK hP (cx - 64) 0 ((ma_wl_at i1 i2).trans (by rw [ma_E_int t1 (by omega) (by omega)])) rfl (ma_ix_in t2) hd (k H locs hP hD hS)
    · cases h
  · next j cx r =>
    split at h
    · next hc =>
      simp only [Bool.and_eq_true, Bool.or_eq_true, decide_eq_true_eq] at hc
      obtain ⟨⟨hi, t1⟩, t2⟩ := hc
      obtain ⟨i1, i2⟩ := is2 hi
      cases h
      rcases t1 with t1 | t1
      · exact va_bald hx hb hK hP (cx - 64) 1 ((ma_wl_at i1 i2).trans (by rw [ma_E_int t1 (by omega) (by omega)])) rfl (ma_ix_in t2) hd (k H locs hP hD hS)
      · exact va_zald hx hb hK hP (cx - 64) 2 ((ma_wl_at i1 i2).trans (by rw [ma_E_int t1 (by omega) (by omega)])) rfl (ma_ix_in t2) hd (k H locs hP hD hS)
    · cases h
  · next j cx r =>
    split at h
    · next hc =>
      simp only [Bool.and_eq_true, decide_eq_true_eq] at hc
      obtain ⟨⟨hi, t1⟩, t2⟩ := hc
      obtain ⟨i1, i2⟩ := is2 hi
      cases h
      exact va_lald hx hb hK hP (cx - 64) 3 ((ma_wl_at i1 i2).trans (by rw [ma_E_long t1])) rfl (ma_ix_in t2) hd (k H locs hP hD hS)
    · cases h
  · next j cx r =>
    split at h
    · next hc =>
      simp only [Bool.and_eq_true, Bool.or_eq_true, decide_eq_true_eq] at hc
      obtain ⟨⟨hi, t1⟩, t2⟩ := hc
      obtain ⟨i1, i2⟩ := is2 hi
      cases h
      rcases t1 with t1 | t1
      · exact va_aldq (f := fun j => (mR S cx j).map ad) hx hb hK hP (cx - 64) 4 ((ma_wl_at i1 i2).trans (by rw [ma_E_ref t1 (by omega)])) rfl (ma_ix_in t2) hd (k H locs hP hD hS)
      · exact va_aldq (f := fun j => (mR S cx j).map ad) hx hb hK hP (cx - 64) 5 ((ma_wl_at i1 i2).trans (by rw [ma_E_ref t1 (by omega)])) rfl (ma_ix_in t2) hd (k H locs hP hD hS)
    · cases h
  · next x j cx r =>
    split at h
    · next hc =>
      simp only [Bool.and_eq_true, decide_eq_true_eq] at hc
      obtain ⟨⟨hi, t1⟩, t2⟩ := hc
      obtain ⟨i1, i2⟩ := is2 hi
      cases h
      have hset : (ma_wl kA ad S).set (cx - 64) (ad cx, .inl (kA 20, (mH S cx).2, .inl (upd (mI S cx) j.toNatClampNeg x))) = ma_wl kA ad (ma_put S cx j.toNatClampNeg (.inl x)) := by
        refine ma_wl_set i1 i2 rfl ?_ (fun c' hc' => ma_put_o hc')
        rw [ma_E_int (S := ma_put S cx j.toNatClampNeg (.inl x)) (t := 20) t1 (by omega) (by omega)]
        show Sum.inl (kA 20, (mH S cx).2, Sum.inl (ma_u (mI S) cx j.toNatClampNeg x cx)) = _
        rw [ma_u_eq]; rfl
      exact va_iast hx hb hK hP hD hS (cx - 64) 0 ((ma_wl_at i1 i2).trans (by rw [ma_E_int t1 (by omega) (by omega)])) rfl (ma_ix_in t2) hd (fun H1 locs1 a1 a2 a3 => k H1 locs1 (hset ▸ a1) (hset ▸ a2) a3)
    · cases h
  · next x j cx r =>
    split at h
    · next hc =>
      simp only [Bool.and_eq_true, decide_eq_true_eq] at hc
      obtain ⟨hi, t2⟩ := hc
      obtain ⟨i1, i2⟩ := is2 hi
      split at h
      · next t1 =>
        cases h
        have hset : (ma_wl kA ad S).set (cx - 64) (ad cx, .inl (kA 21, (mH S cx).2, .inl (upd (mI S cx) j.toNatClampNeg (vp_nar .byte x)))) = ma_wl kA ad (ma_put S cx j.toNatClampNeg (.inl (vp_nar .byte x))) := by
          refine ma_wl_set i1 i2 rfl ?_ (fun c' hc' => ma_put_o hc')
          rw [ma_E_int (S := ma_put S cx j.toNatClampNeg (.inl (vp_nar .byte x))) (t := 21) t1 (by omega) (by omega)]
          show Sum.inl (kA 21, (mH S cx).2, Sum.inl (ma_u (mI S) cx j.toNatClampNeg _ cx)) = _
          rw [ma_u_eq]; rfl
        exact va_bast hx hb hK hP hD hS (cx - 64) 1 ((ma_wl_at i1 i2).trans (by rw [ma_E_int t1 (by omega) (by omega)])) rfl (ma_ix_in t2) hd (fun H1 locs1 a1 a2 a3 => k H1 locs1 (hset ▸ a1) (hset ▸ a2) a3)
      · split at h
        · next t1 =>
          cases h
          have hset : (ma_wl kA ad S).set (cx - 64) (ad cx, .inl (kA 22, (mH S cx).2, .inl (upd (mI S cx) j.toNatClampNeg (vp_nar .boolean x)))) = ma_wl kA ad (ma_put S cx j.toNatClampNeg (.inl (vp_nar .boolean x))) := by
            refine ma_wl_set i1 i2 rfl ?_ (fun c' hc' => ma_put_o hc')
            rw [ma_E_int (S := ma_put S cx j.toNatClampNeg (.inl (vp_nar .boolean x))) (t := 22) t1 (by omega) (by omega)]
            show Sum.inl (kA 22, (mH S cx).2, Sum.inl (ma_u (mI S) cx j.toNatClampNeg _ cx)) = _
            rw [ma_u_eq]; rfl
          exact va_zast hx hb hK hP hD hS (cx - 64) 2 ((ma_wl_at i1 i2).trans (by rw [ma_E_int t1 (by omega) (by omega)])) rfl (ma_ix_in t2) hd (fun H1 locs1 a1 a2 a3 => k H1 locs1 (hset ▸ a1) (hset ▸ a2) a3)
        · cases h
    · cases h
  · next x j cx r =>
    split at h
    · next hc =>
      simp only [Bool.and_eq_true, decide_eq_true_eq] at hc
      obtain ⟨⟨hi, t1⟩, t2⟩ := hc
      obtain ⟨i1, i2⟩ := is2 hi
      cases h
      have hset : (ma_wl kA ad S).set (cx - 64) (ad cx, .inl (kA 23, (mH S cx).2, .inr (.inl (vp_updL (mL S cx) j.toNatClampNeg x)))) = ma_wl kA ad (ma_put S cx j.toNatClampNeg (.inr (.inl x))) := by
        refine ma_wl_set i1 i2 rfl ?_ (fun c' hc' => ma_put_o hc')
        rw [ma_E_long (S := ma_put S cx j.toNatClampNeg (.inr (.inl x))) t1]
        show Sum.inl (kA 23, (mH S cx).2, Sum.inr (Sum.inl (ma_u (mL S) cx j.toNatClampNeg x cx))) = _
        rw [ma_u_eq]; rfl
      exact va_last hx hb hK hP hD hS (cx - 64) 3 ((ma_wl_at i1 i2).trans (by rw [ma_E_long t1])) rfl (ma_ix_in t2) hd (fun H1 locs1 a1 a2 a3 => k H1 locs1 (hset ▸ a1) (hset ▸ a2) a3)
    · cases h
  · next x j cx r =>
    split at h
    · next hc =>
      simp only [Bool.and_eq_true, decide_eq_true_eq] at hc
      obtain ⟨⟨hi, t1⟩, t2⟩ := hc
      obtain ⟨i1, i2⟩ := is2 hi
      have hset : ∀ y : Option Nat, (ma_wl kA ad S).set (cx - 64) (ad cx, .inl (kA 24, (mH S cx).2, .inr (.inr (.inr (.inr (va_up (fun j => (mR S cx j).map ad) j.toNatClampNeg (y.map ad))))))) = ma_wl kA ad (ma_put S cx j.toNatClampNeg (.inr (.inr y))) := by
        intro y
        refine ma_wl_set i1 i2 rfl ?_ (fun c' hc' => ma_put_o hc')
        rw [ma_E_ref (S := ma_put S cx j.toNatClampNeg (.inr (.inr y))) (t := 24) t1 (by omega)]
        show Sum.inl (kA 24, (mH S cx).2, Sum.inr (Sum.inr (Sum.inr (Sum.inr (fun i => (ma_u (mR S) cx j.toNatClampNeg y cx i).map ad))))) = _
        rw [ma_u_eq]
        have : (fun i => (va_up (mR S cx) j.toNatClampNeg y i).map ad) = va_up (fun j => (mR S cx j).map ad) j.toNatClampNeg (y.map ad) := by
          funext i; unfold va_up; split <;> rfl
        rw [this]
      split at h
      · cases h
        exact va_astqN hx hb hK hP hD hS (cx - 64) 4 ((ma_wl_at i1 i2).trans (by rw [ma_E_ref t1 (by omega)])) rfl (ma_ix_in t2) hd (fun H1 locs1 a1 a2 a3 => k H1 locs1 (hset none ▸ a1) (hset none ▸ a2) a3)
      · next bx =>
        split at h
        · next hv =>
          simp only [Bool.and_eq_true, decide_eq_true_eq] at hv
          obtain ⟨v1, v2⟩ := is2 hv.1
          cases h
          exact va_astq hx hb hK hP hD hS (cx - 64) 4 (bx - 64) 9 ((ma_wl_at i1 i2).trans (by rw [ma_E_ref t1 (by omega)])) (r := (RX9, TX9, 9)) rfl ((ma_wl_at v1 v2).trans (by rw [ma_E_obj (by omega), hv.2])) rfl (ma_ix_in t2) hd (fun H1 locs1 a1 a2 a3 => k H1 locs1 (hset (some bx) ▸ a1) (hset (some bx) ▸ a2) a3)
        · cases h
    · cases h
  · next cx r =>
    split at h
    · next hc =>
      simp only [Bool.and_eq_true, decide_eq_true_eq] at hc
      obtain ⟨⟨hi, t1⟩, t2⟩ := hc
      obtain ⟨i1, i2⟩ := is2 hi
      cases h
      have ht : (mH S cx).1 = 20 ∨ (mH S cx).1 = 21 ∨ (mH S cx).1 = 22 ∨ (mH S cx).1 = 23 ∨ (mH S cx).1 = 24 ∨ (mH S cx).1 = 25 := by omega
      have go : ∀ (t0 : Nat) (cA : ClassId) (x : vp_A) (ty : FieldType), ma_E kA ad S cx = .inl (cA, x) → (ma_tys kA)[t0]? = some (cA, ty) → x.1 = (mH S cx).2 → W p l e R s m args below meth c H locs cells slots Q (F0 m pc ls (ma_ts ad (.inr (.inr (some cx)) :: r))) := by
        intro t0 cA x ty hE htt hlen
        exact va_alen hx hb hK hP (cx - 64) t0 ((ma_wl_at i1 i2).trans (by rw [hE])) htt (by rw [hlen]) hd (k H locs hP hD hS)
      rcases ht with ht | ht | ht | ht | ht | ht
      · exact go 0 _ _ _ (ma_E_int ht (by omega) (by omega)) rfl rfl
      · exact go 1 _ _ _ (ma_E_int ht (by omega) (by omega)) rfl rfl
      · exact go 2 _ _ _ (ma_E_int ht (by omega) (by omega)) rfl rfl
      · exact go 3 _ _ _ (ma_E_long ht) rfl rfl
      · exact go 4 _ _ _ (ma_E_ref ht (by omega)) rfl rfl
      · exact go 5 _ _ _ (ma_E_ref ht (by omega)) rfl rfl
    · cases h
  · cases h
end MA3
