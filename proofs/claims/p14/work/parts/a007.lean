/-! from 57.throw -/
/-! THE SMALL MACHINE, part 8: a new exception that is thrown at once; answers -/
def ma_xn (e : Nat) : String := match e with
  | 1 => "java/lang/IndexOutOfBoundsException"
  | 2 => "java/lang/IllegalArgumentException"
  | 3 => "java/lang/IllegalStateException"
  | 4 => "java/util/NoSuchElementException"
  | 5 => "java/lang/ClassCastException"
  | 6 => "java/lang/UnsupportedOperationException"
  | _ => ""
def ma_xs : List String := ["java/lang/RuntimeException", "java/lang/Exception"]
/-- pool entries of the class and of its constructor, in the outer class (11), to the exception's number -/
def ma_xh : List ((Nat × Nat × Nat × Nat) × Nat × Nat) := [((11, 72, 74, 1), 530, 16), ((11, 79, 81, 2), 608, 17), ((11, 85, 87, 3), 631, 18), ((11, 364, 366, 4), 1198, 27), ((11, 135, 137, 5), 1215, 28), ((11, 192, 194, 6), 1323, 29)]
def ma_xc (q : (Nat × Nat × Nat × Nat) × Nat × Nat) : Bool :=
  ma_w q.2.1 (.classLink (ma_cn q.1.1) q.1.2.1 (ma_xn q.1.2.2.2)) && ma_w q.2.2 (.initialized (ma_xn q.1.2.2.2)) && Bundle.fit (ma_xn q.1.2.2.2) &&
  (vx_at0 (ma_cn q.1.1) q.1.2.2.1 (ma_xn q.1.2.2.2) ma_xs).all (fun w => ((decide (w ∈ tables_1) && goodWord w) || (decide (w ∈ ma_nw) && w.onTables)) && vx_ot w)
set_option maxRecDepth 20000 in
theorem ma_xh_ok : ∀ q ∈ ma_xh, ma_xc q = true := List.all_eq_true.mp (by decide +kernel)
theorem ma_xs_fit : ∀ n ∈ ma_xs, Bundle.fit n = true := by decide +kernel
def ma_xt (o ik ic : Nat) : Option Nat := (ma_xh.find? (fun q => q.1.1 == o && q.1.2.1 == ik && q.1.2.2.1 == ic)).map (fun q => q.1.2.2.2)
theorem ma_xt_spec {o ik ic x : Nat} (h : ma_xt o ik ic = some x) : Cond.classLink (ma_cn o) ik (ma_xn x) ∈ ma_TB ∧ Cond.initialized (ma_xn x) ∈ ma_TB ∧ Bundle.fit (ma_xn x) = true ∧ ∀ w ∈ vx_at0 (ma_cn o) ic (ma_xn x) ma_xs, (w ∈ ma_TB ∨ (w ∈ ma_nw ∧ w.onTables = true)) ∧ vx_ot w = true := by
  unfold ma_xt at h
  cases hf : ma_xh.find? (fun q => q.1.1 == o && q.1.2.1 == ik && q.1.2.2.1 == ic) with
  | none => rw [hf] at h; cases h
  | some q =>
    rw [hf] at h
    have hk : q.1.2.2.2 = x := Option.some.inj h
    have h1 := List.find?_some hf
    simp only [Bool.and_eq_true, beq_iff_eq] at h1
    have h2 := ma_xh_ok q (List.mem_of_find?_eq_some hf)
    unfold ma_xc at h2
    rw [hk, h1.1.1, h1.1.2, h1.2] at h2
    simp only [Bool.and_eq_true] at h2
    refine ⟨ma_w_in h2.1.1.1, ma_w_in h2.1.1.2, h2.1.2, fun w hw => ?_⟩
    have h3 := List.all_eq_true.mp h2.2 w hw
    simp only [Bool.and_eq_true, Bool.or_eq_true, decide_eq_true_eq] at h3
    refine ⟨h3.1.imp (fun z => List.mem_filter.mpr ⟨List.mem_append_right _ (List.mem_append_right _ z.1), z.2⟩) (fun z => z), h3.2⟩
/-- new, dup, its constructor, athrow: which exception -/
def ma_thr (o : Nat) (cc : ByteArray) (pc : Nat) : Option Nat := match decode cc pc, decode cc (pc + 3), decode cc (pc + 4), decode cc (pc + 7) with
  | .ok (.new ik, 3), .ok (.dup, 1), .ok (.invokespecial ic, 3), .ok (.athrow, 1) => ma_xt o ik ic
  | _, _, _, _ => none
def ma_bump (S : ma_S) : ma_S := (S.1, S.2.1 + 1, S.2.2.1 + 6, S.2.2.2)
def ma_ret (ret : Option FieldType) (i : Instr) (n : Nat) (st : List ma_V) : Option (Option ma_V) := match i, n, st with
  | .ireturn, 1, [.inl x] => match ret with
    | some ty => if narrow ty (.int x) = .int x then some (some (.inl x)) else none
    | none => none
  | .areturn, 1, [.inr (.inr r)] => match ret with
    | some (.object _) => some (some (.inr (.inr r)))
    | some (.array _) => some (some (.inr (.inr r)))
    | _ => none
  | .return_, 1, [] => match ret with
    | none => some none
    | some _ => none
  | _, _, _ => none
section MA8
variable {p : Program} {l : Launch} {e : Env} {R : Room} {s : State} {m : MethodId} {args : Array Value} {below : List Frame} {meth : Method} {c : Code} {H : Heap} {locs : List Loc} {cells slots : Nat} {cc : ByteArray} {pc : Nat} {ls : Array Slot} {ad : Nat → Nat} {free : Addr → Prop} {Qc : Array Value → State → Outcome → State → Prop}
theorem ma_ret_ok (hx : p.tables.exec = Jvm.exec) (hb : c.code = cc) (hlocks : meth.locks = false) {ret : Option FieldType} (hr : meth.sig.returnType = ret) {i : Instr} {n : Nat} {st : List ma_V} {v : Option ma_V} (hd : decode cc pc = .ok (i, n)) (h : ma_ret ret i n st = some v)
    (hq : ∀ t : State, t.heap = H → s.WarmedH t.vm → Qc args s (.returned (v.map (ma_tv ad))) t) (hf : ∀ q ∈ locs, free q.base) : W p l e R s m args below meth c H locs cells slots (MQ below Qc args s cells slots free) (F0 m pc ls (ma_ts ad st)) := by
  unfold ma_ret at h
  split at h
  · split at h
    · next ty =>
      split at h
      · next hn =>
        cases h
        exact W.zret hx hb hr hn hq hf hd hlocks
      · cases h
    · cases h
  · next r =>
    have hv : ma_tv ad (.inr (.inr r)) = .null ∨ ∃ a, ma_tv ad (.inr (.inr r)) = .ref a := by
      cases r with
      | none => exact Or.inl rfl
      | some b => exact Or.inr ⟨_, rfl⟩
    split at h
    · cases h; exact W.aret hx hb hr (Or.inl ⟨_, rfl⟩) hv hq hf hd hlocks
    · cases h; exact W.aret hx hb hr (Or.inr ⟨_, rfl⟩) hv hq hf hd hlocks
    · cases h
  · split at h
    · cases h; exact W.vret hx hb hr hq hf hd hlocks
    · cases h
  · cases h
theorem ma_ret_cv {N n : Nat} {ret : Option FieldType} {i : Instr} {st : List ma_V} {v : Option ma_V} (hc : ma_cs N st) (h : ma_ret ret i n st = some v) : ∀ u, v = some u → ma_cv N u := by
  unfold ma_ret at h
  split at h
  · split at h
    · split at h
      · cases h; intro u hu; cases hu; exact ma_cv_i
      · cases h
    · cases h
  · split at h
    · cases h; intro u hu; cases hu; exact ma_cs_hd hc
    · cases h; intro u hu; cases hu; exact ma_cs_hd hc
    · cases h
  · split at h
    · cases h; intro u hu; cases hu
    · cases h
  · cases h
/-- it is thrown, and leaves -/
theorem ma_thr_ok (hx : p.tables.exec = Jvm.exec) (hb : c.code = cc) (hlt : l.stackTraces = false) {o x : Nat} {A : Nat → Prop} {XC : String → State → State → Prop} {mc ms : Nat} {rest : List Value} (hown : s.vm.findClass (ma_cn o) = some m.cls) (hts : ∀ w ∈ ma_TB, w.before args s = true) (hN : ma_Nx s)
    (hU : vx_Zq Bundle.tN "UNASSIGNED_STACK" Bundle.steD A s s.heap) (hZ : vx_Zq Bundle.tN "SUPPRESSED_SENTINEL" Bundle.listD A s s.heap) (hS : va_S A s.heap H locs) (hsize : ls.size = c.maxLocals) (hlocks : meth.locks = false) (hout : ∀ x ∈ c.exceptionTable.toList, False) (h : ma_thr o cc pc = some x)
    (hR1 : 6 ≤ R.frames) (hR2 : (rest.map fun v => v.category).sum + 81 ≤ R.locals) (hR3 : cells + 1 ≤ R.cells) (hR4 : slots + 6 ≤ R.slots)
    (hxc : ∀ t : State, s.vm.Alike t.vm → H.size ≤ t.heap.size → (∀ q : Nat, q < H.size → t.heap[q]? = H[q]?) → XC (ma_xn x) s t) (hf : ∀ z ∈ locs, free z.base) (hc : cells + 1 ≤ mc) (hs : slots + 6 ≤ ms) :
    W p l e R s m args below meth c H locs cells slots (vx_MQ below Qc XC args s mc ms free) (F0 m pc ls rest) := by
  unfold ma_thr at h
  split at h
  · next ik ic d0 d3 d4 d7 =>
    obtain ⟨w1, w2, w3, w4⟩ := ma_xt_spec h
    have hw : ∀ w ∈ vx_at0 (ma_cn o) ic (ma_xn x) ma_xs, w.before args s = true := by
      intro w hw
      rcases (w4 w hw).1 with g | ⟨g1, g2⟩
      · exact hts w g
      · exact va_Nw.use g2 (hN.1 w g1)
    refine vx_throw0 hx hb hlt hown w3 ma_xs_fit (hts _ w1) (hts _ w2) hw (fun w hw => ?_) hU hZ hS hsize d0 d3 d4 d7 (fun x hx => (hout x hx).elim) (by show 2 + 3 < R.frames; omega) (by show _ + (13 * (2 + 1) + 42) ≤ R.locals; omega) hR3 hR4 hlocks hxc hf hc hs
    rcases List.mem_cons.mp hw with e1 | hw
    · rw [e1]; rfl
    · rcases List.mem_cons.mp hw with e1 | hw
      · rw [e1]; rfl
      · exact (w4 w hw).2
  · cases h
end MA8

/-! from 58.step -/
/-! THE SMALL MACHINE, part 9: one step that is no call -/
/-- are two references the same -/
def ma_ac (i : Instr) (n pc : Nat) (st : List ma_V) : Option (Nat × List ma_V) := match i, n, st with
  | .if_acmp .eq o, 3, .inr (.inr y) :: .inr (.inr x) :: r => if x.all (fun b => decide (64 ≤ b)) && y.all (fun b => decide (64 ≤ b)) then (ma_to pc o).map (fun t => (if x = y then t else pc + 3, r)) else none
  | _, _, _ => none
theorem ma_ac_cs {N n pc t : Nat} {i : Instr} {st st₉ : List ma_V} (hc : ma_cs N st) (h : ma_ac i n pc st = some (t, st₉)) : ma_cs N st₉ := by
  unfold ma_ac at h
  split at h
  · next o y x r =>
    split at h
    · cases ht : ma_to pc o with
      | none => rw [ht] at h; cases h
      | some t₉ => rw [ht] at h; cases h; exact ma_cs_tl (ma_cs_tl hc)
    · cases h
  · cases h
theorem ma_wl_num {kA : Nat → ClassId} {ad : Nat → Nat} {S : ma_S} {b : Nat} (h1 : 64 ≤ b) (h2 : b < mN S) : (ma_wl kA ad S)[b - 64]? = some (ad b, ma_E kA ad S b) := by
  unfold ma_wl
  rw [List.getElem?_map, List.getElem?_range (by omega)]
  show some (ad (b - 64 + 64), ma_E kA ad S (b - 64 + 64)) = _
  rw [Nat.sub_add_cancel h1]
theorem ma_ad_inj {kA : Nat → ClassId} {ad : Nat → Nat} {S : ma_S} {A : Nat → Prop} (hD : va_D A (ma_wl kA ad S)) {x y : Option Nat} (hx : ∀ b, x = some b → 64 ≤ b ∧ b < mN S) (hy : ∀ b, y = some b → 64 ≤ b ∧ b < mN S) (h : x.map ad = y.map ad) : x = y := by
  cases x with
  | none => cases y with
    | none => rfl
    | some b => cases h
  | some a => cases y with
    | none => cases h
    | some b =>
      have e : ad a = ad b := Option.some.inj h
      have h1 := hx a rfl
      have h2 := hy b rfl
      have := hD.1 _ _ _ _ (ma_wl_num (kA := kA) (ad := ad) h1.1 h1.2) (ma_wl_num (kA := kA) (ad := ad) h2.1 h2.2) e
      have e2 : a = b := by omega
      rw [e2]
def ma_one (X : Nat × (Nat → Int32)) (o : Nat) (ini : Bool) (nL d w : Nat) (i : Instr) (n pc : Nat) (L : ma_L) (st : List ma_V) (S : ma_S) : Option (Nat × ma_L × List ma_V × ma_S) :=
  match ma_push i n L with
  | some v => some (pc + n, L, v :: st, S)
  | none => match ma_stk i n st with
    | some st₉ => some (pc + n, L, st₉, S)
    | none => match ma_sto i n nL L st with
      | some (L₉, st₉) => some (pc + n, L₉, st₉, S)
      | none => match ma_jmp i n pc st with
        | some (t, st₉) => some (t, L, st₉, S)
        | none => match ma_hp o ini i n st S with
          | some (st₉, S₉) => some (pc + n, L, st₉, S₉)
          | none => match ma_sc X i n st with
            | some st₉ => some (pc + n, L, st₉, S)
            | none => match ma_ex o i n st S with
              | some (st₉, S₉) => some (pc + n, L, st₉, S₉)
              | none => match ma_al o i n st S with
                | some (st₉, S₉) => some (pc + n, L, st₉, S₉)
                | none => match ma_pr o d w i n st S with
                  | some (st₉, S₉) => some (pc + n, L, st₉, S₉)
                  | none => match ma_tx X o i n st with
                    | some st₉ => some (pc + n, L, st₉, S)
                    | none => match ma_ac i n pc st with
                      | some (t, st₉) => some (t, L, st₉, S)
                      | none => none
theorem ma_cL.mono {n n₉ : Nat} {L : ma_L} (h : ma_cL n L) (hn : n ≤ n₉) : ma_cL n₉ L := fun q hq => (h q hq).mono hn
theorem ma_cs.mono {n n₉ : Nat} {st : List ma_V} (h : ma_cs n st) (hn : n ≤ n₉) : ma_cs n₉ st := fun q hq => (h q hq).mono hn
/-- in bounds behind a new cell, without the machine -/
theorem ma_al_c {o n : Nat} {i : Instr} {st st₉ : List ma_V} {S S₉ : ma_S} (hh : ma_ch S) (hc : ma_cs (mN S) st) (h : ma_al o i n st S = some (st₉, S₉)) : ma_ch S₉ ∧ ma_cs (mN S₉) st₉ ∧ mN S₉ = mN S + 1 ∧ mC S₉ = mC S + 1 ∧ mZ S ≤ mZ S₉ := by
  have fin : ∀ (t N : Nat) (r : List ma_V), ma_cs (mN S) r → ma_ch (ma_new S t N) ∧ ma_cs (mN (ma_new S t N)) (.inr (.inr (some (mN S))) :: r) ∧ mN (ma_new S t N) = mN S + 1 ∧ mC (ma_new S t N) = mC S + 1 ∧ mZ S ≤ mZ (ma_new S t N) := by
    intro t N r hr
    exact ⟨ma_new_ch hh t N, ma_cs_cons (fun b hb => by cases hb; exact Nat.lt_succ_self _) (fun v hv => (hr v hv).mono (Nat.le_succ _)), rfl, rfl, Nat.le_add_right _ _⟩
  unfold ma_al at h
  split at h
  · next r x =>
    cases ht : ma_nwt o x with
    | none => rw [ht] at h; cases h
    | some t => rw [ht] at h; cases h; exact fin _ _ _ hc
  · next a kx r =>
    split at h
    · cases ht : ma_at a with
      | none => rw [ht] at h; cases h
      | some t => rw [ht] at h; cases h; exact fin _ _ _ (ma_cs_tl hc)
    · cases h
  · next x kx r =>
    split at h
    · cases ht : ma_ant o x with
      | none => rw [ht] at h; cases h
      | some t => rw [ht] at h; cases h; exact fin _ _ _ (ma_cs_tl hc)
    · cases h
  · cases h
theorem ma_one_c {X : Nat × (Nat → Int32)} {o nL d w n pc pc₉ : Nat} {ini : Bool} {i : Instr} {L L₉ : ma_L} {st st₉ : List ma_V} {S S₉ : ma_S} (hh : ma_ch S) (hL : ma_cL (mN S) L) (hc : ma_cs (mN S) st) (h : ma_one X o ini nL d w i n pc L st S = some (pc₉, L₉, st₉, S₉)) :
    ma_ch S₉ ∧ ma_cL (mN S₉) L₉ ∧ ma_cs (mN S₉) st₉ ∧ mN S ≤ mN S₉ ∧ mC S ≤ mC S₉ ∧ mZ S ≤ mZ S₉ := by
  have kept : ∀ {S1 : ma_S} {s1 : List ma_V}, (ma_ch S1 ∧ ma_cs (mN S1) s1 ∧ mN S1 = mN S ∧ mC S1 = mC S ∧ mZ S1 = mZ S) → ma_ch S1 ∧ ma_cL (mN S1) L ∧ ma_cs (mN S1) s1 ∧ mN S ≤ mN S1 ∧ mC S ≤ mC S1 ∧ mZ S ≤ mZ S1 := by
    intro S1 s1 ⟨a1, a2, a3, a4, a5⟩
    exact ⟨a1, by rw [a3]; exact hL, a2, by omega, by omega, by omega⟩
  unfold ma_one at h
  split at h
  · next v hv => cases h; exact ⟨hh, hL, ma_cs_cons (ma_push_cv hL hv) hc, Nat.le_refl _, Nat.le_refl _, Nat.le_refl _⟩
  · split at h
    · next s1 hv => cases h; exact ⟨hh, hL, ma_stk_cs hc hv, Nat.le_refl _, Nat.le_refl _, Nat.le_refl _⟩
    · split at h
      · next L1 s1 hv => cases h; exact ⟨hh, (ma_sto_c hL hc hv).1, (ma_sto_c hL hc hv).2, Nat.le_refl _, Nat.le_refl _, Nat.le_refl _⟩
      · split at h
        · next t1 s1 hv => cases h; exact ⟨hh, hL, ma_jmp_cs hc hv, Nat.le_refl _, Nat.le_refl _, Nat.le_refl _⟩
        · split at h
          · next s1 S1 hv => cases h; exact kept (ma_hp_c hh hc hv)
          · split at h
            · next s1 hv => cases h; exact ⟨hh, hL, ma_sc_cs hc hv, Nat.le_refl _, Nat.le_refl _, Nat.le_refl _⟩
            · split at h
              · next s1 S1 hv => cases h; exact kept (ma_ex_c hh hc hv)
              · split at h
                · next s1 S1 hv =>
                  cases h
                  obtain ⟨a1, a2, a3, a4, a5⟩ := ma_al_c hh hc hv
                  exact ⟨a1, hL.mono (by omega), a2, by omega, by omega, a5⟩
                · split at h
                  · next s1 S1 hv => cases h; exact kept (ma_pr_c hh hc hv)
                  · split at h
                    · next s1 hv => cases h; exact ⟨hh, hL, ma_tx_cs hh.2 hc hv, Nat.le_refl _, Nat.le_refl _, Nat.le_refl _⟩
                    · split at h
                      · next t1 s1 hv => cases h; exact ⟨hh, hL, ma_ac_cs hc hv, Nat.le_refl _, Nat.le_refl _, Nat.le_refl _⟩
                      · cases h
section MA9
variable {p : Program} {l : Launch} {e : Env} {R : Room} {s : State} {m : MethodId} {args : Array Value} {below : List Frame} {meth : Method} {c : Code} {H : Heap} {locs : List Loc} {cells slots : Nat} {Q : State → Prop} {cc : ByteArray} {pc : Nat} {ls : Array Slot} {ad : Nat → Nat} {kA : Nat → ClassId} {D : va_G} {A : Nat → Prop}
theorem ma_ac_ok (hx : p.tables.exec = Jvm.exec) (hb : c.code = cc) {i : Instr} {n t : Nat} {st st₉ : List ma_V} {S : ma_S} (hc : ma_cs (mN S) st) (hD : va_D A (ma_wl kA ad S)) (hd : decode cc pc = .ok (i, n)) (h : ma_ac i n pc st = some (t, st₉))
    (k : W p l e R s m args below meth c H locs cells slots Q (F0 m t ls (ma_ts ad st₉))) : W p l e R s m args below meth c H locs cells slots Q (F0 m pc ls (ma_ts ad st)) := by
  unfold ma_ac at h
  split at h
  · next o y x r =>
    split at h
    · next hg =>
      rw [Bool.and_eq_true] at hg
      have gx : ∀ b, x = some b → 64 ≤ b ∧ b < mN S := fun b hb₉ => by
        subst hb₉
        exact ⟨of_decide_eq_true hg.1, hc (.inr (.inr (some b))) (List.mem_cons_of_mem _ List.mem_cons_self) b rfl⟩
      have gy : ∀ b, y = some b → 64 ≤ b ∧ b < mN S := fun b hb₉ => by
        subst hb₉
        exact ⟨of_decide_eq_true hg.2, hc (.inr (.inr (some b))) List.mem_cons_self b rfl⟩
      cases ht : ma_to pc o with
      | none => rw [ht] at h; cases h
      | some t₉ =>
        rw [ht] at h
        have h2 : (if x = y then t₉ else pc + 3) = t ∧ r = st₉ := by
          have := Option.some.inj h
          exact ⟨congrArg Prod.fst this, congrArg Prod.snd this⟩
        obtain ⟨h3, rfl⟩ := h2
        refine lv_acmp_eq (rx := x.map ad) (ry := y.map ad) hx hb hd (ma_to_eq ht) (fun q => ?_) (fun q => ?_)
        · rw [if_pos (ma_ad_inj hD gx gy q)] at h3
          rw [h3]
          exact k
        · rw [if_neg (fun z => q (by rw [z]))] at h3
          rw [h3]
          exact k
    · cases h
  · cases h
/-- what holds of the frame all along: the machine, the code, the class, the tables, the world's kinds, the room -/
def ma_Cx (X : Nat × (Nat → Int32)) (p : Program) (R : Room) (s : State) (m : MethodId) (args : Array Value) (meth : Method) (c : Code) (cc : ByteArray) (o : Nat) (ini : Bool) (nL d w : Nat) (D : va_G) (kA : Nat → ClassId) (A : Nat → Prop) : Prop :=
  p.tables.exec = Jvm.exec ∧ c.code = cc ∧ c.maxLocals = nL ∧ s.vm.findClass (ma_cn o) = some m.cls ∧ (∀ w ∈ ma_TB, w.before args s = true) ∧ va_K D vwCl (ma_tys kA) s ∧ ma_Nx s ∧ (ini = true → meth.name = "<init>") ∧ d ≤ R.frames ∧ w ≤ R.locals ∧ (∀ q, s.heap.size ≤ q → A q)
/-- the world and the frame's own values -/
def ma_Wd (X : Nat × (Nat → Int32)) (s : State) (nL : Nat) (D : va_G) (kA : Nat → ClassId) (A : Nat → Prop) (ad : Nat → Nat) (L : ma_L) (st : List ma_V) (S : ma_S) (H : Heap) (locs : List Loc) (ls : Array Slot) : Prop :=
  lv_has ls nL (ma_tl ad L) ∧ ma_ch S ∧ ma_cL (mN S) L ∧ ma_cs (mN S) st ∧ va_P D vwCl (ma_wl kA ad S) H ∧ va_D A (ma_wl kA ad S) ∧ va_S A s.heap H locs ∧ ma_Xt X ad A s s.heap
theorem ma_one_ok {X : Nat × (Nat → Int32)} {o nL d w n pc₉ : Nat} {ini : Bool} {i : Instr} {L L₉ : ma_L} {st st₉ : List ma_V} {S S₉ : ma_S} (C : ma_Cx X p R s m args meth c cc o ini nL d w D kA A) (Wd : ma_Wd X s nL D kA A ad L st S H locs ls) (hd : decode cc pc = .ok (i, n)) (h : ma_one X o ini nL d w i n pc L st S = some (pc₉, L₉, st₉, S₉))
    (hr1 : cells + (mC S₉ - mC S) ≤ R.cells) (hr2 : slots + (mZ S₉ - mZ S) ≤ R.slots)
    (k : ∀ (ad₉ : Nat → Nat) (H1 : Heap) (locs1 : List Loc) (ls1 : Array Slot), (∀ b, b < mN S → ad₉ b = ad b) → ma_Wd X s nL D kA A ad₉ L₉ st₉ S₉ H1 locs1 ls1 → W p l e R s m args below meth c H1 locs1 (cells + (mC S₉ - mC S)) (slots + (mZ S₉ - mZ S)) Q (F0 m pc₉ ls1 (ma_ts ad₉ st₉))) :
    W p l e R s m args below meth c H locs cells slots Q (F0 m pc ls (ma_ts ad st)) := by
  obtain ⟨hx, hb, hml, hown, hts, hK, hN, hini, hR1, hR2, hA⟩ := C
  obtain ⟨hl, hh, hL, hc, hP, hD, hS, hX⟩ := Wd
  have cl := ma_one_c hh hL hc h
  unfold ma_one at h
  split at h
  · next v hv =>
    cases h
    simp only [Nat.sub_self, Nat.add_zero] at k
    exact ma_push_ok hx hb hl hd hv (k ad H locs ls (fun _ _ => rfl) ⟨hl, hh, hL, cl.2.2.1, hP, hD, hS, hX⟩)
  · split at h
    · next s1 hv =>
      cases h
      simp only [Nat.sub_self, Nat.add_zero] at k
      exact ma_stk_ok hx hb hd hv (k ad H locs ls (fun _ _ => rfl) ⟨hl, hh, hL, cl.2.2.1, hP, hD, hS, hX⟩)
    · split at h
      · next L1 s1 hv =>
        cases h
        simp only [Nat.sub_self, Nat.add_zero] at k
        exact ma_sto_ok hx hb hl hd hv (fun ls₉ hl₉ => k ad H locs ls₉ (fun _ _ => rfl) ⟨hl₉, hh, cl.2.1, cl.2.2.1, hP, hD, hS, hX⟩)
      · split at h
        · next t1 s1 hv =>
          cases h
          simp only [Nat.sub_self, Nat.add_zero] at k
          exact ma_jmp_ok hx hb hd hv (k ad H locs ls (fun _ _ => rfl) ⟨hl, hh, hL, cl.2.2.1, hP, hD, hS, hX⟩)
        · split at h
          · next s1 S1 hv =>
            cases h
            obtain ⟨a1, a2, a3, a4, a5⟩ := ma_hp_c hh hc hv
            rw [a4, a5] at k
            simp only [Nat.sub_self, Nat.add_zero] at k
            exact ma_hp_ok hx hb hown hts hK hini hP hD hS hd hv (fun H1 locs1 b1 b2 b3 => k ad H1 locs1 ls (fun _ _ => rfl) ⟨hl, a1, cl.2.1, a2, b1, b2, b3, hX⟩)
          · split at h
            · next s1 hv =>
              cases h
              simp only [Nat.sub_self, Nat.add_zero] at k
              exact ma_sc_ok hx hb hX.2.1 hS hd hv (k ad H locs ls (fun _ _ => rfl) ⟨hl, hh, hL, cl.2.2.1, hP, hD, hS, hX⟩)
            · split at h
              · next s1 S1 hv =>
                cases h
                obtain ⟨a1, a2, a3, a4, a5⟩ := ma_ex_c hh hc hv
                rw [a4, a5] at k
                simp only [Nat.sub_self, Nat.add_zero] at k
                exact ma_ex_ok hx hb hown hts hK hN hP hD hS hd hv (fun H1 locs1 b1 b2 b3 => k ad H1 locs1 ls (fun _ _ => rfl) ⟨hl, a1, cl.2.1, a2, b1, b2, b3, hX⟩)
              · split at h
                · next s1 S1 hv =>
                  cases h
                  refine (ma_al_ok hx hb hown hts hK hN.2.1 hA hh hc hP hD hS hd hv hr1 hr2 (fun q H1 b1 b2 b3 => ?_)).1
                  have ha : ∀ b, b < mN S → va_up ad (mN S) q b = ad b := fun b hb => va_up_ne ad q (by omega)
                  exact k (va_up ad (mN S) q) H1 locs ls ha ⟨by rw [ma_tl_ad hL ha]; exact hl, cl.1, cl.2.1, cl.2.2.1, b1, b2, b3, hX.ad (fun b hb => ha b (Nat.lt_of_lt_of_le hb hh.2))⟩
                · split at h
                  · next s1 S1 hv =>
                    cases h
                    obtain ⟨a1, a2, a3, a4, a5⟩ := ma_pr_c hh hc hv
                    rw [a4, a5] at k
                    simp only [Nat.sub_self, Nat.add_zero] at k
                    exact ma_pr_ok hx hb (hml.trans hl.1.symm) hown hts hK hR1 hR2 (by omega) (by omega) hP hD hS hd hv (fun H1 locs1 b1 b2 b3 => k ad H1 locs1 ls (fun _ _ => rfl) ⟨hl, a1, cl.2.1, a2, b1, b2, b3, hX⟩)
                  · split at h
                    · next s1 hv =>
                      cases h
                      simp only [Nat.sub_self, Nat.add_zero] at k
                      exact ma_tx_ok hx hb hown hts hX.2.2 hS hd hv (k ad H locs ls (fun _ _ => rfl) ⟨hl, hh, hL, cl.2.2.1, hP, hD, hS, hX⟩)
                    · split at h
                      · next t1 s1 hv =>
                        cases h
                        simp only [Nat.sub_self, Nat.add_zero] at k
                        exact ma_ac_ok hx hb hc hD hd hv (k ad H locs ls (fun _ _ => rfl) ⟨hl, hh, hL, cl.2.2.1, hP, hD, hS, hX⟩)
                      · cases h
end MA9

/-! from 60.call -/
/-! THE SMALL MACHINE, part 10: calls -/
def ma_args (k : Nat) (as : List ma_V) : ma_L := match as with
  | [] => []
  | v :: r => (k, v) :: ma_args (if ma_2 v then k + 2 else k + 1) r
theorem ma_args_tl (ad : Nat → Nat) : ∀ (as : List ma_V) (k : Nat), ma_tl ad (ma_args k as) = lv_args k (ma_ts ad as) := by
  intro as
  induction as with
  | nil => intro k; rfl
  | cons v r ih =>
    intro k
    show (k, ma_tv ad v) :: ma_tl ad (ma_args (if ma_2 v then k + 2 else k + 1) r) = (k, ma_tv ad v) :: lv_args (if (ma_tv ad v).category = 2 then k + 2 else k + 1) (ma_ts ad r)
    rw [ih, ma_cat]
    cases ma_2 v <;> rfl
theorem ma_args_len (ad : Nat → Nat) : ∀ (as : List ma_V), (lg_sl (ma_ts ad as)).length = ma_sz as := by
  intro as
  induction as with
  | nil => rfl
  | cons v r ih =>
    show ((if (ma_tv ad v).category = 2 then [Slot.val (ma_tv ad v), .second] else [.val (ma_tv ad v)]) ++ lg_sl (ma_ts ad r)).length = (if ma_2 v then 2 else 1) + ma_sz r
    rw [List.length_append, ih, ma_cat]
    cases ma_2 v <;> rfl
theorem ma_args_cL {n : Nat} : ∀ (as : List ma_V) (k : Nat), ma_cs n as → ma_cL n (ma_args k as) := by
  intro as
  induction as with
  | nil => intro k _ q hq; cases hq
  | cons v r ih =>
    intro k h q hq
    rcases List.mem_cons.mp hq with e | e
    · rw [e]; exact ma_cs_hd h
    · exact ih _ (ma_cs_tl h) q e
def ma_fd (o x t : Nat) (any : Bool) (lo hi : Nat) : Option ((Nat × Nat × Nat) × (Nat × Nat × Nat) × (Nat × Nat) × List Nat) := ma_clh.find? (fun q => q.1.1 == o && q.1.2.1 == x && (any || q.1.2.2 == t) && decide (lo ≤ q.2.1.1) && decide (q.2.1.1 ≤ hi))
theorem ma_fd_spec {o x t lo hi : Nat} {any : Bool} {q : (Nat × Nat × Nat) × (Nat × Nat × Nat) × (Nat × Nat) × List Nat} (h : ma_fd o x t any lo hi = some q) : ma_clc q = true ∧ q.1.1 = o ∧ q.1.2.1 = x ∧ (any = true ∨ q.1.2.2 = t) ∧ lo ≤ q.2.1.1 ∧ q.2.1.1 ≤ hi := by
  have h1 := List.find?_some h
  simp only [Bool.and_eq_true, Bool.or_eq_true, beq_iff_eq, decide_eq_true_eq] at h1
  exact ⟨ma_clh_ok q (List.mem_of_find?_eq_some h), h1.1.1.1.1, h1.1.1.1.2, h1.1.1.2, h1.1.2, h1.2⟩
/-- the class, by number, of what is called: a text, or a cell -/
def ma_rt (S : ma_S) (b : Nat) : Option Nat := if b < 19 then some 17 else if ma_is S b && decide (1 ≤ (mH S b).1) && decide ((mH S b).1 ≤ 12) then some (mH S b).1 else none
/-- a call's kind, the method, its arguments, the stack below -/
def ma_cl (o : Nat) (i : Instr) (n : Nat) (st : List ma_V) (S : ma_S) : Option ((Nat × Nat) × List ma_V × List ma_V) := match i, n with
  | .invokevirtual x, 3 => match ma_fd o x 0 true 0 4 with
    | none => none
    | some q0 => match st.drop q0.2.1.2.2 with
      | .inr (.inr (some b)) :: rest => match ma_rt S b with
        | none => none
        | some t => match ma_fd o x t false 0 4 with
          | some q => if q.2.1.2.2 = q0.2.1.2.2 then some ((q.2.1.1, q.2.1.2.1), .inr (.inr (some b)) :: (st.take q0.2.1.2.2).reverse, rest) else none
          | none => none
      | _ => none
  | .invokestatic x, 3 => match ma_fd o x 0 true 5 8 with
    | none => none
    | some q => if q.2.1.1 ≠ 6 ∧ q.2.1.1 ≠ 7 ∧ q.2.1.2.2 ≤ st.length then some ((q.2.1.1, q.2.1.2.1), (st.take q.2.1.2.2).reverse, st.drop q.2.1.2.2) else none
  | .invokespecial x, 3 => match ma_fd o x 0 true 6 9 with
    | none => none
    | some q => match st.drop q.2.1.2.2 with
      | .inr (.inr (some b)) :: rest => if q.2.1.1 ≠ 8 ∧ ma_is S b ∧ 1 ≤ (mH S b).1 ∧ (mH S b).1 ≤ 12 ∧ (q.2.1.1 = 7 ∨ (ma_md q.2.1.2.1).bind (fun z => z.2.2.2.2) = none) then some ((q.2.1.1, q.2.1.2.1), .inr (.inr (some b)) :: (st.take q.2.1.2.2).reverse, rest) else none
      | _ => none
  | _, _ => none
theorem ma_cl_c {o n N : Nat} {i : Instr} {st as rest : List ma_V} {S : ma_S} {k : Nat × Nat} (hc : ma_cs N st) (h : ma_cl o i n st S = some (k, as, rest)) : ma_cs N as ∧ ma_cs N rest ∧ n = 3 := by
  have tk : ∀ j, ma_cs N (st.take j).reverse := fun j v hv => hc v (List.mem_of_mem_take (List.mem_reverse.mp hv))
  have dr : ∀ j, ma_cs N (st.drop j) := fun j v hv => hc v (List.mem_of_mem_drop hv)
  unfold ma_cl at h
  split at h
  · split at h
    · cases h
    · next q0 _ =>
      split at h
      · next b r hdr =>
        have := dr q0.2.1.2.2
        rw [hdr] at this
        split at h
        · cases h
        · split at h
          · split at h
            · cases h; exact ⟨ma_cs_cons (ma_cs_hd this) (tk _), ma_cs_tl this, rfl⟩
            · cases h
          · cases h
      · cases h
  · split at h
    · cases h
    · split at h
      · cases h; exact ⟨tk _, dr _, rfl⟩
      · cases h
  · split at h
    · cases h
    · next q _ =>
      split at h
      · next b r hdr =>
        have := dr q.2.1.2.2
        rw [hdr] at this
        split at h
        · cases h; exact ⟨ma_cs_cons (ma_cs_hd this) (tk _), ma_cs_tl this, rfl⟩
        · cases h
      · cases h
  · cases h
theorem ma_cn_mh (k : Nat) : ma_cn k ≠ "java/lang/invoke/MethodHandle" ∧ ma_cn k ≠ "java/lang/invoke/VarHandle" := by
  unfold ma_cn
  split <;> exact ⟨by decide, by decide⟩
/-- classes by number have their names in ma_cn -/
theorem ma_cn_cl {t : Nat} (h1 : 1 ≤ t) (h2 : t ≤ 12) {C : String} {T : u_T} {N : Nat} (h : vwCl[t]? = some (C, T, N)) : C = ma_cn t := by
  have hh : t = 1 ∨ t = 2 ∨ t = 3 ∨ t = 4 ∨ t = 5 ∨ t = 6 ∨ t = 7 ∨ t = 8 ∨ t = 9 ∨ t = 10 ∨ t = 11 ∨ t = 12 := by omega
  rcases hh with rfl | rfl | rfl | rfl | rfl | rfl | rfl | rfl | rfl | rfl | rfl | rfl <;> (cases h; rfl)
section MA10
variable {p : Program} {l : Launch} {e : Env} {R : Room} {s : State} {m : MethodId} {args : Array Value} {below : List Frame} {meth : Method} {c : Code} {H : Heap} {locs : List Loc} {cells slots : Nat} {Q : State → Prop} {cc : ByteArray} {pc : Nat} {ls : Array Slot} {ad : Nat → Nat} {kA : Nat → ClassId} {D : va_G} {A : Nat → Prop}
theorem ma_pre {X : Nat × (Nat → Int32)} {o nL d w : Nat} {ini : Bool} {L : ma_L} {st as : List ma_V} {S : ma_S} (C : ma_Cx X p R s m args meth c cc o ini nL d w D kA A) (Wd : ma_Wd X s nL D kA A ad L st S H locs ls) (U : State) (hU : U.heap = H) (hW : s.WarmedH U.vm) : ma_Pc X D kA ad S as H.size (ma_ts ad as).toArray U := by
  obtain ⟨hx, hb, hml, hown, hts, hK, hN, hini, hR1, hR2, hA⟩ := C
  obtain ⟨hl, hh, hL, hc, hP, hD, hS, hX⟩ := Wd
  refine ⟨rfl, by rw [hU], by rw [hU]; exact hP, va_K.moved hW.alike hK, hD.weaken (fun _ _ _ _ => trivial), hN.warm hW, ?_⟩
  rw [hU]
  exact ((hX.kept hS.1 (fun a h1 h2 => hS.2.1 a h1 h2)).narrow (ma_free hD hS hA)).warm hW
/-- the words that every callee has: its code, and the tables -/
def ma_ws (y : MethodName) (cc : ByteArray) (nL : Nat) (ret : Option FieldType) : List Cond := Cond.code y cc nL ret :: ma_TB
theorem ma_ws_ok (hts : ∀ w ∈ ma_TB, w.before args s = true) {y : MethodName} {cc : ByteArray} {nL : Nat} {ret : Option FieldType} (hc : Cond.code y cc nL ret ∈ ma_TB) : ∀ w ∈ ma_ws y cc nL ret, ∀ (a₉ : Array Value) (U : State), s.WarmedH U.vm → w.before a₉ U = true := by
  intro w hw a₉ U hW
  have hm : w ∈ ma_TB := by
    rcases List.mem_cons.mp hw with e1 | e1
    · rw [e1]; exact hc
    · exact e1
  exact word_at hW (good_of_word (List.mem_filter.mp hm).2) (hts w hm)
/-- the callee's room -/
abbrev ma_rm (d w mc ms : Nat) : Room := { frames := d, cells := mc, slots := ms, locals := w }
theorem ma_cl_run {X : Nat × (Nat → Int32)} {o nL d w n kd M o₉ nL₉ mc ms : Nat} {ini : Bool} {i : Instr} {L : ma_L} {st as rest : List ma_V} {S S₉ : ma_S} {y : MethodName} {cc₉ : ByteArray} {ret₉ : Option FieldType} {v : Option ma_V}
    (C : ma_Cx X p R s m args meth c cc o ini nL d w D kA A) (Wd : ma_Wd X s nL D kA A ad L st S H locs ls) (hd : decode cc pc = .ok (i, n)) (h : ma_cl o i n st S = some ((kd, M), as, rest)) (hmd : ma_md M = some (o₉, y, cc₉, nL₉, ret₉)) (h1 : 1 ≤ d) (h2 : 19 + nL₉ ≤ w) (h3 : ma_sz rest ≤ 8)
    (hM : Met l y (ma_ws y cc₉ nL₉ ret₉) (ma_rm (d - 1) (w - (19 + nL₉)) mc ms) (ma_Pc X D kA ad S as H.size) (ma_Qc D kA ad S S₉ v) mc ms (va_A (ma_wl kA ad S) H.size)) (hf : cells + mc ≤ R.cells ∧ slots + ms ≤ R.slots) :
    va_Run p l e R s m args below meth c H locs cells slots mc ms (F0 m pc ls (ma_ts ad st)) (ma_ts ad rest) (ma_Qc D kA ad S S₉ v (ma_ts ad as).toArray) (va_A (ma_wl kA ad S) H.size) := by
  have hpre := fun U hU hW => ma_pre (as := as) C Wd U hU hW
  obtain ⟨hx, hb, hml, hown, hts, hK, hN, hini, hR1, hR2, hA⟩ := C
  obtain ⟨hl, hh, hL, hc, hP, hD, hS, hX⟩ := Wd
  obtain ⟨m1, m2, m3, m4, m5, m6⟩ := ma_md_spec hmd
  have hws := ma_ws_ok hts m1
  have hfr : (ma_rm (d - 1) (w - (19 + nL₉)) mc ms).frames + 1 ≤ R.frames := by show d - 1 + 1 ≤ _; omega
  have hlo : 8 + (nL₉ + 11) + (ma_rm (d - 1) (w - (19 + nL₉)) mc ms).locals ≤ R.locals := by show 8 + (nL₉ + 11) + (w - (19 + nL₉)) ≤ _; omega
  have hcode : Cond.code y cc₉ nL₉ ret₉ ∈ ma_ws y cc₉ nL₉ ret₉ := List.mem_cons_self
  have hW8 : 2 * (F0 m pc ls (ma_ts ad st)).monitorRoom + ((ma_ts ad rest).map fun v => v.category).sum ≤ 8 := lv_room (by rw [ma_sz_ts]; exact h3)
  have recv : ∀ b, ma_is S b = true → 1 ≤ (mH S b).1 → (mH S b).1 ≤ 12 → (∃ cellB : Cell, H[ad b]? = some cellB ∧ cellB.vm.isStatics = false ∧ s.vm.findClass (ma_cn (mH S b).1) = some cellB.cls) ∧ ∃ cC, ClassAt s (ma_cn (mH S b).1) cC := by
    intro b hb1 t1 t2
    simp only [ma_is, Bool.and_eq_true, decide_eq_true_eq] at hb1
    obtain ⟨C, T, hcl, -, -, -⟩ := ma_clok_all t1 t2
    have hC := ma_cn_cl t1 t2 hcl
    subst hC
    exact ⟨va_recv (a := ad b) (fs := ma_fs ad S b (mH S b).1) hK hP hcl ((ma_wl_at hb1.1 hb1.2).trans (by rw [ma_E_obj (by omega)])), _, (hK.1 _ _ hcl).2⟩
  have rcv : ∀ b t, ma_rt S b = some t → ∃ cellB : Cell, H[ad b]? = some cellB ∧ cellB.vm.isStatics = false ∧ s.vm.findClass (ma_cn t) = some cellB.cls := by
    intro b t hrt
    unfold ma_rt at hrt
    split at hrt
    · next hlt =>
      cases hrt
      exact vk_recv hX.2.2.1 hlt hS
    · split at hrt
      · next hbb =>
        simp only [Bool.and_eq_true, decide_eq_true_eq] at hbb
        cases hrt
        exact (recv b hbb.1.1 hbb.1.2 hbb.2).1
      · cases hrt
  have stk : ∀ (j b : Nat) (r : List ma_V), st.drop j = .inr (.inr (some b)) :: r → ma_ts ad st = (ma_ts ad (st.take j).reverse).reverse ++ Value.ref (ad b) :: ma_ts ad r ∧ (ma_ts ad (st.take j).reverse).length = j := by
    intro j b r hdr
    constructor
    · have h0 : ma_ts ad st = ma_ts ad (st.take j ++ st.drop j) := by rw [List.take_append_drop]
      rw [h0, hdr]
      unfold ma_ts
      rw [List.map_append, List.map_reverse, List.reverse_reverse]
      rfl
    · have hj : j < st.length := by
        rcases Nat.lt_or_ge j st.length with z | z
        · exact z
        · rw [List.drop_eq_nil_of_le z] at hdr; cases hdr
      unfold ma_ts
      rw [List.length_map, List.length_reverse, List.length_take]
      omega
  have lenOf : ∀ {nn : Nat}, (parseMethodDescriptor y.desc).map (fun d => d.parameters.length) = some nn → ∀ sig, parseMethodDescriptor y.desc = some sig → nn = sig.parameters.length := by
    intro nn hp sig hs
    rw [hs] at hp
    exact (Option.some.inj hp).symm
  unfold ma_cl at h
  split at h
  · next x =>
    split at h
    · cases h
    · next q0 hq0 =>
      split at h
      · next b r hdr =>
        split at h
        · cases h
        · next t hrt =>
          split at h
          · next q hq =>
            split at h
            · next hn =>
              cases h
              obtain ⟨w1, w2, w3, w4, w5, w6⟩ := ma_fd_spec hq
              have w4 : q.1.2.2 = t := w4.resolve_left (by simp)
              obtain ⟨s1, s2⟩ := stk _ _ _ hdr
              have rc := rcv b t hrt
              have hp : PreV s H (ma_cn t) (ad b) (ma_Pc X D kA ad S (.inr (.inr (some b)) :: (st.take q0.2.1.2.2).reverse) H.size) (ma_ts ad (st.take q0.2.1.2.2).reverse) := ⟨ma_Pc_blind, rc, hpre⟩
              unfold ma_clc at w1
              rw [hmd] at w1
              simp only [w2, w3, w4, Bool.and_eq_true] at w1
              have hlen := lenOf (of_decide_eq_true w1.1)
              rw [hn] at hlen
              have w1 := w1.2
              split at w1
              · simp only [Bool.and_eq_true] at w1
                exact va_runV ⟨hx, hb, hml, hown, hts⟩ hM ⟨⟨rfl, rfl, hfr, hlo, hws, hcode, hts _ m1, hts _ m2, ⟨m5, m6⟩, hlen, hts _ (ma_w_in w1.1.1)⟩, hts _ (ma_w_in w1.1.2), hts _ (ma_w_in w1.2)⟩ hp rfl s2 hl.1 s1 hW8 hd hf
              · simp only [Bool.and_eq_true] at w1
                exact va_runV ⟨hx, hb, hml, hown, hts⟩ hM ⟨⟨rfl, rfl, hfr, hlo, hws, hcode, hts _ m1, hts _ m2, ⟨m5, m6⟩, hlen, hts _ (ma_w_in w1.1.1.1)⟩, hts _ (ma_w_in w1.1.1.2), hts _ (ma_TB_p w1.1.2 w1.2)⟩ hp rfl s2 hl.1 s1 hW8 hd hf
              · simp only [Bool.and_eq_true] at w1
                have hy : y = ⟨ma_cn q.2.2.1.2, y.name, y.desc⟩ := by rw [← of_decide_eq_true w1.2]
                exact va_runU (x := ⟨ma_cn q.2.2.1.1, y.name, y.desc⟩) (owner := ma_cn q.2.2.1.2) ⟨hx, hb, hml, hown, hts⟩ hM ⟨⟨rfl, rfl, hfr, hlo, hws, hcode⟩, hts _ m1, hts _ m2, ma_cn_mh _, hlen, hts _ (ma_w_in w1.1.1.1.1), hts _ (ma_w_in w1.1.1.1.2), hy ▸ va_Decl.of (hts _ (ma_w_in w1.1.2)) (hts _ m1), hts _ (ma_w_in w1.1.1.2), hts _ (ma_w_in w1.1.2)⟩ hp rfl s2 hl.1 s1 hW8 hd hf
              · simp only [Bool.and_eq_true] at w1
                have w9 := w1.2
                split at w9
                · next y0 _ _ _ hm0 =>
                  simp only [Bool.and_eq_true] at w9
                  have hy0 := of_decide_eq_true w9.1
                  have hde : va_Decl s ⟨ma_cn q.2.2.1.2, y.name, y.desc⟩ := by
                    rw [← hy0]
                    exact va_Decl.of (hts _ (ma_w_in w9.2)) (hts _ (ma_md_spec hm0).1)
                  exact va_runU (x := ⟨ma_cn q.2.2.1.1, y.name, y.desc⟩) (owner := ma_cn q.2.2.1.2) ⟨hx, hb, hml, hown, hts⟩ hM ⟨⟨rfl, rfl, hfr, hlo, hws, hcode⟩, hts _ m1, hts _ m2, ma_cn_mh _, hlen, hts _ (ma_w_in w1.1.1.1.1), hts _ (ma_w_in w1.1.1.1.2), hde, hts _ (ma_w_in w1.1.1.2), hts _ (ma_w_in w1.1.2)⟩ hp rfl s2 hl.1 s1 hW8 hd hf
                · cases w9
              · simp only [Bool.and_eq_true] at w1
                exact va_runU (x := ⟨ma_cn q.2.2.1.1, y.name, y.desc⟩) (owner := ma_cn q.2.2.1.2) ⟨hx, hb, hml, hown, hts⟩ hM ⟨⟨rfl, rfl, hfr, hlo, hws, hcode⟩, hts _ m1, hts _ m2, ma_cn_mh _, hlen, hts _ (ma_w_in w1.1.1.1.1), hts _ (ma_w_in w1.1.1.1.2), va_Decl.abs (hN.1 _ (of_decide_eq_true w1.2)), hts _ (ma_w_in w1.1.1.2), hts _ (ma_w_in w1.1.2)⟩ hp rfl s2 hl.1 s1 hW8 hd hf
              all_goals first | omega | (rename_i hk; omega) | cases w1
            · cases h
          · cases h
      · cases h
  · next x =>
    split at h
    · cases h
    · next q hq =>
      split at h
      · next hk =>
        cases h
        obtain ⟨w1, w2, w3, w4, w5, w6⟩ := ma_fd_spec hq
        have s2 : (ma_ts ad (st.take q.2.1.2.2).reverse).length = q.2.1.2.2 := by
          unfold ma_ts
          rw [List.length_map, List.length_reverse, List.length_take]
          omega
        have s1 : ma_ts ad st = (ma_ts ad (st.take q.2.1.2.2).reverse).reverse ++ ma_ts ad (st.drop q.2.1.2.2) := by
          have h0 : ma_ts ad st = ma_ts ad (st.take q.2.1.2.2 ++ st.drop q.2.1.2.2) := by rw [List.take_append_drop]
          rw [h0]
          unfold ma_ts
          rw [List.map_append, List.map_reverse, List.reverse_reverse]
        have hp : PreS s H (ma_Pc X D kA ad S (st.take q.2.1.2.2).reverse H.size) (ma_ts ad (st.take q.2.1.2.2).reverse) := ⟨ma_Pc_blind, hpre⟩
        unfold ma_clc at w1
        rw [hmd] at w1
        simp only [w2, w3, Bool.and_eq_true] at w1
        have hlen := lenOf (of_decide_eq_true w1.1)
        have w1 := w1.2
        split at w1
        all_goals first | omega | (rename_i hk9; omega) | skip
        · simp only [Bool.and_eq_true] at w1
          exact va_runS ⟨hx, hb, hml, hown, hts⟩ hM ⟨⟨rfl, rfl, hfr, hlo, hws, hcode, hts _ m1, hts _ m2, ⟨m5, m6⟩, hlen, hts _ (ma_w_in w1.1)⟩, hts _ (ma_w_in w1.2)⟩ hp rfl s2 hl.1 s1 hW8 hd hf
        · simp only [Bool.and_eq_true] at w1
          exact va_runSN ⟨hx, hb, hml, hown, hts⟩ hM ⟨⟨⟨rfl, rfl, hfr, hlo, hws, hcode⟩, hts _ m1, hts _ m2, ⟨m5, m6⟩, hlen, va_Nw.use rfl (hN.1 _ (of_decide_eq_true w1.1))⟩, hts _ (ma_w_in w1.2), trivial⟩ hp rfl s2 hl.1 s1 hW8 hd hf
        all_goals cases w1
      · cases h
  · next x =>
    split at h
    · cases h
    · next q hq =>
      split at h
      · next b r hdr =>
        split at h
        · next hk =>
          cases h
          obtain ⟨k8, b1, b2, b3, b4⟩ := hk
          have hret : q.2.1.1 = 7 ∨ ret₉ = none := b4.imp id (fun z => by rw [hmd] at z; exact z)
          obtain ⟨w1, w2, w3, w4, w5, w6⟩ := ma_fd_spec hq
          obtain ⟨s1, s2⟩ := stk _ _ _ hdr
          obtain ⟨rc, cC, hat⟩ := recv b b1 b2 b3
          have hpv : PreV s H (ma_cn (mH S b).1) (ad b) (ma_Pc X D kA ad S (.inr (.inr (some b)) :: (st.take q.2.1.2.2).reverse) H.size) (ma_ts ad (st.take q.2.1.2.2).reverse) := ⟨ma_Pc_blind, rc, hpre⟩
          have hps : PreS s H (ma_Pc X D kA ad S (.inr (.inr (some b)) :: (st.take q.2.1.2.2).reverse) H.size) (.ref (ad b) :: ma_ts ad (st.take q.2.1.2.2).reverse) := ⟨ma_Pc_blind, hpre⟩
          unfold ma_clc at w1
          rw [hmd] at w1
          simp only [w2, w3, Bool.and_eq_true] at w1
          have hlen := lenOf (of_decide_eq_true w1.1)
          have w1 := w1.2
          split at w1
          all_goals first | omega | (rename_i hk9; omega) | skip
          · simp only [Bool.and_eq_true] at w1
            have hret : ret₉ = none := hret.resolve_left (by omega)
            subst hret
            exact va_runI ⟨hx, hb, hml, hown, hts⟩ hM ⟨⟨rfl, rfl, hfr, hlo, hws, hcode, hts _ m1, hts _ m2, ⟨m5, m6⟩, hlen, hts _ (ma_w_in w1.1.1)⟩, of_decide_eq_true w1.2, hts _ (ma_w_in w1.1.2)⟩ hps rfl s2 hl.1 s1 hW8 hd hf
          · simp only [Bool.and_eq_true] at w1
            exact va_runSU hat ⟨hx, hb, hml, hown, hts⟩ hM ⟨⟨rfl, rfl, hfr, hlo, hws, hcode⟩, hts _ (ma_w_in w1.1.1.1.1), hts _ (ma_w_in w1.1.1.1.2), hts _ (ma_w_in w1.1.1.2), hts _ (ma_w_in w1.1.2), hts _ m2, hts _ m1, of_decide_eq_true w1.2, hlen⟩ hpv rfl s2 hl.1 s1 hW8 hd hf
          · simp only [Bool.and_eq_true] at w1
            have hret : ret₉ = none := hret.resolve_left (by omega)
            subst hret
            exact va_runIN ⟨hx, hb, hml, hown, hts⟩ hM ⟨⟨⟨rfl, rfl, hfr, hlo, hws, hcode⟩, hts _ m1, hts _ m2, ⟨m5, m6⟩, hlen, va_Nw.use rfl (hN.1 _ (of_decide_eq_true w1.1.1))⟩, of_decide_eq_true w1.2, hts _ (ma_w_in w1.1.2)⟩ hps rfl s2 hl.1 s1 hW8 hd hf
          all_goals cases w1
        · cases h
      · cases h
  · cases h
end MA10

/-! from 65.run -/
/-! THE SMALL MACHINE, part 11: its run, and that the machine does as it says -/
def ma_run (X : Nat × (Nat → Int32)) : Nat → Nat → Nat → Nat → Nat → ma_L → List ma_V → ma_S → Option ((Option ma_V ⊕ (Nat × Nat)) × ma_S)
  | 0, _, _, _, _, _, _, _ => none
  | f + 1, d, w, M, pc, L, st, S => match ma_md M with
    | none => none
    | some (o, y, cc, nL, ret) => match decode cc pc with
      | .error _ => none
      | .ok (i, n) => match ma_one X o (decide (y.name = "<init>")) nL d w i n pc L st S with
        | some (pc₉, L₉, st₉, S₉) => ma_run X f d w M pc₉ L₉ st₉ S₉
        | none => match ma_ret ret i n st with
          | some v => some (.inl v, S)
          | none => match ma_thr o cc pc with
            | some x => if 6 ≤ d ∧ ma_sz st + 81 ≤ w then some (.inr (x, pc), ma_bump S) else none
            | none => match ma_cl o i n st S with
              | none => none
              | some ((k, M₉), as, rest) => match ma_md M₉ with
                | none => none
                | some (_, _, _, nL₉, _) => if 1 ≤ d ∧ 19 + nL₉ ≤ w ∧ ma_sz as ≤ nL₉ ∧ ma_sz rest ≤ 8 then (match ma_run X f (d - 1) (w - (19 + nL₉)) M₉ 0 (ma_args 0 as) [] S with
                  | some (.inl v, S₉) => ma_run X f d w M (pc + 3) L (v.toList ++ rest) S₉
                  | some (.inr (x, _), S₉) => if k ≤ 1 then some (.inr (x, pc), S₉) else none
                  | none => none) else none
theorem ma_nil_cL {n : Nat} : ma_cL n [] := fun _ h => by cases h
theorem ma_nil_cs {n : Nat} : ma_cs n [] := fun _ h => by cases h
theorem ma_opt_cs {n : Nat} {v : Option ma_V} {r : List ma_V} (h : ∀ u, v = some u → ma_cv n u) (hr : ma_cs n r) : ma_cs n (v.toList ++ r) := by
  cases v with
  | none => exact hr
  | some u => exact ma_cs_cons (h u rfl) hr
theorem ma_run_c {X : Nat × (Nat → Int32)} : ∀ (f d w M pc : Nat) (L : ma_L) (st : List ma_V) (S : ma_S) (out : Option ma_V ⊕ (Nat × Nat)) (S₉ : ma_S), ma_run X f d w M pc L st S = some (out, S₉) → ma_ch S → ma_cL (mN S) L → ma_cs (mN S) st →
    ma_ch S₉ ∧ mN S ≤ mN S₉ ∧ mC S ≤ mC S₉ ∧ mZ S ≤ mZ S₉ ∧ ∀ u, out = .inl (some u) → ma_cv (mN S₉) u := by
  intro f
  induction f with
  | zero => intro d w M pc L st S out S₉ h; cases h
  | succ f ih =>
    intro d w M pc L st S out S₉ h hh hL hc
    unfold ma_run at h
    split at h
    · cases h
    · split at h
      · cases h
      · split at h
        · next pc1 L1 st1 S1 h1 =>
          obtain ⟨a1, a2, a3, a4, a5, a6⟩ := ma_one_c hh hL hc h1
          obtain ⟨b1, b2, b3, b4, b5⟩ := ih _ _ _ _ _ _ _ _ _ h a1 a2 a3
          exact ⟨b1, by omega, by omega, by omega, b5⟩
        · split at h
          · next v hv =>
            cases h
            exact ⟨hh, Nat.le_refl _, Nat.le_refl _, Nat.le_refl _, fun u hu => ma_ret_cv hc hv u (Sum.inl.inj hu)⟩
          · split at h
            · split at h
              · cases h
                exact ⟨hh, Nat.le_refl _, Nat.le_succ _, Nat.le_add_right _ _, fun u hu => by cases hu⟩
              · cases h
            · split at h
              · cases h
              · next k M₉ as rest hcl =>
                obtain ⟨g1, g2, g3⟩ := ma_cl_c hc hcl
                split at h
                · cases h
                · split at h
                  · split at h
                    · next v S1 hr =>
                      obtain ⟨b1, b2, b3, b4, b5⟩ := ih _ _ _ _ _ _ _ _ _ hr hh (ma_args_cL as 0 g1) ma_nil_cs
                      obtain ⟨c1, c2, c3, c4, c5⟩ := ih _ _ _ _ _ _ _ _ _ h b1 (hL.mono b2) (ma_opt_cs (fun u hu => b5 u (by rw [hu])) (g2.mono b2))
                      exact ⟨c1, by omega, by omega, by omega, c5⟩
                    · next x px S1 hr =>
                      obtain ⟨b1, b2, b3, b4, b5⟩ := ih _ _ _ _ _ _ _ _ _ hr hh (ma_args_cL as 0 g1) ma_nil_cs
                      split at h
                      · cases h
                        exact ⟨b1, b2, b3, b4, fun u hu => by cases hu⟩
                      · cases h
                    · cases h
                  · cases h
/-- THE MACHINE FOLLOWS THE RUN: from any frame that stands for the run's, to where it answers or throws -/
def ma_OK (X : Nat × (Nat → Int32)) (l : Launch) (f : Nat) : Prop := ∀ (d w M pc : Nat) (L : ma_L) (st : List ma_V) (S : ma_S) (out : Option ma_V ⊕ (Nat × Nat)) (S₉ : ma_S), ma_run X f d w M pc L st S = some (out, S₉) →
  ∀ (o : Nat) (y : MethodName) (cc : ByteArray) (nL : Nat) (ret : Option FieldType), ma_md M = some (o, y, cc, nL, ret) →
  ∀ (p : Program) (e : Env) (R : Room) (s : State) (m : MethodId) (args : Array Value) (below : List Frame) (meth : Method) (c : Code) (H : Heap) (locs : List Loc) (cells slots : Nat) (Q : State → Prop) (ls : Array Slot) (ad : Nat → Nat) (kA : Nat → ClassId) (D : va_G) (A : Nat → Prop),
  ma_Cx X p R s m args meth c cc o (decide (y.name = "<init>")) nL d w D kA A → ma_Wd X s nL D kA A ad L st S H locs ls → cells + (mC S₉ - mC S) ≤ R.cells → slots + (mZ S₉ - mZ S) ≤ R.slots →
  (∀ v, out = .inl v → ∀ (ad₉ : Nat → Nat) (H1 : Heap) (locs1 : List Loc) (ls1 : Array Slot) (pc1 n1 : Nat) (i1 : Instr) (st1 : List ma_V), (∀ b, b < mN S → ad₉ b = ad b) → ma_Wd X s nL D kA A ad₉ [] st1 S₉ H1 locs1 ls1 → decode cc pc1 = .ok (i1, n1) → ma_ret ret i1 n1 st1 = some v → W p l e R s m args below meth c H1 locs1 (cells + (mC S₉ - mC S)) (slots + (mZ S₉ - mZ S)) Q (F0 m pc1 ls1 (ma_ts ad₉ st1))) →
  (∀ x px, out = .inr (x, px) → (∀ (ad₉ : Nat → Nat) (H1 : Heap) (locs1 : List Loc) (ls1 : Array Slot) (st1 : List ma_V) (S1 : ma_S), (∀ b, b < mN S → ad₉ b = ad b) → ma_Wd X s nL D kA A ad₉ [] st1 S1 H1 locs1 ls1 → S₉ = ma_bump S1 → mC S ≤ mC S1 → mZ S ≤ mZ S1 → ma_thr o cc px = some x → 6 ≤ d → ma_sz st1 + 81 ≤ w → W p l e R s m args below meth c H1 locs1 (cells + (mC S1 - mC S)) (slots + (mZ S1 - mZ S)) Q (F0 m px ls1 (ma_ts ad₉ st1))) ∧
    (∀ (ad₉ : Nat → Nat) (H1 : Heap) (locs1 : List Loc) (ls1 : Array Slot) (r1 : List ma_V) (q : Addr) (ce : Cell), (∀ b, b < mN S → ad₉ b = ad b) → ma_Wd X s nL D kA A ad₉ [] r1 S₉ H1 locs1 ls1 → H1[q]? = some ce → ce.vm = .none → s.vm.findClass (ma_xn x) = some ce.cls → vx_W p l e R s m args below meth c H1 locs1 (cells + (mC S₉ - mC S)) (slots + (mZ S₉ - mZ S)) Q (F0 m px ls1 (ma_ts ad₉ r1)) q)) →
  W p l e R s m args below meth c H locs cells slots Q (F0 m pc ls (ma_ts ad st))
section MA11
variable {X : Nat × (Nat → Int32)} {l : Launch} {f d w M o nL : Nat} {y : MethodName} {cc : ByteArray} {ret : Option FieldType} {as : List ma_V} {S S₉ : ma_S}
theorem ma_entry {p : Program} {e : Env} {s s₁ : State} {m : MethodId} {args : Array Value} {below : List Frame} {meth : Method} {c : Code} {rm : Room} {D : va_G} {kA : Nat → ClassId} {ad : Nat → Nat} {sz : Nat} (hmd : ma_md M = some (o, y, cc, nL, ret)) (hh : ma_ch S) (has : ma_cs (mN S) as) (hsz : ma_sz as ≤ nL)
    (B : BodyLoose p l y (headSpec (ma_ws y cc nL ret) rm) cc nL ret e s m args below meth c s₁) (hml : c.maxLocals = nL) (hv : ma_Pc X D kA ad S as sz args s) :
    ma_Cx X p rm s m args meth c cc o (decide (y.name = "<init>")) nL rm.frames rm.locals D kA (va_A (ma_wl kA ad S) sz) ∧ args = (ma_ts ad as).toArray ∧ s.heap.size = sz ∧
      ∃ ls : Array Slot, entryFrame m args nL = F0 m 0 ls [] ∧ ma_Wd X s nL D kA (va_A (ma_wl kA ad S) sz) ad (ma_args 0 as) [] S s.heap [] ls := by
  obtain ⟨rfl, rfl, hP, hK, hD0, hN, hX⟩ := hv
  obtain ⟨m1, m2, m3, m4, m5, m6⟩ := ma_md_spec hmd
  have hts := atoms_spec (ws := ma_ws y cc nL ret) B.pre
  have hown : s.vm.findClass y.cls = some m.cls := findClass_of_methodNamed B.named
  have hin : meth.name = y.name := (name_of_methodNamed B.named B.method).1
  have hl := lv_entry (ma_ts ad as) (n := nL) (by rw [ma_args_len]; exact hsz)
  refine ⟨⟨B.exec, B.bytes, hml, m3 ▸ hown, fun w hw => hts w (List.mem_cons_of_mem _ hw), hK, hN, fun h => hin.trans (of_decide_eq_true h), Nat.le_refl _, Nat.le_refl _, fun q h => Or.inr h⟩, rfl, rfl, _, lg_entry_eq m (ma_ts ad as) nL, ?_⟩
  rw [← ma_args_tl] at hl
  exact ⟨hl, hh, ma_args_cL as 0 has, ma_nil_cs, hP, hD0.self, va_S.rf, hX⟩
theorem ma_met (IH : ma_OK X l f) (hmd : ma_md M = some (o, y, cc, nL, ret)) (hh : ma_ch S) (has : ma_cs (mN S) as) (hsz : ma_sz as ≤ nL) {v : Option ma_V} (hrun : ma_run X f d w M 0 (ma_args 0 as) [] S = some (.inl v, S₉)) (D : va_G) (kA : Nat → ClassId) (ad : Nat → Nat) (sz : Nat) :
    Met l y (ma_ws y cc nL ret) (ma_rm d w (mC S₉ - mC S) (mZ S₉ - mZ S)) (ma_Pc X D kA ad S as sz) (ma_Qc D kA ad S S₉ v) (mC S₉ - mC S) (mZ S₉ - mZ S) (va_A (ma_wl kA ad S) sz) := by
  refine Met.ofW (cc := cc) (maxL := nL) (ret := ret) (ma_md_spec hmd).2.2.2.1 rfl ?_
  intro p e s m args below meth c s₁ B hml hv
  obtain ⟨C, ha, hz, ls, hfr, Wd⟩ := ma_entry hmd hh has hsz B hml hv
  rw [hfr]
  refine IH d w M 0 (ma_args 0 as) [] S (.inl v) S₉ hrun o y cc nL ret hmd p e _ s m args below meth c s.heap [] 0 0 _ ls ad kA D _ C Wd (by show 0 + _ ≤ mC S₉ - mC S; omega) (by show 0 + _ ≤ mZ S₉ - mZ S; omega) ?_ (fun x px h => by cases h)
  intro v1 hv1 ad₉ H1 locs1 ls1 pc1 n1 i1 st1 hag Wd1 hd1 hr1
  cases hv1
  obtain ⟨hl, hh1, hL1, hc1, hP1, hD1, hS1, hX1⟩ := Wd1
  rw [Nat.zero_add, Nat.zero_add]
  refine ma_ret_ok C.1 C.2.1 B.notSynchronized B.returns hd1 hr1 (fun t ht hW => ⟨ad₉, rfl, hag, by rw [ht]; exact hP1, ?_, ?_⟩) hS1.2.2
  · rw [hz]; exact hD1
  · rw [hz]; exact hS1.F ht
theorem ma_metx (IH : ma_OK X l f) (hlt : l.stackTraces = false) (hmd : ma_md M = some (o, y, cc, nL, ret)) (hh : ma_ch S) (has : ma_cs (mN S) as) (hsz : ma_sz as ≤ nL) {x px : Nat} (hrun : ma_run X f d w M 0 (ma_args 0 as) [] S = some (.inr (x, px), S₉)) (D : va_G) (kA : Nat → ClassId) (ad : Nat → Nat) (sz : Nat) :
    vx_Met l y (ma_ws y cc nL ret) (ma_rm d w (mC S₉ - mC S) (mZ S₉ - mZ S)) (ma_Pc X D kA ad S as sz) (fun _ _ _ _ => False) (ma_Qx D kA ad S S₉ (ma_xn x)) (mC S₉ - mC S) (mZ S₉ - mZ S) (va_A (ma_wl kA ad S) sz) := by
  refine vx_ofW (cc := cc) (maxL := nL) (ret := ret) (ma_md_spec hmd).2.2.2.1 rfl ?_
  intro p e s m args below meth c s₁ B hml htb hv
  obtain ⟨C, ha, hz, ls, hfr, Wd⟩ := ma_entry hmd hh has hsz B hml hv
  rw [hfr]
  have hcnt := ma_run_c _ _ _ _ _ _ _ _ _ _ hrun hh (ma_args_cL as 0 has) ma_nil_cs
  refine IH d w M 0 (ma_args 0 as) [] S (.inr (x, px)) S₉ hrun o y cc nL ret hmd p e _ s m args below meth c s.heap [] 0 0 _ ls ad kA D _ C Wd (by show 0 + _ ≤ mC S₉ - mC S; omega) (by show 0 + _ ≤ mZ S₉ - mZ S; omega) (fun v h => by cases h) ?_
  intro x1 px1 hx1
  cases hx1
  refine ⟨fun ad₉ H1 locs1 ls1 st1 S1 hag Wd1 hS₉ hm1 hm2 hth h6 hw => ?_, fun ad₉ H1 locs1 ls1 r1 q ce hag Wd1 hce hcv hcl => ?_⟩
  · obtain ⟨hl, hh1, hL1, hc1, hP1, hD1, hS1, hX1⟩ := Wd1
    subst hS₉
    have e1 : mC (ma_bump S1) = mC S1 + 1 := rfl
    have e2 : mZ (ma_bump S1) = mZ S1 + 6 := rfl
    refine ma_thr_ok C.1 C.2.1 hlt C.2.2.2.1 C.2.2.2.2.1 C.2.2.2.2.2.2.1 hX1.1.1 hX1.1.2 hS1 (hl.1.trans hml.symm) B.notSynchronized htb hth (by show 6 ≤ d; exact h6) (by rw [ma_sz_ts]; show _ ≤ w; exact hw) (by show _ ≤ mC (ma_bump S1) - mC S; omega) (by show _ ≤ mZ (ma_bump S1) - mZ S; omega) (fun t hvm hz1 hk1 => ?_) hS1.2.2 (by omega) (by omega)
    refine ⟨rfl, ad₉, hag, ?_, ?_, ?_⟩
    · exact va_P.kept hP1 (fun k q hk => hk1 q.1 (hP1 k q hk).lt)
    · rw [hz]; exact hD1
    · rw [hz]
      exact ⟨Nat.le_trans hS1.1 hz1, fun q h1 h2 => by rw [hk1 q (Nat.lt_of_lt_of_le h1 hS1.1)]; exact hS1.2.1 q h1 h2⟩
  · obtain ⟨hl, hh1, hL1, hc1, hP1, hD1, hS1, hX1⟩ := Wd1
    refine vx_out (fun x hx => (htb x hx).elim) B.notSynchronized hce hcv hcl (fun t ht hvm => ⟨rfl, ad₉, hag, by rw [ht]; exact hP1, ?_, ?_⟩) hS1.2.2 (by omega) (by omega)
    · rw [hz]; exact hD1
    · rw [hz]; exact hS1.F ht
end MA11

