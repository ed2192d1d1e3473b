/-! THE SMALL MACHINE, part 8: a new exception that is thrown at once; answers -/
def ma_xn (e : Nat) : String := match e with
  | 1 => "java/lang/IndexOutOfBoundsException"
  | 2 => "java/lang/IllegalArgumentException"
  | 3 => "java/lang/IllegalStateException"
  | 4 => "java/util/NoSuchElementException"
  | 5 => "java/lang/ClassCastException"
  | 6 => "java/lang/UnsupportedOperationException"
  | _ => ""
def ma_xs : List String := ["java/lang/RuntimeException", "java/lang/Exception"]
/-- pool entries of the class and of its constructor, in the outer class (11), to the exception's number -/
def ma_xh : List ((Nat × Nat × Nat × Nat) × Nat × Nat) := [((11, 72, 74, 1), 530, 16), ((11, 79, 81, 2), 608, 17), ((11, 85, 87, 3), 631, 18), ((11, 364, 366, 4), 1198, 27), ((11, 135, 137, 5), 1215, 28), ((11, 192, 194, 6), 1323, 29)]
def ma_xc (q : (Nat × Nat × Nat × Nat) × Nat × Nat) : Bool :=
  ma_w q.2.1 (.classLink (ma_cn q.1.1) q.1.2.1 (ma_xn q.1.2.2.2)) && ma_w q.2.2 (.initialized (ma_xn q.1.2.2.2)) && Bundle.fit (ma_xn q.1.2.2.2) &&
  (vx_at0 (ma_cn q.1.1) q.1.2.2.1 (ma_xn q.1.2.2.2) ma_xs).all (fun w => ((decide (w ∈ tables_1) && goodWord w) || (decide (w ∈ ma_nw) && w.onTables)) && vx_ot w)
set_option maxRecDepth 20000 in
theorem ma_xh_ok : ∀ q ∈ ma_xh, ma_xc q = true := List.all_eq_true.mp (by decide +kernel)
theorem ma_xs_fit : ∀ n ∈ ma_xs, Bundle.fit n = true := by decide +kernel
def ma_xt (o ik ic : Nat) : Option Nat := (ma_xh.find? (fun q => q.1.1 == o && q.1.2.1 == ik && q.1.2.2.1 == ic)).map (fun q => q.1.2.2.2)
theorem ma_xt_spec {o ik ic x : Nat} (h : ma_xt o ik ic = some x) : Cond.classLink (ma_cn o) ik (ma_xn x) ∈ ma_TB ∧ Cond.initialized (ma_xn x) ∈ ma_TB ∧ Bundle.fit (ma_xn x) = true ∧ ∀ w ∈ vx_at0 (ma_cn o) ic (ma_xn x) ma_xs, (w ∈ ma_TB ∨ (w ∈ ma_nw ∧ w.onTables = true)) ∧ vx_ot w = true := by
  unfold ma_xt at h
  cases hf : ma_xh.find? (fun q => q.1.1 == o && q.1.2.1 == ik && q.1.2.2.1 == ic) with
  | none => rw [hf] at h; cases h
  | some q =>
    rw [hf] at h
    have hk : q.1.2.2.2 = x := Option.some.inj h
    have h1 := List.find?_some hf
    simp only [Bool.and_eq_true, beq_iff_eq] at h1
    have h2 := ma_xh_ok q (List.mem_of_find?_eq_some hf)
    unfold ma_xc at h2
    rw [hk, h1.1.1, h1.1.2, h1.2] at h2
    simp only [Bool.and_eq_true] at h2
    refine ⟨ma_w_in h2.1.1.1, ma_w_in h2.1.1.2, h2.1.2, fun w hw => ?_⟩
    have h3 := List.all_eq_true.mp h2.2 w hw
    simp only [Bool.and_eq_true, Bool.or_eq_true, decide_eq_true_eq] at h3
    refine ⟨h3.1.imp (fun z => List.mem_filter.mpr ⟨List.mem_append_right _ (List.mem_append_right _ z.1), z.2⟩) (fun z => z), h3.2⟩
/-- new, dup, its constructor, athrow: which exception -/
def ma_thr (o : Nat) (cc : ByteArray) (pc : Nat) : Option Nat := match decode cc pc, decode cc (pc + 3), decode cc (pc + 4), decode cc (pc + 7) with
  | .ok (.new ik, 3), .ok (.dup, 1), .ok (.invokespecial ic, 3), .ok (.athrow, 1) => ma_xt o ik ic
  | _, _, _, _ => none
def ma_bump (S : ma_S) : ma_S := (S.1, S.2.1 + 1, S.2.2.1 + 6, S.2.2.2)
theorem ma_bump_wl (kA : Nat → ClassId) (ad : Nat → Nat) (S : ma_S) : ma_wl kA ad (ma_bump S) = ma_wl kA ad S := rfl
def ma_ret (ret : Option FieldType) (i : Instr) (n : Nat) (st : List ma_V) : Option (Option ma_V) := match i, n, st with
  | .ireturn, 1, [.inl x] => match ret with
    | some ty => if narrow ty (.int x) = .int x then some (some (.inl x)) else none
    | none => none
  | .areturn, 1, [.inr (.inr r)] => match ret with
    | some (.object _) => some (some (.inr (.inr r)))
    | some (.array _) => some (some (.inr (.inr r)))
    | _ => none
  | .return_, 1, [] => match ret with
    | none => some none
    | some _ => none
  | _, _, _ => none
section MA8
variable {p : Program} {l : Launch} {e : Env} {R : Room} {s : State} {m : MethodId} {args : Array Value} {below : List Frame} {meth : Method} {c : Code} {H : Heap} {locs : List Loc} {cells slots : Nat} {cc : ByteArray} {pc : Nat} {ls : Array Slot} {ad : Nat → Nat} {free : Addr → Prop} {Qc : Array Value → State → Outcome → State → Prop}
theorem ma_ret_ok (hx : p.tables.exec = Jvm.exec) (hb : c.code = cc) (hlocks : meth.locks = false) {ret : Option FieldType} (hr : meth.sig.returnType = ret) {i : Instr} {n : Nat} {st : List ma_V} {v : Option ma_V} (hd : decode cc pc = .ok (i, n)) (h : ma_ret ret i n st = some v)
    (hq : ∀ t : State, t.heap = H → s.WarmedH t.vm → Qc args s (.returned (v.map (ma_tv ad))) t) (hf : ∀ q ∈ locs, free q.base) : W p l e R s m args below meth c H locs cells slots (MQ below Qc args s cells slots free) (F0 m pc ls (ma_ts ad st)) := by
  unfold ma_ret at h
  split at h
  · split at h
    · next ty =>
      split at h
      · next hn =>
        cases h
        exact W.zret hx hb hr hn hq hf hd hlocks
      · cases h
    · cases h
  · next r =>
    have hv : ma_tv ad (.inr (.inr r)) = .null ∨ ∃ a, ma_tv ad (.inr (.inr r)) = .ref a := by
      cases r with
      | none => exact Or.inl rfl
      | some b => exact Or.inr ⟨_, rfl⟩
    split at h
    · cases h; exact W.aret hx hb hr (Or.inl ⟨_, rfl⟩) hv hq hf hd hlocks
    · cases h; exact W.aret hx hb hr (Or.inr ⟨_, rfl⟩) hv hq hf hd hlocks
    · cases h
  · split at h
    · cases h; exact W.vret hx hb hr hq hf hd hlocks
    · cases h
  · cases h
theorem ma_ret_cv {N n : Nat} {ret : Option FieldType} {i : Instr} {st : List ma_V} {v : Option ma_V} (hc : ma_cs N st) (h : ma_ret ret i n st = some v) : ∀ u, v = some u → ma_cv N u := by
  unfold ma_ret at h
  split at h
  · split at h
    · split at h
      · cases h; intro u hu; cases hu; exact ma_cv_i
      · cases h
    · cases h
  · split at h
    · cases h; intro u hu; cases hu; exact ma_cs_hd hc
    · cases h; intro u hu; cases hu; exact ma_cs_hd hc
    · cases h
  · split at h
    · cases h; intro u hu; cases hu
    · cases h
  · cases h
/-- it is thrown, and leaves -/
theorem ma_thr_ok (hx : p.tables.exec = Jvm.exec) (hb : c.code = cc) (hlt : l.stackTraces = false) {o x : Nat} {A : Nat → Prop} {XC : String → State → State → Prop} {mc ms : Nat} {rest : List Value} (hown : s.vm.findClass (ma_cn o) = some m.cls) (hts : ∀ w ∈ ma_TB, w.before args s = true) (hN : ma_Nx s)
    (hU : vx_Zq Bundle.tN "UNASSIGNED_STACK" Bundle.steD A s s.heap) (hZ : vx_Zq Bundle.tN "SUPPRESSED_SENTINEL" Bundle.listD A s s.heap) (hS : va_S A s.heap H locs) (hsize : ls.size = c.maxLocals) (hlocks : meth.locks = false) (hout : ∀ x ∈ c.exceptionTable.toList, False) (h : ma_thr o cc pc = some x)
    (hR1 : 6 ≤ R.frames) (hR2 : (rest.map fun v => v.category).sum + 81 ≤ R.locals) (hR3 : cells + 1 ≤ R.cells) (hR4 : slots + 6 ≤ R.slots)
    (hxc : ∀ t : State, s.vm.Alike t.vm → H.size ≤ t.heap.size → (∀ q : Nat, q < H.size → t.heap[q]? = H[q]?) → XC (ma_xn x) s t) (hf : ∀ z ∈ locs, free z.base) (hc : cells + 1 ≤ mc) (hs : slots + 6 ≤ ms) :
    W p l e R s m args below meth c H locs cells slots (vx_MQ below Qc XC args s mc ms free) (F0 m pc ls rest) := by
  unfold ma_thr at h
  split at h
  · next ik ic d0 d3 d4 d7 =>
    obtain ⟨w1, w2, w3, w4⟩ := ma_xt_spec h
    have hw : ∀ w ∈ vx_at0 (ma_cn o) ic (ma_xn x) ma_xs, w.before args s = true := by
      intro w hw
      rcases (w4 w hw).1 with g | ⟨g1, g2⟩
      · exact hts w g
      · exact va_Nw.use g2 (hN.1 w g1)
    refine vx_throw0 hx hb hlt hown w3 ma_xs_fit (hts _ w1) (hts _ w2) hw (fun w hw => ?_) hU hZ hS hsize d0 d3 d4 d7 (fun x hx => (hout x hx).elim) (by show 2 + 3 < R.frames; omega) (by show _ + (13 * (2 + 1) + 42) ≤ R.locals; omega) hR3 hR4 hlocks hxc hf hc hs
    rcases List.mem_cons.mp hw with e1 | hw
    · rw [e1]; rfl
    · rcases List.mem_cons.mp hw with e1 | hw
      · rw [e1]; rfl
      · exact (w4 w hw).2
  · cases h
end MA8
