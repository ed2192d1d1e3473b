/-! from 40.extra -/
/-! THE SMALL MACHINE, part 5: constants, class tests, rows of collectors; what the tables say beyond the good words -/
def ma_nw : List Cond := [.castable "java/lang/IndexOutOfBoundsException" "java/lang/IndexOutOfBoundsException", .castable "java/lang/IllegalArgumentException" "java/lang/IllegalArgumentException", .castable "java/lang/IllegalStateException" "java/lang/IllegalStateException", .castable "java/util/NoSuchElementException" "java/util/NoSuchElementException", .castable "java/lang/ClassCastException" "java/lang/ClassCastException", .castable "java/lang/UnsupportedOperationException" "java/lang/UnsupportedOperationException", .castable "CollectorHouse$Steps" "CollectorHouse$Steps", .castable "CollectorHouse$Counts" "CollectorHouse$Sweep", .castable "CollectorHouse$Steps" "CollectorHouse$Sweep", .castable "CollectorHouse$Sweep" "CollectorHouse$Sweep", .castable "CollectorHouse$Ages" "CollectorHouse$Collector", .castable "CollectorHouse$Counts" "CollectorHouse$Collector", .castable "CollectorHouse$Halves" "CollectorHouse$Collector", .castable "CollectorHouse$Regions" "CollectorHouse$Collector", .castable "CollectorHouse$Slide" "CollectorHouse$Collector", .castable "CollectorHouse$Steps" "CollectorHouse$Collector", .castable "CollectorHouse$Sweep" "CollectorHouse$Collector", .methodLinkNest "CollectorHouse" 25 ⟨"CollectorHouse$Store", "<init>", "()V"⟩ "CollectorHouse", .methodLinkNest "CollectorHouse$Store" 82 ⟨"CollectorHouse", "numberOf", "(LCollectorHouse$Thing;)I"⟩ "CollectorHouse", .declares ⟨"CollectorHouse$Collector", "open", "([I)V"⟩, .declares ⟨"CollectorHouse$Collector", "total", "()I"⟩, .declares ⟨"java/lang/RuntimeException", "<init>", "()V"⟩, .declares ⟨"java/lang/RuntimeException", "<init>", "(Ljava/lang/String;)V"⟩, .declares ⟨"java/lang/Exception", "<init>", "()V"⟩, .declares ⟨"java/lang/Exception", "<init>", "(Ljava/lang/String;)V"⟩, .declares ⟨"java/lang/Throwable", "<init>", "()V"⟩, .declares ⟨"java/lang/Throwable", "<init>", "(Ljava/lang/String;)V"⟩, .declares ⟨"CollectorHouse$Collector", "findRoom", "(I)I"⟩, .declares ⟨"CollectorHouse$Collector", "slideDown", "(I)I"⟩, .declares ⟨"CollectorHouse$Collector", "removeUnreached", "()I"⟩, .declares ⟨"CollectorHouse$Sweep", "fit", "(I)I"⟩, .declares ⟨"CollectorHouse$Collector", "noteMade", "(LCollectorHouse$Thing;)V"⟩, .declares ⟨"CollectorHouse$Collector", "cleanAll", "()I"⟩]
def ma_nc : List (String × String) := [("CollectorHouse$Ages", "CollectorHouse$Steps"), ("CollectorHouse$Ages", "CollectorHouse$Sweep"), ("CollectorHouse$Counts", "CollectorHouse$Steps"), ("CollectorHouse$Halves", "CollectorHouse$Steps"), ("CollectorHouse$Halves", "CollectorHouse$Sweep"), ("CollectorHouse$Regions", "CollectorHouse$Steps"), ("CollectorHouse$Regions", "CollectorHouse$Sweep"), ("CollectorHouse$Slide", "CollectorHouse$Steps"), ("CollectorHouse$Slide", "CollectorHouse$Sweep"), ("CollectorHouse$Sweep", "CollectorHouse$Steps"), ("java/lang/IndexOutOfBoundsException", "java/lang/IllegalArgumentException"), ("java/lang/IndexOutOfBoundsException", "java/lang/IllegalStateException"), ("java/lang/IndexOutOfBoundsException", "java/util/NoSuchElementException"), ("java/lang/IndexOutOfBoundsException", "java/lang/ClassCastException"), ("java/lang/IndexOutOfBoundsException", "java/lang/UnsupportedOperationException"), ("java/lang/IllegalArgumentException", "java/lang/IndexOutOfBoundsException"), ("java/lang/IllegalArgumentException", "java/lang/IllegalStateException"), ("java/lang/IllegalArgumentException", "java/util/NoSuchElementException"), ("java/lang/IllegalArgumentException", "java/lang/ClassCastException"), ("java/lang/IllegalArgumentException", "java/lang/UnsupportedOperationException"), ("java/lang/IllegalStateException", "java/lang/IndexOutOfBoundsException"), ("java/lang/IllegalStateException", "java/lang/IllegalArgumentException"), ("java/lang/IllegalStateException", "java/util/NoSuchElementException"), ("java/lang/IllegalStateException", "java/lang/ClassCastException"), ("java/lang/IllegalStateException", "java/lang/UnsupportedOperationException"), ("java/util/NoSuchElementException", "java/lang/IndexOutOfBoundsException"), ("java/util/NoSuchElementException", "java/lang/IllegalArgumentException"), ("java/util/NoSuchElementException", "java/lang/IllegalStateException"), ("java/util/NoSuchElementException", "java/lang/ClassCastException"), ("java/util/NoSuchElementException", "java/lang/UnsupportedOperationException"), ("java/lang/ClassCastException", "java/lang/IndexOutOfBoundsException"), ("java/lang/ClassCastException", "java/lang/IllegalArgumentException"), ("java/lang/ClassCastException", "java/lang/IllegalStateException"), ("java/lang/ClassCastException", "java/util/NoSuchElementException"), ("java/lang/ClassCastException", "java/lang/UnsupportedOperationException"), ("java/lang/UnsupportedOperationException", "java/lang/IndexOutOfBoundsException"), ("java/lang/UnsupportedOperationException", "java/lang/IllegalArgumentException"), ("java/lang/UnsupportedOperationException", "java/lang/IllegalStateException"), ("java/lang/UnsupportedOperationException", "java/util/NoSuchElementException"), ("java/lang/UnsupportedOperationException", "java/lang/ClassCastException")]
def ma_Nx (s : State) : Prop := (∀ w ∈ ma_nw, va_Nw w s) ∧ (va_AO RX9 s ∧ va_AO RX1 s) ∧ ∀ q ∈ ma_nc, va_Nc q.1 q.2 s
def ma_wf3 (w : Cond) : Bool := match w with
  | .castable _ _ => true
  | .methodLinkNest _ _ _ _ => true
  | .declares _ => true
  | _ => false
theorem ma_nw_f : ∀ w ∈ ma_nw, ma_wf3 w = true := List.all_eq_true.mp (by decide +kernel)
theorem ma_Nx.warm {s U : State} (hW : s.WarmedH U.vm) (h : ma_Nx s) : ma_Nx U := by
  refine ⟨fun w hw => ?_, ⟨va_AO.moved hW.alike h.2.1.1, va_AO.moved hW.alike h.2.1.2⟩, fun q hq => va_Nc.moved hW.alike (h.2.2 q hq)⟩
  have hf := ma_nw_f w hw
  have hz := h.1 w hw
  unfold ma_wf3 at hf
  split at hf
  · exact va_Nw.warmC hW hz
  · exact va_Nw.warmM hW hz
  · exact va_Nw.warmD hW hz
  · cases hf
theorem ma_Nx.calling {s : State} (g : JFrame) (mk : MethodId) (a : Array Value) (h : ma_Nx s) : ma_Nx (s.calling g mk a) := by
  refine ⟨fun w hw => ?_, ⟨va_AO.moved (Vm.Alike.refl s.vm) h.2.1.1, va_AO.moved (Vm.Alike.refl s.vm) h.2.1.2⟩, fun q hq => va_Nc.moved (Vm.Alike.refl s.vm) (h.2.2 q hq)⟩
  have hf := ma_nw_f w hw
  have hz := h.1 w hw
  unfold ma_wf3 at hf
  split at hf
  · exact va_Nw.same rfl rfl hz
  · exact va_Nw.same rfl rfl hz
  · exact va_Nw.same rfl rfl hz
  · cases hf
def ma_lch : List ((Nat × Nat × Int32) × Nat) := [((2, 32, 1000000), 1152), ((12, 55, 186000), 1513)]
theorem ma_lch_ok : ∀ q ∈ ma_lch, (decide (tables_1[q.2]? = some (.constant (ma_cn q.1.1) q.1.2.1 q.1.2.2)) && goodWord (.constant (ma_cn q.1.1) q.1.2.1 q.1.2.2)) = true := List.all_eq_true.mp (by decide +kernel)
def ma_lct (o i : Nat) : Option Int32 := (ma_lch.find? (fun q => q.1.1 == o && q.1.2.1 == i)).map (fun q => q.1.2.2)
theorem ma_lct_spec {o i : Nat} {v : Int32} (h : ma_lct o i = some v) : Cond.constant (ma_cn o) i v ∈ ma_TB := by
  unfold ma_lct at h
  cases hf : ma_lch.find? (fun q => q.1.1 == o && q.1.2.1 == i) with
  | none => rw [hf] at h; cases h
  | some q =>
    rw [hf] at h
    have hk : q.1.2.2 = v := Option.some.inj h
    have h1 := List.find?_some hf
    simp only [Bool.and_eq_true, beq_iff_eq] at h1
    have h2 := ma_lch_ok q (List.mem_of_find?_eq_some hf)
    rw [hk, h1.1, h1.2] at h2
    simp only [Bool.and_eq_true] at h2
    exact ma_TB_in h2.1 h2.2
def ma_l2h : List ((Nat × Nat × Int64) × Nat) := [((11, 117, -1), 1181)]
theorem ma_l2h_ok : ∀ q ∈ ma_l2h, (decide (tables_1[q.2]? = some (.constantLong (ma_cn q.1.1) q.1.2.1 q.1.2.2)) && goodWord (.constantLong (ma_cn q.1.1) q.1.2.1 q.1.2.2)) = true := List.all_eq_true.mp (by decide +kernel)
def ma_l2t (o i : Nat) : Option Int64 := (ma_l2h.find? (fun q => q.1.1 == o && q.1.2.1 == i)).map (fun q => q.1.2.2)
theorem ma_l2t_spec {o i : Nat} {v : Int64} (h : ma_l2t o i = some v) : Cond.constantLong (ma_cn o) i v ∈ ma_TB := by
  unfold ma_l2t at h
  cases hf : ma_l2h.find? (fun q => q.1.1 == o && q.1.2.1 == i) with
  | none => rw [hf] at h; cases h
  | some q =>
    rw [hf] at h
    have hk : q.1.2.2 = v := Option.some.inj h
    have h1 := List.find?_some hf
    simp only [Bool.and_eq_true, beq_iff_eq] at h1
    have h2 := ma_l2h_ok q (List.mem_of_find?_eq_some hf)
    rw [hk, h1.1, h1.2] at h2
    simp only [Bool.and_eq_true] at h2
    exact ma_TB_in h2.1 h2.2
/-- (own class, pool entry, class of the object), is it one?; the class named; the row -/
def ma_cth : List ((Nat × Nat × Nat × Bool) × String × Nat) := [((11, 41, 1, false), "CollectorHouse$Sweep", 136), ((11, 41, 2, true), "CollectorHouse$Sweep", 136), ((11, 41, 3, false), "CollectorHouse$Sweep", 136), ((11, 41, 4, false), "CollectorHouse$Sweep", 136), ((11, 41, 5, false), "CollectorHouse$Sweep", 136), ((11, 41, 6, true), "CollectorHouse$Sweep", 136), ((11, 41, 8, true), "CollectorHouse$Sweep", 136), ((11, 58, 1, false), "CollectorHouse$Steps", 267), ((11, 58, 2, false), "CollectorHouse$Steps", 267), ((11, 58, 3, false), "CollectorHouse$Steps", 267), ((11, 58, 4, false), "CollectorHouse$Steps", 267), ((11, 58, 5, false), "CollectorHouse$Steps", 267), ((11, 58, 6, true), "CollectorHouse$Steps", 267), ((11, 58, 8, false), "CollectorHouse$Steps", 267)]
def ma_ctc (q : (Nat × Nat × Nat × Bool) × String × Nat) : Bool := match vwCl[q.1.2.2.1]? with
  | some (C, _, _) => (decide (tables_1[q.2.2]? = some (.classLink (ma_cn q.1.1) q.1.2.1 q.2.1)) && goodWord (.classLink (ma_cn q.1.1) q.1.2.1 q.2.1)) && (if q.1.2.2.2 then decide (Cond.castable C q.2.1 ∈ ma_nw) else decide ((C, q.2.1) ∈ ma_nc))
  | none => false
theorem ma_cth_ok : ∀ q ∈ ma_cth, ma_ctc q = true := List.all_eq_true.mp (by decide +kernel)
def ma_ctt (o i t : Nat) : Option Bool := (ma_cth.find? (fun q => q.1.1 == o && q.1.2.1 == i && q.1.2.2.1 == t)).map (fun q => q.1.2.2.2)
theorem ma_ctt_spec {o i t : Nat} {b : Bool} {C : String} {T : u_T} {N : Nat} (h : ma_ctt o i t = some b) (hc : vwCl[t]? = some (C, T, N)) : ∃ nm : String, Cond.classLink (ma_cn o) i nm ∈ ma_TB ∧ (if b then Cond.castable C nm ∈ ma_nw else (C, nm) ∈ ma_nc) := by
  unfold ma_ctt at h
  cases hf : ma_cth.find? (fun q => q.1.1 == o && q.1.2.1 == i && q.1.2.2.1 == t) with
  | none => rw [hf] at h; cases h
  | some q =>
    rw [hf] at h
    have hk : q.1.2.2.2 = b := Option.some.inj h
    have h1 := List.find?_some hf
    simp only [Bool.and_eq_true, beq_iff_eq] at h1
    have h2 := ma_cth_ok q (List.mem_of_find?_eq_some hf)
    unfold ma_ctc at h2
    rw [h1.2, hc] at h2
    simp only [h1.1.1, h1.1.2, hk, Bool.and_eq_true] at h2
    refine ⟨q.2.1, ma_TB_in h2.1.1 h2.1.2, ?_⟩
    cases b with
    | true => exact of_decide_eq_true h2.2
    | false => exact of_decide_eq_true h2.2
/-- classes whose objects a row of collectors may hold -/
def ma_co (t : Nat) : Bool := match vwCl[t]? with
  | some (C, _, _) => decide (Cond.castable C RX1 ∈ ma_nw)
  | none => false
def ma_ex (o : Nat) (i : Instr) (n : Nat) (st : List ma_V) (S : ma_S) : Option (List ma_V × ma_S) := match i, n, st with
  | .ldc x, 2, r => (ma_lct o x).map (fun v => (.inl v :: r, S))
  | .ldc2_w x, 3, r => (ma_l2t o x).map (fun v => (.inr (.inl v) :: r, S))
  | .instanceof x, 3, .inr (.inr none) :: r => some (.inl 0 :: r, S)
  | .instanceof x, 3, .inr (.inr (some c)) :: r => if ma_is S c && decide (1 ≤ (mH S c).1) && decide ((mH S c).1 ≤ 12) then (ma_ctt o x (mH S c).1).map (fun b => (.inl (if b then 1 else 0) :: r, S)) else none
  | .checkcast x, 3, .inr (.inr none) :: r => some (.inr (.inr none) :: r, S)
  | .checkcast x, 3, .inr (.inr (some c)) :: r => if ma_is S c && decide (1 ≤ (mH S c).1) && decide ((mH S c).1 ≤ 12) && decide (ma_ctt o x (mH S c).1 = some true) then some (.inr (.inr (some c)) :: r, S) else none
  | .aastore, 1, .inr (.inr (some b)) :: .inl j :: .inr (.inr (some c)) :: r => if ma_is S c && decide ((mH S c).1 = 25) && ma_ix S c j && ma_is S b && decide (1 ≤ (mH S b).1) && decide ((mH S b).1 ≤ 12) && ma_co (mH S b).1 then some (r, ma_put S c j.toNatClampNeg (.inr (.inr (some b)))) else none
  | _, _, _ => none
theorem ma_ex_c {o n : Nat} {i : Instr} {st st₉ : List ma_V} {S S₉ : ma_S} (hh : ma_ch S) (hc : ma_cs (mN S) st) (h : ma_ex o i n st S = some (st₉, S₉)) : ma_ch S₉ ∧ ma_cs (mN S₉) st₉ ∧ mN S₉ = mN S ∧ mC S₉ = mC S ∧ mZ S₉ = mZ S := by
  have mapv : ∀ {α : Type} {x : Option α} {f : α → List ma_V}, x.map (fun v => (f v, S)) = some (st₉, S₉) → (∀ v, ma_cs (mN S) (f v)) → ma_ch S₉ ∧ ma_cs (mN S₉) st₉ ∧ mN S₉ = mN S ∧ mC S₉ = mC S ∧ mZ S₉ = mZ S := by
    intro α x f hx hf
    cases x with
    | none => cases hx
    | some v => cases hx; exact ⟨hh, hf v, rfl, rfl, rfl⟩
  unfold ma_ex at h
  split at h
  · exact mapv h (fun v => ma_cs_cons ma_cv_i hc)
  · exact mapv h (fun v => ma_cs_cons ma_cv_l hc)
  · cases h; exact ⟨hh, ma_cs_cons ma_cv_i (ma_cs_tl hc), rfl, rfl, rfl⟩
  · split at h
    · exact mapv h (fun v => ma_cs_cons ma_cv_i (ma_cs_tl hc))
    · cases h
  · cases h; exact ⟨hh, hc, rfl, rfl, rfl⟩
  · split at h
    · cases h; exact ⟨hh, hc, rfl, rfl, rfl⟩
    · cases h
  · split at h
    · cases h
      exact ⟨ma_put_ch hh (ma_cs_hd hc), ma_cs_tl (ma_cs_tl (ma_cs_tl hc)), rfl, rfl, rfl⟩
    · cases h
  · cases h
section MA5
variable {p : Program} {l : Launch} {e : Env} {R : Room} {s : State} {m : MethodId} {args : Array Value} {below : List Frame} {meth : Method} {c : Code} {H H0 : Heap} {locs : List Loc} {cells slots : Nat} {Q : State → Prop} {cc : ByteArray} {pc : Nat} {ls : Array Slot} {ad : Nat → Nat} {kA : Nat → ClassId} {D : va_G} {A : Nat → Prop}
theorem ma_ex_ok (hx : p.tables.exec = Jvm.exec) (hb : c.code = cc) {o n : Nat} {i : Instr} {st st₉ : List ma_V} {S S₉ : ma_S} (hown : s.vm.findClass (ma_cn o) = some m.cls) (hts : ∀ w ∈ ma_TB, w.before args s = true) (hK : va_K D vwCl (ma_tys kA) s) (hN : ma_Nx s)
    (hP : va_P D vwCl (ma_wl kA ad S) H) (hD : va_D A (ma_wl kA ad S)) (hS : va_S A H0 H locs) (hd : decode cc pc = .ok (i, n)) (h : ma_ex o i n st S = some (st₉, S₉))
    (k : ∀ (H1 : Heap) (locs1 : List Loc), va_P D vwCl (ma_wl kA ad S₉) H1 → va_D A (ma_wl kA ad S₉) → va_S A H0 H1 locs1 → W p l e R s m args below meth c H1 locs1 cells slots Q (F0 m (pc + n) ls (ma_ts ad st₉))) : W p l e R s m args below meth c H locs cells slots Q (F0 m pc ls (ma_ts ad st)) := by
  have is2 : ∀ {c : Nat}, ma_is S c = true → 64 ≤ c ∧ c < mN S := fun hh => by simpa [ma_is] using hh
  unfold ma_ex at h
  split at h
  · next r x =>
    cases hf : ma_lct o x with
    | none => rw [hf] at h; cases h
    | some v => rw [hf] at h; cases h; exact lv_ldc hx hb hown (hts _ (ma_lct_spec hf)) hd (k H locs hP hD hS)
  · next r x =>
    cases hf : ma_l2t o x with
    | none => rw [hf] at h; cases h
    | some v => rw [hf] at h; cases h; exact lv_ldc2 hx hb hown (hts _ (ma_l2t_spec hf)) hd (k H locs hP hD hS)
  · cases h; exact lv_instN hx hb hd (k H locs hP hD hS)
  · next x cx r =>
    split at h
    · next hc =>
      simp only [Bool.and_eq_true, decide_eq_true_eq] at hc
      obtain ⟨⟨hi, t1⟩, t2⟩ := hc
      obtain ⟨i1, i2⟩ := is2 hi
      obtain ⟨C, T, hcl, hw, hty, hnm⟩ := ma_clok_all t1 t2
      cases hf : ma_ctt o x (mH S cx).1 with
      | none => rw [hf] at h; cases h
      | some b =>
        rw [hf] at h
        cases h
        obtain ⟨nm, w1, w2⟩ := ma_ctt_spec hf hcl
        have hr := va_recv (a := ad cx) (fs := ma_fs ad S cx (mH S cx).1) hK hP hcl ((ma_wl_at i1 i2).trans (by rw [ma_E_obj (by omega)]))
        cases b with
        | true => exact va_instY hx hb hown (hts _ w1) (hN.1 _ w2) hr hd (k H locs hP hD hS)
        | false => exact va_instNo hx hb hown (hts _ w1) (hN.2.2 _ w2) hr hd (k H locs hP hD hS)
    · cases h
  · cases h; exact lv_castN hx hb hd (k H locs hP hD hS)
  · next x cx r =>
    split at h
    · next hc =>
      simp only [Bool.and_eq_true, decide_eq_true_eq] at hc
      obtain ⟨⟨⟨hi, t1⟩, t2⟩, hf⟩ := hc
      obtain ⟨i1, i2⟩ := is2 hi
      obtain ⟨C, T, hcl, hw, hty, hnm⟩ := ma_clok_all t1 t2
      cases h
      obtain ⟨nm, w1, w2⟩ := ma_ctt_spec hf hcl
      exact va_castY hx hb hown (hts _ w1) (hN.1 _ w2) (va_recv (a := ad cx) (fs := ma_fs ad S cx (mH S cx).1) hK hP hcl ((ma_wl_at i1 i2).trans (by rw [ma_E_obj (by omega)]))) hd (k H locs hP hD hS)
    · cases h
  · next bx j cx r =>
    split at h
    · next hc =>
      simp only [Bool.and_eq_true, decide_eq_true_eq] at hc
      obtain ⟨⟨⟨⟨⟨⟨hi, t1⟩, t2⟩, hv⟩, v3⟩, v4⟩, v5⟩ := hc
      obtain ⟨i1, i2⟩ := is2 hi
      obtain ⟨v1, v2⟩ := is2 hv
      obtain ⟨C, T, hcl, hw, hty, hnm⟩ := ma_clok_all v3 v4
      have hca : Cond.castable C RX1 ∈ ma_nw := by
        unfold ma_co at v5
        rw [hcl] at v5
        exact of_decide_eq_true v5
      cases h
      have hset : (ma_wl kA ad S).set (cx - 64) (ad cx, .inl (kA 25, (mH S cx).2, .inr (.inr (.inr (.inr (va_up (fun j => (mR S cx j).map ad) j.toNatClampNeg (some (ad bx)))))))) = ma_wl kA ad (ma_put S cx j.toNatClampNeg (.inr (.inr (some bx)))) := by
        refine ma_wl_set i1 i2 rfl ?_ (fun c₉ hc₉ => ma_put_o hc₉)
        rw [ma_E_ref (S := ma_put S cx j.toNatClampNeg (.inr (.inr (some bx)))) (t := 25) t1 (by omega)]
        show Sum.inl (kA 25, (mH S cx).2, Sum.inr (Sum.inr (Sum.inr (Sum.inr (fun i => (ma_u (mR S) cx j.toNatClampNeg (some bx) cx i).map ad))))) = _
        rw [ma_u_eq]
        have : (fun i => (va_up (mR S cx) j.toNatClampNeg (some bx) i).map ad) = va_up (fun j => (mR S cx j).map ad) j.toNatClampNeg (some (ad bx)) := by
          funext i; unfold va_up; split <;> rfl
        rw [this]
      exact va_astqO (r := (C, T, ma_fn (mH S bx).1)) hx hb hK hP hD hS (cx - 64) 5 (bx - 64) (mH S bx).1 ((ma_wl_at i1 i2).trans (by rw [ma_E_ref t1 (by omega)])) rfl (hN.1 _ hca) ((ma_wl_at v1 v2).trans (by rw [ma_E_obj (by omega)])) hcl (ma_ix_in t2) hd (fun H1 locs1 a1 a2 a3 => k H1 locs1 (hset ▸ a1) (hset ▸ a2) a3)
    · cases h
  · cases h
end MA5

