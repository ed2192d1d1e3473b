/-! THE SMALL MACHINE, part 6b: constant texts, as the library's own methods read them -/
def ma_txi (o i : Nat) : Option Nat := if o = 11 then (ma_txr.find? (fun q => q.2.1 == i)).map (fun q => q.2.2.2) else none
theorem ma_txr_own : ∀ q ∈ ma_txr, q.1 = "CollectorHouse" ∧ q.2.2.2 < 19 := by decide +kernel
theorem ma_tw0 : Cond.fieldLink "java/lang/String" 9 "java/lang/String" "value" "[B" ∈ ma_TB := ma_T10 (i := 14) (by decide +kernel) (by decide +kernel)
theorem ma_tw1 : Cond.fieldLink "java/lang/String" 15 "java/lang/String" "coder" "B" ∈ ma_TB := ma_T10 (i := 15) (by decide +kernel) (by decide +kernel)
theorem ma_tw2 : Cond.fieldLink "java/lang/String" 38 "java/lang/String" "COMPACT_STRINGS" "Z" ∈ ma_TB := ma_T2 (i := 149) (by decide +kernel) (by decide +kernel)
theorem ma_tw3 : Cond.fieldLink "java/lang/String" 1053 "jdk/internal/util/Preconditions" "SIOOBE_FORMATTER" "Ljava/util/function/BiFunction;" ∈ ma_TB := ma_T2 (i := 165) (by decide +kernel) (by decide +kernel)
def ma_tx (X : Nat × (Nat → Int32)) (o : Nat) (i : Instr) (n : Nat) (st : List ma_V) : Option (List ma_V) := match i, n, st with
  | .ldc_w x, 3, r => (ma_txi o x).map (fun t => .inr (.inr (some t)) :: r)
  | .getfield x, 3, .inr (.inr (some c)) :: r => if o = 17 ∧ c < 19 then (if x = 9 then some (.inr (.inr (some (32 + c))) :: r) else if x = 15 then some (.inl 0 :: r) else none) else none
  | .getstatic x, 3, r => if o = 17 ∧ x = 38 then some (.inl 1 :: r) else if o = 17 ∧ x = 1053 then some (.inr (.inr (ma_fm X)) :: r) else none
  | .arraylength, 1, .inr (.inr (some c)) :: r => if 32 ≤ c ∧ c < 32 + 19 then some (.inl (Int32.ofNat (ma_txl.getD (c - 32) 0)) :: r) else none
  | .baload, 1, .inl j :: .inr (.inr (some c)) :: r => if 32 ≤ c ∧ c < 32 + 19 ∧ 0 ≤ j ∧ j.toNatClampNeg < ma_txl.getD (c - 32) 0 then some (.inl ((ma_txb.getD (c - 32) []).getD j.toNatClampNeg 0) :: r) else none
  | _, _, _ => none
theorem ma_tx_cs {X : Nat × (Nat → Int32)} {N o n : Nat} {i : Instr} {st st' : List ma_V} (hN : 64 ≤ N) (hc : ma_cs N st) (h : ma_tx X o i n st = some st') : ma_cs N st' := by
  unfold ma_tx at h
  split at h
  · next r x =>
    cases ht : ma_txi o x with
    | none => rw [ht] at h; cases h
    | some t =>
      rw [ht] at h
      cases h
      unfold ma_txi at ht
      split at ht
      · cases hf : ma_txr.find? (fun q => q.2.1 == x) with
        | none => rw [hf] at ht; cases ht
        | some q =>
          rw [hf] at ht
          have hk : q.2.2.2 = t := Option.some.inj ht
          have := (ma_txr_own q (List.mem_of_find?_eq_some hf)).2
          exact ma_cs_cons (fun b hb => by cases hb; omega) hc
      · cases ht
  · split at h
    · next hcc =>
      split at h
      · cases h; exact ma_cs_cons (fun b hb => by cases hb; omega) (ma_cs_tl hc)
      · split at h
        · cases h; exact ma_cs_cons ma_cv_i (ma_cs_tl hc)
        · cases h
    · cases h
  · split at h
    · cases h; exact ma_cs_cons ma_cv_i hc
    · split at h
      · cases h
        refine ma_cs_cons (fun b hb => ?_) hc
        have hb : ma_fm X = some b := Sum.inr.inj (Sum.inr.inj hb)
        unfold ma_fm at hb
        split at hb
        · cases hb
        · cases hb; omega
      · cases h
  · split at h
    · cases h; exact ma_cs_cons ma_cv_i (ma_cs_tl hc)
    · cases h
  · split at h
    · cases h; exact ma_cs_cons ma_cv_i (ma_cs_tl (ma_cs_tl hc))
    · cases h
  · cases h
section MA6b
variable {p : Program} {l : Launch} {e : Env} {R : Room} {s : State} {m : MethodId} {args : Array Value} {below : List Frame} {meth : Method} {c : Code} {H : Heap} {locs : List Loc} {cells slots : Nat} {Q : State → Prop} {cc : ByteArray} {pc : Nat} {ls : Array Slot} {ad : Nat → Nat} {A : Nat → Prop}
theorem ma_tx_ok (hx : p.tables.exec = Jvm.exec) (hb : c.code = cc) {X : Nat × (Nat → Int32)} {o n : Nat} {i : Instr} {st st' : List ma_V} (hown : s.vm.findClass (ma_cn o) = some m.cls) (hts : ∀ w ∈ ma_TB, w.before args s = true)
    (hT : vk_S 19 ma_txl ma_txb ad (fun i => ad (32 + i)) A s s.heap ∧ (∀ q ∈ ma_txr, vk_R q.1 q.2.1 q.2.2.1 (ad q.2.2.2) s) ∧ va_Z "java/lang/String" "COMPACT_STRINGS" "Z" (.int 1) A s s.heap ∧ va_Z "jdk/internal/util/Preconditions" "SIOOBE_FORMATTER" "Ljava/util/function/BiFunction;" (va_rf ((ma_fm X).map ad)) A s s.heap) (hS : va_S A s.heap H locs) (hd : decode cc pc = .ok (i, n)) (h : ma_tx X o i n st = some st')
    (k : W p l e R s m args below meth c H locs cells slots Q (F0 m (pc + n) ls (ma_ts ad st'))) : W p l e R s m args below meth c H locs cells slots Q (F0 m pc ls (ma_ts ad st)) := by
  obtain ⟨hT1, hT2, hT3, hT4⟩ := hT
  unfold ma_tx at h
  split at h
  · next r x =>
    cases ht : ma_txi o x with
    | none => rw [ht] at h; cases h
    | some t =>
      rw [ht] at h
      cases h
      unfold ma_txi at ht
      split at ht
      · next ho =>
        cases hf : ma_txr.find? (fun q => q.2.1 == x) with
        | none => rw [hf] at ht; cases ht
        | some q =>
          rw [hf] at ht
          have hk : q.2.2.2 = t := Option.some.inj ht
          have hq := List.mem_of_find?_eq_some hf
          have hxi : q.2.1 = x := by have := List.find?_some hf; simpa using this
          have hR := hT2 q hq
          rw [(ma_txr_own q hq).1, hxi, hk] at hR
          subst ho
          intro T hTh X'
          obtain ⟨t2, a1, b1⟩ := k T hTh X'
          exact ⟨t2, Jvm.RoadKit.ldcWS X' hx (own := "CollectorHouse") hown (text := q.2.2.1) (a := ad t) hR.1 hR.2 (g := F0 m pc ls (ma_ts ad st)) rfl (by rw [hb]; exact hd) t2 a1, b1⟩
      · cases ht
  · next x cx r =>
    split at h
    · next hcc =>
      obtain ⟨ho, hcx⟩ := hcc
      subst ho
      obtain ⟨g1, g2, g3, g4⟩ := hT1.1 cx hcx
      split at h
      · next hxx =>
        subst hxx
        cases h
        exact vk_getf hx hb g3 hS hown (hts _ ma_tw0) (fun _ z => z) hd k
      · split at h
        · next hxx =>
          subst hxx
          cases h
          exact vk_getf hx hb g2 hS hown (hts _ ma_tw1) (fun _ z => z) hd k
        · cases h
    · cases h
  · next r x =>
    split at h
    · next hcc =>
      obtain ⟨ho, hxx⟩ := hcc
      subst ho
      subst hxx
      cases h
      exact va_gets hx hb hT3 hS hown (hts _ ma_tw2) (fun _ z => z) hd k
    · split at h
      · next hcc =>
        obtain ⟨ho, hxx⟩ := hcc
        subst ho
        subst hxx
        cases h
        exact va_gets hx hb hT4 hS hown (hts _ ma_tw3) (fun _ z => z) hd k
      · cases h
  · next cx r =>
    split at h
    · next hcc =>
      cases h
      obtain ⟨g1, g2, g3, g4⟩ := hT1.1 (cx - 32) (by omega)
      have e1 : 32 + (cx - 32) = cx := by omega
      simp only [e1] at g4
      exact va_tlen hx hb g4 hS rfl hd k
    · cases h
  · next j cx r =>
    split at h
    · next hcc =>
      cases h
      obtain ⟨g1, g2, g3, g4⟩ := hT1.1 (cx - 32) (by omega)
      have e1 : 32 + (cx - 32) = cx := by omega
      simp only [e1] at g4
      exact va_tb hx hb g4 hS (fun q => by rcases q with q | q; exact absurd hcc.2.2.1 (Int32.not_le.mpr q); omega) rfl hd k
    · cases h
  · cases h
end MA6b
