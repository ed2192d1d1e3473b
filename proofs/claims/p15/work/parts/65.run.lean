/-! THE SMALL MACHINE, part 11: its run, and that the machine does as it says -/
def ma_run (X : Nat × (Nat → Int32)) : Nat → Nat → Nat → Nat → Nat → ma_L → List ma_V → ma_S → Option ((Option ma_V ⊕ (Nat × Nat)) × ma_S)
  | 0, _, _, _, _, _, _, _ => none
  | f + 1, d, w, M, pc, L, st, S => match ma_md M with
    | none => none
    | some (o, y, cc, nL, ret) => match decode cc pc with
      | .error _ => none
      | .ok (i, n) => match ma_one X o (decide (y.name = "<init>")) nL d w i n pc L st S with
        | some (pc', L', st', S') => ma_run X f d w M pc' L' st' S'
        | none => match ma_ret ret i n st with
          | some v => some (.inl v, S)
          | none => match ma_thr o cc pc with
            | some x => if 6 ≤ d ∧ ma_sz st + 81 ≤ w then some (.inr (x, pc), ma_bump S) else none
            | none => match ma_cl o i n st S with
              | none => none
              | some ((k, M'), as, rest) => match ma_md M' with
                | none => none
                | some (_, _, _, nL', _) => if 1 ≤ d ∧ 19 + nL' ≤ w ∧ ma_sz as ≤ nL' ∧ ma_sz rest ≤ 8 then (match ma_run X f (d - 1) (w - (19 + nL')) M' 0 (ma_args 0 as) [] S with
                  | some (.inl v, S') => ma_run X f d w M (pc + 3) L (v.toList ++ rest) S'
                  | some (.inr (x, _), S') => if k ≤ 1 then some (.inr (x, pc), S') else none
                  | none => none) else none
theorem ma_nil_cL {n : Nat} : ma_cL n [] := fun _ h => by cases h
theorem ma_nil_cs {n : Nat} : ma_cs n [] := fun _ h => by cases h
theorem ma_opt_cs {n : Nat} {v : Option ma_V} {r : List ma_V} (h : ∀ u, v = some u → ma_cv n u) (hr : ma_cs n r) : ma_cs n (v.toList ++ r) := by
  cases v with
  | none => exact hr
  | some u => exact ma_cs_cons (h u rfl) hr
theorem ma_run_c {X : Nat × (Nat → Int32)} : ∀ (f d w M pc : Nat) (L : ma_L) (st : List ma_V) (S : ma_S) (out : Option ma_V ⊕ (Nat × Nat)) (S' : ma_S), ma_run X f d w M pc L st S = some (out, S') → ma_ch S → ma_cL (mN S) L → ma_cs (mN S) st →
    ma_ch S' ∧ mN S ≤ mN S' ∧ mC S ≤ mC S' ∧ mZ S ≤ mZ S' ∧ ∀ u, out = .inl (some u) → ma_cv (mN S') u := by
  intro f
  induction f with
  | zero => intro d w M pc L st S out S' h; cases h
  | succ f ih =>
    intro d w M pc L st S out S' h hh hL hc
    unfold ma_run at h
    split at h
    · cases h
    · split at h
      · cases h
      · split at h
        · next pc1 L1 st1 S1 h1 =>
          obtain ⟨a1, a2, a3, a4, a5, a6⟩ := ma_one_c hh hL hc h1
          obtain ⟨b1, b2, b3, b4, b5⟩ := ih _ _ _ _ _ _ _ _ _ h a1 a2 a3
          exact ⟨b1, by omega, by omega, by omega, b5⟩
        · split at h
          · next v hv =>
            cases h
            exact ⟨hh, Nat.le_refl _, Nat.le_refl _, Nat.le_refl _, fun u hu => ma_ret_cv hc hv u (Sum.inl.inj hu)⟩
          · split at h
            · split at h
              · cases h
                exact ⟨hh, Nat.le_refl _, Nat.le_succ _, Nat.le_add_right _ _, fun u hu => by cases hu⟩
              · cases h
            · split at h
              · cases h
              · next k M' as rest hcl =>
                obtain ⟨g1, g2, g3⟩ := ma_cl_c hc hcl
                split at h
                · cases h
                · split at h
                  · split at h
                    · next v S1 hr =>
                      obtain ⟨b1, b2, b3, b4, b5⟩ := ih _ _ _ _ _ _ _ _ _ hr hh (ma_args_cL as 0 g1) ma_nil_cs
                      obtain ⟨c1, c2, c3, c4, c5⟩ := ih _ _ _ _ _ _ _ _ _ h b1 (hL.mono b2) (ma_opt_cs (fun u hu => b5 u (by rw [hu])) (g2.mono b2))
                      exact ⟨c1, by omega, by omega, by omega, c5⟩
                    · next x px S1 hr =>
                      obtain ⟨b1, b2, b3, b4, b5⟩ := ih _ _ _ _ _ _ _ _ _ hr hh (ma_args_cL as 0 g1) ma_nil_cs
                      split at h
                      · cases h
                        exact ⟨b1, b2, b3, b4, fun u hu => by cases hu⟩
                      · cases h
                    · cases h
                  · cases h
/-- THE MACHINE FOLLOWS THE RUN: from any frame that stands for the run's, to where it answers or throws -/
def ma_OK (X : Nat × (Nat → Int32)) (l : Launch) (f : Nat) : Prop := ∀ (d w M pc : Nat) (L : ma_L) (st : List ma_V) (S : ma_S) (out : Option ma_V ⊕ (Nat × Nat)) (S' : ma_S), ma_run X f d w M pc L st S = some (out, S') →
  ∀ (o : Nat) (y : MethodName) (cc : ByteArray) (nL : Nat) (ret : Option FieldType), ma_md M = some (o, y, cc, nL, ret) →
  ∀ (p : Program) (e : Env) (R : Room) (s : State) (m : MethodId) (args : Array Value) (below : List Frame) (meth : Method) (c : Code) (H : Heap) (locs : List Loc) (cells slots : Nat) (Q : State → Prop) (ls : Array Slot) (ad : Nat → Nat) (kA : Nat → ClassId) (D : va_G) (A : Nat → Prop),
  ma_Cx X p R s m args meth c cc o (decide (y.name = "<init>")) nL d w D kA A → ma_Wd X s nL D kA A ad L st S H locs ls → cells + (mC S' - mC S) ≤ R.cells → slots + (mZ S' - mZ S) ≤ R.slots →
  (∀ v, out = .inl v → ∀ (ad' : Nat → Nat) (H1 : Heap) (locs1 : List Loc) (ls1 : Array Slot) (pc1 n1 : Nat) (i1 : Instr) (st1 : List ma_V), (∀ b, b < mN S → ad' b = ad b) → ma_Wd X s nL D kA A ad' [] st1 S' H1 locs1 ls1 → decode cc pc1 = .ok (i1, n1) → ma_ret ret i1 n1 st1 = some v → W p l e R s m args below meth c H1 locs1 (cells + (mC S' - mC S)) (slots + (mZ S' - mZ S)) Q (F0 m pc1 ls1 (ma_ts ad' st1))) →
  (∀ x px, out = .inr (x, px) → (∀ (ad' : Nat → Nat) (H1 : Heap) (locs1 : List Loc) (ls1 : Array Slot) (st1 : List ma_V) (S1 : ma_S), (∀ b, b < mN S → ad' b = ad b) → ma_Wd X s nL D kA A ad' [] st1 S1 H1 locs1 ls1 → S' = ma_bump S1 → mC S ≤ mC S1 → mZ S ≤ mZ S1 → ma_thr o cc px = some x → 6 ≤ d → ma_sz st1 + 81 ≤ w → W p l e R s m args below meth c H1 locs1 (cells + (mC S1 - mC S)) (slots + (mZ S1 - mZ S)) Q (F0 m px ls1 (ma_ts ad' st1))) ∧
    (∀ (ad' : Nat → Nat) (H1 : Heap) (locs1 : List Loc) (ls1 : Array Slot) (r1 : List ma_V) (q : Addr) (ce : Cell), (∀ b, b < mN S → ad' b = ad b) → ma_Wd X s nL D kA A ad' [] r1 S' H1 locs1 ls1 → H1[q]? = some ce → ce.vm = .none → s.vm.findClass (ma_xn x) = some ce.cls → vx_W p l e R s m args below meth c H1 locs1 (cells + (mC S' - mC S)) (slots + (mZ S' - mZ S)) Q (F0 m px ls1 (ma_ts ad' r1)) q)) →
  W p l e R s m args below meth c H locs cells slots Q (F0 m pc ls (ma_ts ad st))
section MA11
variable {X : Nat × (Nat → Int32)} {l : Launch} {f d w M o nL : Nat} {y : MethodName} {cc : ByteArray} {ret : Option FieldType} {as : List ma_V} {S S' : ma_S}
theorem ma_entry {p : Program} {e : Env} {s s₁ : State} {m : MethodId} {args : Array Value} {below : List Frame} {meth : Method} {c : Code} {rm : Room} {D : va_G} {kA : Nat → ClassId} {ad : Nat → Nat} {sz : Nat} (hmd : ma_md M = some (o, y, cc, nL, ret)) (hh : ma_ch S) (has : ma_cs (mN S) as) (hsz : ma_sz as ≤ nL)
    (B : BodyLoose p l y (headSpec (ma_ws y cc nL ret) rm) cc nL ret e s m args below meth c s₁) (hml : c.maxLocals = nL) (hv : ma_Pc X D kA ad S as sz args s) :
    ma_Cx X p rm s m args meth c cc o (decide (y.name = "<init>")) nL rm.frames rm.locals D kA (va_A (ma_wl kA ad S) sz) ∧ args = (ma_ts ad as).toArray ∧ s.heap.size = sz ∧
      ∃ ls : Array Slot, entryFrame m args nL = F0 m 0 ls [] ∧ ma_Wd X s nL D kA (va_A (ma_wl kA ad S) sz) ad (ma_args 0 as) [] S s.heap [] ls := by
  obtain ⟨rfl, rfl, hP, hK, hD0, hN, hX⟩ := hv
  obtain ⟨m1, m2, m3, m4, m5, m6⟩ := ma_md_spec hmd
  have hts := atoms_spec (ws := ma_ws y cc nL ret) B.pre
  have hown : s.vm.findClass y.cls = some m.cls := findClass_of_methodNamed B.named
  have hin : meth.name = y.name := (name_of_methodNamed B.named B.method).1
  have hl := lv_entry (ma_ts ad as) (n := nL) (by rw [ma_args_len]; exact hsz)
  refine ⟨⟨B.exec, B.bytes, hml, m3 ▸ hown, fun w hw => hts w (List.mem_cons_of_mem _ hw), hK, hN, fun h => hin.trans (of_decide_eq_true h), Nat.le_refl _, Nat.le_refl _, fun q h => Or.inr h⟩, rfl, rfl, _, lg_entry_eq m (ma_ts ad as) nL, ?_⟩
  rw [← ma_args_tl] at hl
  exact ⟨hl, hh, ma_args_cL as 0 has, ma_nil_cs, hP, hD0.self, va_S.rf, hX⟩
theorem ma_met (IH : ma_OK X l f) (hmd : ma_md M = some (o, y, cc, nL, ret)) (hh : ma_ch S) (has : ma_cs (mN S) as) (hsz : ma_sz as ≤ nL) {v : Option ma_V} (hrun : ma_run X f d w M 0 (ma_args 0 as) [] S = some (.inl v, S')) (D : va_G) (kA : Nat → ClassId) (ad : Nat → Nat) (sz : Nat) :
    Met l y (ma_ws y cc nL ret) (ma_rm d w (mC S' - mC S) (mZ S' - mZ S)) (ma_Pc X D kA ad S as sz) (ma_Qc D kA ad S S' v) (mC S' - mC S) (mZ S' - mZ S) (va_A (ma_wl kA ad S) sz) := by
  refine Met.ofW (cc := cc) (maxL := nL) (ret := ret) (ma_md_spec hmd).2.2.2.1 rfl ?_
  intro p e s m args below meth c s₁ B hml hv
  obtain ⟨C, ha, hz, ls, hfr, Wd⟩ := ma_entry hmd hh has hsz B hml hv
  rw [hfr]
  refine IH d w M 0 (ma_args 0 as) [] S (.inl v) S' hrun o y cc nL ret hmd p e _ s m args below meth c s.heap [] 0 0 _ ls ad kA D _ C Wd (by show 0 + _ ≤ mC S' - mC S; omega) (by show 0 + _ ≤ mZ S' - mZ S; omega) ?_ (fun x px h => by cases h)
  intro v1 hv1 ad' H1 locs1 ls1 pc1 n1 i1 st1 hag Wd1 hd1 hr1
  cases hv1
  obtain ⟨hl, hh1, hL1, hc1, hP1, hD1, hS1, hX1⟩ := Wd1
  rw [Nat.zero_add, Nat.zero_add]
  refine ma_ret_ok C.1 C.2.1 B.notSynchronized B.returns hd1 hr1 (fun t ht hW => ⟨ad', rfl, hag, by rw [ht]; exact hP1, ?_, ?_⟩) hS1.2.2
  · rw [hz]; exact hD1
  · rw [hz]; exact hS1.F ht
theorem ma_metx (IH : ma_OK X l f) (hlt : l.stackTraces = false) (hmd : ma_md M = some (o, y, cc, nL, ret)) (hh : ma_ch S) (has : ma_cs (mN S) as) (hsz : ma_sz as ≤ nL) {x px : Nat} (hrun : ma_run X f d w M 0 (ma_args 0 as) [] S = some (.inr (x, px), S')) (D : va_G) (kA : Nat → ClassId) (ad : Nat → Nat) (sz : Nat) :
    vx_Met l y (ma_ws y cc nL ret) (ma_rm d w (mC S' - mC S) (mZ S' - mZ S)) (ma_Pc X D kA ad S as sz) (fun _ _ _ _ => False) (ma_Qx D kA ad S S' (ma_xn x)) (mC S' - mC S) (mZ S' - mZ S) (va_A (ma_wl kA ad S) sz) := by
  refine vx_ofW (cc := cc) (maxL := nL) (ret := ret) (ma_md_spec hmd).2.2.2.1 rfl ?_
  intro p e s m args below meth c s₁ B hml htb hv
  obtain ⟨C, ha, hz, ls, hfr, Wd⟩ := ma_entry hmd hh has hsz B hml hv
  rw [hfr]
  have hcnt := ma_run_c _ _ _ _ _ _ _ _ _ _ hrun hh (ma_args_cL as 0 has) ma_nil_cs
  refine IH d w M 0 (ma_args 0 as) [] S (.inr (x, px)) S' hrun o y cc nL ret hmd p e _ s m args below meth c s.heap [] 0 0 _ ls ad kA D _ C Wd (by show 0 + _ ≤ mC S' - mC S; omega) (by show 0 + _ ≤ mZ S' - mZ S; omega) (fun v h => by cases h) ?_
  intro x1 px1 hx1
  cases hx1
  refine ⟨fun ad' H1 locs1 ls1 st1 S1 hag Wd1 hS' hm1 hm2 hth h6 hw => ?_, fun ad' H1 locs1 ls1 r1 q ce hag Wd1 hce hcv hcl => ?_⟩
  · obtain ⟨hl, hh1, hL1, hc1, hP1, hD1, hS1, hX1⟩ := Wd1
    subst hS'
    have e1 : mC (ma_bump S1) = mC S1 + 1 := rfl
    have e2 : mZ (ma_bump S1) = mZ S1 + 6 := rfl
    refine ma_thr_ok C.1 C.2.1 hlt C.2.2.2.1 C.2.2.2.2.1 C.2.2.2.2.2.2.1 hX1.1.1 hX1.1.2 hS1 (hl.1.trans hml.symm) B.notSynchronized htb hth (by show 6 ≤ d; exact h6) (by rw [ma_sz_ts]; show _ ≤ w; exact hw) (by show _ ≤ mC (ma_bump S1) - mC S; omega) (by show _ ≤ mZ (ma_bump S1) - mZ S; omega) (fun t hvm hz1 hk1 => ?_) hS1.2.2 (by omega) (by omega)
    refine ⟨rfl, ad', hag, ?_, ?_, ?_⟩
    · exact va_P.kept hP1 (fun k q hk => hk1 q.1 (hP1 k q hk).lt)
    · rw [hz]; exact hD1
    · rw [hz]
      exact ⟨Nat.le_trans hS1.1 hz1, fun q h1 h2 => by rw [hk1 q (Nat.lt_of_lt_of_le h1 hS1.1)]; exact hS1.2.1 q h1 h2⟩
  · obtain ⟨hl, hh1, hL1, hc1, hP1, hD1, hS1, hX1⟩ := Wd1
    refine vx_out (fun x hx => (htb x hx).elim) B.notSynchronized hce hcv hcl (fun t ht hvm => ⟨rfl, ad', hag, by rw [ht]; exact hP1, ?_, ?_⟩) hS1.2.2 (by omega) (by omega)
    · rw [hz]; exact hD1
    · rw [hz]; exact hS1.F ht
end MA11
