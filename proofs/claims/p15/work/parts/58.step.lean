/-! THE SMALL MACHINE, part 9: one step that is no call -/
/-- are two references the same -/
def ma_ac (i : Instr) (n pc : Nat) (st : List ma_V) : Option (Nat × List ma_V) := match i, n, st with
  | .if_acmp .eq o, 3, .inr (.inr y) :: .inr (.inr x) :: r => if x.all (fun b => decide (64 ≤ b)) && y.all (fun b => decide (64 ≤ b)) then (ma_to pc o).map (fun t => (if x = y then t else pc + 3, r)) else none
  | _, _, _ => none
theorem ma_ac_cs {N n pc t : Nat} {i : Instr} {st st' : List ma_V} (hc : ma_cs N st) (h : ma_ac i n pc st = some (t, st')) : ma_cs N st' := by
  unfold ma_ac at h
  split at h
  · next o y x r =>
    split at h
    · cases ht : ma_to pc o with
      | none => rw [ht] at h; cases h
      | some t' => rw [ht] at h; cases h; exact ma_cs_tl (ma_cs_tl hc)
    · cases h
  · cases h
theorem ma_wl_num {kA : Nat → ClassId} {ad : Nat → Nat} {S : ma_S} {b : Nat} (h1 : 64 ≤ b) (h2 : b < mN S) : (ma_wl kA ad S)[b - 64]? = some (ad b, ma_E kA ad S b) := by
  unfold ma_wl
  rw [List.getElem?_map, List.getElem?_range (by omega)]
  show some (ad (b - 64 + 64), ma_E kA ad S (b - 64 + 64)) = _
  rw [Nat.sub_add_cancel h1]
theorem ma_ad_inj {kA : Nat → ClassId} {ad : Nat → Nat} {S : ma_S} {A : Nat → Prop} (hD : va_D A (ma_wl kA ad S)) {x y : Option Nat} (hx : ∀ b, x = some b → 64 ≤ b ∧ b < mN S) (hy : ∀ b, y = some b → 64 ≤ b ∧ b < mN S) (h : x.map ad = y.map ad) : x = y := by
  cases x with
  | none => cases y with
    | none => rfl
    | some b => cases h
  | some a => cases y with
    | none => cases h
    | some b =>
      have e : ad a = ad b := Option.some.inj h
      have h1 := hx a rfl
      have h2 := hy b rfl
      have := hD.1 _ _ _ _ (ma_wl_num (kA := kA) (ad := ad) h1.1 h1.2) (ma_wl_num (kA := kA) (ad := ad) h2.1 h2.2) e
      have e2 : a = b := by omega
      rw [e2]
def ma_one (X : Nat × (Nat → Int32)) (o : Nat) (ini : Bool) (nL d w : Nat) (i : Instr) (n pc : Nat) (L : ma_L) (st : List ma_V) (S : ma_S) : Option (Nat × ma_L × List ma_V × ma_S) :=
  match ma_push i n L with
  | some v => some (pc + n, L, v :: st, S)
  | none => match ma_stk i n st with
    | some st' => some (pc + n, L, st', S)
    | none => match ma_sto i n nL L st with
      | some (L', st') => some (pc + n, L', st', S)
      | none => match ma_jmp i n pc st with
        | some (t, st') => some (t, L, st', S)
        | none => match ma_hp o ini i n st S with
          | some (st', S') => some (pc + n, L, st', S')
          | none => match ma_sc X i n st with
            | some st' => some (pc + n, L, st', S)
            | none => match ma_ex o i n st S with
              | some (st', S') => some (pc + n, L, st', S')
              | none => match ma_al o i n st S with
                | some (st', S') => some (pc + n, L, st', S')
                | none => match ma_pr o d w i n st S with
                  | some (st', S') => some (pc + n, L, st', S')
                  | none => match ma_tx X o i n st with
                    | some st' => some (pc + n, L, st', S)
                    | none => match ma_ac i n pc st with
                      | some (t, st') => some (t, L, st', S)
                      | none => none
theorem ma_cL.mono {n n' : Nat} {L : ma_L} (h : ma_cL n L) (hn : n ≤ n') : ma_cL n' L := fun q hq => (h q hq).mono hn
theorem ma_cs.mono {n n' : Nat} {st : List ma_V} (h : ma_cs n st) (hn : n ≤ n') : ma_cs n' st := fun q hq => (h q hq).mono hn
/-- in bounds behind a new cell, without the machine -/
theorem ma_al_c {o n : Nat} {i : Instr} {st st' : List ma_V} {S S' : ma_S} (hh : ma_ch S) (hc : ma_cs (mN S) st) (h : ma_al o i n st S = some (st', S')) : ma_ch S' ∧ ma_cs (mN S') st' ∧ mN S' = mN S + 1 ∧ mC S' = mC S + 1 ∧ mZ S ≤ mZ S' := by
  have fin : ∀ (t N : Nat) (r : List ma_V), ma_cs (mN S) r → ma_ch (ma_new S t N) ∧ ma_cs (mN (ma_new S t N)) (.inr (.inr (some (mN S))) :: r) ∧ mN (ma_new S t N) = mN S + 1 ∧ mC (ma_new S t N) = mC S + 1 ∧ mZ S ≤ mZ (ma_new S t N) := by
    intro t N r hr
    exact ⟨ma_new_ch hh t N, ma_cs_cons (fun b hb => by cases hb; exact Nat.lt_succ_self _) (fun v hv => (hr v hv).mono (Nat.le_succ _)), rfl, rfl, Nat.le_add_right _ _⟩
  unfold ma_al at h
  split at h
  · next r x =>
    cases ht : ma_nwt o x with
    | none => rw [ht] at h; cases h
    | some t => rw [ht] at h; cases h; exact fin _ _ _ hc
  · next a kx r =>
    split at h
    · cases ht : ma_at a with
      | none => rw [ht] at h; cases h
      | some t => rw [ht] at h; cases h; exact fin _ _ _ (ma_cs_tl hc)
    · cases h
  · next x kx r =>
    split at h
    · cases ht : ma_ant o x with
      | none => rw [ht] at h; cases h
      | some t => rw [ht] at h; cases h; exact fin _ _ _ (ma_cs_tl hc)
    · cases h
  · cases h
theorem ma_one_c {X : Nat × (Nat → Int32)} {o nL d w n pc pc' : Nat} {ini : Bool} {i : Instr} {L L' : ma_L} {st st' : List ma_V} {S S' : ma_S} (hh : ma_ch S) (hL : ma_cL (mN S) L) (hc : ma_cs (mN S) st) (h : ma_one X o ini nL d w i n pc L st S = some (pc', L', st', S')) :
    ma_ch S' ∧ ma_cL (mN S') L' ∧ ma_cs (mN S') st' ∧ mN S ≤ mN S' ∧ mC S ≤ mC S' ∧ mZ S ≤ mZ S' := by
  have kept : ∀ {S1 : ma_S} {s1 : List ma_V}, (ma_ch S1 ∧ ma_cs (mN S1) s1 ∧ mN S1 = mN S ∧ mC S1 = mC S ∧ mZ S1 = mZ S) → ma_ch S1 ∧ ma_cL (mN S1) L ∧ ma_cs (mN S1) s1 ∧ mN S ≤ mN S1 ∧ mC S ≤ mC S1 ∧ mZ S ≤ mZ S1 := by
    intro S1 s1 ⟨a1, a2, a3, a4, a5⟩
    exact ⟨a1, by rw [a3]; exact hL, a2, by omega, by omega, by omega⟩
  unfold ma_one at h
  split at h
  · next v hv => cases h; exact ⟨hh, hL, ma_cs_cons (ma_push_cv hL hv) hc, Nat.le_refl _, Nat.le_refl _, Nat.le_refl _⟩
  · split at h
    · next s1 hv => cases h; exact ⟨hh, hL, ma_stk_cs hc hv, Nat.le_refl _, Nat.le_refl _, Nat.le_refl _⟩
    · split at h
      · next L1 s1 hv => cases h; exact ⟨hh, (ma_sto_c hL hc hv).1, (ma_sto_c hL hc hv).2, Nat.le_refl _, Nat.le_refl _, Nat.le_refl _⟩
      · split at h
        · next t1 s1 hv => cases h; exact ⟨hh, hL, ma_jmp_cs hc hv, Nat.le_refl _, Nat.le_refl _, Nat.le_refl _⟩
        · split at h
          · next s1 S1 hv => cases h; exact kept (ma_hp_c hh hc hv)
          · split at h
            · next s1 hv => cases h; exact ⟨hh, hL, ma_sc_cs hc hv, Nat.le_refl _, Nat.le_refl _, Nat.le_refl _⟩
            · split at h
              · next s1 S1 hv => cases h; exact kept (ma_ex_c hh hc hv)
              · split at h
                · next s1 S1 hv =>
                  cases h
                  obtain ⟨a1, a2, a3, a4, a5⟩ := ma_al_c hh hc hv
                  exact ⟨a1, hL.mono (by omega), a2, by omega, by omega, a5⟩
                · split at h
                  · next s1 S1 hv => cases h; exact kept (ma_pr_c hh hc hv)
                  · split at h
                    · next s1 hv => cases h; exact ⟨hh, hL, ma_tx_cs hh.2 hc hv, Nat.le_refl _, Nat.le_refl _, Nat.le_refl _⟩
                    · split at h
                      · next t1 s1 hv => cases h; exact ⟨hh, hL, ma_ac_cs hc hv, Nat.le_refl _, Nat.le_refl _, Nat.le_refl _⟩
                      · cases h
section MA9
variable {p : Program} {l : Launch} {e : Env} {R : Room} {s : State} {m : MethodId} {args : Array Value} {below : List Frame} {meth : Method} {c : Code} {H : Heap} {locs : List Loc} {cells slots : Nat} {Q : State → Prop} {cc : ByteArray} {pc : Nat} {ls : Array Slot} {ad : Nat → Nat} {kA : Nat → ClassId} {D : va_G} {A : Nat → Prop}
theorem ma_ac_ok (hx : p.tables.exec = Jvm.exec) (hb : c.code = cc) {i : Instr} {n t : Nat} {st st' : List ma_V} {S : ma_S} (hc : ma_cs (mN S) st) (hD : va_D A (ma_wl kA ad S)) (hd : decode cc pc = .ok (i, n)) (h : ma_ac i n pc st = some (t, st'))
    (k : W p l e R s m args below meth c H locs cells slots Q (F0 m t ls (ma_ts ad st'))) : W p l e R s m args below meth c H locs cells slots Q (F0 m pc ls (ma_ts ad st)) := by
  unfold ma_ac at h
  split at h
  · next o y x r =>
    split at h
    · next hg =>
      rw [Bool.and_eq_true] at hg
      have gx : ∀ b, x = some b → 64 ≤ b ∧ b < mN S := fun b hb' => by
        subst hb'
        exact ⟨of_decide_eq_true hg.1, hc (.inr (.inr (some b))) (List.mem_cons_of_mem _ List.mem_cons_self) b rfl⟩
      have gy : ∀ b, y = some b → 64 ≤ b ∧ b < mN S := fun b hb' => by
        subst hb'
        exact ⟨of_decide_eq_true hg.2, hc (.inr (.inr (some b))) List.mem_cons_self b rfl⟩
      cases ht : ma_to pc o with
      | none => rw [ht] at h; cases h
      | some t' =>
        rw [ht] at h
        have h2 : (if x = y then t' else pc + 3) = t ∧ r = st' := by
          have := Option.some.inj h
          exact ⟨congrArg Prod.fst this, congrArg Prod.snd this⟩
        obtain ⟨h3, rfl⟩ := h2
        refine lv_acmp_eq (rx := x.map ad) (ry := y.map ad) hx hb hd (ma_to_eq ht) (fun q => ?_) (fun q => ?_)
        · rw [if_pos (ma_ad_inj hD gx gy q)] at h3
          rw [h3]
          exact k
        · rw [if_neg (fun z => q (by rw [z]))] at h3
          rw [h3]
          exact k
    · cases h
  · cases h
/-- what holds of the frame all along: the machine, the code, the class, the tables, the world's kinds, the room -/
def ma_Cx (X : Nat × (Nat → Int32)) (p : Program) (R : Room) (s : State) (m : MethodId) (args : Array Value) (meth : Method) (c : Code) (cc : ByteArray) (o : Nat) (ini : Bool) (nL d w : Nat) (D : va_G) (kA : Nat → ClassId) (A : Nat → Prop) : Prop :=
  p.tables.exec = Jvm.exec ∧ c.code = cc ∧ c.maxLocals = nL ∧ s.vm.findClass (ma_cn o) = some m.cls ∧ (∀ w ∈ ma_TB, w.before args s = true) ∧ va_K D vwCl (ma_tys kA) s ∧ ma_Nx s ∧ (ini = true → meth.name = "<init>") ∧ d ≤ R.frames ∧ w ≤ R.locals ∧ (∀ q, s.heap.size ≤ q → A q)
/-- the world and the frame's own values -/
def ma_Wd (X : Nat × (Nat → Int32)) (s : State) (nL : Nat) (D : va_G) (kA : Nat → ClassId) (A : Nat → Prop) (ad : Nat → Nat) (L : ma_L) (st : List ma_V) (S : ma_S) (H : Heap) (locs : List Loc) (ls : Array Slot) : Prop :=
  lv_has ls nL (ma_tl ad L) ∧ ma_ch S ∧ ma_cL (mN S) L ∧ ma_cs (mN S) st ∧ va_P D vwCl (ma_wl kA ad S) H ∧ va_D A (ma_wl kA ad S) ∧ va_S A s.heap H locs ∧ ma_Xt X ad A s s.heap
theorem ma_one_ok {X : Nat × (Nat → Int32)} {o nL d w n pc' : Nat} {ini : Bool} {i : Instr} {L L' : ma_L} {st st' : List ma_V} {S S' : ma_S} (C : ma_Cx X p R s m args meth c cc o ini nL d w D kA A) (Wd : ma_Wd X s nL D kA A ad L st S H locs ls) (hd : decode cc pc = .ok (i, n)) (h : ma_one X o ini nL d w i n pc L st S = some (pc', L', st', S'))
    (hr1 : cells + (mC S' - mC S) ≤ R.cells) (hr2 : slots + (mZ S' - mZ S) ≤ R.slots)
    (k : ∀ (ad' : Nat → Nat) (H1 : Heap) (locs1 : List Loc) (ls1 : Array Slot), (∀ b, b < mN S → ad' b = ad b) → ma_Wd X s nL D kA A ad' L' st' S' H1 locs1 ls1 → W p l e R s m args below meth c H1 locs1 (cells + (mC S' - mC S)) (slots + (mZ S' - mZ S)) Q (F0 m pc' ls1 (ma_ts ad' st'))) :
    W p l e R s m args below meth c H locs cells slots Q (F0 m pc ls (ma_ts ad st)) := by
  obtain ⟨hx, hb, hml, hown, hts, hK, hN, hini, hR1, hR2, hA⟩ := C
  obtain ⟨hl, hh, hL, hc, hP, hD, hS, hX⟩ := Wd
  have cl := ma_one_c hh hL hc h
  unfold ma_one at h
  split at h
  · next v hv =>
    cases h
    simp only [Nat.sub_self, Nat.add_zero] at k
    exact ma_push_ok hx hb hl hd hv (k ad H locs ls (fun _ _ => rfl) ⟨hl, hh, hL, cl.2.2.1, hP, hD, hS, hX⟩)
  · split at h
    · next s1 hv =>
      cases h
      simp only [Nat.sub_self, Nat.add_zero] at k
      exact ma_stk_ok hx hb hd hv (k ad H locs ls (fun _ _ => rfl) ⟨hl, hh, hL, cl.2.2.1, hP, hD, hS, hX⟩)
    · split at h
      · next L1 s1 hv =>
        cases h
        simp only [Nat.sub_self, Nat.add_zero] at k
        exact ma_sto_ok hx hb hl hd hv (fun ls' hl' => k ad H locs ls' (fun _ _ => rfl) ⟨hl', hh, cl.2.1, cl.2.2.1, hP, hD, hS, hX⟩)
      · split at h
        · next t1 s1 hv =>
          cases h
          simp only [Nat.sub_self, Nat.add_zero] at k
          exact ma_jmp_ok hx hb hd hv (k ad H locs ls (fun _ _ => rfl) ⟨hl, hh, hL, cl.2.2.1, hP, hD, hS, hX⟩)
        · split at h
          · next s1 S1 hv =>
            cases h
            obtain ⟨a1, a2, a3, a4, a5⟩ := ma_hp_c hh hc hv
            rw [a4, a5] at k
            simp only [Nat.sub_self, Nat.add_zero] at k
            exact ma_hp_ok hx hb hown hts hK hini hP hD hS hd hv (fun H1 locs1 b1 b2 b3 => k ad H1 locs1 ls (fun _ _ => rfl) ⟨hl, a1, cl.2.1, a2, b1, b2, b3, hX⟩)
          · split at h
            · next s1 hv =>
              cases h
              simp only [Nat.sub_self, Nat.add_zero] at k
              exact ma_sc_ok hx hb hX.2.1 hS hd hv (k ad H locs ls (fun _ _ => rfl) ⟨hl, hh, hL, cl.2.2.1, hP, hD, hS, hX⟩)
            · split at h
              · next s1 S1 hv =>
                cases h
                obtain ⟨a1, a2, a3, a4, a5⟩ := ma_ex_c hh hc hv
                rw [a4, a5] at k
                simp only [Nat.sub_self, Nat.add_zero] at k
                exact ma_ex_ok hx hb hown hts hK hN hP hD hS hd hv (fun H1 locs1 b1 b2 b3 => k ad H1 locs1 ls (fun _ _ => rfl) ⟨hl, a1, cl.2.1, a2, b1, b2, b3, hX⟩)
              · split at h
                · next s1 S1 hv =>
                  cases h
                  refine (ma_al_ok hx hb hown hts hK hN.2.1 hA hh hc hP hD hS hd hv hr1 hr2 (fun q H1 b1 b2 b3 => ?_)).1
                  have ha : ∀ b, b < mN S → va_up ad (mN S) q b = ad b := fun b hb => va_up_ne ad q (by omega)
                  exact k (va_up ad (mN S) q) H1 locs ls ha ⟨by rw [ma_tl_ad hL ha]; exact hl, cl.1, cl.2.1, cl.2.2.1, b1, b2, b3, hX.ad (fun b hb => ha b (Nat.lt_of_lt_of_le hb hh.2))⟩
                · split at h
                  · next s1 S1 hv =>
                    cases h
                    obtain ⟨a1, a2, a3, a4, a5⟩ := ma_pr_c hh hc hv
                    rw [a4, a5] at k
                    simp only [Nat.sub_self, Nat.add_zero] at k
                    exact ma_pr_ok hx hb (hml.trans hl.1.symm) hown hts hK hR1 hR2 (by omega) (by omega) hP hD hS hd hv (fun H1 locs1 b1 b2 b3 => k ad H1 locs1 ls (fun _ _ => rfl) ⟨hl, a1, cl.2.1, a2, b1, b2, b3, hX⟩)
                  · split at h
                    · next s1 hv =>
                      cases h
                      simp only [Nat.sub_self, Nat.add_zero] at k
                      exact ma_tx_ok hx hb hown hts hX.2.2 hS hd hv (k ad H locs ls (fun _ _ => rfl) ⟨hl, hh, hL, cl.2.2.1, hP, hD, hS, hX⟩)
                    · split at h
                      · next t1 s1 hv =>
                        cases h
                        simp only [Nat.sub_self, Nat.add_zero] at k
                        exact ma_ac_ok hx hb hc hD hd hv (k ad H locs ls (fun _ _ => rfl) ⟨hl, hh, hL, cl.2.2.1, hP, hD, hS, hX⟩)
                      · cases h
end MA9
