/-! THE SMALL MACHINE, part 7: the script, the library's own few, and one step of any kind but a call -/
def ma_sz (st : List ma_V) : Nat := (st.map (fun v => if ma_2 v then 2 else 1)).sum
theorem ma_sz_ts (ad : Nat → Nat) (st : List ma_V) : ((ma_ts ad st).map fun v => v.category).sum = ma_sz st := by
  unfold ma_ts ma_sz
  rw [List.map_map]
  congr 1
  apply List.map_congr_left
  intro v _
  exact ma_cat ad v
def ma_sc (X : Nat × (Nat → Int32)) (i : Instr) (n : Nat) (st : List ma_V) : Option (List ma_V) := match i, n, st with
  | .iaload, 1, .inl j :: .inr (.inr (some 30)) :: r => if decide (0 ≤ j) && decide (j.toNatClampNeg < X.1) then some (.inl (X.2 j.toNatClampNeg) :: r) else none
  | .arraylength, 1, .inr (.inr (some 30)) :: r => some (.inl (Int32.ofNat X.1) :: r)
  | _, _, _ => none
/-- pool entries that name Object's constructor (0), Math.max (1), Math.min (2), System.arraycopy (3) -/
def ma_prh : List ((Nat × Nat × Nat) × Nat) := [((11, 3, 0), 35), ((11, 335, 2), 452), ((13, 3, 0), 144), ((4, 22, 2), 492), ((7, 3, 0), 43), ((7, 116, 1), 761), ((7, 122, 3), 764), ((9, 1, 0), 1016), ((10, 3, 0), 110), ((12, 7, 0), 1512)]
def ma_prn (k : Nat) : MethodName := match k with
  | 0 => Lib.objectInit
  | 1 => Lib.Math.max.name
  | 2 => Lib.Math.min.name
  | _ => arraycopyName
theorem ma_prh_ok : ∀ q ∈ ma_prh, ma_w q.2 (.methodLink (ma_cn q.1.1) q.1.2.1 (ma_prn q.1.2.2)) = true := List.all_eq_true.mp (by decide +kernel)
def ma_prt (o i : Nat) : Option Nat := (ma_prh.find? (fun q => q.1.1 == o && q.1.2.1 == i)).map (fun q => q.1.2.2)
theorem ma_prt_spec {o i k : Nat} (h : ma_prt o i = some k) : Cond.methodLink (ma_cn o) i (ma_prn k) ∈ ma_TB := by
  unfold ma_prt at h
  cases hf : ma_prh.find? (fun q => q.1.1 == o && q.1.2.1 == i) with
  | none => rw [hf] at h; cases h
  | some q =>
    rw [hf] at h
    have hk : q.1.2.2 = k := Option.some.inj h
    have h1 := List.find?_some hf
    simp only [Bool.and_eq_true, beq_iff_eq] at h1
    have h2 := ma_prh_ok q (List.mem_of_find?_eq_some hf)
    rw [hk, h1.1, h1.2] at h2
    exact ma_w_in h2
theorem ma_pw0 : Cond.instanceMethod Lib.objectInit ∈ ma_TB := ma_T1 (i := 36) (by decide +kernel) (by decide +kernel)
theorem ma_pw1 : Cond.code Lib.objectInit ⟨#[0xb1]⟩ 1 none ∈ ma_TB := ma_T1 (i := 37) rfl rfl
theorem ma_pw2 : Cond.native arraycopyName ∈ ma_TB := ma_T4 (i := 46) (by decide +kernel) (by decide +kernel)
theorem ma_pw3 : Cond.static arraycopyName ∈ ma_TB := ma_T4 (i := 45) (by decide +kernel) (by decide +kernel)
theorem ma_pw4 : Cond.initialized "java/lang/System" ∈ ma_TB := ma_T1 (i := 25) (by decide +kernel) (by decide +kernel)
theorem ma_pw5 : Cond.static Lib.Math.max.name ∈ ma_TB := ma_T4 (i := 42) (by decide +kernel) (by decide +kernel)
theorem ma_pw6 : Cond.initialized "java/lang/Math" ∈ ma_TB := ma_T1 (i := 23) (by decide +kernel) (by decide +kernel)
theorem ma_pw7 : Cond.code Lib.Math.max.name Lib.Math.max.code 2 (some .int) ∈ ma_TB := ma_T4 (i := 43) rfl rfl
theorem ma_pw8 : Cond.static Lib.Math.min.name ∈ ma_TB := ma_T2 (i := 213) (by decide +kernel) (by decide +kernel)
theorem ma_pw9 : Cond.code Lib.Math.min.name Lib.Math.min.code 2 (some .int) ∈ ma_TB := ma_T2 (i := 214) rfl rfl
def ma_cp (S : ma_S) (c : Nat) (f : Nat → Int32) : ma_S := (S.1, S.2.1, S.2.2.1, S.2.2.2.1, ma_uc (mI S) c f, mL S, mR S)
def ma_pr (o d w : Nat) (i : Instr) (n : Nat) (st : List ma_V) (S : ma_S) : Option (List ma_V × ma_S) := match i, n, st with
  | .invokespecial x, 3, .inr (.inr (some c)) :: r => if decide (ma_prt o x = some 0) && decide (1 ≤ d) && decide (ma_sz r + 12 ≤ w) then some (r, S) else none
  | .invokestatic x, 3, .inl z :: .inl y :: .inr (.inr (some c)) :: .inl a :: .inr (.inr (some c0)) :: r => if decide (ma_prt o x = some 3) && decide (1 ≤ d) && decide (ma_sz r + (nativeFrameWords "java/lang/System" "arraycopy" 5 + 11) ≤ w) && ma_is S c && ma_is S c0 && decide ((mH S c).1 = 20) && decide ((mH S c0).1 = 20) && decide (0 ≤ a) && decide (0 ≤ y) && decide (0 ≤ z) && decide (a.toNatClampNeg + z.toNatClampNeg ≤ (mH S c0).2) && decide (y.toNatClampNeg + z.toNatClampNeg ≤ (mH S c).2) then some (r, ma_cp S c (va_cpy (mI S c0) (mI S c) a.toNatClampNeg y.toNatClampNeg z.toNatClampNeg)) else none
  | .invokestatic x, 3, .inl y :: .inl a :: r => if decide (1 ≤ d) && decide (ma_sz r + 13 ≤ w) then (match ma_prt o x with
    | some 1 => some (.inl (if a < y then y else a) :: r, S)
    | some 2 => some (.inl (if y < a then y else a) :: r, S)
    | _ => none) else none
  | _, _, _ => none
theorem ma_cp_ch {S : ma_S} (h : ma_ch S) (c : Nat) (f : Nat → Int32) : ma_ch (ma_cp S c f) := h
theorem ma_cp_o {kA : Nat → ClassId} {ad : Nat → Nat} {S : ma_S} {c : Nat} {f : Nat → Int32} {c' : Nat} (h : c' ≠ c) : ma_E kA ad (ma_cp S c f) c' = ma_E kA ad S c' := ma_E_congr rfl (if_neg h) rfl rfl
theorem ma_pr_c {o d w n : Nat} {i : Instr} {st st' : List ma_V} {S S' : ma_S} (hh : ma_ch S) (hc : ma_cs (mN S) st) (h : ma_pr o d w i n st S = some (st', S')) : ma_ch S' ∧ ma_cs (mN S') st' ∧ mN S' = mN S ∧ mC S' = mC S ∧ mZ S' = mZ S := by
  unfold ma_pr at h
  split at h
  · split at h
    · cases h; exact ⟨hh, ma_cs_tl hc, rfl, rfl, rfl⟩
    · cases h
  · split at h
    · cases h; exact ⟨hh, ma_cs_tl (ma_cs_tl (ma_cs_tl (ma_cs_tl (ma_cs_tl hc)))), rfl, rfl, rfl⟩
    · cases h
  · split at h
    · split at h
      · cases h; exact ⟨hh, ma_cs_cons ma_cv_i (ma_cs_tl (ma_cs_tl hc)), rfl, rfl, rfl⟩
      · cases h; exact ⟨hh, ma_cs_cons ma_cv_i (ma_cs_tl (ma_cs_tl hc)), rfl, rfl, rfl⟩
      · cases h
    · cases h
  · cases h
section MA7
variable {p : Program} {l : Launch} {e : Env} {R : Room} {s : State} {m : MethodId} {args : Array Value} {below : List Frame} {meth : Method} {c : Code} {H H0 : Heap} {locs : List Loc} {cells slots : Nat} {Q : State → Prop} {cc : ByteArray} {pc : Nat} {ls : Array Slot} {ad : Nat → Nat} {kA : Nat → ClassId} {D : va_G} {A : Nat → Prop}
theorem ma_sc_ok (hx : p.tables.exec = Jvm.exec) (hb : c.code = cc) {X : Nat × (Nat → Int32)} {n : Nat} {i : Instr} {st st' : List ma_V} (hX : va_X (ad 30) X.1 X.2 s H0 ∧ ¬ A (ad 30) ∧ ad 30 < H0.size) (hS : va_S A H0 H locs) (hd : decode cc pc = .ok (i, n)) (h : ma_sc X i n st = some st')
    (k : W p l e R s m args below meth c H locs cells slots Q (F0 m (pc + n) ls (ma_ts ad st'))) : W p l e R s m args below meth c H locs cells slots Q (F0 m pc ls (ma_ts ad st)) := by
  unfold ma_sc at h
  split at h
  · next j r =>
    split at h
    · next hj =>
      simp only [Bool.and_eq_true, decide_eq_true_eq] at hj
      cases h
      exact va_sld hx hb hX.1 hX.2.2 hX.2.1 hS (fun q => by rcases q with q | q; exact absurd hj.1 (Int32.not_le.mpr q); omega) hd k
    · cases h
  · cases h
    exact va_slen hx hb hX.1 hX.2.2 hX.2.1 hS hd k
  · cases h
theorem ma_sc_cs {X : Nat × (Nat → Int32)} {N n : Nat} {i : Instr} {st st' : List ma_V} (hc : ma_cs N st) (h : ma_sc X i n st = some st') : ma_cs N st' := by
  unfold ma_sc at h
  split at h
  · split at h
    · cases h; exact ma_cs_cons ma_cv_i (ma_cs_tl (ma_cs_tl hc))
    · cases h
  · cases h; exact ma_cs_cons ma_cv_i (ma_cs_tl hc)
  · cases h
theorem ma_pr_ok (hx : p.tables.exec = Jvm.exec) (hb : c.code = cc) {o d w n : Nat} {i : Instr} {st st' : List ma_V} {S S' : ma_S} (hml : c.maxLocals = ls.size) (hown : s.vm.findClass (ma_cn o) = some m.cls) (hts : ∀ w ∈ ma_TB, w.before args s = true) (hK : va_K D vwCl (ma_tys kA) s)
    (hR1 : d ≤ R.frames) (hR2 : w ≤ R.locals) (hR3 : cells ≤ R.cells) (hR4 : slots ≤ R.slots) (hP : va_P D vwCl (ma_wl kA ad S) H) (hD : va_D A (ma_wl kA ad S)) (hS : va_S A H0 H locs) (hd : decode cc pc = .ok (i, n)) (h : ma_pr o d w i n st S = some (st', S'))
    (k : ∀ (H1 : Heap) (locs1 : List Loc), va_P D vwCl (ma_wl kA ad S') H1 → va_D A (ma_wl kA ad S') → va_S A H0 H1 locs1 → W p l e R s m args below meth c H1 locs1 cells slots Q (F0 m (pc + n) ls (ma_ts ad st'))) : W p l e R s m args below meth c H locs cells slots Q (F0 m pc ls (ma_ts ad st)) := by
  have is2 : ∀ {c : Nat}, ma_is S c = true → 64 ≤ c ∧ c < mN S := fun hh => by simpa [ma_is] using hh
  unfold ma_pr at h
  split at h
  · next x cx r =>
    split at h
    · next hc =>
      simp only [Bool.and_eq_true, decide_eq_true_eq] at hc
      obtain ⟨⟨g1, g2⟩, g3⟩ := hc
      cases h
      refine W.objInit (g := F0 m pc ls (ma_ts ad (.inr (.inr (some cx)) :: st'))) (a := ad cx) (rest := ma_ts ad st') hx hb hown (hts _ (ma_prt_spec g1)) (hts _ ma_pw0) (hts _ ma_pw1) rfl hml.symm rfl hd (by omega) ?_ (k H locs hP hD hS)
      show 2 * 0 + ((ma_ts ad st').map fun v => v.category).sum + 12 ≤ R.locals
      rw [ma_sz_ts]; omega
    · cases h
  · next x z y cx a c0 r =>
    split at h
    · next hc =>
      simp only [Bool.and_eq_true, decide_eq_true_eq] at hc
      obtain ⟨⟨⟨⟨⟨⟨⟨⟨⟨⟨⟨g1, g2⟩, g3⟩, g4⟩, g5⟩, g6⟩, g7⟩, g8⟩, g9⟩, g10⟩, g11⟩, g12⟩ := hc
      obtain ⟨i1, i2⟩ := is2 g4
      obtain ⟨j1, j2⟩ := is2 g5
      cases h
      have hset : (ma_wl kA ad S).set (cx - 64) (ad cx, .inl (kA 20, (mH S cx).2, .inl (va_cpy (mI S c0) (mI S cx) a.toNatClampNeg y.toNatClampNeg z.toNatClampNeg))) = ma_wl kA ad (ma_cp S cx (va_cpy (mI S c0) (mI S cx) a.toNatClampNeg y.toNatClampNeg z.toNatClampNeg)) := by
        refine ma_wl_set i1 i2 rfl ?_ (fun c' hc' => ma_cp_o hc')
        rw [ma_E_int (S := ma_cp S cx _) (t := 20) g6 (by omega) (by omega)]
        show Sum.inl (kA 20, (mH S cx).2, Sum.inl (ma_uc (mI S) cx _ cx)) = _
        rw [show ∀ f : Nat → Int32, ma_uc (mI S) cx f cx = f from fun f => if_pos rfl]
      have np : ∀ {q : Int32}, 0 ≤ q → ¬ q < 0 := fun hq z => absurd hq (Int32.not_le.mpr z)
      refine va_copyi (ty := .int) hx hb hml hown (hts _ (ma_prt_spec g1)) (hts _ ma_pw2) (hts _ ma_pw3) (hts _ ma_pw4) hK hP hD hS (c0 - 64) (cx - 64) 0 0 ((ma_wl_at j1 j2).trans (by rw [ma_E_int g7 (by omega) (by omega)])) ((ma_wl_at i1 i2).trans (by rw [ma_E_int g6 (by omega) (by omega)])) rfl rfl rfl (np g8) (np g9) (np g10) g11 g12 (fun _ _ => rfl) (by omega) ?_ hd (fun H1 locs1 a1 a2 a3 => k H1 locs1 (hset ▸ a1) (hset ▸ a2) a3)
      have := ma_sz_ts ad st'
      unfold ma_ts at this
      rw [this]; omega
    · cases h
  · next x y a r _ =>
    split at h
    · next hc =>
      simp only [Bool.and_eq_true, decide_eq_true_eq] at hc
      have hsz := ma_sz_ts ad r
      unfold ma_ts at hsz
      split at h
      · next g1 =>
        cases h
        exact va_mmax hx hb hml hown (hts _ (ma_prt_spec g1)) (hts _ ma_pw5) (hts _ ma_pw6) (hts _ ma_pw7) (by omega) (by rw [hsz]; omega) hR3 hR4 hd (k H locs hP hD hS)
      · next g1 =>
        cases h
        exact va_mmin hx hb hml hown (hts _ (ma_prt_spec g1)) (hts _ ma_pw8) (hts _ ma_pw6) (hts _ ma_pw9) (by omega) (by rw [hsz]; omega) hR3 hR4 hd (k H locs hP hD hS)
      · cases h
    · cases h
  · cases h
end MA7
