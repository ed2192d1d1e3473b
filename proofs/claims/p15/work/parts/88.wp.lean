/-! WHAT A RUN COMES TO: from here on runs are reasoned of backwards, an instruction a lemma -/
def ma_oc (o : Option ma_V ⊕ (Nat × Nat)) : Option ma_V ⊕ Nat := match o with
  | .inl v => .inl v
  | .inr q => .inr q.1
/-- the run from here comes to an end, with an answer (or an exception) and a heap of which Q holds -/
def ma_wp (X : Nat × (Nat → Int32)) (d w M pc : Nat) (L : ma_L) (st : List ma_V) (S : ma_S) (Q : Option ma_V ⊕ Nat → ma_S → Prop) : Prop := ∃ f o S', ma_run X f d w M pc L st S = some (o, S') ∧ Q (ma_oc o) S'
def zi (K : Int32 → ma_S → Prop) (E : Nat → ma_S → Prop) : Option ma_V ⊕ Nat → ma_S → Prop := fun o S => match o with
  | .inl (some (.inl v)) => K v S
  | .inr x => E x S
  | _ => False
def zo (K : Option Nat → ma_S → Prop) (E : Nat → ma_S → Prop) : Option ma_V ⊕ Nat → ma_S → Prop := fun o S => match o with
  | .inl (some (.inr (.inr v))) => K v S
  | .inr x => E x S
  | _ => False
def zv (K : ma_S → Prop) (E : Nat → ma_S → Prop) : Option ma_V ⊕ Nat → ma_S → Prop := fun o S => match o with
  | .inl none => K S
  | .inr x => E x S
  | _ => False
section ZW1
variable {X : Nat × (Nat → Int32)} {d w M pc : Nat} {L : ma_L} {st r : List ma_V} {S : ma_S} {o nL : Nat} {y : MethodName} {cc : ByteArray} {ret : Option FieldType} {i : Instr} {n : Nat} {Q Q' : Option ma_V ⊕ Nat → ma_S → Prop}
theorem zw_mono (h : ma_wp X d w M pc L st S Q) (k : ∀ o S', Q o S' → Q' o S') : ma_wp X d w M pc L st S Q' := by
  obtain ⟨f, o, S', h1, h2⟩ := h
  exact ⟨f, o, S', h1, k _ _ h2⟩
theorem zw_one (hm : ma_md M = some (o, y, cc, nL, ret)) (hd : decode cc pc = .ok (i, n)) {pc' : Nat} {L' : ma_L} {st' : List ma_V} {S' : ma_S} (h : ma_one X o (decide (y.name = "<init>")) nL d w i n pc L st S = some (pc', L', st', S')) (k : ma_wp X d w M pc' L' st' S' Q) : ma_wp X d w M pc L st S Q := by
  obtain ⟨f, o', S1, h1, h2⟩ := k
  refine ⟨f + 1, o', S1, ?_, h2⟩
  rw [ma_run_s]
  simp only [ma_body, hm, hd, h]
  exact h1
theorem zw_push (hm : ma_md M = some (o, y, cc, nL, ret)) (hd : decode cc pc = .ok (i, n)) {v : ma_V} (h : ma_push i n L = some v) (k : ma_wp X d w M (pc + n) L (v :: st) S Q) : ma_wp X d w M pc L st S Q :=
  zw_one hm hd (by unfold ma_one; rw [h]) k
theorem zw_stk (hm : ma_md M = some (o, y, cc, nL, ret)) (hd : decode cc pc = .ok (i, n)) {st' : List ma_V} (h0 : ma_push i n L = none) (h : ma_stk i n st = some st') (k : ma_wp X d w M (pc + n) L st' S Q) : ma_wp X d w M pc L st S Q :=
  zw_one hm hd (by unfold ma_one; rw [h0, h]) k
theorem zw_sto (hm : ma_md M = some (o, y, cc, nL, ret)) (hd : decode cc pc = .ok (i, n)) (L' : ma_L) {st' : List ma_V} (h0 : ma_push i n L = none) (h1 : ma_stk i n st = none) (h : ma_sto i n nL L st = some (L', st')) (k : ma_wp X d w M (pc + n) L' st' S Q) : ma_wp X d w M pc L st S Q :=
  zw_one hm hd (by unfold ma_one; rw [h0, h1]; simp only [h]) k
theorem zw_jmp (hm : ma_md M = some (o, y, cc, nL, ret)) (hd : decode cc pc = .ok (i, n)) {t : Nat} {st' : List ma_V} (h0 : ma_push i n L = none) (h1 : ma_stk i n st = none) (h2 : ma_sto i n nL L st = none) (h : ma_jmp i n pc st = some (t, st')) (k : ma_wp X d w M t L st' S Q) : ma_wp X d w M pc L st S Q :=
  zw_one hm hd (by unfold ma_one; rw [h0, h1]; simp only [h2, h]) k
theorem zw_goto (hm : ma_md M = some (o, y, cc, nL, ret)) {off : Int} (hd : decode cc pc = .ok (.goto off, 3)) {t : Nat} (ht : ma_to pc off = some t) (k : ma_wp X d w M t L st S Q) : ma_wp X d w M pc L st S Q :=
  zw_jmp hm hd rfl rfl rfl (by unfold ma_jmp; simp only [ht, Option.map_some]) k
theorem zw_if0 (hm : ma_md M = some (o, y, cc, nL, ret)) {c : ClassFile.Cond} {off : Int} (hd : decode cc pc = .ok (.ifCond c off, 3)) {t : Nat} (ht : ma_to pc off = some t) {x : Int32} {P : Prop} (hP : ma_c0 c x = true ↔ P) (k1 : P → ma_wp X d w M t L r S Q) (k2 : ¬ P → ma_wp X d w M (pc + 3) L r S Q) : ma_wp X d w M pc L (.inl x :: r) S Q := by
  refine zw_jmp (t := if ma_c0 c x = true then t else pc + 3) (st' := r) hm hd rfl rfl rfl (by unfold ma_jmp; simp only [ht, Option.map_some]) ?_
  by_cases h : ma_c0 c x = true
  · rw [if_pos h]; exact k1 (hP.mp h)
  · rw [if_neg h]; exact k2 (fun z => h (hP.mpr z))
theorem zw_if2 (hm : ma_md M = some (o, y, cc, nL, ret)) {c : ClassFile.Cond} {off : Int} (hd : decode cc pc = .ok (.if_icmp c off, 3)) {t : Nat} (ht : ma_to pc off = some t) {x z : Int32} {P : Prop} (hP : ma_c2 c x z = true ↔ P) (k1 : P → ma_wp X d w M t L r S Q) (k2 : ¬ P → ma_wp X d w M (pc + 3) L r S Q) : ma_wp X d w M pc L (.inl z :: .inl x :: r) S Q := by
  refine zw_jmp (t := if ma_c2 c x z = true then t else pc + 3) (st' := r) hm hd rfl rfl rfl (by unfold ma_jmp; simp only [ht, Option.map_some]) ?_
  by_cases h : ma_c2 c x z = true
  · rw [if_pos h]; exact k1 (hP.mp h)
  · rw [if_neg h]; exact k2 (fun z => h (hP.mpr z))
theorem zw_ifnull (hm : ma_md M = some (o, y, cc, nL, ret)) {off : Int} (hd : decode cc pc = .ok (.ifnull off, 3)) {t : Nat} (ht : ma_to pc off = some t) {q : Option Nat} (k1 : q = none → ma_wp X d w M t L r S Q) (k2 : ∀ c, q = some c → ma_wp X d w M (pc + 3) L r S Q) : ma_wp X d w M pc L (.inr (.inr q) :: r) S Q := by
  cases q with
  | none => exact zw_jmp hm hd rfl rfl rfl (by unfold ma_jmp; simp only [ht, Option.map_some]) (k1 rfl)
  | some c => exact zw_jmp hm hd rfl rfl rfl rfl (k2 c rfl)
theorem zw_ifnonnull (hm : ma_md M = some (o, y, cc, nL, ret)) {off : Int} (hd : decode cc pc = .ok (.ifnonnull off, 3)) {t : Nat} (ht : ma_to pc off = some t) {q : Option Nat} (k1 : q = none → ma_wp X d w M (pc + 3) L r S Q) (k2 : ∀ c, q = some c → ma_wp X d w M t L r S Q) : ma_wp X d w M pc L (.inr (.inr q) :: r) S Q := by
  cases q with
  | none => exact zw_jmp hm hd rfl rfl rfl rfl (k1 rfl)
  | some c => exact zw_jmp hm hd rfl rfl rfl (by unfold ma_jmp; simp only [ht, Option.map_some]) (k2 c rfl)
theorem zw_hp (hm : ma_md M = some (o, y, cc, nL, ret)) (hd : decode cc pc = .ok (i, n)) {st' : List ma_V} {S' : ma_S} (h0 : ma_push i n L = none) (h1 : ma_stk i n st = none) (h2 : ma_sto i n nL L st = none) (h3 : ma_jmp i n pc st = none) (h : ma_hp o (decide (y.name = "<init>")) i n st S = some (st', S')) (k : ma_wp X d w M (pc + n) L st' S' Q) : ma_wp X d w M pc L st S Q :=
  zw_one hm hd (by unfold ma_one; simp only [h0, h1, h2, h3, h]) k
/-- a field is read -/
theorem zw_gf (hm : ma_md M = some (o, y, cc, nL, ret)) {x : Nat} (hd : decode cc pc = .ok (.getfield x, 3)) {c t k : Nat} {v : ma_V} (hs : ma_is S c = true) (ht : (mH S c).1 = t) (h1 : (decide (1 ≤ t) && decide (t ≤ 12)) = true) (hf : ma_fld o x t = some k) (hv : ma_rd S c k (ma_ft t k) = v) (K : ma_wp X d w M (pc + 3) L (v :: r) S Q) : ma_wp X d w M pc L (.inr (.inr (some c)) :: r) S Q := by
  refine zw_hp hm hd rfl rfl rfl rfl ?_ K
  rw [Bool.and_eq_true] at h1
  unfold ma_hp
  simp only [hs, ht, h1.1, h1.2, Bool.and_self, if_true, hf, Option.map_some, hv]
/-- which fields a method that is no constructor may write -/
def ma_pk (o x t k : Nat) : Bool := match vwCl[t]? with
  | some (_, T, _) => decide (ma_fld o x t = some k) && !(T k).2.2.2 && decide (1 ≤ t) && decide (t ≤ 12)
  | none => false
theorem zw_pf (hm : ma_md M = some (o, y, cc, nL, ret)) {x : Nat} (hd : decode cc pc = .ok (.putfield x, 3)) {c t k : Nat} {v : ma_V} (hs : ma_is S c = true) (ht : (mH S c).1 = t) (hp : ma_pk o x t k = true) (hv : ma_ok (ma_ft t k) v = true) (K : ma_wp X d w M (pc + 3) L r (ma_put S c k v) Q) : ma_wp X d w M pc L (v :: .inr (.inr (some c)) :: r) S Q := by
  refine zw_hp hm hd rfl rfl rfl rfl ?_ K
  unfold ma_pk at hp
  split at hp
  · next C T N hc =>
    simp only [Bool.and_eq_true, decide_eq_true_eq, Bool.not_eq_true'] at hp
    unfold ma_hp
    simp only [hs, ht, hp.1.2, hp.2, decide_true, Bool.and_self, if_true, hp.1.1.1, hc, hp.1.1.2, hv, Bool.not_false, Bool.true_or]
  · cases hp
theorem zk_int {x : Int32} : ma_ok .int (.inl x) = true := by simp [ma_ok, narrow, fits]
theorem zk_bool {x : Int32} (h : x = 0 ∨ x = 1) : ma_ok .boolean (.inl x) = true := by
  rcases h with rfl | rfl <;> decide
/-- rows -/
theorem zw_ia (hm : ma_md M = some (o, y, cc, nL, ret)) (hd : decode cc pc = .ok (.iaload, 1)) {c N a : Nat} {j : Int32} (hs : ma_is S c = true) (ht : mH S c = (20, N)) (ha : j.toNatClampNeg = a) (hj : 0 ≤ j ∧ a < N) (K : ma_wp X d w M (pc + 1) L (.inl (mI S c a) :: r) S Q) : ma_wp X d w M pc L (.inl j :: .inr (.inr (some c)) :: r) S Q := by
  subst ha
  refine zw_hp hm hd rfl rfl rfl rfl ?_ K
  unfold ma_hp ma_ix
  simp only [hs, ht, hj.1, hj.2, decide_true, Bool.and_self, if_true]
theorem zw_ias (hm : ma_md M = some (o, y, cc, nL, ret)) (hd : decode cc pc = .ok (.iastore, 1)) {c N a : Nat} {j x : Int32} (hs : ma_is S c = true) (ht : mH S c = (20, N)) (ha : j.toNatClampNeg = a) (hj : 0 ≤ j ∧ a < N) (K : ma_wp X d w M (pc + 1) L r (ma_put S c a (.inl x)) Q) : ma_wp X d w M pc L (.inl x :: .inl j :: .inr (.inr (some c)) :: r) S Q := by
  subst ha
  refine zw_hp hm hd rfl rfl rfl rfl ?_ K
  unfold ma_hp ma_ix
  simp only [hs, ht, hj.1, hj.2, decide_true, Bool.and_self, if_true]
theorem zw_ba (hm : ma_md M = some (o, y, cc, nL, ret)) (hd : decode cc pc = .ok (.baload, 1)) {c N a t : Nat} {j : Int32} (hs : ma_is S c = true) (ht : mH S c = (t, N)) (h2 : (decide (t = 21) || decide (t = 22)) = true) (ha : j.toNatClampNeg = a) (hj : 0 ≤ j ∧ a < N) (K : ma_wp X d w M (pc + 1) L (.inl (mI S c a) :: r) S Q) : ma_wp X d w M pc L (.inl j :: .inr (.inr (some c)) :: r) S Q := by
  subst ha
  refine zw_hp hm hd rfl rfl rfl rfl ?_ K
  unfold ma_hp ma_ix
  simp only [hs, ht, h2, hj.1, hj.2, decide_true, Bool.and_self, if_true]
theorem zw_bas21 (hm : ma_md M = some (o, y, cc, nL, ret)) (hd : decode cc pc = .ok (.bastore, 1)) {c N a : Nat} {j x : Int32} (hs : ma_is S c = true) (ht : mH S c = (21, N)) (ha : j.toNatClampNeg = a) (hj : 0 ≤ j ∧ a < N) (K : ma_wp X d w M (pc + 1) L r (ma_put S c a (.inl (vp_nar .byte x))) Q) : ma_wp X d w M pc L (.inl x :: .inl j :: .inr (.inr (some c)) :: r) S Q := by
  subst ha
  refine zw_hp hm hd rfl rfl rfl rfl ?_ K
  unfold ma_hp ma_ix
  simp only [hs, ht, hj.1, hj.2, decide_true, Bool.and_self, if_true]
theorem zw_bas22 (hm : ma_md M = some (o, y, cc, nL, ret)) (hd : decode cc pc = .ok (.bastore, 1)) {c N a : Nat} {j x : Int32} (hs : ma_is S c = true) (ht : mH S c = (22, N)) (ha : j.toNatClampNeg = a) (hj : 0 ≤ j ∧ a < N) (K : ma_wp X d w M (pc + 1) L r (ma_put S c a (.inl (vp_nar .boolean x))) Q) : ma_wp X d w M pc L (.inl x :: .inl j :: .inr (.inr (some c)) :: r) S Q := by
  subst ha
  refine zw_hp hm hd rfl rfl rfl rfl ?_ K
  unfold ma_hp ma_ix
  simp only [hs, ht, hj.1, hj.2, decide_true, Bool.and_self, if_true, Nat.reduceEqDiff, if_false]
theorem zw_aa (hm : ma_md M = some (o, y, cc, nL, ret)) (hd : decode cc pc = .ok (.aaload, 1)) {c N a t : Nat} {j : Int32} {v : Option Nat} (hs : ma_is S c = true) (ht : mH S c = (t, N)) (h2 : (decide (t = 24) || decide (t = 25)) = true) (ha : j.toNatClampNeg = a) (hj : 0 ≤ j ∧ a < N) (hv : mR S c a = v) (K : ma_wp X d w M (pc + 1) L (.inr (.inr v) :: r) S Q) : ma_wp X d w M pc L (.inl j :: .inr (.inr (some c)) :: r) S Q := by
  subst ha
  subst hv
  refine zw_hp hm hd rfl rfl rfl rfl ?_ K
  unfold ma_hp ma_ix
  simp only [hs, ht, h2, hj.1, hj.2, decide_true, Bool.and_self, if_true]
theorem zw_len (hm : ma_md M = some (o, y, cc, nL, ret)) (hd : decode cc pc = .ok (.arraylength, 1)) {c N t : Nat} {v : Int32} (hs : ma_is S c = true) (ht : mH S c = (t, N)) (h2 : (decide (20 ≤ t) && decide (t ≤ 25)) = true) (hv : Int32.ofNat N = v) (K : ma_wp X d w M (pc + 1) L (.inl v :: r) S Q) : ma_wp X d w M pc L (.inr (.inr (some c)) :: r) S Q := by
  subst hv
  refine zw_hp hm hd rfl rfl rfl rfl ?_ K
  rw [Bool.and_eq_true] at h2
  unfold ma_hp
  simp only [hs, ht, h2.1, h2.2, Bool.and_self, if_true]
/-- answers -/
theorem zw_ret (hm : ma_md M = some (o, y, cc, nL, ret)) (hd : decode cc pc = .ok (i, n)) (h1 : ma_one X o (decide (y.name = "<init>")) nL d w i n pc L st S = none) {v : Option ma_V} (h : ma_ret ret i n st = some v) (k : Q (.inl v) S) : ma_wp X d w M pc L st S Q := by
  refine ⟨1, .inl v, S, ?_, k⟩
  rw [ma_run_s]
  simp only [ma_body, hm, hd, h1, h]
theorem zw_iret (hm : ma_md M = some (o, y, cc, nL, some .int)) (hd : decode cc pc = .ok (.ireturn, 1)) {x : Int32} (k : Q (.inl (some (.inl x))) S) : ma_wp X d w M pc L [.inl x] S Q := by
  refine zw_ret (v := some (.inl x)) hm hd ?_ (by unfold ma_ret; simp [narrow]) k
  unfold ma_one
  rfl
theorem zw_bret (hm : ma_md M = some (o, y, cc, nL, some .boolean)) (hd : decode cc pc = .ok (.ireturn, 1)) {x : Int32} (hx : x = 0 ∨ x = 1) (k : Q (.inl (some (.inl x))) S) : ma_wp X d w M pc L [.inl x] S Q := by
  refine zw_ret (v := some (.inl x)) hm hd ?_ (by unfold ma_ret; rcases hx with rfl | rfl <;> simp [narrow]) k
  unfold ma_one
  rfl
theorem zw_aret {C : String} (hm : ma_md M = some (o, y, cc, nL, some (.object C))) (hd : decode cc pc = .ok (.areturn, 1)) {x : Option Nat} (k : Q (.inl (some (.inr (.inr x)))) S) : ma_wp X d w M pc L [.inr (.inr x)] S Q := by
  refine zw_ret hm hd ?_ rfl k
  unfold ma_one
  rfl
theorem zw_vret (hm : ma_md M = some (o, y, cc, nL, none)) (hd : decode cc pc = .ok (.return_, 1)) (k : Q (.inl none) S) : ma_wp X d w M pc L [] S Q := by
  refine zw_ret hm hd ?_ rfl k
  unfold ma_one
  rfl
/-- new E; dup; its constructor; athrow -/
theorem zw_thr (hm : ma_md M = some (o, y, cc, nL, ret)) {ik ic x : Nat} (d0 : decode cc pc = .ok (.new ik, 3)) (d3 : decode cc (pc + 3) = .ok (.dup, 1)) (d4 : decode cc (pc + 4) = .ok (.invokespecial ic, 3)) (d7 : decode cc (pc + 7) = .ok (.athrow, 1)) (hx : ma_xt o ik ic = some x) (hn : ma_nwt o ik = none) (h6 : 6 ≤ d) (hw : ma_sz st + 81 ≤ w) (k : Q (.inr x) (ma_bump S)) : ma_wp X d w M pc L st S Q := by
  have h1 : ma_one X o (decide (y.name = "<init>")) nL d w (.new ik) 3 pc L st S = none := by
    unfold ma_one
    simp only [ma_push, ma_stk, ma_sto, ma_jmp, ma_hp, ma_sc, ma_ex, ma_al, hn, Option.map_none, ma_pr, ma_tx, ma_ac]
  have h2 : ma_thr o cc pc = some x := by
    unfold ma_thr
    rw [d0, d3, d4, d7]
    exact hx
  refine ⟨1, .inr (x, pc), ma_bump S, ?_, k⟩
  rw [ma_run_s]
  have h3 : ma_ret ret (.new ik) 3 st = none := rfl
  simp only [ma_body, hm, d0, h1, h2, h3]
  rw [if_pos ⟨h6, hw⟩]
/-- a call -/
theorem zw_call (hm : ma_md M = some (o, y, cc, nL, ret)) (hd : decode cc pc = .ok (i, n)) (h1 : ma_one X o (decide (y.name = "<init>")) nL d w i n pc L st S = none) (h2 : ma_ret ret i n st = none) (h3 : ma_thr o cc pc = none) {k M' : Nat} {as rest : List ma_V} (h4 : ma_cl o i n st S = some ((k, M'), as, rest)) {o' nL' : Nat} {y' : MethodName} {cc' : ByteArray} {ret' : Option FieldType} (hm' : ma_md M' = some (o', y', cc', nL', ret')) (hr : 1 ≤ d ∧ 19 + nL' ≤ w ∧ ma_sz as ≤ nL' ∧ ma_sz rest ≤ 8)
    (hk : ma_wp X (d - 1) (w - (19 + nL')) M' 0 (ma_args 0 as) [] S (fun z S' => match z with
      | .inl v => ma_wp X d w M (pc + 3) L (v.toList ++ rest) S' Q
      | .inr x => k ≤ 1 ∧ Q (.inr x) S')) : ma_wp X d w M pc L st S Q := by
  obtain ⟨f, z, S1, e1, e2⟩ := hk
  rcases z with v | ⟨x, px⟩
  · obtain ⟨g, z2, S2, e3, e4⟩ := (e2 : ma_wp X d w M (pc + 3) L (v.toList ++ rest) S1 Q)
    refine ⟨max f g + 1, z2, S2, ?_, e4⟩
    rw [ma_run_s]
    simp only [ma_body, hm, hd, h1, h2, h3, h4, hm']
    rw [if_pos hr, ma_run_le (Nat.le_max_left f g) e1]
    exact ma_run_le (Nat.le_max_right f g) e3
  · obtain ⟨e5, e6⟩ := (e2 : k ≤ 1 ∧ Q (.inr x) S1)
    refine ⟨f + 1, .inr (x, pc), S1, ?_, e6⟩
    rw [ma_run_s]
    simp only [ma_body, hm, hd, h1, h2, h3, h4, hm']
    rw [if_pos hr, e1]
    simp only [if_pos e5]
/-- what a call of that pool entry on an object of that kind is: kind of call, method, number of arguments -/
def ma_vl (o x t : Nat) : Option (Nat × Nat × Nat) := match ma_fd o x 0 true 0 4, ma_fd o x t false 0 4 with
  | some q0, some q => if q.2.1.2.2 = q0.2.1.2.2 then some q.2.1 else none
  | _, _ => none
theorem ma_vl_cl {x t k M' m b : Nat} {asr rest : List ma_V} (hv : ma_vl o x t = some (k, M', m)) (hl : asr.length = m) (hrt : ma_rt S b = some t) : ma_cl o (.invokevirtual x) 3 (asr ++ .inr (.inr (some b)) :: rest) S = some ((k, M'), .inr (.inr (some b)) :: asr.reverse, rest) := by
  unfold ma_vl at hv
  split at hv
  · next q0 q h0 hq =>
    split at hv
    · next he =>
      have hq2 : q.2.1 = (k, M', m) := Option.some.inj hv
      have e1 : q.2.1.2.2 = m := by rw [hq2]
      have e0 : q0.2.1.2.2 = asr.length := by rw [hl, ← e1, he]
      unfold ma_cl
      simp only [h0, e0, List.drop_left, hrt, hq, List.take_left]
      rw [if_pos (by rw [e1, hl]), hq2]
    · cases hv
  · cases hv
theorem zw_cv (hm : ma_md M = some (o, y, cc, nL, ret)) {x t k M' m b nL' o' : Nat} {y' : MethodName} {cc' : ByteArray} {ret' : Option FieldType} (hd : decode cc pc = .ok (.invokevirtual x, 3)) (hv : ma_vl o x t = some (k, M', m)) (hm' : ma_md M' = some (o', y', cc', nL', ret')) (asr rest : List ma_V) (hl : asr.length = m) (hrt : ma_rt S b = some t) (hr : 1 ≤ d ∧ 19 + nL' ≤ w) (hz : (decide (ma_sz (.inr (.inr (some b)) :: asr.reverse) ≤ nL') && decide (ma_sz rest ≤ 8)) = true)
    (hk : ma_wp X (d - 1) (w - (19 + nL')) M' 0 (ma_args 0 (.inr (.inr (some b)) :: asr.reverse)) [] S (fun z S' => match z with
      | .inl v => ma_wp X d w M (pc + 3) L (v.toList ++ rest) S' Q
      | .inr x => k ≤ 1 ∧ Q (.inr x) S')) : ma_wp X d w M pc L (asr ++ .inr (.inr (some b)) :: rest) S Q := by
  rw [Bool.and_eq_true, decide_eq_true_eq, decide_eq_true_eq] at hz
  refine zw_call hm hd ?_ ?_ (ma_thr_no hd (fun _ h => by cases h)) (ma_vl_cl hv hl hrt) hm' ⟨hr.1, hr.2, hz.1, hz.2⟩ hk
  · unfold ma_one
    rfl
  · rfl
/-- static calls -/
def ma_sl (o x : Nat) : Option (Nat × Nat × Nat) := match ma_fd o x 0 true 5 8 with
  | some q => if q.2.1.1 ≠ 6 ∧ q.2.1.1 ≠ 7 then some q.2.1 else none
  | none => none
theorem ma_sl_cl {x k M' m : Nat} {asr rest : List ma_V} (hv : ma_sl o x = some (k, M', m)) (hl : asr.length = m) : ma_cl o (.invokestatic x) 3 (asr ++ rest) S = some ((k, M'), asr.reverse, rest) := by
  unfold ma_sl at hv
  split at hv
  · next q hq =>
    split at hv
    · next he =>
      have hq2 : q.2.1 = (k, M', m) := Option.some.inj hv
      have e1 : q.2.1.2.2 = asr.length := by rw [hq2, hl]
      unfold ma_cl
      simp only [hq, e1, List.drop_left, List.take_left]
      rw [if_pos ⟨he.1, he.2, by rw [List.length_append]; omega⟩, hq2]
    · cases hv
  · cases hv
theorem ma_pr_st {x : Nat} (h : ma_prt o x = none) : ma_pr o d w (.invokestatic x) 3 st S = none := by
  unfold ma_pr
  split
  · next h0 _ => cases h0
  · next e _ => cases e; simp [h]
  · next e _ => cases e; simp [h]
  · rfl
theorem zw_cs (hm : ma_md M = some (o, y, cc, nL, ret)) {x k M' m nL' o' : Nat} {y' : MethodName} {cc' : ByteArray} {ret' : Option FieldType} (hd : decode cc pc = .ok (.invokestatic x, 3)) (hpr : ma_prt o x = none) (hv : ma_sl o x = some (k, M', m)) (hm' : ma_md M' = some (o', y', cc', nL', ret')) (asr rest : List ma_V) (hl : asr.length = m) (hr : 1 ≤ d ∧ 19 + nL' ≤ w) (hz : (decide (ma_sz asr.reverse ≤ nL') && decide (ma_sz rest ≤ 8)) = true)
    (hk : ma_wp X (d - 1) (w - (19 + nL')) M' 0 (ma_args 0 asr.reverse) [] S (fun z S' => match z with
      | .inl v => ma_wp X d w M (pc + 3) L (v.toList ++ rest) S' Q
      | .inr x => k ≤ 1 ∧ Q (.inr x) S')) : ma_wp X d w M pc L (asr ++ rest) S Q := by
  rw [Bool.and_eq_true, decide_eq_true_eq, decide_eq_true_eq] at hz
  refine zw_call hm hd ?_ ?_ (ma_thr_no hd (fun _ h => by cases h)) (ma_sl_cl hv hl) hm' ⟨hr.1, hr.2, hz.1, hz.2⟩ hk
  · unfold ma_one
    rw [ma_pr_st hpr]
    rfl
  · rfl
end ZW1
