/-! EQUATIONS OF THE VALUE, an instruction each, with nothing asked of the heap: what the machine itself would stumble over is 'none' -/
/-- a reference that must not be null -/
def k_r (r : Option Nat) (K : Nat → Option ma_R) : Option ma_R := match r with
  | some c => K c
  | none => none
/-- a cell of one of these kinds -/
def k_c (S : ma_S) (c : Nat) (ts : List Nat) (K : Option ma_R) : Option ma_R := if ma_is S c = true ∧ (mH S c).1 ∈ ts then K else none
/-- a place in a row of that kind -/
def k_x (S : ma_S) (c t : Nat) (i : Int32) (K : Option ma_R) : Option ma_R := if ma_is S c = true ∧ (mH S c).1 = t ∧ ma_ix S c i = true then K else none
/-- an answer that is an int, a reference, nothing; or an exception, which goes on from pc where the call may throw -/
def k_i (e : Option ma_R) (k pc : Nat) (K : Int32 → ma_S → Option ma_R) : Option ma_R := match e with
  | some (.inl (some (.inl x)), S) => K x S
  | some (.inr (x, _), S) => if k ≤ 1 then some (.inr (x, pc), S) else none
  | _ => none
def k_o (e : Option ma_R) (k pc : Nat) (K : Option Nat → ma_S → Option ma_R) : Option ma_R := match e with
  | some (.inl (some (.inr (.inr r))), S) => K r S
  | some (.inr (x, _), S) => if k ≤ 1 then some (.inr (x, pc), S) else none
  | _ => none
def k_v (e : Option ma_R) (k pc : Nat) (K : ma_S → Option ma_R) : Option ma_R := match e with
  | some (.inl none, S) => K S
  | some (.inr (x, _), S) => if k ≤ 1 then some (.inr (x, pc), S) else none
  | _ => none
/-- an answer is of its method's type -/
def ma_rt9 (ret : Option FieldType) (v : Option ma_V) : Prop := match ret with
  | none => v = none
  | some (.object _) => ∃ r, v = some (.inr (.inr r))
  | some (.array _) => ∃ r, v = some (.inr (.inr r))
  | some _ => ∃ x, v = some (.inl x)
theorem ma_ret_ty {ret : Option FieldType} {i : Instr} {n : Nat} {st : List ma_V} {v : Option ma_V} (h : ma_ret ret i n st = some v) : (∃ x, v = some (.inl x)) ∨ (∃ r, v = some (.inr (.inr r)) ∧ ((∃ C, ret = some (.object C)) ∨ ∃ t, ret = some (.array t))) ∨ (v = none ∧ ret = none) := by
  unfold ma_ret at h
  split at h
  · split at h
    · split at h
      · cases h; exact Or.inl ⟨_, rfl⟩
      · cases h
    · cases h
  · split at h
    · cases h; exact Or.inr (Or.inl ⟨_, rfl, Or.inl ⟨_, rfl⟩⟩)
    · cases h; exact Or.inr (Or.inl ⟨_, rfl, Or.inr ⟨_, rfl⟩⟩)
    · cases h
  · split at h
    · cases h; exact Or.inr (Or.inr ⟨rfl, rfl⟩)
    · cases h
  · cases h
section MA16
variable {X : Nat × (Nat → Int32)} {d w M pc : Nat} {L : ma_L} {st r : List ma_V} {S : ma_S} {o nL : Nat} {y : MethodName} {cc : ByteArray} {ret : Option FieldType} {i : Instr} {n : Nat}
theorem e_push (hm : ma_md M = some (o, y, cc, nL, ret)) (hd : decode cc pc = .ok (i, n)) {v : ma_V} (h : ma_push i n L = some v) : ma_ev X d w M pc L st S = ma_ev X d w M (pc + n) L (v :: st) S :=
  ma_ev_one hm hd (by unfold ma_one; rw [h])
theorem e_stk (hm : ma_md M = some (o, y, cc, nL, ret)) (hd : decode cc pc = .ok (i, n)) {st' : List ma_V} (h0 : ma_push i n L = none) (h : ma_stk i n st = some st') : ma_ev X d w M pc L st S = ma_ev X d w M (pc + n) L st' S :=
  ma_ev_one hm hd (by unfold ma_one; rw [h0, h])
theorem e_sto (hm : ma_md M = some (o, y, cc, nL, ret)) (hd : decode cc pc = .ok (i, n)) {L' : ma_L} {st' : List ma_V} (h0 : ma_push i n L = none) (h1 : ma_stk i n st = none) (h : ma_sto i n nL L st = some (L', st')) : ma_ev X d w M pc L st S = ma_ev X d w M (pc + n) L' st' S :=
  ma_ev_one hm hd (by unfold ma_one; rw [h0, h1]; simp only [h])
theorem e_jmp (hm : ma_md M = some (o, y, cc, nL, ret)) (hd : decode cc pc = .ok (i, n)) {t : Nat} {st' : List ma_V} (h0 : ma_push i n L = none) (h1 : ma_stk i n st = none) (h2 : ma_sto i n nL L st = none) (h : ma_jmp i n pc st = some (t, st')) : ma_ev X d w M pc L st S = ma_ev X d w M t L st' S :=
  ma_ev_one hm hd (by unfold ma_one; rw [h0, h1]; simp only [h2, h])
theorem e_goto (hm : ma_md M = some (o, y, cc, nL, ret)) {off : Int} (hd : decode cc pc = .ok (.goto off, 3)) {t : Nat} (ht : ma_to pc off = some t) : ma_ev X d w M pc L st S = ma_ev X d w M t L st S :=
  e_jmp hm hd rfl rfl rfl (by unfold ma_jmp; simp only [ht, Option.map_some])
theorem e_if0 (hm : ma_md M = some (o, y, cc, nL, ret)) {c : ClassFile.Cond} {off : Int} (hd : decode cc pc = .ok (.ifCond c off, 3)) {t : Nat} (ht : ma_to pc off = some t) {x : Int32} : ma_ev X d w M pc L (.inl x :: r) S = if ma_c0 c x = true then ma_ev X d w M t L r S else ma_ev X d w M (pc + 3) L r S := by
  rw [e_jmp (t := if ma_c0 c x = true then t else pc + 3) (st' := r) hm hd rfl rfl rfl (by unfold ma_jmp; simp only [ht, Option.map_some])]
  split <;> rfl
theorem e_if2 (hm : ma_md M = some (o, y, cc, nL, ret)) {c : ClassFile.Cond} {off : Int} (hd : decode cc pc = .ok (.if_icmp c off, 3)) {t : Nat} (ht : ma_to pc off = some t) {x z : Int32} : ma_ev X d w M pc L (.inl z :: .inl x :: r) S = if ma_c2 c x z = true then ma_ev X d w M t L r S else ma_ev X d w M (pc + 3) L r S := by
  rw [e_jmp (t := if ma_c2 c x z = true then t else pc + 3) (st' := r) hm hd rfl rfl rfl (by unfold ma_jmp; simp only [ht, Option.map_some])]
  split <;> rfl
theorem e_ifnull (hm : ma_md M = some (o, y, cc, nL, ret)) {off : Int} (hd : decode cc pc = .ok (.ifnull off, 3)) {t : Nat} (ht : ma_to pc off = some t) {q : Option Nat} : ma_ev X d w M pc L (.inr (.inr q) :: r) S = if q = none then ma_ev X d w M t L r S else ma_ev X d w M (pc + 3) L r S := by
  cases q with
  | none => rw [if_pos rfl]; exact e_jmp hm hd rfl rfl rfl (by unfold ma_jmp; simp only [ht, Option.map_some])
  | some c => rw [if_neg (fun h => by cases h)]; exact e_jmp hm hd rfl rfl rfl rfl
theorem e_ifnonnull (hm : ma_md M = some (o, y, cc, nL, ret)) {off : Int} (hd : decode cc pc = .ok (.ifnonnull off, 3)) {t : Nat} (ht : ma_to pc off = some t) {q : Option Nat} : ma_ev X d w M pc L (.inr (.inr q) :: r) S = if q = none then ma_ev X d w M (pc + 3) L r S else ma_ev X d w M t L r S := by
  cases q with
  | none => rw [if_pos rfl]; exact e_jmp hm hd rfl rfl rfl rfl
  | some c => rw [if_neg (fun h => by cases h)]; exact e_jmp hm hd rfl rfl rfl (by unfold ma_jmp; simp only [ht, Option.map_some])
/-- where nothing fits the value is none -/
theorem ma_ev_none (hm : ma_md M = some (o, y, cc, nL, ret)) (hd : decode cc pc = .ok (i, n)) (h1 : ma_one X o (decide (y.name = "<init>")) nL d w i n pc L st S = none) (h2 : ma_ret ret i n st = none) (h3 : ma_thr o cc pc = none) (h4 : ma_cl o i n st S = none) : ma_ev X d w M pc L st S = none := by
  have key : ∀ f, ma_run X (f + 1) d w M pc L st S = none := by
    intro f
    rw [ma_run_s]
    simp only [ma_body, hm, hd, h1, h2, h3, h4]
  apply ma_ev_ext
  intro q
  constructor
  · intro ⟨f, hf⟩
    cases f with
    | zero => cases hf
    | succ f => rw [key] at hf; cases hf
  · intro h; cases h
theorem ma_thr_no {x : Instr} {m : Nat} (hd : decode cc pc = .ok (x, m)) (hx : ∀ ik, x ≠ .new ik) : ma_thr o cc pc = none := by
  unfold ma_thr
  rw [hd]
  split
  · next ik ic h0 h3 h4 h7 => exact absurd (congrArg Prod.fst (Except.ok.inj h0)) (hx ik)
  · rfl
/-- a field, of objects of the kinds ts, all with it at place k -/
theorem e_getf (hm : ma_md M = some (o, y, cc, nL, ret)) {x : Nat} (hd : decode cc pc = .ok (.getfield x, 3)) (ho : o ≠ 17) {q : Option Nat} {ts : List Nat} {k : Nat} {ty : FieldType} (ht : ∀ t, 1 ≤ t → t ≤ 12 → if t ∈ ts then ma_fld o x t = some k ∧ ma_ft t k = ty else ma_fld o x t = none) (hts : ∀ t ∈ ts, 1 ≤ t ∧ t ≤ 12) :
    ma_ev X d w M pc L (.inr (.inr q) :: r) S = k_r q (fun c => k_c S c ts (ma_ev X d w M (pc + 3) L (ma_rd S c k ty :: r) S)) := by
  cases q with
  | none =>
    refine ma_ev_none hm hd ?_ rfl (ma_thr_no hd (fun _ h => by cases h)) rfl
    unfold ma_one
    rfl
  | some c =>
    show _ = k_c S c ts _
    unfold k_c
    by_cases hc : ma_is S c = true ∧ (mH S c).1 ∈ ts
    · rw [if_pos hc]
      have hb := hts _ hc.2
      have h9 := ht (mH S c).1 hb.1 hb.2
      rw [if_pos hc.2] at h9
      refine ma_ev_one hm hd ?_
      have hh : ma_hp o (decide (y.name = "<init>")) (.getfield x) 3 (.inr (.inr (some c)) :: r) S = some (ma_rd S c k ty :: r, S) := by
        unfold ma_hp
        simp only [hc.1, hb.1, hb.2, decide_true, Bool.and_self, if_true, h9.1, Option.map_some, h9.2]
      show (match ma_hp o (decide (y.name = "<init>")) (.getfield x) 3 (.inr (.inr (some c)) :: r) S with | some (st', S') => _ | none => _) = _
      rw [hh]
    · rw [if_neg hc]
      refine ma_ev_none hm hd ?_ rfl (ma_thr_no hd (fun _ h => by cases h)) rfl
      have hh : ma_hp o (decide (y.name = "<init>")) (.getfield x) 3 (.inr (.inr (some c)) :: r) S = none := by
        unfold ma_hp
        simp only
        split
        · next hg =>
          simp only [Bool.and_eq_true, decide_eq_true_eq] at hg
          have h9 := ht (mH S c).1 hg.1.2 hg.2
          rw [if_neg (fun z => hc ⟨hg.1.1, z⟩)] at h9
          rw [h9]
          rfl
        · rfl
      unfold ma_one
      simp only [ma_push, ma_stk, ma_sto, ma_jmp, hh, ma_sc, ma_ex, ma_al, ma_pr, ma_tx, ho, false_and, if_false]
end MA16
