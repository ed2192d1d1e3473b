/-! from 79.given -/
/-! THE LAW'S START: what the Statement gives, in the small machine's words; and the claim out of the law's run there -/
def R_law : String := "CollectorHouseLaw"
def lw_P (b : Addr) (xs : List Int32) (args : Array Value) (s : State) : Prop := args = #[.ref b] ∧ s.IntsAt b xs ∧ xs.length ≤ 3072 ∧ (Jvm.Cond.and given_1 narrow_1).before args s = true
def lw_Q (_ : Array Value) (s : State) (o : Outcome) (t : State) : Prop := o = .returned (some (.int 1)) ∧ Framed s o t [] 601024 7293034
def lw_Z (below : List Frame) (a : Array Value) (s : State) : State → Prop := fun t => ∃ o, t.status = .running ∧ Ended t below o ∧ lw_Q a s o t
/-- the law's own end, with 1 on the stack, nothing written that was there before, its room as the claim has it -/
theorem lw_ret {p : Program} {l : Launch} {e : Env} {s : State} {m : MethodId} {below : List Frame} {meth : Method} {c : Code} {b : Nat} (hx : p.tables.exec = Jvm.exec) (hb : c.code = code) (hr : meth.sig.returnType = ret) (hlocks : meth.locks = false) {pc : Nat} {H : Heap} {ls : Array Slot} (hdg : decode code pc = .ok (.ireturn, 1)) : W p l e room_1 s m #[Value.ref b] below meth c H [] 601024 7293034 (lw_Z below #[Value.ref b] s) (F0 m pc ls [.int 1]) := by
  intro T hT X
  obtain ⟨fs, hret, hrun, hended, hW, hframe⟩ := X.leave (v := some (.int 1)) (hlocks := hlocks) (fun h => by rw [hr] at h; cases h)
  have hmeth₉ : T.vm.method? m = some meth := X.method'
  refine ⟨T.setFrames fs, ?_, .returned (some (.int 1)), hrun, hended, rfl, ⟨_, rfl⟩, hW, hframe⟩
  jvm_step X.here [X.here.top, hx, hb, hdg, hmeth₉, hr, ret, narrow_b1]
  (try refine ⟨rfl, ?_⟩); (try refine ⟨rfl, ?_⟩)
  first | (intro acts; rw [hret _ acts rfl rfl rfl]) | rw [hret _ _ rfl rfl rfl]
  exact Steps.refl _
/-- what holds at the law's entry: the machine, the code, the tables' words (any of lw_tbl by 'hts w (by decide +kernel)'), the script of L ints xs at the cell b, what the Statement gives of the start (any of its parts by flat_of_before) -/
def lw_At (p : Program) (s : State) (m : MethodId) (meth : Method) (c : Code) (b L : Nat) (xs : Nat → Int32) : Prop :=
  p.tables.exec = Jvm.exec ∧ c.code = code ∧ meth.sig.returnType = ret ∧ c.maxLocals = 7 ∧ s.vm.findClass R_law = some m.cls ∧ (∀ w ∈ lw_tbl, w.before #[Value.ref b] s = true) ∧ va_X b L xs s s.heap ∧ b < s.heap.size ∧ meth.locks = false ∧ (Jvm.Cond.and given_1 narrow_1).before #[Value.ref b] s = true
theorem ma_sel_below {C : String} {y : MethodName} {s : State} {args : Array Value} {n n₉ : Nat} (hy : y.cls ≠ "java/lang/invoke/MethodHandle" ∧ y.cls ≠ "java/lang/invoke/VarHandle") (hC : (Cond.instantiable C n).before args s = true) (hY : (Cond.instantiable y.cls n₉).before args s = true) (hp : (Cond.privateMethod y).before args s = true) (hi : (Cond.instanceMethod y).before args s = true) : (Cond.selects C y y).before args s = true := by
  obtain ⟨cC, kC, hc, -⟩ := Cond.instantiable_spec hC
  obtain ⟨cY, kY, hcY, hkY, -, hno, -, -⟩ := Cond.instantiable_spec hY
  have hni : kY.isInterface = false := (Bool.or_eq_false_iff.mp hno).1
  obtain ⟨mk, methM, hnamed, hmethM, -, -⟩ := Cond.instanceMethod_spec hi
  have hfound : s.methodFound? y.cls y.name y.desc = some mk := State.methodFound?_of_named hnamed hy
  have hcls : mk.cls = cY := Option.some.inj ((findClass_of_methodNamed hnamed).symm.trans hcY)
  have hsel : selectMethod {} s.vm cC mk = .method mk := selectMethod_private hmethM (Cond.privateMethod_at hp mk methM hnamed hmethM)
  simp only [Cond.before, Cond.holds, Cond.value, hc, hfound, hnamed, hsel, hcls, hkY]
  simp
  exact hni
theorem ma_tb_all {args : Array Value} {s : State} (hts : ∀ w ∈ lw_tbl, w.before args s = true) : ∀ w ∈ ma_TB, w.before args s = true := by
  intro w hw
  rcases List.mem_append.mp (List.mem_filter.mp hw).1 with h | h
  · have t1 : ∀ {w : Cond} (j : Nat), tables_1[j]? = some w → w.before args s = true := fun j hj => hts _ (List.mem_append_right _ (List.mem_of_getElem? hj))
    simp only [ma_sx, List.mem_cons, List.not_mem_nil, or_false] at h
    rcases h with rfl | rfl | rfl | rfl | rfl | rfl
    · exact ma_sel_below (n := 8) (n₉ := 5) ⟨by decide, by decide⟩ (t1 246 (by decide +kernel)) (t1 137 (by decide +kernel)) (t1 834 (by decide +kernel)) (t1 835 (by decide +kernel))
    · exact ma_sel_below (n := 8) (n₉ := 5) ⟨by decide, by decide⟩ (t1 246 (by decide +kernel)) (t1 137 (by decide +kernel)) (t1 853 (by decide +kernel)) (t1 854 (by decide +kernel))
    · exact ma_sel_below (n := 8) (n₉ := 5) ⟨by decide, by decide⟩ (t1 246 (by decide +kernel)) (t1 137 (by decide +kernel)) (t1 857 (by decide +kernel)) (t1 858 (by decide +kernel))
    · exact ma_sel_below (n := 9) (n₉ := 5) ⟨by decide, by decide⟩ (t1 268 (by decide +kernel)) (t1 137 (by decide +kernel)) (t1 834 (by decide +kernel)) (t1 835 (by decide +kernel))
    · exact ma_sel_below (n := 9) (n₉ := 5) ⟨by decide, by decide⟩ (t1 268 (by decide +kernel)) (t1 137 (by decide +kernel)) (t1 853 (by decide +kernel)) (t1 854 (by decide +kernel))
    · exact ma_sel_below (n := 9) (n₉ := 5) ⟨by decide, by decide⟩ (t1 268 (by decide +kernel)) (t1 137 (by decide +kernel)) (t1 857 (by decide +kernel)) (t1 858 (by decide +kernel))
  · exact hts w h
theorem ma_nw_tab : ∀ w ∈ ma_nw, (decide (w ∈ tables_1) && w.onTables) = true := List.all_eq_true.mp (by decide +kernel)
theorem ma_nc_tab : ∀ q ∈ ma_nc, Cond.not (.castable q.1 q.2) ∈ flatC (Jvm.Cond.and given_1 narrow_1) := by decide +kernel
theorem ma_clw0 : ∀ w ∈ u_ws RJx3273f TJx3273f 6, w ∈ ma_TB := ma_lay_in [1219, 1220, 1221, 1222, 1223, 1228] (by decide +kernel)
def ma_txt (i : Nat) : Term := Term.string (ma_txr.getD i ("", 0, "", 0)).1 (ma_txr.getD i ("", 0, "", 0)).2.1
theorem ma_tx1 : ∀ i, i < 19 → Cond.exactly (ma_txt i) "java/lang/String" ∈ flatC (Jvm.Cond.and given_1 narrow_1) := by decide +kernel
theorem ma_tx2 : ∀ i, i < 19 → Cond.eq (.field (ma_txt i) "java/lang/String" "coder" "B") (.int 0) ∈ flatC (Jvm.Cond.and given_1 narrow_1) := by decide +kernel
theorem ma_tx3 : ∀ i, i < 19 → Cond.arrayOf (.field (ma_txt i) "java/lang/String" "value" "[B") .byte ∈ flatC (Jvm.Cond.and given_1 narrow_1) := by decide +kernel
theorem ma_tx4 : ∀ i, i < 19 → Cond.eq (.length (.field (ma_txt i) "java/lang/String" "value" "[B")) (.int (Int32.ofNat (ma_txl.getD i 0))) ∈ flatC (Jvm.Cond.and given_1 narrow_1) := by decide +kernel
theorem ma_tx5 : ∀ i, i < 19 → ∀ j, j < ma_txl.getD i 0 → Cond.eq (.elem (.field (ma_txt i) "java/lang/String" "value" "[B") (.int (Int32.ofNat j))) (.int ((ma_txb.getD i []).getD j 0)) ∈ flatC (Jvm.Cond.and given_1 narrow_1) := by decide +kernel
theorem ma_tx6_0 : ∀ j, j < 19 → 0 < j → Cond.not (Cond.eq (ma_txt 0) (ma_txt j)) ∈ flatC (Jvm.Cond.and given_1 narrow_1) := by decide +kernel
theorem ma_tx6_1 : ∀ j, j < 19 → 1 < j → Cond.not (Cond.eq (ma_txt 1) (ma_txt j)) ∈ flatC (Jvm.Cond.and given_1 narrow_1) := by decide +kernel
theorem ma_tx6_2 : ∀ j, j < 19 → 2 < j → Cond.not (Cond.eq (ma_txt 2) (ma_txt j)) ∈ flatC (Jvm.Cond.and given_1 narrow_1) := by decide +kernel
theorem ma_tx6_3 : ∀ j, j < 19 → 3 < j → Cond.not (Cond.eq (ma_txt 3) (ma_txt j)) ∈ flatC (Jvm.Cond.and given_1 narrow_1) := by decide +kernel
theorem ma_tx6_4 : ∀ j, j < 19 → 4 < j → Cond.not (Cond.eq (ma_txt 4) (ma_txt j)) ∈ flatC (Jvm.Cond.and given_1 narrow_1) := by decide +kernel
theorem ma_tx6_5 : ∀ j, j < 19 → 5 < j → Cond.not (Cond.eq (ma_txt 5) (ma_txt j)) ∈ flatC (Jvm.Cond.and given_1 narrow_1) := by decide +kernel
theorem ma_tx6_6 : ∀ j, j < 19 → 6 < j → Cond.not (Cond.eq (ma_txt 6) (ma_txt j)) ∈ flatC (Jvm.Cond.and given_1 narrow_1) := by decide +kernel
theorem ma_tx6_7 : ∀ j, j < 19 → 7 < j → Cond.not (Cond.eq (ma_txt 7) (ma_txt j)) ∈ flatC (Jvm.Cond.and given_1 narrow_1) := by decide +kernel
theorem ma_tx6_8 : ∀ j, j < 19 → 8 < j → Cond.not (Cond.eq (ma_txt 8) (ma_txt j)) ∈ flatC (Jvm.Cond.and given_1 narrow_1) := by decide +kernel
theorem ma_tx6_9 : ∀ j, j < 19 → 9 < j → Cond.not (Cond.eq (ma_txt 9) (ma_txt j)) ∈ flatC (Jvm.Cond.and given_1 narrow_1) := by decide +kernel
theorem ma_tx6_10 : ∀ j, j < 19 → 10 < j → Cond.not (Cond.eq (ma_txt 10) (ma_txt j)) ∈ flatC (Jvm.Cond.and given_1 narrow_1) := by decide +kernel
theorem ma_tx6_11 : ∀ j, j < 19 → 11 < j → Cond.not (Cond.eq (ma_txt 11) (ma_txt j)) ∈ flatC (Jvm.Cond.and given_1 narrow_1) := by decide +kernel
theorem ma_tx6_12 : ∀ j, j < 19 → 12 < j → Cond.not (Cond.eq (ma_txt 12) (ma_txt j)) ∈ flatC (Jvm.Cond.and given_1 narrow_1) := by decide +kernel
theorem ma_tx6_13 : ∀ j, j < 19 → 13 < j → Cond.not (Cond.eq (ma_txt 13) (ma_txt j)) ∈ flatC (Jvm.Cond.and given_1 narrow_1) := by decide +kernel
theorem ma_tx6_14 : ∀ j, j < 19 → 14 < j → Cond.not (Cond.eq (ma_txt 14) (ma_txt j)) ∈ flatC (Jvm.Cond.and given_1 narrow_1) := by decide +kernel
theorem ma_tx6_15 : ∀ j, j < 19 → 15 < j → Cond.not (Cond.eq (ma_txt 15) (ma_txt j)) ∈ flatC (Jvm.Cond.and given_1 narrow_1) := by decide +kernel
theorem ma_tx6_16 : ∀ j, j < 19 → 16 < j → Cond.not (Cond.eq (ma_txt 16) (ma_txt j)) ∈ flatC (Jvm.Cond.and given_1 narrow_1) := by decide +kernel
theorem ma_tx6_17 : ∀ j, j < 19 → 17 < j → Cond.not (Cond.eq (ma_txt 17) (ma_txt j)) ∈ flatC (Jvm.Cond.and given_1 narrow_1) := by decide +kernel
theorem ma_tx6_18 : ∀ j, j < 19 → 18 < j → Cond.not (Cond.eq (ma_txt 18) (ma_txt j)) ∈ flatC (Jvm.Cond.and given_1 narrow_1) := by decide +kernel
theorem ma_tx6a : ∀ i, i < 19 → ∀ j, j < 19 → i < j → Cond.not (Cond.eq (ma_txt i) (ma_txt j)) ∈ flatC (Jvm.Cond.and given_1 narrow_1) := by
  intro i hi j hj hij
  have h : i = 0 ∨ i = 1 ∨ i = 2 ∨ i = 3 ∨ i = 4 ∨ i = 5 ∨ i = 6 ∨ i = 7 ∨ i = 8 ∨ i = 9 ∨ i = 10 ∨ i = 11 ∨ i = 12 ∨ i = 13 ∨ i = 14 ∨ i = 15 ∨ i = 16 ∨ i = 17 ∨ i = 18 := by omega
  rcases h with rfl | rfl | rfl | rfl | rfl | rfl | rfl | rfl | rfl | rfl | rfl | rfl | rfl | rfl | rfl | rfl | rfl | rfl | rfl
  · exact ma_tx6_0 j hj hij
  · exact ma_tx6_1 j hj hij
  · exact ma_tx6_2 j hj hij
  · exact ma_tx6_3 j hj hij
  · exact ma_tx6_4 j hj hij
  · exact ma_tx6_5 j hj hij
  · exact ma_tx6_6 j hj hij
  · exact ma_tx6_7 j hj hij
  · exact ma_tx6_8 j hj hij
  · exact ma_tx6_9 j hj hij
  · exact ma_tx6_10 j hj hij
  · exact ma_tx6_11 j hj hij
  · exact ma_tx6_12 j hj hij
  · exact ma_tx6_13 j hj hij
  · exact ma_tx6_14 j hj hij
  · exact ma_tx6_15 j hj hij
  · exact ma_tx6_16 j hj hij
  · exact ma_tx6_17 j hj hij
  · exact ma_tx6_18 j hj hij
theorem ma_tx6 : ∀ i, i < 19 → ∀ j, j < 19 → i ≠ j → Cond.not (Cond.eq (ma_txt i) (ma_txt j)) ∈ flatC (Jvm.Cond.and given_1 narrow_1) ∨ Cond.not (Cond.eq (ma_txt j) (ma_txt i)) ∈ flatC (Jvm.Cond.and given_1 narrow_1) := by
  intro i hi j hj hij
  rcases Nat.lt_or_gt_of_ne hij with h | h
  · exact Or.inl (ma_tx6a i hi j hj h)
  · exact Or.inr (ma_tx6a j hj i hi h)
theorem ma_tx7 : ∀ i, i < 19 → ma_txl.getD i 0 < 2 ^ 31 := by decide +kernel
theorem ma_tx8 : ∀ q ∈ ma_txr, Cond.stringRef q.1 q.2.1 q.2.2.1 ∈ tables_1 ∧ q.2.2.2 < 19 ∧ ma_txt q.2.2.2 = Term.string q.1 q.2.1 := by decide +kernel
theorem ma_st1 : Cond.eq (.static "java/lang/String" "COMPACT_STRINGS" "Z") (.int 1) ∈ flatC (Jvm.Cond.and given_1 narrow_1) := by decide +kernel
theorem ma_st2 : Cond.isRef (.static "jdk/internal/util/Preconditions" "SIOOBE_FORMATTER" "Ljava/util/function/BiFunction;") ∈ flatC (Jvm.Cond.and given_1 narrow_1) := by decide +kernel
theorem ma_st3 : Cond.isRef (.static Bundle.tN "UNASSIGNED_STACK" Bundle.steD) ∈ flatC (Jvm.Cond.and given_1 narrow_1) := by decide +kernel
theorem ma_st4 : Cond.isRef (.static Bundle.tN "SUPPRESSED_SENTINEL" Bundle.listD) ∈ flatC (Jvm.Cond.and given_1 narrow_1) := by decide +kernel
theorem ma_ls1 : Cond.laysStatic "java/lang/String" "COMPACT_STRINGS" "Z" ∈ tables_1 := by decide +kernel
theorem ma_ls2 : Cond.laysStatic "jdk/internal/util/Preconditions" "SIOOBE_FORMATTER" "Ljava/util/function/BiFunction;" ∈ tables_1 := by decide +kernel
theorem ma_ls3 : Cond.laysStatic Bundle.tN "UNASSIGNED_STACK" Bundle.steD ∈ tables_1 := by decide +kernel
theorem ma_ls4 : Cond.laysStatic Bundle.tN "SUPPRESSED_SENTINEL" Bundle.listD ∈ tables_1 := by decide +kernel
theorem ma_in1 : Cond.initialized "java/lang/String" ∈ tables_1 ∧ Cond.initialized "jdk/internal/util/Preconditions" ∈ tables_1 ∧ Cond.initialized Bundle.tN ∈ tables_1 := by decide +kernel
theorem ma_ao1 : Cond.arrayOver (.object RX9) ∈ tables_1 ∧ Cond.arrayOver (.object RX1) ∈ tables_1 := by decide +kernel
theorem ma_ac1 : Cond.arrayClass .int ∈ tables_1 ∧ Cond.arrayClass .byte ∈ tables_1 ∧ Cond.arrayClass .boolean ∈ tables_1 ∧ Cond.arrayClass .long ∈ tables_1 := by decide +kernel
theorem ma_ins1 : ∀ k, k < 13 → ∃ q : vw_C, vwCl[k]? = some q ∧ Cond.instantiable q.1 q.2.2 ∈ tables_1 := by
  intro k hk
  have h : k = 0 ∨ k = 1 ∨ k = 2 ∨ k = 3 ∨ k = 4 ∨ k = 5 ∨ k = 6 ∨ k = 7 ∨ k = 8 ∨ k = 9 ∨ k = 10 ∨ k = 11 ∨ k = 12 := by omega
  rcases h with rfl | rfl | rfl | rfl | rfl | rfl | rfl | rfl | rfl | rfl | rfl | rfl | rfl <;> exact ⟨_, rfl, by decide +kernel⟩

/-! from 80.start -/
/-- no cell yet -/
def ma_S0 : ma_S := (64, 0, 0, fun _ => (0, 0), fun _ _ => 0, fun _ _ => 0, fun _ _ => none)
theorem ma_arr {args : Array Value} {s : State} {ty : FieldType} (hno : ∀ C, ty ≠ .object C) (h : (Cond.arrayClass ty).before args s = true) : ∃ cA : ClassId, ArrOfT s cA ty ∧ va_RA s cA ty := by
  obtain ⟨cA, k, comp, h1, h2, h3⟩ := Cond.arrayClass_spec h
  refine ⟨cA, fun n z => ⟨fun k h => (by cases h), k, h2, comp, h3⟩, ?_⟩
  cases ty <;> first | exact h1 | exact absurd rfl (hno _)
theorem ma_arrO {args : Array Value} {s : State} {C : String} (h : (Cond.arrayOver (.object C)).before args s = true) : ∃ cA : ClassId, ArrOfT s cA (.object C) ∧ va_RA s cA (.object C) := by
  obtain ⟨comp, cA, k, h1, -, h2, h3, h4⟩ := Cond.arrayOver_spec h
  exact ⟨cA, fun n z => ⟨fun k h => (by cases h), k, h2, comp, h3⟩, k, comp, h2, h3, h1, h4⟩
set_option maxHeartbeats 4000000 in
/-- THE LAW, out of its run in the small machine -/
theorem ma_start {p : Program} {e : Env} {s : State} {m : MethodId} {below : List Frame} {meth : Method} {c : Code} (l : Launch) (hlt : l.stackTraces = false) {b L : Nat} {xs : Nat → Int32} (C0 : lw_At p s m meth c b L xs)
    (hrun : ∀ ys : Nat → Int32, (∀ j, j < L → ys j = xs j) → ∃ (f : Nat) (S₉ : ma_S), ma_frun (L, ys) f 0 13 494 0 [(0, .inr (.inr (some 30)))] [] ma_S0 = some (some (.inl 1), S₉) ∧ mC S₉ ≤ 601024 ∧ mZ S₉ ≤ 7293034) :
    W p l e room_1 s m #[Value.ref b] below meth c s.heap [] 0 0 (lw_Z below #[Value.ref b] s) (entryFrame m ([Value.ref b] : List Value).toArray 7) := by
  obtain ⟨hx, hb, hr, hml, hown, hts, hX, hbl, hlocks, hgv⟩ := C0
  have htt : ∀ w ∈ tables_1, w.before #[Value.ref b] s = true := fun w hw => hts w (List.mem_append_right _ hw)
  have hfl := flat_of_before _ hgv
  have hTB := ma_tb_all hts
  have hA0 : ∀ a : Nat, a < s.heap.size → ¬ (fun q : Nat => s.heap.size ≤ q) a := fun a h z => absurd h (Nat.not_lt.mpr z)
  -- the classes
  have hk : ∀ k : Nat, ∃ z : ClassId × (Nat → Nat), ∀ q : vw_C, vwCl[k]? = some q → u_Kn s q.1 q.2.1 q.2.2 z.1 z.2 := by
    intro k
    by_cases hk : k < 13
    · obtain ⟨q, hq, hi⟩ := ma_ins1 k hk
      have hw : ∀ w ∈ u_ws q.1 q.2.1 q.2.2, w ∈ ma_TB := by
        by_cases h0 : k = 0
        · subst h0; cases hq; exact ma_clw0
        · obtain ⟨C, T, hcl, hw, -, -⟩ := ma_clok_all (t := k) (by omega) (by omega)
          cases hq.symm.trans hcl
          exact hw
      obtain ⟨cC, iS, h⟩ := u_known hTB hw (htt _ hi)
      exact ⟨(cC, iS), fun q₉ hq₉ => by cases hq.symm.trans hq₉; exact h⟩
    · exact ⟨(0, fun _ => 0), fun q hq => by
        have := (List.getElem?_eq_some_iff.mp hq).1
        exact absurd this (by show ¬ k < 13; exact hk)⟩
  obtain ⟨dz, hdz⟩ := Classical.axiomOfChoice hk
  obtain ⟨a20, h20⟩ := ma_arr (fun _ h => by cases h) (htt _ ma_ac1.1)
  obtain ⟨a21, h21⟩ := ma_arr (fun _ h => by cases h) (htt _ ma_ac1.2.1)
  obtain ⟨a22, h22⟩ := ma_arr (fun _ h => by cases h) (htt _ ma_ac1.2.2.1)
  obtain ⟨a23, h23⟩ := ma_arr (fun _ h => by cases h) (htt _ ma_ac1.2.2.2)
  obtain ⟨a24, h24⟩ := ma_arrO (htt _ ma_ao1.1)
  obtain ⟨a25, h25⟩ := ma_arrO (htt _ ma_ao1.2)
  obtain ⟨kA, e20, e21, e22, e23, e24, e25⟩ : ∃ kA : Nat → ClassId, kA 20 = a20 ∧ kA 21 = a21 ∧ kA 22 = a22 ∧ kA 23 = a23 ∧ kA 24 = a24 ∧ kA 25 = a25 :=
    ⟨fun k => if k = 20 then a20 else if k = 21 then a21 else if k = 22 then a22 else if k = 23 then a23 else if k = 24 then a24 else a25, rfl, rfl, rfl, rfl, rfl, rfl⟩
  have hK : va_K (fun k => (dz k).1, fun k => (dz k).2) vwCl (ma_tys kA) s := by
    refine ⟨fun k q hq => hdz k q hq, fun k q hq => ?_⟩
    have hm := List.mem_of_getElem? hq
    simp only [ma_tys, List.mem_cons, List.not_mem_nil, or_false, e20, e21, e22, e23, e24, e25] at hm
    rcases hm with rfl | rfl | rfl | rfl | rfl | rfl
    · exact h20
    · exact h21
    · exact h22
    · exact h23
    · exact h24
    · exact h25
  have hN : ma_Nx s := by
    refine ⟨fun w hw => ?_, ⟨va_AO.of (htt _ ma_ao1.1), va_AO.of (htt _ ma_ao1.2)⟩, fun q hq => va_Nc.of (hfl _ (ma_nc_tab q hq))⟩
    have h9 := ma_nw_tab w hw
    simp only [Bool.and_eq_true, decide_eq_true_eq] at h9
    exact va_Nw.of h9.2 (htt _ h9.1)
  -- the texts and statics
  obtain ⟨adK, adV, hS1, hS2⟩ := vk_Sof (args := #[Value.ref b]) (s := s) (N := 19) (tm := ma_txt) (len := ma_txl) (byt := ma_txb) (A := fun q : Nat => s.heap.size ≤ q) ma_tx7 (fun i hi => hfl _ (ma_tx1 i hi)) (fun i hi => hfl _ (ma_tx2 i hi)) (fun i hi => hfl _ (ma_tx3 i hi)) (fun i hi => hfl _ (ma_tx4 i hi)) (fun i hi j hj => hfl _ (ma_tx5 i hi j hj)) (fun i j hi hj hij => (ma_tx6 i hi j hj hij).imp (hfl _) (hfl _)) hA0
  have hC := va_Zof (A := fun q : Nat => s.heap.size ≤ q) (htt _ ma_ls1) (htt _ ma_in1.1) (va_eqi (hfl _ ma_st1)) hA0
  have hF := va_Zqof (A := fun q : Nat => s.heap.size ≤ q) (htt _ ma_ls2) (htt _ ma_in1.2.1) (hfl _ ma_st2) hA0
  have hU := vx_Zqof (A := fun q : Nat => s.heap.size ≤ q) (htt _ ma_ls3) (htt _ ma_in1.2.2) (hfl _ ma_st3) hA0
  have hZ := vx_Zqof (A := fun q : Nat => s.heap.size ≤ q) (htt _ ma_ls4) (htt _ ma_in1.2.2) (hfl _ ma_st4) hA0
  obtain ⟨fz, ft, hF⟩ : ∃ (fz : Int32) (ft : Nat), va_Z "jdk/internal/util/Preconditions" "SIOOBE_FORMATTER" "Ljava/util/function/BiFunction;" (va_rf (if fz = 0 then none else some ft)) (fun q : Nat => s.heap.size ≤ q) s s.heap := by
    rcases hF with h | ⟨t, h⟩
    · exact ⟨0, 0, h⟩
    · exact ⟨1, t, h⟩
  obtain ⟨ys, hys, hyL⟩ : ∃ ys : Nat → Int32, (∀ j, j < L → ys j = xs j) ∧ ys L = fz := ⟨fun j => if j < L then xs j else fz, fun j hj => if_pos hj, if_neg (Nat.lt_irrefl L)⟩
  obtain ⟨ad, ad1, ad2, ad3, ad4⟩ : ∃ ad : Nat → Nat, (∀ i, i < 19 → ad i = adK i) ∧ (∀ i, i < 19 → ad (32 + i) = adV i) ∧ ad 30 = b ∧ ad 29 = ft := by
    refine ⟨fun k => if k < 19 then adK k else if k = 29 then ft else if k = 30 then b else adV (k - 32), fun i hi => if_pos hi, fun i hi => ?_, rfl, rfl⟩
    show (if 32 + i < 19 then adK (32 + i) else if 32 + i = 29 then ft else if 32 + i = 30 then b else adV (32 + i - 32)) = adV i
    rw [if_neg (by omega), if_neg (by omega), if_neg (by omega), Nat.add_sub_cancel_left]
  obtain ⟨f, S₉, hrn, hc1, hc2⟩ := hrun ys hys
  have hXt : ma_Xt (L, ys) ad (fun q : Nat => s.heap.size ≤ q) s s.heap := by
    refine ⟨⟨hU, hZ⟩, ⟨?_, by rw [ad3]; exact hA0 b hbl, by rw [ad3]; exact hbl⟩, ?_, ?_, hC, ?_⟩
    · rw [ad3]
      obtain ⟨scr, q1, q2, q3, q4, q5⟩ := hX
      exact ⟨scr, q1, q2, q3, q4, fun j hj => by show scr.slots[j]? = some (.int (ys j)); rw [hys j hj]; exact q5 j hj⟩
    · refine ⟨fun i hi => ?_, fun i j hi hj hij => ?_⟩
      · have := hS1.1 i hi
        simp only [ad1 i hi, ad2 i hi]
        exact this
      · rw [ad1 i hi, ad1 j hj] at hij
        exact hS1.2 i j hi hj hij
    · intro q hq
      obtain ⟨t1, t2, t3⟩ := ma_tx8 q hq
      have := hS2 q.2.2.2 t2
      rw [t3] at this
      rw [ad1 _ t2]
      exact vk_R.of (htt _ t1) this
    · have : va_rf ((ma_fm (L, ys)).map ad) = va_rf (if fz = 0 then none else some ft) := by
        unfold ma_fm
        rw [show (L, ys).2 (L, ys).1 = fz from hyL]
        split
        · rfl
        · show va_rf (some (ad 29)) = _; rw [ad4]
      rw [this]
      exact hF
  have hl := lv_entry ([.ref b]) (n := 7) (Nat.le_of_ble_eq_true rfl)
  rw [lg_entry_eq]
  generalize (lg_sl ([.ref b]) ++ List.replicate (7 - (lg_sl ([.ref b])).length) Slot.unset).toArray = ls at hl ⊢
  have hl : lv_has ls 7 (ma_tl ad [(0, .inr (.inr (some 30)))]) := by
    show lv_has ls 7 [(0, .ref (ad 30))]
    rw [ad3]
    exact hl
  refine ma_fok_all (L, ys) l hlt f 0 13 494 0 [(0, .inr (.inr (some 30)))] [] ma_S0 (some (.inl 1)) S₉ hrn code 7 (some .boolean) [] rfl p e room_1 s m #[Value.ref b] below meth c s.heap [] 0 0 _ ls ad kA (fun k => (dz k).1, fun k => (dz k).2) (fun q : Nat => s.heap.size ≤ q)
    ⟨hx, hb, hml, hown, hTB, hK, hN, (fun h => (by cases h)), Nat.le_refl _, Nat.le_refl _, fun q h => h⟩ (fun h => (by cases h))
    ⟨hl, ⟨fun c k b h => (by cases h), Nat.le_refl 64⟩, fun q hq => ?_, ma_nil_cs, fun k q hk => (by cases hk), ⟨fun i j p q h => (by cases h), fun k q h => (by cases h)⟩, va_S.rf, hXt⟩ (by show 0 + (mC S₉ - 0) ≤ 601024; omega) (by show 0 + (mZ S₉ - 0) ≤ 7293034; omega) ?_
  · rw [List.mem_singleton] at hq
    subst hq
    exact fun b hb => by cases hb; show 30 < 64; omega
  · intro ad₉ H1 locs1 ls1 pc1 n1 i1 st1 hag Wd1 hd1 hr1
    obtain ⟨hl1, hh1, hL1, hcs1, hP1, hD1, hS3, hX1⟩ := Wd1
    have hi : i1 = .ireturn ∧ n1 = 1 ∧ st1 = [.inl 1] := by
      unfold ma_ret at hr1
      split at hr1
      · split at hr1
        · split at hr1
          · cases hr1; exact ⟨rfl, rfl, rfl⟩
          · cases hr1
        · cases hr1
      · split at hr1 <;> cases hr1
      · split at hr1 <;> cases hr1
      · cases hr1
    obtain ⟨rfl, rfl, rfl⟩ := hi
    refine va_forget (fun q hq => hS3.2.2 q hq) ?_
    refine W.widen (k := 601024) (n := 7293034) (by show 0 + (mC S₉ - 0) ≤ 601024; omega) (by show 0 + (mZ S₉ - 0) ≤ 7293034; omega) ?_
    exact lw_ret hx hb hr hlocks hd1

/-! from 82.value -/
/-! THE VALUE OF A RUN: what a run of the small machine comes to, without fuel; its equations -/
abbrev ma_R : Type := (Option ma_V ⊕ (Nat × Nat)) × ma_S
def ma_body (X : Nat × (Nat → Int32)) (rc : Nat → Nat → Nat → Nat → ma_L → List ma_V → ma_S → Option ma_R) (d w M pc : Nat) (L : ma_L) (st : List ma_V) (S : ma_S) : Option ma_R := match ma_md M with
  | none => none
  | some (o, y, cc, nL, ret) => match decode cc pc with
    | .error _ => none
    | .ok (i, n) => match ma_one X o (decide (y.name = "<init>")) nL d w i n pc L st S with
      | some (pc₉, L₉, st₉, S₉) => rc d w M pc₉ L₉ st₉ S₉
      | none => match ma_ret ret i n st with
        | some v => some (.inl v, S)
        | none => match ma_thr o cc pc with
          | some x => if 6 ≤ d ∧ ma_sz st + 81 ≤ w then some (.inr (x, pc), ma_bump S) else none
          | none => match ma_cl o i n st S with
            | none => none
            | some ((k, M₉), as, rest) => match ma_md M₉ with
              | none => none
              | some (_, _, _, nL₉, _) => if 1 ≤ d ∧ 19 + nL₉ ≤ w ∧ ma_sz as ≤ nL₉ ∧ ma_sz rest ≤ 8 then (match rc (d - 1) (w - (19 + nL₉)) M₉ 0 (ma_args 0 as) [] S with
                | some (.inl v, S₉) => rc d w M (pc + 3) L (v.toList ++ rest) S₉
                | some (.inr (x, _), S₉) => if k ≤ 1 then some (.inr (x, pc), S₉) else none
                | none => none) else none
theorem ma_run_s (X : Nat × (Nat → Int32)) (f d w M pc : Nat) (L : ma_L) (st : List ma_V) (S : ma_S) : ma_run X (f + 1) d w M pc L st S = ma_body X (ma_run X f) d w M pc L st S := rfl
theorem ma_run_up {X : Nat × (Nat → Int32)} : ∀ (f d w M pc : Nat) (L : ma_L) (st : List ma_V) (S : ma_S) (r : ma_R), ma_run X f d w M pc L st S = some r → ma_run X (f + 1) d w M pc L st S = some r := by
  intro f
  induction f with
  | zero => intro d w M pc L st S r h; cases h
  | succ f ih =>
    intro d w M pc L st S r h
    rw [ma_run_s] at h ⊢
    unfold ma_body at h ⊢
    split at h
    · cases h
    · next o y cc nL ret hmd =>
      split at h
      · cases h
      · next i n hd =>
        split at h
        · exact ih _ _ _ _ _ _ _ _ h
        · split at h
          · exact h
          · split at h
            · exact h
            · split at h
              · cases h
              · split at h
                · cases h
                · split at h
                  · next hroom =>
                    rw [if_pos hroom]
                    split at h
                    · next v2 S1 hr =>
                      rw [ih _ _ _ _ _ _ _ _ hr]
                      exact ih _ _ _ _ _ _ _ _ h
                    · next x2 px S1 hr =>
                      rw [ih _ _ _ _ _ _ _ _ hr]
                      exact h
                    · cases h
                  · cases h
theorem ma_run_le {X : Nat × (Nat → Int32)} {f g d w M pc : Nat} {L : ma_L} {st : List ma_V} {S : ma_S} {r : ma_R} (hfg : f ≤ g) (h : ma_run X f d w M pc L st S = some r) : ma_run X g d w M pc L st S = some r := by
  induction hfg with
  | refl => exact h
  | step _ ih => exact ma_run_up _ _ _ _ _ _ _ _ _ ih

/-! from 84.help -/
/-! small helps -/
theorem ma_thr_no {o : Nat} {cc : ByteArray} {pc : Nat} {x : Instr} {m : Nat} (hd : decode cc pc = .ok (x, m)) (hx : ∀ ik, x ≠ .new ik) : ma_thr o cc pc = none := by
  unfold ma_thr
  rw [hd]
  split
  · next ik ic h0 h3 h4 h7 => exact absurd (congrArg Prod.fst (Except.ok.inj h0)) (hx ik)
  · rfl
theorem ma_get_self (L : ma_L) (i : Nat) (v : ma_V) : ma_get (ma_st L i v) i = some v := by
  unfold ma_get ma_st
  rw [List.find?_cons_of_pos (by simp)]
  rfl
theorem ma_is30 {S : ma_S} {c : Nat} (h : c < 64) : ma_is S c = false := by
  unfold ma_is
  rw [decide_eq_false (by omega)]
  rfl

/-! from 88.wp -/
/-! WHAT A RUN COMES TO: from here on runs are reasoned of backwards, an instruction a lemma -/
def ma_oc (o : Option ma_V ⊕ (Nat × Nat)) : Option ma_V ⊕ Nat := match o with
  | .inl v => .inl v
  | .inr q => .inr q.1
/-- the run from here comes to an end, with an answer (or an exception) and a heap of which Q holds -/
def ma_wp (X : Nat × (Nat → Int32)) (d w M pc : Nat) (L : ma_L) (st : List ma_V) (S : ma_S) (Q : Option ma_V ⊕ Nat → ma_S → Prop) : Prop := ∃ f o S₉, ma_run X f d w M pc L st S = some (o, S₉) ∧ Q (ma_oc o) S₉
def zi (K : Int32 → ma_S → Prop) (E : Nat → ma_S → Prop) : Option ma_V ⊕ Nat → ma_S → Prop := fun o S => match o with
  | .inl (some (.inl v)) => K v S
  | .inr x => E x S
  | _ => False
def zo (K : Option Nat → ma_S → Prop) (E : Nat → ma_S → Prop) : Option ma_V ⊕ Nat → ma_S → Prop := fun o S => match o with
  | .inl (some (.inr (.inr v))) => K v S
  | .inr x => E x S
  | _ => False
def zv (K : ma_S → Prop) (E : Nat → ma_S → Prop) : Option ma_V ⊕ Nat → ma_S → Prop := fun o S => match o with
  | .inl none => K S
  | .inr x => E x S
  | _ => False
section ZW1
variable {X : Nat × (Nat → Int32)} {d w M pc : Nat} {L : ma_L} {st r : List ma_V} {S : ma_S} {o nL : Nat} {y : MethodName} {cc : ByteArray} {ret : Option FieldType} {i : Instr} {n : Nat} {Q Q₉ : Option ma_V ⊕ Nat → ma_S → Prop}
theorem zw_mono (h : ma_wp X d w M pc L st S Q) (k : ∀ o S₉, Q o S₉ → Q₉ o S₉) : ma_wp X d w M pc L st S Q₉ := by
  obtain ⟨f, o, S₉, h1, h2⟩ := h
  exact ⟨f, o, S₉, h1, k _ _ h2⟩
theorem zw_one (hm : ma_md M = some (o, y, cc, nL, ret)) (hd : decode cc pc = .ok (i, n)) {pc₉ : Nat} {L₉ : ma_L} {st₉ : List ma_V} {S₉ : ma_S} (h : ma_one X o (decide (y.name = "<init>")) nL d w i n pc L st S = some (pc₉, L₉, st₉, S₉)) (k : ma_wp X d w M pc₉ L₉ st₉ S₉ Q) : ma_wp X d w M pc L st S Q := by
  obtain ⟨f, o₉, S1, h1, h2⟩ := k
  refine ⟨f + 1, o₉, S1, ?_, h2⟩
  rw [ma_run_s]
  simp only [ma_body, hm, hd, h]
  exact h1
theorem zw_push (hm : ma_md M = some (o, y, cc, nL, ret)) (hd : decode cc pc = .ok (i, n)) {v : ma_V} (h : ma_push i n L = some v) (k : ma_wp X d w M (pc + n) L (v :: st) S Q) : ma_wp X d w M pc L st S Q :=
  zw_one hm hd (by unfold ma_one; rw [h]) k
theorem zw_stk (hm : ma_md M = some (o, y, cc, nL, ret)) (hd : decode cc pc = .ok (i, n)) {st₉ : List ma_V} (h0 : ma_push i n L = none) (h : ma_stk i n st = some st₉) (k : ma_wp X d w M (pc + n) L st₉ S Q) : ma_wp X d w M pc L st S Q :=
  zw_one hm hd (by unfold ma_one; rw [h0, h]) k
theorem zw_sto (hm : ma_md M = some (o, y, cc, nL, ret)) (hd : decode cc pc = .ok (i, n)) (L₉ : ma_L) {st₉ : List ma_V} (h0 : ma_push i n L = none) (h1 : ma_stk i n st = none) (h : ma_sto i n nL L st = some (L₉, st₉)) (k : ma_wp X d w M (pc + n) L₉ st₉ S Q) : ma_wp X d w M pc L st S Q :=
  zw_one hm hd (by unfold ma_one; rw [h0, h1]; simp only [h]) k
theorem zw_jmp (hm : ma_md M = some (o, y, cc, nL, ret)) (hd : decode cc pc = .ok (i, n)) {t : Nat} {st₉ : List ma_V} (h0 : ma_push i n L = none) (h1 : ma_stk i n st = none) (h2 : ma_sto i n nL L st = none) (h : ma_jmp i n pc st = some (t, st₉)) (k : ma_wp X d w M t L st₉ S Q) : ma_wp X d w M pc L st S Q :=
  zw_one hm hd (by unfold ma_one; rw [h0, h1]; simp only [h2, h]) k
theorem zw_goto (hm : ma_md M = some (o, y, cc, nL, ret)) {off : Int} (hd : decode cc pc = .ok (.goto off, 3)) {t : Nat} (ht : ma_to pc off = some t) (k : ma_wp X d w M t L st S Q) : ma_wp X d w M pc L st S Q :=
  zw_jmp hm hd rfl rfl rfl (by unfold ma_jmp; simp only [ht, Option.map_some]) k
theorem zw_if0 (hm : ma_md M = some (o, y, cc, nL, ret)) {c : ClassFile.Cond} {off : Int} (hd : decode cc pc = .ok (.ifCond c off, 3)) {t : Nat} (ht : ma_to pc off = some t) {x : Int32} {P : Prop} (hP : ma_c0 c x = true ↔ P) (k1 : P → ma_wp X d w M t L r S Q) (k2 : ¬ P → ma_wp X d w M (pc + 3) L r S Q) : ma_wp X d w M pc L (.inl x :: r) S Q := by
  refine zw_jmp (t := if ma_c0 c x = true then t else pc + 3) (st₉ := r) hm hd rfl rfl rfl (by unfold ma_jmp; simp only [ht, Option.map_some]) ?_
  by_cases h : ma_c0 c x = true
  · rw [if_pos h]; exact k1 (hP.mp h)
  · rw [if_neg h]; exact k2 (fun z => h (hP.mpr z))
theorem zw_if2 (hm : ma_md M = some (o, y, cc, nL, ret)) {c : ClassFile.Cond} {off : Int} (hd : decode cc pc = .ok (.if_icmp c off, 3)) {t : Nat} (ht : ma_to pc off = some t) {x z : Int32} {P : Prop} (hP : ma_c2 c x z = true ↔ P) (k1 : P → ma_wp X d w M t L r S Q) (k2 : ¬ P → ma_wp X d w M (pc + 3) L r S Q) : ma_wp X d w M pc L (.inl z :: .inl x :: r) S Q := by
  refine zw_jmp (t := if ma_c2 c x z = true then t else pc + 3) (st₉ := r) hm hd rfl rfl rfl (by unfold ma_jmp; simp only [ht, Option.map_some]) ?_
  by_cases h : ma_c2 c x z = true
  · rw [if_pos h]; exact k1 (hP.mp h)
  · rw [if_neg h]; exact k2 (fun z => h (hP.mpr z))
theorem zw_ifnull (hm : ma_md M = some (o, y, cc, nL, ret)) {off : Int} (hd : decode cc pc = .ok (.ifnull off, 3)) {t : Nat} (ht : ma_to pc off = some t) {q : Option Nat} (k1 : q = none → ma_wp X d w M t L r S Q) (k2 : ∀ c, q = some c → ma_wp X d w M (pc + 3) L r S Q) : ma_wp X d w M pc L (.inr (.inr q) :: r) S Q := by
  cases q with
  | none => exact zw_jmp hm hd rfl rfl rfl (by unfold ma_jmp; simp only [ht, Option.map_some]) (k1 rfl)
  | some c => exact zw_jmp hm hd rfl rfl rfl rfl (k2 c rfl)
theorem zw_ifnonnull (hm : ma_md M = some (o, y, cc, nL, ret)) {off : Int} (hd : decode cc pc = .ok (.ifnonnull off, 3)) {t : Nat} (ht : ma_to pc off = some t) {q : Option Nat} (k1 : q = none → ma_wp X d w M (pc + 3) L r S Q) (k2 : ∀ c, q = some c → ma_wp X d w M t L r S Q) : ma_wp X d w M pc L (.inr (.inr q) :: r) S Q := by
  cases q with
  | none => exact zw_jmp hm hd rfl rfl rfl rfl (k1 rfl)
  | some c => exact zw_jmp hm hd rfl rfl rfl (by unfold ma_jmp; simp only [ht, Option.map_some]) (k2 c rfl)
theorem zw_hp (hm : ma_md M = some (o, y, cc, nL, ret)) (hd : decode cc pc = .ok (i, n)) {st₉ : List ma_V} {S₉ : ma_S} (h0 : ma_push i n L = none) (h1 : ma_stk i n st = none) (h2 : ma_sto i n nL L st = none) (h3 : ma_jmp i n pc st = none) (h : ma_hp o (decide (y.name = "<init>")) i n st S = some (st₉, S₉)) (k : ma_wp X d w M (pc + n) L st₉ S₉ Q) : ma_wp X d w M pc L st S Q :=
  zw_one hm hd (by unfold ma_one; simp only [h0, h1, h2, h3, h]) k
/-- a field is read -/
theorem zw_gf (hm : ma_md M = some (o, y, cc, nL, ret)) {x : Nat} (hd : decode cc pc = .ok (.getfield x, 3)) {c t k : Nat} {v : ma_V} (hs : ma_is S c = true) (ht : (mH S c).1 = t) (h1 : (decide (1 ≤ t) && decide (t ≤ 12)) = true) (hf : ma_fld o x t = some k) (hv : ma_rd S c k (ma_ft t k) = v) (K : ma_wp X d w M (pc + 3) L (v :: r) S Q) : ma_wp X d w M pc L (.inr (.inr (some c)) :: r) S Q := by
  refine zw_hp hm hd rfl rfl rfl rfl ?_ K
  rw [Bool.and_eq_true] at h1
  unfold ma_hp
  simp only [hs, ht, h1.1, h1.2, Bool.and_self, if_true, hf, Option.map_some, hv]
/-- which fields a method that is no constructor may write -/
def ma_pk (o x t k : Nat) : Bool := match vwCl[t]? with
  | some (_, T, _) => decide (ma_fld o x t = some k) && !(T k).2.2.2 && decide (1 ≤ t) && decide (t ≤ 12)
  | none => false
theorem zw_pf (hm : ma_md M = some (o, y, cc, nL, ret)) {x : Nat} (hd : decode cc pc = .ok (.putfield x, 3)) {c t k : Nat} {v : ma_V} (hs : ma_is S c = true) (ht : (mH S c).1 = t) (hp : ma_pk o x t k = true) (hv : ma_ok (ma_ft t k) v = true) (K : ma_wp X d w M (pc + 3) L r (ma_put S c k v) Q) : ma_wp X d w M pc L (v :: .inr (.inr (some c)) :: r) S Q := by
  refine zw_hp hm hd rfl rfl rfl rfl ?_ K
  unfold ma_pk at hp
  split at hp
  · next C T N hc =>
    simp only [Bool.and_eq_true, decide_eq_true_eq, Bool.not_eq_true'] at hp
    unfold ma_hp
    simp only [hs, ht, hp.1.2, hp.2, decide_true, Bool.and_self, if_true, hp.1.1.1, hc, hp.1.1.2, hv, Bool.not_false, Bool.true_or]
  · cases hp
theorem zk_int {x : Int32} : ma_ok .int (.inl x) = true := by simp [ma_ok, narrow, fits]
theorem zk_bool {x : Int32} (h : x = 0 ∨ x = 1) : ma_ok .boolean (.inl x) = true := by
  rcases h with rfl | rfl <;> decide
/-- rows -/
theorem zw_ia (hm : ma_md M = some (o, y, cc, nL, ret)) (hd : decode cc pc = .ok (.iaload, 1)) {c N a : Nat} {j : Int32} (hs : ma_is S c = true) (ht : mH S c = (20, N)) (ha : j.toNatClampNeg = a) (hj : 0 ≤ j ∧ a < N) (K : ma_wp X d w M (pc + 1) L (.inl (mI S c a) :: r) S Q) : ma_wp X d w M pc L (.inl j :: .inr (.inr (some c)) :: r) S Q := by
  subst ha
  refine zw_hp hm hd rfl rfl rfl rfl ?_ K
  unfold ma_hp ma_ix
  simp only [hs, ht, hj.1, hj.2, decide_true, Bool.and_self, if_true]
theorem zw_ias (hm : ma_md M = some (o, y, cc, nL, ret)) (hd : decode cc pc = .ok (.iastore, 1)) {c N a : Nat} {j x : Int32} (hs : ma_is S c = true) (ht : mH S c = (20, N)) (ha : j.toNatClampNeg = a) (hj : 0 ≤ j ∧ a < N) (K : ma_wp X d w M (pc + 1) L r (ma_put S c a (.inl x)) Q) : ma_wp X d w M pc L (.inl x :: .inl j :: .inr (.inr (some c)) :: r) S Q := by
  subst ha
  refine zw_hp hm hd rfl rfl rfl rfl ?_ K
  unfold ma_hp ma_ix
  simp only [hs, ht, hj.1, hj.2, decide_true, Bool.and_self, if_true]
theorem zw_ba (hm : ma_md M = some (o, y, cc, nL, ret)) (hd : decode cc pc = .ok (.baload, 1)) {c N a t : Nat} {j : Int32} (hs : ma_is S c = true) (ht : mH S c = (t, N)) (h2 : (decide (t = 21) || decide (t = 22)) = true) (ha : j.toNatClampNeg = a) (hj : 0 ≤ j ∧ a < N) (K : ma_wp X d w M (pc + 1) L (.inl (mI S c a) :: r) S Q) : ma_wp X d w M pc L (.inl j :: .inr (.inr (some c)) :: r) S Q := by
  subst ha
  refine zw_hp hm hd rfl rfl rfl rfl ?_ K
  unfold ma_hp ma_ix
  simp only [hs, ht, h2, hj.1, hj.2, decide_true, Bool.and_self, if_true]
theorem zw_bas21 (hm : ma_md M = some (o, y, cc, nL, ret)) (hd : decode cc pc = .ok (.bastore, 1)) {c N a : Nat} {j x : Int32} (hs : ma_is S c = true) (ht : mH S c = (21, N)) (ha : j.toNatClampNeg = a) (hj : 0 ≤ j ∧ a < N) (K : ma_wp X d w M (pc + 1) L r (ma_put S c a (.inl (vp_nar .byte x))) Q) : ma_wp X d w M pc L (.inl x :: .inl j :: .inr (.inr (some c)) :: r) S Q := by
  subst ha
  refine zw_hp hm hd rfl rfl rfl rfl ?_ K
  unfold ma_hp ma_ix
  simp only [hs, ht, hj.1, hj.2, decide_true, Bool.and_self, if_true]
theorem zw_bas22 (hm : ma_md M = some (o, y, cc, nL, ret)) (hd : decode cc pc = .ok (.bastore, 1)) {c N a : Nat} {j x : Int32} (hs : ma_is S c = true) (ht : mH S c = (22, N)) (ha : j.toNatClampNeg = a) (hj : 0 ≤ j ∧ a < N) (K : ma_wp X d w M (pc + 1) L r (ma_put S c a (.inl (vp_nar .boolean x))) Q) : ma_wp X d w M pc L (.inl x :: .inl j :: .inr (.inr (some c)) :: r) S Q := by
  subst ha
  refine zw_hp hm hd rfl rfl rfl rfl ?_ K
  unfold ma_hp ma_ix
  simp only [hs, ht, hj.1, hj.2, decide_true, Bool.and_self, if_true, Nat.reduceEqDiff, if_false]
theorem zw_aa (hm : ma_md M = some (o, y, cc, nL, ret)) (hd : decode cc pc = .ok (.aaload, 1)) {c N a t : Nat} {j : Int32} {v : Option Nat} (hs : ma_is S c = true) (ht : mH S c = (t, N)) (h2 : (decide (t = 24) || decide (t = 25)) = true) (ha : j.toNatClampNeg = a) (hj : 0 ≤ j ∧ a < N) (hv : mR S c a = v) (K : ma_wp X d w M (pc + 1) L (.inr (.inr v) :: r) S Q) : ma_wp X d w M pc L (.inl j :: .inr (.inr (some c)) :: r) S Q := by
  subst ha
  subst hv
  refine zw_hp hm hd rfl rfl rfl rfl ?_ K
  unfold ma_hp ma_ix
  simp only [hs, ht, h2, hj.1, hj.2, decide_true, Bool.and_self, if_true]
theorem zw_len (hm : ma_md M = some (o, y, cc, nL, ret)) (hd : decode cc pc = .ok (.arraylength, 1)) {c N t : Nat} {v : Int32} (hs : ma_is S c = true) (ht : mH S c = (t, N)) (h2 : (decide (20 ≤ t) && decide (t ≤ 25)) = true) (hv : Int32.ofNat N = v) (K : ma_wp X d w M (pc + 1) L (.inl v :: r) S Q) : ma_wp X d w M pc L (.inr (.inr (some c)) :: r) S Q := by
  subst hv
  refine zw_hp hm hd rfl rfl rfl rfl ?_ K
  rw [Bool.and_eq_true] at h2
  unfold ma_hp
  simp only [hs, ht, h2.1, h2.2, Bool.and_self, if_true]
/-- answers -/
theorem zw_ret (hm : ma_md M = some (o, y, cc, nL, ret)) (hd : decode cc pc = .ok (i, n)) (h1 : ma_one X o (decide (y.name = "<init>")) nL d w i n pc L st S = none) {v : Option ma_V} (h : ma_ret ret i n st = some v) (k : Q (.inl v) S) : ma_wp X d w M pc L st S Q := by
  refine ⟨1, .inl v, S, ?_, k⟩
  rw [ma_run_s]
  simp only [ma_body, hm, hd, h1, h]
theorem zw_iret (hm : ma_md M = some (o, y, cc, nL, some .int)) (hd : decode cc pc = .ok (.ireturn, 1)) {x : Int32} (k : Q (.inl (some (.inl x))) S) : ma_wp X d w M pc L [.inl x] S Q := by
  refine zw_ret (v := some (.inl x)) hm hd ?_ (by unfold ma_ret; simp [narrow]) k
  unfold ma_one
  rfl
theorem zw_bret (hm : ma_md M = some (o, y, cc, nL, some .boolean)) (hd : decode cc pc = .ok (.ireturn, 1)) {x : Int32} (hx : x = 0 ∨ x = 1) (k : Q (.inl (some (.inl x))) S) : ma_wp X d w M pc L [.inl x] S Q := by
  refine zw_ret (v := some (.inl x)) hm hd ?_ (by unfold ma_ret; rcases hx with rfl | rfl <;> simp [narrow]) k
  unfold ma_one
  rfl
theorem zw_aret {C : String} (hm : ma_md M = some (o, y, cc, nL, some (.object C))) (hd : decode cc pc = .ok (.areturn, 1)) {x : Option Nat} (k : Q (.inl (some (.inr (.inr x)))) S) : ma_wp X d w M pc L [.inr (.inr x)] S Q := by
  refine zw_ret hm hd ?_ rfl k
  unfold ma_one
  rfl
theorem zw_vret (hm : ma_md M = some (o, y, cc, nL, none)) (hd : decode cc pc = .ok (.return_, 1)) (k : Q (.inl none) S) : ma_wp X d w M pc L [] S Q := by
  refine zw_ret hm hd ?_ rfl k
  unfold ma_one
  rfl
/-- new E; dup; its constructor; athrow -/
theorem zw_thr (hm : ma_md M = some (o, y, cc, nL, ret)) {ik ic x : Nat} (d0 : decode cc pc = .ok (.new ik, 3)) (d3 : decode cc (pc + 3) = .ok (.dup, 1)) (d4 : decode cc (pc + 4) = .ok (.invokespecial ic, 3)) (d7 : decode cc (pc + 7) = .ok (.athrow, 1)) (hx : ma_xt o ik ic = some x) (hn : ma_nwt o ik = none) (h6 : 6 ≤ d) (hw : ma_sz st + 81 ≤ w) (k : Q (.inr x) (ma_bump S)) : ma_wp X d w M pc L st S Q := by
  have h1 : ma_one X o (decide (y.name = "<init>")) nL d w (.new ik) 3 pc L st S = none := by
    unfold ma_one
    simp only [ma_push, ma_stk, ma_sto, ma_jmp, ma_hp, ma_sc, ma_ex, ma_al, hn, Option.map_none, ma_pr, ma_tx, ma_ac]
  have h2 : ma_thr o cc pc = some x := by
    unfold ma_thr
    rw [d0, d3, d4, d7]
    exact hx
  refine ⟨1, .inr (x, pc), ma_bump S, ?_, k⟩
  rw [ma_run_s]
  have h3 : ma_ret ret (.new ik) 3 st = none := rfl
  simp only [ma_body, hm, d0, h1, h2, h3]
  rw [if_pos ⟨h6, hw⟩]
/-- a call -/
theorem zw_call (hm : ma_md M = some (o, y, cc, nL, ret)) (hd : decode cc pc = .ok (i, n)) (h1 : ma_one X o (decide (y.name = "<init>")) nL d w i n pc L st S = none) (h2 : ma_ret ret i n st = none) (h3 : ma_thr o cc pc = none) {k M₉ : Nat} {as rest : List ma_V} (h4 : ma_cl o i n st S = some ((k, M₉), as, rest)) {o₉ nL₉ : Nat} {y₉ : MethodName} {cc₉ : ByteArray} {ret₉ : Option FieldType} (hm₉ : ma_md M₉ = some (o₉, y₉, cc₉, nL₉, ret₉)) (hr : 1 ≤ d ∧ 19 + nL₉ ≤ w ∧ ma_sz as ≤ nL₉ ∧ ma_sz rest ≤ 8)
    (hk : ma_wp X (d - 1) (w - (19 + nL₉)) M₉ 0 (ma_args 0 as) [] S (fun z S₉ => match z with
      | .inl v => ma_wp X d w M (pc + 3) L (v.toList ++ rest) S₉ Q
      | .inr x => k ≤ 1 ∧ Q (.inr x) S₉)) : ma_wp X d w M pc L st S Q := by
  obtain ⟨f, z, S1, e1, e2⟩ := hk
  rcases z with v | ⟨x, px⟩
  · obtain ⟨g, z2, S2, e3, e4⟩ := (e2 : ma_wp X d w M (pc + 3) L (v.toList ++ rest) S1 Q)
    refine ⟨max f g + 1, z2, S2, ?_, e4⟩
    rw [ma_run_s]
    simp only [ma_body, hm, hd, h1, h2, h3, h4, hm₉]
    rw [if_pos hr, ma_run_le (Nat.le_max_left f g) e1]
    exact ma_run_le (Nat.le_max_right f g) e3
  · obtain ⟨e5, e6⟩ := (e2 : k ≤ 1 ∧ Q (.inr x) S1)
    refine ⟨f + 1, .inr (x, pc), S1, ?_, e6⟩
    rw [ma_run_s]
    simp only [ma_body, hm, hd, h1, h2, h3, h4, hm₉]
    rw [if_pos hr, e1]
    simp only [if_pos e5]
/-- what a call of that pool entry on an object of that kind is: kind of call, method, number of arguments -/
def ma_vl (o x t : Nat) : Option (Nat × Nat × Nat) := match ma_fd o x 0 true 0 4, ma_fd o x t false 0 4 with
  | some q0, some q => if q.2.1.2.2 = q0.2.1.2.2 then some q.2.1 else none
  | _, _ => none
theorem ma_vl_cl {x t k M₉ m b : Nat} {asr rest : List ma_V} (hv : ma_vl o x t = some (k, M₉, m)) (hl : asr.length = m) (hrt : ma_rt S b = some t) : ma_cl o (.invokevirtual x) 3 (asr ++ .inr (.inr (some b)) :: rest) S = some ((k, M₉), .inr (.inr (some b)) :: asr.reverse, rest) := by
  unfold ma_vl at hv
  split at hv
  · next q0 q h0 hq =>
    split at hv
    · next he =>
      have hq2 : q.2.1 = (k, M₉, m) := Option.some.inj hv
      have e1 : q.2.1.2.2 = m := by rw [hq2]
      have e0 : q0.2.1.2.2 = asr.length := by rw [hl, ← e1, he]
      unfold ma_cl
      simp only [h0, e0, List.drop_left, hrt, hq, List.take_left]
      rw [if_pos (by rw [e1, hl]), hq2]
    · cases hv
  · cases hv
theorem zw_cv (hm : ma_md M = some (o, y, cc, nL, ret)) {x t k M₉ m b nL₉ o₉ : Nat} {y₉ : MethodName} {cc₉ : ByteArray} {ret₉ : Option FieldType} (hd : decode cc pc = .ok (.invokevirtual x, 3)) (hv : ma_vl o x t = some (k, M₉, m)) (hm₉ : ma_md M₉ = some (o₉, y₉, cc₉, nL₉, ret₉)) (asr rest : List ma_V) (hl : asr.length = m) (hrt : ma_rt S b = some t) (hr : 1 ≤ d ∧ 19 + nL₉ ≤ w) (hz : (decide (ma_sz (.inr (.inr (some b)) :: asr.reverse) ≤ nL₉) && decide (ma_sz rest ≤ 8)) = true)
    (hk : ma_wp X (d - 1) (w - (19 + nL₉)) M₉ 0 (ma_args 0 (.inr (.inr (some b)) :: asr.reverse)) [] S (fun z S₉ => match z with
      | .inl v => ma_wp X d w M (pc + 3) L (v.toList ++ rest) S₉ Q
      | .inr x => k ≤ 1 ∧ Q (.inr x) S₉)) : ma_wp X d w M pc L (asr ++ .inr (.inr (some b)) :: rest) S Q := by
  rw [Bool.and_eq_true, decide_eq_true_eq, decide_eq_true_eq] at hz
  refine zw_call hm hd ?_ ?_ (ma_thr_no hd (fun _ h => by cases h)) (ma_vl_cl hv hl hrt) hm₉ ⟨hr.1, hr.2, hz.1, hz.2⟩ hk
  · unfold ma_one
    rfl
  · rfl
/-- static calls -/
def ma_sl (o x : Nat) : Option (Nat × Nat × Nat) := match ma_fd o x 0 true 5 8 with
  | some q => if q.2.1.1 ≠ 6 ∧ q.2.1.1 ≠ 7 then some q.2.1 else none
  | none => none
theorem ma_sl_cl {x k M₉ m : Nat} {asr rest : List ma_V} (hv : ma_sl o x = some (k, M₉, m)) (hl : asr.length = m) : ma_cl o (.invokestatic x) 3 (asr ++ rest) S = some ((k, M₉), asr.reverse, rest) := by
  unfold ma_sl at hv
  split at hv
  · next q hq =>
    split at hv
    · next he =>
      have hq2 : q.2.1 = (k, M₉, m) := Option.some.inj hv
      have e1 : q.2.1.2.2 = asr.length := by rw [hq2, hl]
      unfold ma_cl
      simp only [hq, e1, List.drop_left, List.take_left]
      rw [if_pos ⟨he.1, he.2, by rw [List.length_append]; omega⟩, hq2]
    · cases hv
  · cases hv
theorem ma_pr_st {x : Nat} (h : ma_prt o x = none) : ma_pr o d w (.invokestatic x) 3 st S = none := by
  unfold ma_pr
  split
  · next h0 _ => cases h0
  · next e _ => cases e; simp [h]
  · next e _ => cases e; simp [h]
  · rfl
theorem zw_cs (hm : ma_md M = some (o, y, cc, nL, ret)) {x k M₉ m nL₉ o₉ : Nat} {y₉ : MethodName} {cc₉ : ByteArray} {ret₉ : Option FieldType} (hd : decode cc pc = .ok (.invokestatic x, 3)) (hpr : ma_prt o x = none) (hv : ma_sl o x = some (k, M₉, m)) (hm₉ : ma_md M₉ = some (o₉, y₉, cc₉, nL₉, ret₉)) (asr rest : List ma_V) (hl : asr.length = m) (hr : 1 ≤ d ∧ 19 + nL₉ ≤ w) (hz : (decide (ma_sz asr.reverse ≤ nL₉) && decide (ma_sz rest ≤ 8)) = true)
    (hk : ma_wp X (d - 1) (w - (19 + nL₉)) M₉ 0 (ma_args 0 asr.reverse) [] S (fun z S₉ => match z with
      | .inl v => ma_wp X d w M (pc + 3) L (v.toList ++ rest) S₉ Q
      | .inr x => k ≤ 1 ∧ Q (.inr x) S₉)) : ma_wp X d w M pc L (asr ++ rest) S Q := by
  rw [Bool.and_eq_true, decide_eq_true_eq, decide_eq_true_eq] at hz
  refine zw_call hm hd ?_ ?_ (ma_thr_no hd (fun _ h => by cases h)) (ma_sl_cl hv hl) hm₉ ⟨hr.1, hr.2, hz.1, hz.2⟩ hk
  · unfold ma_one
    rw [ma_pr_st hpr]
    rfl
  · rfl
end ZW1

/-! from 89.places -/
/-! Runs know of the locals only what they read: more locals do no harm -/
def ma_nd (L : ma_L) : Prop := (L.map (·.1)).Nodup
def ma_le (L L₉ : ma_L) : Prop := ∀ k v, ma_get L k = some v → ma_get L₉ k = some v
theorem ma_le_nil (L : ma_L) : ma_le [] L := fun k v h => by cases h
theorem ma_le_cons {L T : ma_L} {k : Nat} {v : ma_V} (h : ma_get L k = some v) (t : ma_le T L) : ma_le ((k, v) :: T) L := by
  intro j u hj
  unfold ma_get at hj
  by_cases e : k = j
  · rw [List.find?_cons_of_pos (by simpa using e)] at hj
    rw [← Option.some.inj hj, ← e]
    exact h
  · rw [List.find?_cons_of_neg (by simpa using e)] at hj
    exact t j u hj
theorem ma_find_filter (p : Nat × ma_V → Bool) (k : Nat) : ∀ L : ma_L, ma_nd L → (L.filter p).find? (fun q => q.1 == k) = (L.find? (fun q => q.1 == k)).filter p := by
  intro L
  induction L with
  | nil => intro _; rfl
  | cons q T ih =>
    intro hn
    have hn₉ : q.1 ∉ T.map (·.1) ∧ (T.map (·.1)).Nodup := List.nodup_cons.mp hn
    by_cases hq : q.1 = k
    · have hq₉ : (q.1 == k) = true := by simpa using hq
      rw [List.find?_cons_of_pos (p := fun q : Nat × ma_V => q.1 == k) hq₉]
      cases hp : p q with
      | true =>
        rw [List.filter_cons_of_pos hp, List.find?_cons_of_pos (p := fun q : Nat × ma_V => q.1 == k) hq₉]
        simp [Option.filter, hp]
      | false =>
        rw [List.filter_cons_of_neg (by simp [hp])]
        simp only [Option.filter, hp]
        refine List.find?_eq_none.mpr ?_
        intro z hz hk
        have hz1 : z ∈ T := (List.mem_filter.mp hz).1
        have hk1 : z.1 = k := by simpa using hk
        exact hn₉.1 (by rw [hq, ← hk1]; exact List.mem_map.mpr ⟨z, hz1, rfl⟩)
    · have hq₉ : ¬ (q.1 == k) = true := by simpa using hq
      rw [List.find?_cons_of_neg (p := fun q : Nat × ma_V => q.1 == k) hq₉]
      cases hp : p q with
      | true => rw [List.filter_cons_of_pos hp, List.find?_cons_of_neg (p := fun q : Nat × ma_V => q.1 == k) hq₉]; exact ih hn₉.2
      | false => rw [List.filter_cons_of_neg (by simp [hp])]; exact ih hn₉.2
theorem ma_find_key {L : ma_L} {k : Nat} {q : Nat × ma_V} (h : L.find? (fun q => q.1 == k) = some q) : q.1 = k := by
  have := List.find?_some h
  simpa using this
theorem ma_get_st {L : ma_L} (hn : ma_nd L) {i k : Nat} {u v : ma_V} (hk : k ≠ i) : ma_get (ma_st L i v) k = some u ↔ (ma_get L k = some u ∧ ¬ (k + 1 = i ∧ ma_2 u = true)) := by
  unfold ma_st
  unfold ma_get
  rw [List.find?_cons_of_neg (by simp; exact fun z => hk z.symm), ma_find_filter _ _ _ hn]
  cases hf : L.find? (fun q => q.1 == k) with
  | none => simp [Option.filter]
  | some q =>
    have e := ma_find_key hf
    simp only [Option.filter, Option.map_some, Option.some.injEq]
    by_cases hp : (!(q.1 == i) && !(q.1 + 1 == i && ma_2 q.2)) = true
    · rw [if_pos hp]
      simp only [Option.map_some, Option.some.injEq]
      constructor
      · intro h
        refine ⟨h, fun z => ?_⟩
        rw [e, h] at hp
        simp [z.1, z.2] at hp
      · intro h; exact h.1
    · rw [if_neg hp]
      constructor
      · intro h; cases h
      · intro h
        refine absurd ?_ hp
        rw [e, h.1]
        have h1 : (k == i) = false := by simpa using hk
        rw [h1]
        cases hm : ma_2 u with
        | false => simp
        | true =>
          have : (k + 1 == i) = false := by
            simp only [beq_eq_false_iff_ne]
            exact fun z => h.2 ⟨z, hm⟩
          simp [this]
theorem ma_nd_st {L : ma_L} (hn : ma_nd L) (i : Nat) (v : ma_V) : ma_nd (ma_st L i v) := by
  unfold ma_nd ma_st
  rw [List.map_cons, List.nodup_cons]
  refine ⟨?_, ?_⟩
  · intro h
    obtain ⟨q, h1, h2⟩ := List.mem_map.mp h
    have h3 := (List.mem_filter.mp h1).2
    have h4 : q.1 = i := h2
    simp [h4] at h3
  · exact List.Nodup.sublist (List.Sublist.map _ List.filter_sublist) hn
theorem ma_le_st {L L₉ : ma_L} (hn : ma_nd L) (hn₉ : ma_nd L₉) (h : ma_le L L₉) (i : Nat) (v : ma_V) : ma_le (ma_st L i v) (ma_st L₉ i v) := by
  intro k u hk
  by_cases e : k = i
  · subst e
    rw [ma_get_self] at hk ⊢
    exact hk
  · rw [ma_get_st hn e] at hk
    rw [ma_get_st hn₉ e]
    exact ⟨h k u hk.1, hk.2⟩
section ZL1
variable {X : Nat × (Nat → Int32)} {d w M pc : Nat} {L L₉ L1 : ma_L} {st st1 : List ma_V} {S S1 : ma_S} {o nL : Nat} {ini : Bool} {i : Instr} {n : Nat}
theorem ma_push_le (hle : ma_le L L₉) {v : ma_V} (h : ma_push i n L = some v) : ma_push i n L₉ = some v := by
  unfold ma_push at h ⊢
  split at h
  · exact h
  · exact h
  · exact h
  · exact h
  · exact h
  · split at h
    · next hg => simp only [hle _ _ hg]; exact h
    · cases h
  · split at h
    · next hg => simp only [hle _ _ hg]; exact h
    · cases h
  · split at h
    · next hg => simp only [hle _ _ hg]; exact h
    · cases h
  · split at h
    · next hg => simp only [hle _ _ hg]; exact h
    · cases h
  · split at h
    · next hg => simp only [hle _ _ hg]; exact h
    · cases h
  · split at h
    · next hg => simp only [hle _ _ hg]; exact h
    · cases h
  · cases h
theorem ma_sto_le (hn : ma_nd L) (hn₉ : ma_nd L₉) (hle : ma_le L L₉) (h : ma_sto i n nL L st = some (L1, st1)) : ∃ L2, ma_sto i n nL L₉ st = some (L2, st1) ∧ ma_le L1 L2 ∧ ma_nd L1 ∧ ma_nd L2 := by
  unfold ma_sto at h ⊢
  split at h
  · split at h
    · next hk => cases h; exact ⟨_, if_pos hk, ma_le_st hn hn₉ hle _ _, ma_nd_st hn _ _, ma_nd_st hn₉ _ _⟩
    · cases h
  · split at h
    · next hk => cases h; exact ⟨_, if_pos hk, ma_le_st hn hn₉ hle _ _, ma_nd_st hn _ _, ma_nd_st hn₉ _ _⟩
    · cases h
  · split at h
    · next hk => cases h; exact ⟨_, if_pos hk, ma_le_st hn hn₉ hle _ _, ma_nd_st hn _ _, ma_nd_st hn₉ _ _⟩
    · cases h
  · split at h
    · next hk => cases h; exact ⟨_, if_pos hk, ma_le_st hn hn₉ hle _ _, ma_nd_st hn _ _, ma_nd_st hn₉ _ _⟩
    · cases h
  · split at h
    · next hg =>
      split at h
      · next hk => cases h; exact ⟨_, by simp only [hle _ _ hg, if_pos hk], ma_le_st hn hn₉ hle _ _, ma_nd_st hn _ _, ma_nd_st hn₉ _ _⟩
      · cases h
    · cases h
  · cases h
/-- the families that know nothing of the locals -/
def ma_rest (X : Nat × (Nat → Int32)) (o : Nat) (ini : Bool) (d w : Nat) (i : Instr) (n pc : Nat) (st : List ma_V) (S : ma_S) : Option (Nat × List ma_V × ma_S) :=
  match ma_jmp i n pc st with
  | some (t, st₉) => some (t, st₉, S)
  | none => match ma_hp o ini i n st S with
    | some (st₉, S₉) => some (pc + n, st₉, S₉)
    | none => match ma_sc X i n st with
      | some st₉ => some (pc + n, st₉, S)
      | none => match ma_ex o i n st S with
        | some (st₉, S₉) => some (pc + n, st₉, S₉)
        | none => match ma_al o i n st S with
          | some (st₉, S₉) => some (pc + n, st₉, S₉)
          | none => match ma_pr o d w i n st S with
            | some (st₉, S₉) => some (pc + n, st₉, S₉)
            | none => match ma_tx X o i n st with
              | some st₉ => some (pc + n, st₉, S)
              | none => match ma_ac i n pc st with
                | some (t, st₉) => some (t, st₉, S)
                | none => none
theorem ma_one_eq : ma_one X o ini nL d w i n pc L st S = (match ma_push i n L with
    | some v => some (pc + n, L, v :: st, S)
    | none => match ma_stk i n st with
      | some st₉ => some (pc + n, L, st₉, S)
      | none => match ma_sto i n nL L st with
        | some (L₉, st₉) => some (pc + n, L₉, st₉, S)
        | none => (ma_rest X o ini d w i n pc st S).map (fun z => (z.1, L, z.2.1, z.2.2))) := by
  unfold ma_one ma_rest
  cases ma_push i n L with
  | some z => rfl
  | none =>
    cases ma_stk i n st with
    | some z => rfl
    | none =>
      cases ma_sto i n nL L st with
      | some z => rfl
      | none =>
        cases ma_jmp i n pc st with
        | some z => rfl
        | none =>
          cases ma_hp o ini i n st S with
          | some z => rfl
          | none =>
            cases ma_sc X i n st with
            | some z => rfl
            | none =>
              cases ma_ex o i n st S with
              | some z => rfl
              | none =>
                cases ma_al o i n st S with
                | some z => rfl
                | none =>
                  cases ma_pr o d w i n st S with
                  | some z => rfl
                  | none =>
                    cases ma_tx X o i n st with
                    | some z => rfl
                    | none =>
                      cases ma_ac i n pc st with
                      | some z => rfl
                      | none =>
                        rfl
/-- what reads a local does nothing else -/
theorem ma_load_only {v : ma_V} (h : ma_push i n L = none) (h₉ : ma_push i n L₉ = some v) (ret : Option FieldType) : ma_stk i n st = none ∧ ma_sto i n nL L st = none ∧ ma_rest X o ini d w i n pc st S = none ∧ ma_ret ret i n st = none ∧ ma_cl o i n st S = none ∧ ∀ ik, i ≠ .new ik ∧ i ≠ .invokestatic ik := by
  unfold ma_push at h₉
  split at h₉
  · cases h
  · cases h
  · cases h
  · cases h
  · cases h
  all_goals first | (cases h₉; done) | exact ⟨rfl, rfl, rfl, rfl, rfl, fun ik => ⟨fun h => (by cases h), fun h => (by cases h)⟩⟩
theorem ma_inc_only {z : ma_L × List ma_V} (h : ma_sto i n nL L st = none) (h₉ : ma_sto i n nL L₉ st = some z) (ret : Option FieldType) : ma_rest X o ini d w i n pc st S = none ∧ ma_ret ret i n st = none ∧ ma_cl o i n st S = none ∧ ∀ ik, i ≠ .new ik ∧ i ≠ .invokestatic ik := by
  unfold ma_sto at h₉
  split at h₉
  all_goals first | (cases h₉; done) | exact ⟨rfl, rfl, rfl, fun ik => ⟨fun h => (by cases h), fun h => (by cases h)⟩⟩
theorem ma_one_le (hn : ma_nd L) (hn₉ : ma_nd L₉) (hle : ma_le L L₉) {pc1 : Nat} (h : ma_one X o ini nL d w i n pc L st S = some (pc1, L1, st1, S1)) : ∃ L2, ma_one X o ini nL d w i n pc L₉ st S = some (pc1, L2, st1, S1) ∧ ma_le L1 L2 ∧ ma_nd L1 ∧ ma_nd L2 := by
  rw [ma_one_eq] at h ⊢
  split at h
  · next v hv =>
    cases h
    rw [ma_push_le hle hv]
    exact ⟨L₉, rfl, hle, hn, hn₉⟩
  · next hp =>
    cases hp₉ : ma_push i n L₉ with
    | some v₉ =>
      obtain ⟨a1, a2, a3, -⟩ := ma_load_only (X := X) (d := d) (w := w) (pc := pc) (st := st) (S := S) (o := o) (nL := nL) (ini := ini) hp hp₉ none
      rw [a1, a2, a3] at h
      cases h
    | none =>
      simp only
      split at h
      · next hs => cases h; exact ⟨L₉, rfl, hle, hn, hn₉⟩
      · split at h
        · next hs =>
          cases h
          obtain ⟨L2, b1, b2, b3, b4⟩ := ma_sto_le hn hn₉ hle hs
          rw [b1]
          exact ⟨L2, rfl, b2, b3, b4⟩
        · next hs =>
          cases hs₉ : ma_sto i n nL L₉ st with
          | some z =>
            obtain ⟨a1, -⟩ := ma_inc_only (X := X) (d := d) (w := w) (pc := pc) (S := S) (o := o) (ini := ini) hs hs₉ none
            rw [a1] at h
            cases h
          | none =>
            cases hr : ma_rest X o ini d w i n pc st S with
            | none => rw [hr] at h; cases h
            | some z => rw [hr] at h; cases h; exact ⟨L₉, rfl, hle, hn, hn₉⟩
theorem ma_one_no (hle : ma_le L L₉) (h : ma_one X o ini nL d w i n pc L st S = none) (ret : Option FieldType) : ma_one X o ini nL d w i n pc L₉ st S = none ∨ (ma_ret ret i n st = none ∧ ma_cl o i n st S = none ∧ ∀ ik, i ≠ .new ik ∧ i ≠ .invokestatic ik) := by
  rw [ma_one_eq] at h ⊢
  split at h
  · cases h
  · next hp =>
    cases hp₉ : ma_push i n L₉ with
    | some v₉ =>
      obtain ⟨-, -, -, a4, a5, a6⟩ := ma_load_only (X := X) (d := d) (w := w) (pc := pc) (st := st) (S := S) (o := o) (nL := nL) (ini := ini) hp hp₉ ret
      exact Or.inr ⟨a4, a5, a6⟩
    | none =>
      simp only
      split at h
      · cases h
      · split at h
        · cases h
        · next hs =>
          cases hs₉ : ma_sto i n nL L₉ st with
          | some z =>
            obtain ⟨-, a4, a5, a6⟩ := ma_inc_only (X := X) (d := d) (w := w) (pc := pc) (S := S) (o := o) (ini := ini) hs hs₉ ret
            exact Or.inr ⟨a4, a5, a6⟩
          | none =>
            cases hr : ma_rest X o ini d w i n pc st S with
            | none => exact Or.inl rfl
            | some z => rw [hr] at h; cases h
end ZL1
theorem ma_run_sub {X : Nat × (Nat → Int32)} : ∀ (f d w M pc : Nat) (L L₉ : ma_L) (st : List ma_V) (S : ma_S) (r : ma_R), ma_nd L → ma_nd L₉ → ma_le L L₉ → ma_run X f d w M pc L st S = some r → ma_run X f d w M pc L₉ st S = some r := by
  intro f
  induction f with
  | zero => intro d w M pc L L₉ st S r _ _ _ h; cases h
  | succ f ih =>
    intro d w M pc L L₉ st S r hn hn₉ hle h
    rw [ma_run_s] at h ⊢
    unfold ma_body at h ⊢
    split at h
    · cases h
    · next o y cc nL ret hmd =>
      split at h
      · cases h
      · next i n hd =>
        split at h
        · next pc1 L1 st1 S1 h1 =>
          obtain ⟨L2, b1, b2, b3, b4⟩ := ma_one_le hn hn₉ hle h1
          simp only [b1]
          exact ih _ _ _ _ _ _ _ _ _ b3 b4 b2 h
        · next h1 =>
          rcases ma_one_no hle h1 ret with b1 | ⟨a4, a5, a6⟩
          · simp only [b1]
            split at h
            · exact h
            · split at h
              · exact h
              · split at h
                · cases h
                · split at h
                  · cases h
                  · split at h
                    · next hroom =>
                      rw [if_pos hroom]
                      split at h
                      · next v2 S2 hr =>
                        skip
                        exact ih _ _ _ _ _ _ _ _ _ hn hn₉ hle h
                      · next x2 px S2 hr =>
                        skip
                        exact h
                      · cases h
                    · cases h
          · rw [a4, ma_thr_no hd (fun ik => (a6 ik).1), a5] at h
            cases h
theorem zw_sub {X : Nat × (Nat → Int32)} {d w M pc : Nat} {L L₉ : ma_L} {st : List ma_V} {S : ma_S} {Q : Option ma_V ⊕ Nat → ma_S → Prop} (hn : ma_nd L) (hn₉ : ma_nd L₉) (hle : ma_le L L₉) (h : ma_wp X d w M pc L st S Q) : ma_wp X d w M pc L₉ st S Q := by
  obtain ⟨f, z, S₉, h1, h2⟩ := h
  exact ⟨f, z, S₉, ma_run_sub _ _ _ _ _ _ _ _ _ _ hn hn₉ hle h1, h2⟩

