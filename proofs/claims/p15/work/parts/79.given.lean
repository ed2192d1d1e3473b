/-! THE LAW'S START: what the Statement gives, in the small machine's words; and the claim out of the law's run there -/
def R_law : String := "CollectorHouseLaw"
def lw_P (b : Addr) (xs : List Int32) (args : Array Value) (s : State) : Prop := args = #[.ref b] ∧ s.IntsAt b xs ∧ xs.length ≤ 3072 ∧ (Jvm.Cond.and given_1 narrow_1).before args s = true
def lw_Q (_ : Array Value) (s : State) (o : Outcome) (t : State) : Prop := o = .returned (some (.int 1)) ∧ Framed s o t [] 601024 7293034
def lw_Z (below : List Frame) (a : Array Value) (s : State) : State → Prop := fun t => ∃ o, t.status = .running ∧ Ended t below o ∧ lw_Q a s o t
/-- the law's own end, with 1 on the stack, nothing written that was there before, its room as the claim has it -/
theorem lw_ret {p : Program} {l : Launch} {e : Env} {s : State} {m : MethodId} {below : List Frame} {meth : Method} {c : Code} {b : Nat} (hx : p.tables.exec = Jvm.exec) (hb : c.code = code) (hr : meth.sig.returnType = ret) (hlocks : meth.locks = false) {pc : Nat} {H : Heap} {ls : Array Slot} (hdg : decode code pc = .ok (.ireturn, 1)) : W p l e room_1 s m #[Value.ref b] below meth c H [] 601024 7293034 (lw_Z below #[Value.ref b] s) (F0 m pc ls [.int 1]) := by
  intro T hT X
  obtain ⟨fs, hret, hrun, hended, hW, hframe⟩ := X.leave (v := some (.int 1)) (hlocks := hlocks) (fun h => by rw [hr] at h; cases h)
  have hmeth' : T.vm.method? m = some meth := X.method'
  refine ⟨T.setFrames fs, ?_, .returned (some (.int 1)), hrun, hended, rfl, ⟨_, rfl⟩, hW, hframe⟩
  jvm_step X.here [X.here.top, hx, hb, hdg, hmeth', hr, ret, narrow_b1]
  (try refine ⟨rfl, ?_⟩); (try refine ⟨rfl, ?_⟩)
  first | (intro acts; rw [hret _ acts rfl rfl rfl]) | rw [hret _ _ rfl rfl rfl]
  exact Steps.refl _
/-- what holds at the law's entry: the machine, the code, the tables' words (any of lw_tbl by 'hts w (by decide +kernel)'), the script of L ints xs at the cell b, what the Statement gives of the start (any of its parts by flat_of_before) -/
def lw_At (p : Program) (s : State) (m : MethodId) (meth : Method) (c : Code) (b L : Nat) (xs : Nat → Int32) : Prop :=
  p.tables.exec = Jvm.exec ∧ c.code = code ∧ meth.sig.returnType = ret ∧ c.maxLocals = 7 ∧ s.vm.findClass R_law = some m.cls ∧ (∀ w ∈ lw_tbl, w.before #[Value.ref b] s = true) ∧ va_X b L xs s s.heap ∧ b < s.heap.size ∧ meth.locks = false ∧ (Jvm.Cond.and given_1 narrow_1).before #[Value.ref b] s = true
theorem ma_sel_below {C : String} {y : MethodName} {s : State} {args : Array Value} {n n' : Nat} (hy : y.cls ≠ "java/lang/invoke/MethodHandle" ∧ y.cls ≠ "java/lang/invoke/VarHandle") (hC : (Cond.instantiable C n).before args s = true) (hY : (Cond.instantiable y.cls n').before args s = true) (hp : (Cond.privateMethod y).before args s = true) (hi : (Cond.instanceMethod y).before args s = true) : (Cond.selects C y y).before args s = true := by
  obtain ⟨cC, kC, hc, -⟩ := Cond.instantiable_spec hC
  obtain ⟨cY, kY, hcY, hkY, -, hno, -, -⟩ := Cond.instantiable_spec hY
  have hni : kY.isInterface = false := (Bool.or_eq_false_iff.mp hno).1
  obtain ⟨mk, methM, hnamed, hmethM, -, -⟩ := Cond.instanceMethod_spec hi
  have hfound : s.methodFound? y.cls y.name y.desc = some mk := State.methodFound?_of_named hnamed hy
  have hcls : mk.cls = cY := Option.some.inj ((findClass_of_methodNamed hnamed).symm.trans hcY)
  have hsel : selectMethod {} s.vm cC mk = .method mk := selectMethod_private hmethM (Cond.privateMethod_at hp mk methM hnamed hmethM)
  simp only [Cond.before, Cond.holds, Cond.value, hc, hfound, hnamed, hsel, hcls, hkY]
  simp
  exact hni
theorem ma_tb_all {args : Array Value} {s : State} (hts : ∀ w ∈ lw_tbl, w.before args s = true) : ∀ w ∈ ma_TB, w.before args s = true := by
  intro w hw
  rcases List.mem_append.mp (List.mem_filter.mp hw).1 with h | h
  · have t1 : ∀ {w : Cond} (j : Nat), tables_1[j]? = some w → w.before args s = true := fun j hj => hts _ (List.mem_append_right _ (List.mem_of_getElem? hj))
    simp only [ma_sx, List.mem_cons, List.not_mem_nil, or_false] at h
    rcases h with rfl | rfl | rfl | rfl | rfl | rfl
    · exact ma_sel_below (n := 8) (n' := 5) ⟨by decide, by decide⟩ (t1 246 (by decide +kernel)) (t1 137 (by decide +kernel)) (t1 834 (by decide +kernel)) (t1 835 (by decide +kernel))
    · exact ma_sel_below (n := 8) (n' := 5) ⟨by decide, by decide⟩ (t1 246 (by decide +kernel)) (t1 137 (by decide +kernel)) (t1 853 (by decide +kernel)) (t1 854 (by decide +kernel))
    · exact ma_sel_below (n := 8) (n' := 5) ⟨by decide, by decide⟩ (t1 246 (by decide +kernel)) (t1 137 (by decide +kernel)) (t1 857 (by decide +kernel)) (t1 858 (by decide +kernel))
    · exact ma_sel_below (n := 9) (n' := 5) ⟨by decide, by decide⟩ (t1 268 (by decide +kernel)) (t1 137 (by decide +kernel)) (t1 834 (by decide +kernel)) (t1 835 (by decide +kernel))
    · exact ma_sel_below (n := 9) (n' := 5) ⟨by decide, by decide⟩ (t1 268 (by decide +kernel)) (t1 137 (by decide +kernel)) (t1 853 (by decide +kernel)) (t1 854 (by decide +kernel))
    · exact ma_sel_below (n := 9) (n' := 5) ⟨by decide, by decide⟩ (t1 268 (by decide +kernel)) (t1 137 (by decide +kernel)) (t1 857 (by decide +kernel)) (t1 858 (by decide +kernel))
  · exact hts w h
theorem ma_nw_tab : ∀ w ∈ ma_nw, (decide (w ∈ tables_1) && w.onTables) = true := List.all_eq_true.mp (by decide +kernel)
theorem ma_nc_tab : ∀ q ∈ ma_nc, Cond.not (.castable q.1 q.2) ∈ flatC (Jvm.Cond.and given_1 narrow_1) := by decide +kernel
theorem ma_clw0 : ∀ w ∈ u_ws RJx3273f TJx3273f 6, w ∈ ma_TB := ma_lay_in [1219, 1220, 1221, 1222, 1223, 1228] (by decide +kernel)
def ma_txt (i : Nat) : Term := Term.string (ma_txr.getD i ("", 0, "", 0)).1 (ma_txr.getD i ("", 0, "", 0)).2.1
theorem ma_tx1 : ∀ i, i < 19 → Cond.exactly (ma_txt i) "java/lang/String" ∈ flatC (Jvm.Cond.and given_1 narrow_1) := by decide +kernel
theorem ma_tx2 : ∀ i, i < 19 → Cond.eq (.field (ma_txt i) "java/lang/String" "coder" "B") (.int 0) ∈ flatC (Jvm.Cond.and given_1 narrow_1) := by decide +kernel
theorem ma_tx3 : ∀ i, i < 19 → Cond.arrayOf (.field (ma_txt i) "java/lang/String" "value" "[B") .byte ∈ flatC (Jvm.Cond.and given_1 narrow_1) := by decide +kernel
theorem ma_tx4 : ∀ i, i < 19 → Cond.eq (.length (.field (ma_txt i) "java/lang/String" "value" "[B")) (.int (Int32.ofNat (ma_txl.getD i 0))) ∈ flatC (Jvm.Cond.and given_1 narrow_1) := by decide +kernel
theorem ma_tx5 : ∀ i, i < 19 → ∀ j, j < ma_txl.getD i 0 → Cond.eq (.elem (.field (ma_txt i) "java/lang/String" "value" "[B") (.int (Int32.ofNat j))) (.int ((ma_txb.getD i []).getD j 0)) ∈ flatC (Jvm.Cond.and given_1 narrow_1) := by decide +kernel
theorem ma_tx6_0 : ∀ j, j < 19 → 0 < j → Cond.not (Cond.eq (ma_txt 0) (ma_txt j)) ∈ flatC (Jvm.Cond.and given_1 narrow_1) := by decide +kernel
theorem ma_tx6_1 : ∀ j, j < 19 → 1 < j → Cond.not (Cond.eq (ma_txt 1) (ma_txt j)) ∈ flatC (Jvm.Cond.and given_1 narrow_1) := by decide +kernel
theorem ma_tx6_2 : ∀ j, j < 19 → 2 < j → Cond.not (Cond.eq (ma_txt 2) (ma_txt j)) ∈ flatC (Jvm.Cond.and given_1 narrow_1) := by decide +kernel
theorem ma_tx6_3 : ∀ j, j < 19 → 3 < j → Cond.not (Cond.eq (ma_txt 3) (ma_txt j)) ∈ flatC (Jvm.Cond.and given_1 narrow_1) := by decide +kernel
theorem ma_tx6_4 : ∀ j, j < 19 → 4 < j → Cond.not (Cond.eq (ma_txt 4) (ma_txt j)) ∈ flatC (Jvm.Cond.and given_1 narrow_1) := by decide +kernel
theorem ma_tx6_5 : ∀ j, j < 19 → 5 < j → Cond.not (Cond.eq (ma_txt 5) (ma_txt j)) ∈ flatC (Jvm.Cond.and given_1 narrow_1) := by decide +kernel
theorem ma_tx6_6 : ∀ j, j < 19 → 6 < j → Cond.not (Cond.eq (ma_txt 6) (ma_txt j)) ∈ flatC (Jvm.Cond.and given_1 narrow_1) := by decide +kernel
theorem ma_tx6_7 : ∀ j, j < 19 → 7 < j → Cond.not (Cond.eq (ma_txt 7) (ma_txt j)) ∈ flatC (Jvm.Cond.and given_1 narrow_1) := by decide +kernel
theorem ma_tx6_8 : ∀ j, j < 19 → 8 < j → Cond.not (Cond.eq (ma_txt 8) (ma_txt j)) ∈ flatC (Jvm.Cond.and given_1 narrow_1) := by decide +kernel
theorem ma_tx6_9 : ∀ j, j < 19 → 9 < j → Cond.not (Cond.eq (ma_txt 9) (ma_txt j)) ∈ flatC (Jvm.Cond.and given_1 narrow_1) := by decide +kernel
theorem ma_tx6_10 : ∀ j, j < 19 → 10 < j → Cond.not (Cond.eq (ma_txt 10) (ma_txt j)) ∈ flatC (Jvm.Cond.and given_1 narrow_1) := by decide +kernel
theorem ma_tx6_11 : ∀ j, j < 19 → 11 < j → Cond.not (Cond.eq (ma_txt 11) (ma_txt j)) ∈ flatC (Jvm.Cond.and given_1 narrow_1) := by decide +kernel
theorem ma_tx6_12 : ∀ j, j < 19 → 12 < j → Cond.not (Cond.eq (ma_txt 12) (ma_txt j)) ∈ flatC (Jvm.Cond.and given_1 narrow_1) := by decide +kernel
theorem ma_tx6_13 : ∀ j, j < 19 → 13 < j → Cond.not (Cond.eq (ma_txt 13) (ma_txt j)) ∈ flatC (Jvm.Cond.and given_1 narrow_1) := by decide +kernel
theorem ma_tx6_14 : ∀ j, j < 19 → 14 < j → Cond.not (Cond.eq (ma_txt 14) (ma_txt j)) ∈ flatC (Jvm.Cond.and given_1 narrow_1) := by decide +kernel
theorem ma_tx6_15 : ∀ j, j < 19 → 15 < j → Cond.not (Cond.eq (ma_txt 15) (ma_txt j)) ∈ flatC (Jvm.Cond.and given_1 narrow_1) := by decide +kernel
theorem ma_tx6_16 : ∀ j, j < 19 → 16 < j → Cond.not (Cond.eq (ma_txt 16) (ma_txt j)) ∈ flatC (Jvm.Cond.and given_1 narrow_1) := by decide +kernel
theorem ma_tx6_17 : ∀ j, j < 19 → 17 < j → Cond.not (Cond.eq (ma_txt 17) (ma_txt j)) ∈ flatC (Jvm.Cond.and given_1 narrow_1) := by decide +kernel
theorem ma_tx6_18 : ∀ j, j < 19 → 18 < j → Cond.not (Cond.eq (ma_txt 18) (ma_txt j)) ∈ flatC (Jvm.Cond.and given_1 narrow_1) := by decide +kernel
theorem ma_tx6a : ∀ i, i < 19 → ∀ j, j < 19 → i < j → Cond.not (Cond.eq (ma_txt i) (ma_txt j)) ∈ flatC (Jvm.Cond.and given_1 narrow_1) := by
  intro i hi j hj hij
  have h : i = 0 ∨ i = 1 ∨ i = 2 ∨ i = 3 ∨ i = 4 ∨ i = 5 ∨ i = 6 ∨ i = 7 ∨ i = 8 ∨ i = 9 ∨ i = 10 ∨ i = 11 ∨ i = 12 ∨ i = 13 ∨ i = 14 ∨ i = 15 ∨ i = 16 ∨ i = 17 ∨ i = 18 := by omega
  rcases h with rfl | rfl | rfl | rfl | rfl | rfl | rfl | rfl | rfl | rfl | rfl | rfl | rfl | rfl | rfl | rfl | rfl | rfl | rfl
  · exact ma_tx6_0 j hj hij
  · exact ma_tx6_1 j hj hij
  · exact ma_tx6_2 j hj hij
  · exact ma_tx6_3 j hj hij
  · exact ma_tx6_4 j hj hij
  · exact ma_tx6_5 j hj hij
  · exact ma_tx6_6 j hj hij
  · exact ma_tx6_7 j hj hij
  · exact ma_tx6_8 j hj hij
  · exact ma_tx6_9 j hj hij
  · exact ma_tx6_10 j hj hij
  · exact ma_tx6_11 j hj hij
  · exact ma_tx6_12 j hj hij
  · exact ma_tx6_13 j hj hij
  · exact ma_tx6_14 j hj hij
  · exact ma_tx6_15 j hj hij
  · exact ma_tx6_16 j hj hij
  · exact ma_tx6_17 j hj hij
  · exact ma_tx6_18 j hj hij
theorem ma_tx6 : ∀ i, i < 19 → ∀ j, j < 19 → i ≠ j → Cond.not (Cond.eq (ma_txt i) (ma_txt j)) ∈ flatC (Jvm.Cond.and given_1 narrow_1) ∨ Cond.not (Cond.eq (ma_txt j) (ma_txt i)) ∈ flatC (Jvm.Cond.and given_1 narrow_1) := by
  intro i hi j hj hij
  rcases Nat.lt_or_gt_of_ne hij with h | h
  · exact Or.inl (ma_tx6a i hi j hj h)
  · exact Or.inr (ma_tx6a j hj i hi h)
theorem ma_tx7 : ∀ i, i < 19 → ma_txl.getD i 0 < 2 ^ 31 := by decide +kernel
theorem ma_tx8 : ∀ q ∈ ma_txr, Cond.stringRef q.1 q.2.1 q.2.2.1 ∈ tables_1 ∧ q.2.2.2 < 19 ∧ ma_txt q.2.2.2 = Term.string q.1 q.2.1 := by decide +kernel
theorem ma_st1 : Cond.eq (.static "java/lang/String" "COMPACT_STRINGS" "Z") (.int 1) ∈ flatC (Jvm.Cond.and given_1 narrow_1) := by decide +kernel
theorem ma_st2 : Cond.isRef (.static "jdk/internal/util/Preconditions" "SIOOBE_FORMATTER" "Ljava/util/function/BiFunction;") ∈ flatC (Jvm.Cond.and given_1 narrow_1) := by decide +kernel
theorem ma_st3 : Cond.isRef (.static Bundle.tN "UNASSIGNED_STACK" Bundle.steD) ∈ flatC (Jvm.Cond.and given_1 narrow_1) := by decide +kernel
theorem ma_st4 : Cond.isRef (.static Bundle.tN "SUPPRESSED_SENTINEL" Bundle.listD) ∈ flatC (Jvm.Cond.and given_1 narrow_1) := by decide +kernel
theorem ma_ls1 : Cond.laysStatic "java/lang/String" "COMPACT_STRINGS" "Z" ∈ tables_1 := by decide +kernel
theorem ma_ls2 : Cond.laysStatic "jdk/internal/util/Preconditions" "SIOOBE_FORMATTER" "Ljava/util/function/BiFunction;" ∈ tables_1 := by decide +kernel
theorem ma_ls3 : Cond.laysStatic Bundle.tN "UNASSIGNED_STACK" Bundle.steD ∈ tables_1 := by decide +kernel
theorem ma_ls4 : Cond.laysStatic Bundle.tN "SUPPRESSED_SENTINEL" Bundle.listD ∈ tables_1 := by decide +kernel
theorem ma_in1 : Cond.initialized "java/lang/String" ∈ tables_1 ∧ Cond.initialized "jdk/internal/util/Preconditions" ∈ tables_1 ∧ Cond.initialized Bundle.tN ∈ tables_1 := by decide +kernel
theorem ma_ao1 : Cond.arrayOver (.object RX9) ∈ tables_1 ∧ Cond.arrayOver (.object RX1) ∈ tables_1 := by decide +kernel
theorem ma_ac1 : Cond.arrayClass .int ∈ tables_1 ∧ Cond.arrayClass .byte ∈ tables_1 ∧ Cond.arrayClass .boolean ∈ tables_1 ∧ Cond.arrayClass .long ∈ tables_1 := by decide +kernel
theorem ma_ins1 : ∀ k, k < 13 → ∃ q : vw_C, vwCl[k]? = some q ∧ Cond.instantiable q.1 q.2.2 ∈ tables_1 := by
  intro k hk
  have h : k = 0 ∨ k = 1 ∨ k = 2 ∨ k = 3 ∨ k = 4 ∨ k = 5 ∨ k = 6 ∨ k = 7 ∨ k = 8 ∨ k = 9 ∨ k = 10 ∨ k = 11 ∨ k = 12 := by omega
  rcases h with rfl | rfl | rfl | rfl | rfl | rfl | rfl | rfl | rfl | rfl | rfl | rfl | rfl <;> exact ⟨_, rfl, by decide +kernel⟩
