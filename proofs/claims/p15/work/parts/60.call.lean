/-! THE SMALL MACHINE, part 10: calls -/
def ma_args (k : Nat) (as : List ma_V) : ma_L := match as with
  | [] => []
  | v :: r => (k, v) :: ma_args (if ma_2 v then k + 2 else k + 1) r
theorem ma_args_tl (ad : Nat → Nat) : ∀ (as : List ma_V) (k : Nat), ma_tl ad (ma_args k as) = lv_args k (ma_ts ad as) := by
  intro as
  induction as with
  | nil => intro k; rfl
  | cons v r ih =>
    intro k
    show (k, ma_tv ad v) :: ma_tl ad (ma_args (if ma_2 v then k + 2 else k + 1) r) = (k, ma_tv ad v) :: lv_args (if (ma_tv ad v).category = 2 then k + 2 else k + 1) (ma_ts ad r)
    rw [ih, ma_cat]
    cases ma_2 v <;> rfl
theorem ma_args_len (ad : Nat → Nat) : ∀ (as : List ma_V), (lg_sl (ma_ts ad as)).length = ma_sz as := by
  intro as
  induction as with
  | nil => rfl
  | cons v r ih =>
    show ((if (ma_tv ad v).category = 2 then [Slot.val (ma_tv ad v), .second] else [.val (ma_tv ad v)]) ++ lg_sl (ma_ts ad r)).length = (if ma_2 v then 2 else 1) + ma_sz r
    rw [List.length_append, ih, ma_cat]
    cases ma_2 v <;> rfl
theorem ma_args_cL {n : Nat} : ∀ (as : List ma_V) (k : Nat), ma_cs n as → ma_cL n (ma_args k as) := by
  intro as
  induction as with
  | nil => intro k _ q hq; cases hq
  | cons v r ih =>
    intro k h q hq
    rcases List.mem_cons.mp hq with e | e
    · rw [e]; exact ma_cs_hd h
    · exact ih _ (ma_cs_tl h) q e
def ma_fd (o x t : Nat) (any : Bool) (lo hi : Nat) : Option ((Nat × Nat × Nat) × (Nat × Nat × Nat) × (Nat × Nat) × List Nat) := ma_clh.find? (fun q => q.1.1 == o && q.1.2.1 == x && (any || q.1.2.2 == t) && decide (lo ≤ q.2.1.1) && decide (q.2.1.1 ≤ hi))
theorem ma_fd_spec {o x t lo hi : Nat} {any : Bool} {q : (Nat × Nat × Nat) × (Nat × Nat × Nat) × (Nat × Nat) × List Nat} (h : ma_fd o x t any lo hi = some q) : ma_clc q = true ∧ q.1.1 = o ∧ q.1.2.1 = x ∧ (any = true ∨ q.1.2.2 = t) ∧ lo ≤ q.2.1.1 ∧ q.2.1.1 ≤ hi := by
  have h1 := List.find?_some h
  simp only [Bool.and_eq_true, Bool.or_eq_true, beq_iff_eq, decide_eq_true_eq] at h1
  exact ⟨ma_clh_ok q (List.mem_of_find?_eq_some h), h1.1.1.1.1, h1.1.1.1.2, h1.1.1.2, h1.1.2, h1.2⟩
/-- the class, by number, of what is called: a text, or a cell -/
def ma_rt (S : ma_S) (b : Nat) : Option Nat := if b < 19 then some 17 else if ma_is S b && decide (1 ≤ (mH S b).1) && decide ((mH S b).1 ≤ 12) then some (mH S b).1 else none
/-- a call's kind, the method, its arguments, the stack below -/
def ma_cl (o : Nat) (i : Instr) (n : Nat) (st : List ma_V) (S : ma_S) : Option ((Nat × Nat) × List ma_V × List ma_V) := match i, n with
  | .invokevirtual x, 3 => match ma_fd o x 0 true 0 4 with
    | none => none
    | some q0 => match st.drop q0.2.1.2.2 with
      | .inr (.inr (some b)) :: rest => match ma_rt S b with
        | none => none
        | some t => match ma_fd o x t false 0 4 with
          | some q => if q.2.1.2.2 = q0.2.1.2.2 then some ((q.2.1.1, q.2.1.2.1), .inr (.inr (some b)) :: (st.take q0.2.1.2.2).reverse, rest) else none
          | none => none
      | _ => none
  | .invokestatic x, 3 => match ma_fd o x 0 true 5 8 with
    | none => none
    | some q => if q.2.1.1 ≠ 6 ∧ q.2.1.1 ≠ 7 ∧ q.2.1.2.2 ≤ st.length then some ((q.2.1.1, q.2.1.2.1), (st.take q.2.1.2.2).reverse, st.drop q.2.1.2.2) else none
  | .invokespecial x, 3 => match ma_fd o x 0 true 6 9 with
    | none => none
    | some q => match st.drop q.2.1.2.2 with
      | .inr (.inr (some b)) :: rest => if q.2.1.1 ≠ 8 ∧ ma_is S b ∧ 1 ≤ (mH S b).1 ∧ (mH S b).1 ≤ 12 ∧ (q.2.1.1 = 7 ∨ (ma_md q.2.1.2.1).bind (fun z => z.2.2.2.2) = none) then some ((q.2.1.1, q.2.1.2.1), .inr (.inr (some b)) :: (st.take q.2.1.2.2).reverse, rest) else none
      | _ => none
  | _, _ => none
theorem ma_cl_c {o n N : Nat} {i : Instr} {st as rest : List ma_V} {S : ma_S} {k : Nat × Nat} (hc : ma_cs N st) (h : ma_cl o i n st S = some (k, as, rest)) : ma_cs N as ∧ ma_cs N rest ∧ n = 3 := by
  have tk : ∀ j, ma_cs N (st.take j).reverse := fun j v hv => hc v (List.mem_of_mem_take (List.mem_reverse.mp hv))
  have dr : ∀ j, ma_cs N (st.drop j) := fun j v hv => hc v (List.mem_of_mem_drop hv)
  unfold ma_cl at h
  split at h
  · split at h
    · cases h
    · next q0 _ =>
      split at h
      · next b r hdr =>
        have := dr q0.2.1.2.2
        rw [hdr] at this
        split at h
        · cases h
        · split at h
          · split at h
            · cases h; exact ⟨ma_cs_cons (ma_cs_hd this) (tk _), ma_cs_tl this, rfl⟩
            · cases h
          · cases h
      · cases h
  · split at h
    · cases h
    · split at h
      · cases h; exact ⟨tk _, dr _, rfl⟩
      · cases h
  · split at h
    · cases h
    · next q _ =>
      split at h
      · next b r hdr =>
        have := dr q.2.1.2.2
        rw [hdr] at this
        split at h
        · cases h; exact ⟨ma_cs_cons (ma_cs_hd this) (tk _), ma_cs_tl this, rfl⟩
        · cases h
      · cases h
  · cases h
theorem ma_cn_mh (k : Nat) : ma_cn k ≠ "java/lang/invoke/MethodHandle" ∧ ma_cn k ≠ "java/lang/invoke/VarHandle" := by
  unfold ma_cn
  split <;> exact ⟨by decide, by decide⟩
/-- classes by number have their names in ma_cn -/
theorem ma_cn_cl {t : Nat} (h1 : 1 ≤ t) (h2 : t ≤ 12) {C : String} {T : u_T} {N : Nat} (h : vwCl[t]? = some (C, T, N)) : C = ma_cn t := by
  have hh : t = 1 ∨ t = 2 ∨ t = 3 ∨ t = 4 ∨ t = 5 ∨ t = 6 ∨ t = 7 ∨ t = 8 ∨ t = 9 ∨ t = 10 ∨ t = 11 ∨ t = 12 := by omega
  rcases hh with rfl | rfl | rfl | rfl | rfl | rfl | rfl | rfl | rfl | rfl | rfl | rfl <;> (cases h; rfl)
section MA10
variable {p : Program} {l : Launch} {e : Env} {R : Room} {s : State} {m : MethodId} {args : Array Value} {below : List Frame} {meth : Method} {c : Code} {H : Heap} {locs : List Loc} {cells slots : Nat} {Q : State → Prop} {cc : ByteArray} {pc : Nat} {ls : Array Slot} {ad : Nat → Nat} {kA : Nat → ClassId} {D : va_G} {A : Nat → Prop}
theorem ma_pre {X : Nat × (Nat → Int32)} {o nL d w : Nat} {ini : Bool} {L : ma_L} {st as : List ma_V} {S : ma_S} (C : ma_Cx X p R s m args meth c cc o ini nL d w D kA A) (Wd : ma_Wd X s nL D kA A ad L st S H locs ls) (U : State) (hU : U.heap = H) (hW : s.WarmedH U.vm) : ma_Pc X D kA ad S as H.size (ma_ts ad as).toArray U := by
  obtain ⟨hx, hb, hml, hown, hts, hK, hN, hini, hR1, hR2, hA⟩ := C
  obtain ⟨hl, hh, hL, hc, hP, hD, hS, hX⟩ := Wd
  refine ⟨rfl, by rw [hU], by rw [hU]; exact hP, va_K.moved hW.alike hK, hD.weaken (fun _ _ _ _ => trivial), hN.warm hW, ?_⟩
  rw [hU]
  exact ((hX.kept hS.1 (fun a h1 h2 => hS.2.1 a h1 h2)).narrow (ma_free hD hS hA)).warm hW
/-- the words that every callee has: its code, and the tables -/
def ma_ws (y : MethodName) (cc : ByteArray) (nL : Nat) (ret : Option FieldType) : List Cond := Cond.code y cc nL ret :: ma_TB
theorem ma_ws_ok (hts : ∀ w ∈ ma_TB, w.before args s = true) {y : MethodName} {cc : ByteArray} {nL : Nat} {ret : Option FieldType} (hc : Cond.code y cc nL ret ∈ ma_TB) : ∀ w ∈ ma_ws y cc nL ret, ∀ (a' : Array Value) (U : State), s.WarmedH U.vm → w.before a' U = true := by
  intro w hw a' U hW
  have hm : w ∈ ma_TB := by
    rcases List.mem_cons.mp hw with e1 | e1
    · rw [e1]; exact hc
    · exact e1
  exact word_at hW (good_of_word (List.mem_filter.mp hm).2) (hts w hm)
/-- the callee's room -/
abbrev ma_rm (d w mc ms : Nat) : Room := { frames := d, cells := mc, slots := ms, locals := w }
theorem ma_cl_run {X : Nat × (Nat → Int32)} {o nL d w n kd M o' nL' mc ms : Nat} {ini : Bool} {i : Instr} {L : ma_L} {st as rest : List ma_V} {S S' : ma_S} {y : MethodName} {cc' : ByteArray} {ret' : Option FieldType} {v : Option ma_V}
    (C : ma_Cx X p R s m args meth c cc o ini nL d w D kA A) (Wd : ma_Wd X s nL D kA A ad L st S H locs ls) (hd : decode cc pc = .ok (i, n)) (h : ma_cl o i n st S = some ((kd, M), as, rest)) (hmd : ma_md M = some (o', y, cc', nL', ret')) (h1 : 1 ≤ d) (h2 : 19 + nL' ≤ w) (h3 : ma_sz rest ≤ 8)
    (hM : Met l y (ma_ws y cc' nL' ret') (ma_rm (d - 1) (w - (19 + nL')) mc ms) (ma_Pc X D kA ad S as H.size) (ma_Qc D kA ad S S' v) mc ms (va_A (ma_wl kA ad S) H.size)) (hf : cells + mc ≤ R.cells ∧ slots + ms ≤ R.slots) :
    va_Run p l e R s m args below meth c H locs cells slots mc ms (F0 m pc ls (ma_ts ad st)) (ma_ts ad rest) (ma_Qc D kA ad S S' v (ma_ts ad as).toArray) (va_A (ma_wl kA ad S) H.size) := by
  have hpre := fun U hU hW => ma_pre (as := as) C Wd U hU hW
  obtain ⟨hx, hb, hml, hown, hts, hK, hN, hini, hR1, hR2, hA⟩ := C
  obtain ⟨hl, hh, hL, hc, hP, hD, hS, hX⟩ := Wd
  obtain ⟨m1, m2, m3, m4, m5, m6⟩ := ma_md_spec hmd
  have hws := ma_ws_ok hts m1
  have hfr : (ma_rm (d - 1) (w - (19 + nL')) mc ms).frames + 1 ≤ R.frames := by show d - 1 + 1 ≤ _; omega
  have hlo : 8 + (nL' + 11) + (ma_rm (d - 1) (w - (19 + nL')) mc ms).locals ≤ R.locals := by show 8 + (nL' + 11) + (w - (19 + nL')) ≤ _; omega
  have hcode : Cond.code y cc' nL' ret' ∈ ma_ws y cc' nL' ret' := List.mem_cons_self
  have hW8 : 2 * (F0 m pc ls (ma_ts ad st)).monitorRoom + ((ma_ts ad rest).map fun v => v.category).sum ≤ 8 := lv_room (by rw [ma_sz_ts]; exact h3)
  have recv : ∀ b, ma_is S b = true → 1 ≤ (mH S b).1 → (mH S b).1 ≤ 12 → (∃ cellB : Cell, H[ad b]? = some cellB ∧ cellB.vm.isStatics = false ∧ s.vm.findClass (ma_cn (mH S b).1) = some cellB.cls) ∧ ∃ cC, ClassAt s (ma_cn (mH S b).1) cC := by
    intro b hb1 t1 t2
    simp only [ma_is, Bool.and_eq_true, decide_eq_true_eq] at hb1
    obtain ⟨C, T, hcl, -, -, -⟩ := ma_clok_all t1 t2
    have hC := ma_cn_cl t1 t2 hcl
    subst hC
    exact ⟨va_recv (a := ad b) (fs := ma_fs ad S b (mH S b).1) hK hP hcl ((ma_wl_at hb1.1 hb1.2).trans (by rw [ma_E_obj (by omega)])), _, (hK.1 _ _ hcl).2⟩
  have rcv : ∀ b t, ma_rt S b = some t → ∃ cellB : Cell, H[ad b]? = some cellB ∧ cellB.vm.isStatics = false ∧ s.vm.findClass (ma_cn t) = some cellB.cls := by
    intro b t hrt
    unfold ma_rt at hrt
    split at hrt
    · next hlt =>
      cases hrt
      exact vk_recv hX.2.2.1 hlt hS
    · split at hrt
      · next hbb =>
        simp only [Bool.and_eq_true, decide_eq_true_eq] at hbb
        cases hrt
        exact (recv b hbb.1.1 hbb.1.2 hbb.2).1
      · cases hrt
  have stk : ∀ (j b : Nat) (r : List ma_V), st.drop j = .inr (.inr (some b)) :: r → ma_ts ad st = (ma_ts ad (st.take j).reverse).reverse ++ Value.ref (ad b) :: ma_ts ad r ∧ (ma_ts ad (st.take j).reverse).length = j := by
    intro j b r hdr
    constructor
    · have h0 : ma_ts ad st = ma_ts ad (st.take j ++ st.drop j) := by rw [List.take_append_drop]
      rw [h0, hdr]
      unfold ma_ts
      rw [List.map_append, List.map_reverse, List.reverse_reverse]
      rfl
    · have hj : j < st.length := by
        rcases Nat.lt_or_ge j st.length with z | z
        · exact z
        · rw [List.drop_eq_nil_of_le z] at hdr; cases hdr
      unfold ma_ts
      rw [List.length_map, List.length_reverse, List.length_take]
      omega
  have lenOf : ∀ {nn : Nat}, (parseMethodDescriptor y.desc).map (fun d => d.parameters.length) = some nn → ∀ sig, parseMethodDescriptor y.desc = some sig → nn = sig.parameters.length := by
    intro nn hp sig hs
    rw [hs] at hp
    exact (Option.some.inj hp).symm
  unfold ma_cl at h
  split at h
  · next x =>
    split at h
    · cases h
    · next q0 hq0 =>
      split at h
      · next b r hdr =>
        split at h
        · cases h
        · next t hrt =>
          split at h
          · next q hq =>
            split at h
            · next hn =>
              cases h
              obtain ⟨w1, w2, w3, w4, w5, w6⟩ := ma_fd_spec hq
              have w4 : q.1.2.2 = t := w4.resolve_left (by simp)
              obtain ⟨s1, s2⟩ := stk _ _ _ hdr
              have rc := rcv b t hrt
              have hp : PreV s H (ma_cn t) (ad b) (ma_Pc X D kA ad S (.inr (.inr (some b)) :: (st.take q0.2.1.2.2).reverse) H.size) (ma_ts ad (st.take q0.2.1.2.2).reverse) := ⟨ma_Pc_blind, rc, hpre⟩
              unfold ma_clc at w1
              rw [hmd] at w1
              simp only [w2, w3, w4, Bool.and_eq_true] at w1
              have hlen := lenOf (of_decide_eq_true w1.1)
              rw [hn] at hlen
              have w1 := w1.2
              split at w1
              · simp only [Bool.and_eq_true] at w1
                exact va_runV ⟨hx, hb, hml, hown, hts⟩ hM ⟨⟨rfl, rfl, hfr, hlo, hws, hcode, hts _ m1, hts _ m2, ⟨m5, m6⟩, hlen, hts _ (ma_w_in w1.1.1)⟩, hts _ (ma_w_in w1.1.2), hts _ (ma_w_in w1.2)⟩ hp rfl s2 hl.1 s1 hW8 hd hf
              · simp only [Bool.and_eq_true] at w1
                exact va_runV ⟨hx, hb, hml, hown, hts⟩ hM ⟨⟨rfl, rfl, hfr, hlo, hws, hcode, hts _ m1, hts _ m2, ⟨m5, m6⟩, hlen, hts _ (ma_w_in w1.1.1.1)⟩, hts _ (ma_w_in w1.1.1.2), hts _ (ma_TB_p w1.1.2 w1.2)⟩ hp rfl s2 hl.1 s1 hW8 hd hf
              · simp only [Bool.and_eq_true] at w1
                have hy : y = ⟨ma_cn q.2.2.1.2, y.name, y.desc⟩ := by rw [← of_decide_eq_true w1.2]
                exact va_runU (x := ⟨ma_cn q.2.2.1.1, y.name, y.desc⟩) (owner := ma_cn q.2.2.1.2) ⟨hx, hb, hml, hown, hts⟩ hM ⟨⟨rfl, rfl, hfr, hlo, hws, hcode⟩, hts _ m1, hts _ m2, ma_cn_mh _, hlen, hts _ (ma_w_in w1.1.1.1.1), hts _ (ma_w_in w1.1.1.1.2), hy ▸ va_Decl.of (hts _ (ma_w_in w1.1.2)) (hts _ m1), hts _ (ma_w_in w1.1.1.2), hts _ (ma_w_in w1.1.2)⟩ hp rfl s2 hl.1 s1 hW8 hd hf
              · simp only [Bool.and_eq_true] at w1
                have w9 := w1.2
                split at w9
                · next y0 _ _ _ hm0 =>
                  simp only [Bool.and_eq_true] at w9
                  have hy0 := of_decide_eq_true w9.1
                  have hde : va_Decl s ⟨ma_cn q.2.2.1.2, y.name, y.desc⟩ := by
                    rw [← hy0]
                    exact va_Decl.of (hts _ (ma_w_in w9.2)) (hts _ (ma_md_spec hm0).1)
                  exact va_runU (x := ⟨ma_cn q.2.2.1.1, y.name, y.desc⟩) (owner := ma_cn q.2.2.1.2) ⟨hx, hb, hml, hown, hts⟩ hM ⟨⟨rfl, rfl, hfr, hlo, hws, hcode⟩, hts _ m1, hts _ m2, ma_cn_mh _, hlen, hts _ (ma_w_in w1.1.1.1.1), hts _ (ma_w_in w1.1.1.1.2), hde, hts _ (ma_w_in w1.1.1.2), hts _ (ma_w_in w1.1.2)⟩ hp rfl s2 hl.1 s1 hW8 hd hf
                · cases w9
              · simp only [Bool.and_eq_true] at w1
                exact va_runU (x := ⟨ma_cn q.2.2.1.1, y.name, y.desc⟩) (owner := ma_cn q.2.2.1.2) ⟨hx, hb, hml, hown, hts⟩ hM ⟨⟨rfl, rfl, hfr, hlo, hws, hcode⟩, hts _ m1, hts _ m2, ma_cn_mh _, hlen, hts _ (ma_w_in w1.1.1.1.1), hts _ (ma_w_in w1.1.1.1.2), va_Decl.abs (hN.1 _ (of_decide_eq_true w1.2)), hts _ (ma_w_in w1.1.1.2), hts _ (ma_w_in w1.1.2)⟩ hp rfl s2 hl.1 s1 hW8 hd hf
              all_goals first | omega | (rename_i hk; omega) | cases w1
            · cases h
          · cases h
      · cases h
  · next x =>
    split at h
    · cases h
    · next q hq =>
      split at h
      · next hk =>
        cases h
        obtain ⟨w1, w2, w3, w4, w5, w6⟩ := ma_fd_spec hq
        have s2 : (ma_ts ad (st.take q.2.1.2.2).reverse).length = q.2.1.2.2 := by
          unfold ma_ts
          rw [List.length_map, List.length_reverse, List.length_take]
          omega
        have s1 : ma_ts ad st = (ma_ts ad (st.take q.2.1.2.2).reverse).reverse ++ ma_ts ad (st.drop q.2.1.2.2) := by
          have h0 : ma_ts ad st = ma_ts ad (st.take q.2.1.2.2 ++ st.drop q.2.1.2.2) := by rw [List.take_append_drop]
          rw [h0]
          unfold ma_ts
          rw [List.map_append, List.map_reverse, List.reverse_reverse]
        have hp : PreS s H (ma_Pc X D kA ad S (st.take q.2.1.2.2).reverse H.size) (ma_ts ad (st.take q.2.1.2.2).reverse) := ⟨ma_Pc_blind, hpre⟩
        unfold ma_clc at w1
        rw [hmd] at w1
        simp only [w2, w3, Bool.and_eq_true] at w1
        have hlen := lenOf (of_decide_eq_true w1.1)
        have w1 := w1.2
        split at w1
        all_goals first | omega | (rename_i hk9; omega) | skip
        · simp only [Bool.and_eq_true] at w1
          exact va_runS ⟨hx, hb, hml, hown, hts⟩ hM ⟨⟨rfl, rfl, hfr, hlo, hws, hcode, hts _ m1, hts _ m2, ⟨m5, m6⟩, hlen, hts _ (ma_w_in w1.1)⟩, hts _ (ma_w_in w1.2)⟩ hp rfl s2 hl.1 s1 hW8 hd hf
        · simp only [Bool.and_eq_true] at w1
          exact va_runSN ⟨hx, hb, hml, hown, hts⟩ hM ⟨⟨⟨rfl, rfl, hfr, hlo, hws, hcode⟩, hts _ m1, hts _ m2, ⟨m5, m6⟩, hlen, va_Nw.use rfl (hN.1 _ (of_decide_eq_true w1.1))⟩, hts _ (ma_w_in w1.2), trivial⟩ hp rfl s2 hl.1 s1 hW8 hd hf
        all_goals cases w1
      · cases h
  · next x =>
    split at h
    · cases h
    · next q hq =>
      split at h
      · next b r hdr =>
        split at h
        · next hk =>
          cases h
          obtain ⟨k8, b1, b2, b3, b4⟩ := hk
          have hret : q.2.1.1 = 7 ∨ ret' = none := b4.imp id (fun z => by rw [hmd] at z; exact z)
          obtain ⟨w1, w2, w3, w4, w5, w6⟩ := ma_fd_spec hq
          obtain ⟨s1, s2⟩ := stk _ _ _ hdr
          obtain ⟨rc, cC, hat⟩ := recv b b1 b2 b3
          have hpv : PreV s H (ma_cn (mH S b).1) (ad b) (ma_Pc X D kA ad S (.inr (.inr (some b)) :: (st.take q.2.1.2.2).reverse) H.size) (ma_ts ad (st.take q.2.1.2.2).reverse) := ⟨ma_Pc_blind, rc, hpre⟩
          have hps : PreS s H (ma_Pc X D kA ad S (.inr (.inr (some b)) :: (st.take q.2.1.2.2).reverse) H.size) (.ref (ad b) :: ma_ts ad (st.take q.2.1.2.2).reverse) := ⟨ma_Pc_blind, hpre⟩
          unfold ma_clc at w1
          rw [hmd] at w1
          simp only [w2, w3, Bool.and_eq_true] at w1
          have hlen := lenOf (of_decide_eq_true w1.1)
          have w1 := w1.2
          split at w1
          all_goals first | omega | (rename_i hk9; omega) | skip
          · simp only [Bool.and_eq_true] at w1
            have hret : ret' = none := hret.resolve_left (by omega)
            subst hret
            exact va_runI ⟨hx, hb, hml, hown, hts⟩ hM ⟨⟨rfl, rfl, hfr, hlo, hws, hcode, hts _ m1, hts _ m2, ⟨m5, m6⟩, hlen, hts _ (ma_w_in w1.1.1)⟩, of_decide_eq_true w1.2, hts _ (ma_w_in w1.1.2)⟩ hps rfl s2 hl.1 s1 hW8 hd hf
          · simp only [Bool.and_eq_true] at w1
            exact va_runSU hat ⟨hx, hb, hml, hown, hts⟩ hM ⟨⟨rfl, rfl, hfr, hlo, hws, hcode⟩, hts _ (ma_w_in w1.1.1.1.1), hts _ (ma_w_in w1.1.1.1.2), hts _ (ma_w_in w1.1.1.2), hts _ (ma_w_in w1.1.2), hts _ m2, hts _ m1, of_decide_eq_true w1.2, hlen⟩ hpv rfl s2 hl.1 s1 hW8 hd hf
          · simp only [Bool.and_eq_true] at w1
            have hret : ret' = none := hret.resolve_left (by omega)
            subst hret
            exact va_runIN ⟨hx, hb, hml, hown, hts⟩ hM ⟨⟨⟨rfl, rfl, hfr, hlo, hws, hcode⟩, hts _ m1, hts _ m2, ⟨m5, m6⟩, hlen, va_Nw.use rfl (hN.1 _ (of_decide_eq_true w1.1.1))⟩, of_decide_eq_true w1.2, hts _ (ma_w_in w1.1.2)⟩ hps rfl s2 hl.1 s1 hW8 hd hf
          all_goals cases w1
        · cases h
      · cases h
  · cases h
end MA10
