/-! THE SMALL MACHINE, part 14: the machine follows the law's frames too -/
def ma_FOK (X : Nat × (Nat → Int32)) (l : Launch) (f : Nat) : Prop := ∀ (k d w pc : Nat) (L : ma_L) (st : List ma_V) (S : ma_S) (out : Option ma_V) (S' : ma_S), ma_frun X f k d w pc L st S = some (out, S') →
  ∀ (cc : ByteArray) (nL : Nat) (ret : Option FieldType) (hh : List (Nat × Nat × Nat × Nat)), ma_fi k = some (cc, nL, ret, hh) →
  ∀ (p : Program) (e : Env) (R : Room) (s : State) (m : MethodId) (args : Array Value) (below : List Frame) (meth : Method) (c : Code) (H : Heap) (locs : List Loc) (cells slots : Nat) (Q : State → Prop) (ls : Array Slot) (ad : Nat → Nat) (kA : Nat → ClassId) (D : va_G) (A : Nat → Prop),
  ma_Cx X p R s m args meth c cc 14 false nL d w D kA A → (ret = some .int → c.exceptionTable.toList = tableOf hh) → ma_Wd X s nL D kA A ad L st S H locs ls → cells + (mC S' - mC S) ≤ R.cells → slots + (mZ S' - mZ S) ≤ R.slots →
  (∀ (ad' : Nat → Nat) (H1 : Heap) (locs1 : List Loc) (ls1 : Array Slot) (pc1 n1 : Nat) (i1 : Instr) (st1 : List ma_V), (∀ b, b < mN S → ad' b = ad b) → ma_Wd X s nL D kA A ad' [] st1 S' H1 locs1 ls1 → decode cc pc1 = .ok (i1, n1) → ma_ret ret i1 n1 st1 = some out → W p l e R s m args below meth c H1 locs1 (cells + (mC S' - mC S)) (slots + (mZ S' - mZ S)) Q (F0 m pc1 ls1 (ma_ts ad' st1))) →
  W p l e R s m args below meth c H locs cells slots Q (F0 m pc ls (ma_ts ad st))
section MA14
variable {p : Program} {l : Launch} {e : Env} {R : Room} {s : State} {m : MethodId} {args : Array Value} {below : List Frame} {meth : Method} {c : Code} {H : Heap} {locs : List Loc} {cells slots : Nat} {Q : State → Prop} {cc : ByteArray} {pc : Nat} {ls : Array Slot} {ad : Nat → Nat} {kA : Nat → ClassId} {D : va_G} {A : Nat → Prop}
theorem ma_hk_ok (hx : p.tables.exec = Jvm.exec) (hb : c.code = cc) {nL h : Nat} {c9 : Int32} {q : Addr} (hl : lv_has ls nL []) (hk : ma_hk cc nL h = some c9) (kk : ∀ (ls1 : Array Slot) (pc1 : Nat), lv_has ls1 nL [] → decode cc pc1 = .ok (.ireturn, 1) → W p l e R s m args below meth c H locs cells slots Q (F0 m pc1 ls1 [.int c9])) : W p l e R s m args below meth c H locs cells slots Q (F0 m h ls [.ref q]) := by
  unfold ma_hk at hk
  split at hk
  · next k d0 =>
    split at hk
    · next hlt =>
      split at hk
      · next cst d1 d2 =>
        cases hk
        exact lv_astore_n hx hb d0 rfl hl hlt rfl (fun ls' hl' => lv_iconst hx hb d1 rfl (kk ls' _ ⟨hl'.1, hl'.2.1, fun q hq => by cases hq⟩ d2))
      · cases hk
    · cases hk
  · next k d0 =>
    split at hk
    · next hlt =>
      split at hk
      · next cst d1 d2 =>
        cases hk
        exact lv_astore hx hb d0 hl hlt rfl (fun ls' hl' => lv_iconst hx hb d1 rfl (kk ls' _ ⟨hl'.1, hl'.2.1, fun q hq => by cases hq⟩ d2))
      · cases hk
    · cases hk
  · cases hk
theorem ma_hd_ok (hx : p.tables.exec = Jvm.exec) (hb : c.code = cc) {nL x : Nat} {c9 : Int32} {q : Addr} {ce : Cell} {rest : List Value} (hown : s.vm.findClass (ma_cn 14) = some m.cls) (hts : ∀ w ∈ ma_TB, w.before args s = true) (hN : ma_Nx s) (hl : lv_has ls nL []) (hce : H[q]? = some ce) (hcv : ce.vm = .none) (hcl : s.vm.findClass (ma_xn x) = some ce.cls)
    (kk : ∀ (ls1 : Array Slot) (pc1 : Nat), lv_has ls1 nL [] → decode cc pc1 = .ok (.ireturn, 1) → W p l e R s m args below meth c H locs cells slots Q (F0 m pc1 ls1 [.int c9])) :
    ∀ (hh : List (Nat × Nat × Nat × Nat)) (pre : List ExceptionTableEntry), c.exceptionTable.toList = pre ++ tableOf hh → (∀ z ∈ pre, covers z pc = false ∨ (z.catchType ≠ 0 ∧ ∃ nm : String, (Cond.classLink (ma_cn 14) z.catchType nm).before args s = true ∧ va_Nc (ma_xn x) nm s)) → ma_hd cc nL x pc hh = some c9 → vx_W p l e R s m args below meth c H locs cells slots Q (F0 m pc ls rest) q := by
  intro hh
  induction hh with
  | nil => intro pre _ _ h; cases h
  | cons a r ih =>
    intro pre hsp hpre h
    unfold ma_hd at h
    split at h
    · next hc0 =>
      rw [Bool.and_eq_true] at hc0
      have hc : covers ⟨a.1, a.2.1, a.2.2.1, a.2.2.2⟩ pc = true ∧ a.2.2.2 ≠ 0 := ⟨hc0.1, of_decide_eq_true hc0.2⟩
      split at h
      · next z hz =>
        have hlk := hts _ (ma_cx_spec hz)
        split at h
        · next hzx =>
          subst hzx
          split at h
          · next hca =>
            exact vx_catch (own := ma_cn 14) (name := ma_xn z) hown pre ⟨a.1, a.2.1, a.2.2.1, a.2.2.2⟩ (tableOf r) hsp hpre hc.1 hc.2 hlk (va_Nw.use rfl (hN.1 _ hca)) hce hcv hcl (ma_hk_ok hx hb hl h kk)
          · cases h
        · split at h
          · next hnc =>
            refine ih (pre ++ [⟨a.1, a.2.1, a.2.2.1, a.2.2.2⟩]) (by rw [hsp, List.append_assoc]; rfl) (fun y hy => ?_) h
            rcases List.mem_append.mp hy with hy | hy
            · exact hpre y hy
            · rw [List.mem_singleton] at hy
              subst hy
              exact Or.inr ⟨hc.2, ma_xn z, hlk, hN.2.2 _ hnc⟩
          · cases h
      · cases h
    · cases h
theorem ma_metw {X : Nat × (Nat → Int32)} {f d w k nL : Nat} {ret : Option FieldType} {hh : List (Nat × Nat × Nat × Nat)} {as : List ma_V} {S S' : ma_S} (IH : ma_FOK X l f) (hk : 1 ≤ k) (hfi : ma_fi k = some (cc, nL, ret, hh)) (hch : ma_ch S) (has : ma_cs (mN S) as) (hsz : ma_sz as ≤ nL) {v : Option ma_V} (hrun : ma_frun X f k d w 0 (ma_args 0 as) [] S = some (v, S')) (D : va_G) (kA : Nat → ClassId) (ad : Nat → Nat) (sz : Nat) :
    Met l (ma_fy k) (Cond.codeWith (ma_fy k) cc nL ret hh :: ma_TB) (ma_rm d w (mC S' - mC S) (mZ S' - mZ S)) (ma_Pc X D kA ad S as sz) (ma_Qc D kA ad S S' v) (mC S' - mC S) (mZ S' - mZ S) (va_A (ma_wl kA ad S) sz) := by
  obtain ⟨w1, w2, w3⟩ := ma_fw hk hfi
  refine va_MetW (cc := cc) (maxL := nL) (ret := ret) (hh := hh) (by rw [w3]; decide +kernel) rfl ?_
  intro p e s m args below meth c s₁ B hml hv
  obtain ⟨rfl, rfl, hP, hK, hD0, hN, hX⟩ := hv
  have hts := atoms_spec (ws := Cond.codeWith (ma_fy k) cc nL ret hh :: ma_TB) B.pre
  have hown : s.vm.findClass (ma_fy k).cls = some m.cls := findClass_of_methodNamed B.named
  have hl := lv_entry (ma_ts ad as) (n := nL) (by rw [ma_args_len]; exact hsz)
  rw [lg_entry_eq]
  rw [← ma_args_tl] at hl
  have C : ma_Cx X p (ma_rm d w (mC S' - mC S) (mZ S' - mZ S)) s m (ma_ts ad as).toArray meth c cc 14 false nL d w D kA (va_A (ma_wl kA ad S) s.heap.size) := ⟨B.exec, B.bytes, hml, (by rw [w3] at hown; exact hown), fun w hw => hts w (List.mem_cons_of_mem _ hw), hK, hN, (fun h => by cases h), Nat.le_refl _, Nat.le_refl _, fun q h => Or.inr h⟩
  refine IH k d w 0 (ma_args 0 as) [] S v S' hrun cc nL ret hh hfi p e _ s m _ below meth c s.heap [] 0 0 _ _ ad kA D _ C (fun _ => vx_table (x := ma_fy k) B (hts _ List.mem_cons_self)) ⟨hl, hch, ma_args_cL as 0 has, ma_nil_cs, hP, hD0.self, va_S.rf, hX⟩ (by show 0 + _ ≤ mC S' - mC S; omega) (by show 0 + _ ≤ mZ S' - mZ S; omega) ?_
  intro ad' H1 locs1 ls1 pc1 n1 i1 st1 hag Wd1 hd1 hr1
  obtain ⟨hl, hh1, hL1, hc1, hP1, hD1, hS1, hX1⟩ := Wd1
  rw [Nat.zero_add, Nat.zero_add]
  exact ma_ret_ok B.exec B.bytes B.notSynchronized B.returns hd1 hr1 (fun t ht hW => ⟨ad', rfl, hag, by rw [ht]; exact hP1, hD1, hS1.F ht⟩) hS1.2.2
theorem ma_cw_run {X : Nat × (Nat → Int32)} {nL d w n k nL' mc ms : Nat} {ini : Bool} {i : Instr} {L : ma_L} {st as rest : List ma_V} {S S' : ma_S} {cc' : ByteArray} {ret' : Option FieldType} {hh' : List (Nat × Nat × Nat × Nat)} {v : Option ma_V}
    (C : ma_Cx X p R s m args meth c cc 14 ini nL d w D kA A) (Wd : ma_Wd X s nL D kA A ad L st S H locs ls) (hd : decode cc pc = .ok (i, n)) (h : ma_cw i n st = some (k, as, rest)) (hfi : ma_fi k = some (cc', nL', ret', hh')) (h1 : 1 ≤ d) (h2 : 19 + nL' ≤ w) (h3 : ma_sz rest ≤ 8)
    (hM : 1 ≤ k → Met l (ma_fy k) (Cond.codeWith (ma_fy k) cc' nL' ret' hh' :: ma_TB) (ma_rm (d - 1) (w - (19 + nL')) mc ms) (ma_Pc X D kA ad S as H.size) (ma_Qc D kA ad S S' v) mc ms (va_A (ma_wl kA ad S) H.size)) (hf : cells + mc ≤ R.cells ∧ slots + ms ≤ R.slots) :
    va_Run p l e R s m args below meth c H locs cells slots mc ms (F0 m pc ls (ma_ts ad st)) (ma_ts ad rest) (ma_Qc D kA ad S S' v (ma_ts ad as).toArray) (va_A (ma_wl kA ad S) H.size) := by
  have hpre := fun U hU hW => ma_pre (as := as) C Wd U hU hW
  obtain ⟨hx, hb, hml, hown, hts, hK, hN, hini, hR1, hR2, hA⟩ := C
  obtain ⟨hl, hh, hL, hc, hP, hD, hS, hX⟩ := Wd
  unfold ma_cw at h
  split at h
  · next x =>
    split at h
    · next q hq =>
      split at h
      · next hlen =>
        cases h
        have g1 := List.find?_some hq
        simp only [beq_iff_eq] at g1
        have g2 := ma_cwh_ok q (List.mem_of_find?_eq_some hq)
        simp only [Bool.and_eq_true] at g2
        rw [g1] at g2
        have gk := of_decide_eq_true g2.2
        obtain ⟨w1, w2, w3⟩ := ma_fw gk hfi
        have s2 : (ma_ts ad (st.take q.1.2.2).reverse).length = q.1.2.2 := by
          unfold ma_ts
          rw [List.length_map, List.length_reverse, List.length_take]
          omega
        have s1 : ma_ts ad st = (ma_ts ad (st.take q.1.2.2).reverse).reverse ++ ma_ts ad (st.drop q.1.2.2) := by
          have h0 : ma_ts ad st = ma_ts ad (st.take q.1.2.2 ++ st.drop q.1.2.2) := by rw [List.take_append_drop]
          rw [h0]
          unfold ma_ts
          rw [List.map_append, List.map_reverse, List.reverse_reverse]
        have hws : ∀ w ∈ (Cond.codeWith (ma_fy q.1.2.1) cc' nL' ret' hh' :: ma_TB), ∀ (a' : Array Value) (U : State), s.WarmedH U.vm → w.before a' U = true := by
          intro w hw a' U hW
          have hm : w ∈ ma_TB := by
            rcases List.mem_cons.mp hw with e1 | e1
            · rw [e1]; exact w1
            · exact e1
          exact word_at hW (good_of_word (List.mem_filter.mp hm).2) (hts w hm)
        refine vx_runSW (hh := hh') ⟨hx, hb, hml, hown, hts⟩ (hM gk) ⟨⟨rfl, rfl, by show d - 1 + 1 ≤ _; omega, by show 8 + (nL' + 11) + (w - (19 + nL')) ≤ _; omega, hws, List.mem_cons_self⟩, hts _ w1, by rw [w3]; exact hts _ ma_fwi, by rw [w3]; exact ⟨by decide, by decide⟩, ?_, hts _ (ma_w_in g2.1.1), hts _ w2⟩ ⟨ma_Pc_blind, hpre⟩ rfl s2 hl.1 s1 (lv_room (by rw [ma_sz_ts]; exact h3)) hd hf
        intro sig hs
        have := of_decide_eq_true g2.1.2
        rw [hs] at this
        exact (Option.some.inj this).symm
      · cases h
    · cases h
  · cases h
end MA14
theorem ma_fok_all (X : Nat × (Nat → Int32)) (l : Launch) (hlt : l.stackTraces = false) : ∀ f, ma_FOK X l f := by
  intro f
  induction f with
  | zero => intro k d w pc L st S out S' h; cases h
  | succ f ih =>
    intro k d w pc L st S out S' h cc nL ret hh hfi p e R s m args below meth c H locs cells slots Q ls ad kA D A C htab Wd hr1 hr2 kr
    have hcnt := ma_frun_c _ _ _ _ _ _ _ _ _ _ h Wd.2.1 Wd.2.2.1 Wd.2.2.2.1
    unfold ma_frun at h
    rw [hfi] at h
    simp only at h
    split at h
    · cases h
    · next i n hd =>
      split at h
      · next pc1 L1 st1 S1 h1 =>
        have cl := ma_one_c Wd.2.1 Wd.2.2.1 Wd.2.2.2.1 h1
        have cnt1 := ma_frun_c _ _ _ _ _ _ _ _ _ _ h cl.1 cl.2.1 cl.2.2.1
        have ec : mC S' - mC S = (mC S1 - mC S) + (mC S' - mC S1) := by omega
        have ez : mZ S' - mZ S = (mZ S1 - mZ S) + (mZ S' - mZ S1) := by omega
        refine ma_one_ok C Wd hd h1 (by omega) (by omega) (fun ad1 H1 locs1 ls1 hag Wd1 => ?_)
        refine ih k d w pc1 L1 st1 S1 out S' h cc nL ret hh hfi p e R s m args below meth c H1 locs1 _ _ Q ls1 ad1 kA D A C htab Wd1 (by omega) (by omega) ?_
        intro ad2 H2 locs2 ls2 pc2 n2 i2 st2 hag2 Wd2 hd2 hret
        have := kr ad2 H2 locs2 ls2 pc2 n2 i2 st2 (fun b hb => (hag2 b (by omega)).trans (hag b hb)) Wd2 hd2 hret
        rw [ec, ez, ← Nat.add_assoc, ← Nat.add_assoc] at this
        exact this
      · split at h
        · next v hv =>
          cases h
          obtain ⟨hl, hch, hL, hc, hP, hD, hS, hX⟩ := Wd
          have := kr ad H locs ls pc n i st (fun _ _ => rfl) ⟨⟨hl.1, hl.2.1, fun q hq => by cases hq⟩, hch, ma_nil_cL, hc, hP, hD, hS, hX⟩ hd hv
          simp only [Nat.sub_self, Nat.add_zero] at this
          exact this
        · split at h
          · next kd M' as rest hcl =>
            obtain ⟨g1, g2, g3⟩ := ma_cl_c Wd.2.2.2.1 hcl
            split at h
            · cases h
            · next o' y' cc' nL' ret' hmd' =>
              split at h
              · next hroom =>
                obtain ⟨r1, r2, r3, r4⟩ := hroom
                split at h
                · next v S1 hrun =>
                  have cnt1 := ma_run_c _ _ _ _ _ _ _ _ _ _ hrun Wd.2.1 (ma_args_cL as 0 g1) ma_nil_cs
                  have cs1 : ma_cs (mN S1) (v.toList ++ rest) := ma_opt_cs (fun u hu => cnt1.2.2.2.2 u (by rw [hu])) (g2.mono cnt1.2.1)
                  have cnt2 := ma_frun_c _ _ _ _ _ _ _ _ _ _ h cnt1.1 (Wd.2.2.1.mono cnt1.2.1) cs1
                  have ec : mC S' - mC S = (mC S1 - mC S) + (mC S' - mC S1) := by omega
                  have ez : mZ S' - mZ S = (mZ S1 - mZ S) + (mZ S' - mZ S1) := by omega
                  have hmet := ma_met (ma_ok_all X l hlt f) hmd' Wd.2.1 g1 r3 hrun D kA ad H.size
                  have hrn := ma_cl_run (l := l) (e := e) (below := below) (cells := cells) (slots := slots) C Wd hd hcl hmd' r1 r2 r4 hmet ⟨by omega, by omega⟩
                  have hA := C.2.2.2.2.2.2.2.2.2.2
                  have hl := Wd.1
                  refine ma_called hrn Wd.2.2.2.2.2.1 Wd.2.2.2.2.2.2.1 hA (fun ad1 H1 locs1 hag hP1 hD1 hS1 => ?_)
                  have hrest : ma_ts ad1 rest = ma_ts ad rest := ma_ts_ad g2 hag
                  rw [← hrest, ma_ts_app]
                  have Wd1 : ma_Wd X s nL D kA A ad1 L (v.toList ++ rest) S1 H1 locs1 ls := ⟨by rw [ma_tl_ad Wd.2.2.1 hag]; exact hl, cnt1.1, Wd.2.2.1.mono cnt1.2.1, cs1, hP1, hD1, hS1, Wd.2.2.2.2.2.2.2.ad (fun b hb => hag b (Nat.lt_of_lt_of_le hb Wd.2.1.2))⟩
                  refine ih k d w (pc + 3) L (v.toList ++ rest) S1 out S' h cc nL ret hh hfi p e R s m args below meth c H1 locs1 _ _ Q ls ad1 kA D A C htab Wd1 (by omega) (by omega) ?_
                  intro ad2 H2 locs2 ls2 pc2 n2 i2 st2 hag2 Wd2 hd2 hret
                  have := kr ad2 H2 locs2 ls2 pc2 n2 i2 st2 (fun b hb => (hag2 b (by omega)).trans (hag b hb)) Wd2 hd2 hret
                  rw [ec, ez, ← Nat.add_assoc, ← Nat.add_assoc] at this
                  exact this
                · next x px S1 hrun =>
                  split at h
                  · next hk =>
                    cases hq : ma_hd cc nL x pc hh with
                    | none => rw [hq] at h; cases h
                    | some c9 =>
                      rw [hq] at h
                      cases h
                      have cnt1 := ma_run_c _ _ _ _ _ _ _ _ _ _ hrun Wd.2.1 (ma_args_cL as 0 g1) ma_nil_cs
                      have hmet := ma_metx (ma_ok_all X l hlt f) hlt hmd' Wd.2.1 g1 r3 hrun D kA ad H.size
                      have hrn := ma_cl_thr (l := l) (e := e) (below := below) (cells := cells) (slots := slots) C Wd hd hcl hk.1 hmd' r1 r2 r4 hmet ⟨by omega, by omega⟩
                      have hA := C.2.2.2.2.2.2.2.2.2.2
                      have hl := Wd.1
                      refine ma_threw hrn Wd.2.2.2.2.2.1 Wd.2.2.2.2.2.2.1 hA (fun ad1 H1 locs1 q ce hag hP1 hD1 hS1 hce hcv hcl => ?_)
                      refine ma_hd_ok C.1 C.2.1 C.2.2.2.1 C.2.2.2.2.1 C.2.2.2.2.2.2.1 (nL := nL) ⟨hl.1, hl.2.1, fun q hq => by cases hq⟩ hce hcv hcl ?_ hh [] (htab hk.2) (fun z hz => by cases hz) hq
                      intro ls1 pc1 hl1 hd1
                      have hret : ma_ret ret .ireturn 1 [.inl c9] = some (some (.inl c9)) := by rw [hk.2]; simp [ma_ret, narrow]
                      exact kr ad1 H1 locs1 ls1 pc1 1 .ireturn [.inl c9] hag ⟨hl1, cnt1.1, ma_nil_cL, ma_cs_cons ma_cv_i ma_nil_cs, hP1, hD1, hS1, Wd.2.2.2.2.2.2.2.ad (fun b hb => hag b (Nat.lt_of_lt_of_le hb Wd.2.1.2))⟩ hd1 hret
                  · cases h
                · cases h
              · cases h
          · split at h
            · cases h
            · next k' as rest hcw =>
              obtain ⟨g1, g2⟩ := ma_cw_c Wd.2.2.2.1 hcw
              split at h
              · cases h
              · next cc' nL' ret' hh' hfi' =>
                split at h
                · next hroom =>
                  obtain ⟨r1, r2, r3, r4⟩ := hroom
                  split at h
                  · next v S1 hrun =>
                    have cnt1 := ma_frun_c _ _ _ _ _ _ _ _ _ _ hrun Wd.2.1 (ma_args_cL as 0 g1) ma_nil_cs
                    have cs1 : ma_cs (mN S1) (v.toList ++ rest) := ma_opt_cs cnt1.2.2.2.2 (g2.mono cnt1.2.1)
                    have cnt2 := ma_frun_c _ _ _ _ _ _ _ _ _ _ h cnt1.1 (Wd.2.2.1.mono cnt1.2.1) cs1
                    have ec : mC S' - mC S = (mC S1 - mC S) + (mC S' - mC S1) := by omega
                    have ez : mZ S' - mZ S = (mZ S1 - mZ S) + (mZ S' - mZ S1) := by omega
                    have hrn := ma_cw_run (l := l) (e := e) (below := below) (cells := cells) (slots := slots) C Wd hd hcw hfi' r1 r2 r4 (fun hk => ma_metw ih hk hfi' Wd.2.1 g1 r3 hrun D kA ad H.size) ⟨by omega, by omega⟩
                    have hA := C.2.2.2.2.2.2.2.2.2.2
                    have hl := Wd.1
                    refine ma_called hrn Wd.2.2.2.2.2.1 Wd.2.2.2.2.2.2.1 hA (fun ad1 H1 locs1 hag hP1 hD1 hS1 => ?_)
                    have hrest : ma_ts ad1 rest = ma_ts ad rest := ma_ts_ad g2 hag
                    have hn3 : n = 3 := by
                      unfold ma_cw at hcw
                      split at hcw
                      · rfl
                      · cases hcw
                    rw [← hrest, ma_ts_app]
                    have Wd1 : ma_Wd X s nL D kA A ad1 L (v.toList ++ rest) S1 H1 locs1 ls := ⟨by rw [ma_tl_ad Wd.2.2.1 hag]; exact hl, cnt1.1, Wd.2.2.1.mono cnt1.2.1, cs1, hP1, hD1, hS1, Wd.2.2.2.2.2.2.2.ad (fun b hb => hag b (Nat.lt_of_lt_of_le hb Wd.2.1.2))⟩
                    refine ih k d w (pc + 3) L (v.toList ++ rest) S1 out S' h cc nL ret hh hfi p e R s m args below meth c H1 locs1 _ _ Q ls ad1 kA D A C htab Wd1 (by omega) (by omega) ?_
                    intro ad2 H2 locs2 ls2 pc2 n2 i2 st2 hag2 Wd2 hd2 hret
                    have := kr ad2 H2 locs2 ls2 pc2 n2 i2 st2 (fun b hb => (hag2 b (by omega)).trans (hag b hb)) Wd2 hd2 hret
                    rw [ec, ez, ← Nat.add_assoc, ← Nat.add_assoc] at this
                    exact this
                  · cases h
                · cases h
