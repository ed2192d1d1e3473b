/-! from 68.follow -/
/-! THE SMALL MACHINE, part 12: the machine follows every run -/
section MA12
variable {p : Program} {l : Launch} {e : Env} {R : Room} {s : State} {m : MethodId} {args : Array Value} {below : List Frame} {meth : Method} {c : Code} {H : Heap} {locs : List Loc} {cells slots : Nat} {Q : State → Prop} {cc : ByteArray} {pc : Nat} {ls : Array Slot} {ad : Nat → Nat} {kA : Nat → ClassId} {D : va_G} {A : Nat → Prop}
theorem ma_cl_thr {X : Nat × (Nat → Int32)} {o nL d w n kd M o₉ nL₉ mc ms : Nat} {ini : Bool} {i : Instr} {L : ma_L} {st as rest : List ma_V} {S S₉ : ma_S} {y : MethodName} {cc₉ : ByteArray} {ret₉ : Option FieldType} {E : String}
    (C : ma_Cx X p R s m args meth c cc o ini nL d w D kA A) (Wd : ma_Wd X s nL D kA A ad L st S H locs ls) (hd : decode cc pc = .ok (i, n)) (h : ma_cl o i n st S = some ((kd, M), as, rest)) (hkd : kd ≤ 1) (hmd : ma_md M = some (o₉, y, cc₉, nL₉, ret₉)) (h1 : 1 ≤ d) (h2 : 19 + nL₉ ≤ w) (h3 : ma_sz rest ≤ 8)
    (hM : vx_Met l y (ma_ws y cc₉ nL₉ ret₉) (ma_rm (d - 1) (w - (19 + nL₉)) mc ms) (ma_Pc X D kA ad S as H.size) (fun _ _ _ _ => False) (ma_Qx D kA ad S S₉ E) mc ms (va_A (ma_wl kA ad S) H.size)) (hf : cells + mc ≤ R.cells ∧ slots + ms ≤ R.slots) :
    vx_Run p l e R s m args below meth c H locs cells slots mc ms (F0 m pc ls (ma_ts ad st)) (ma_ts ad rest) (fun _ _ _ => False) (ma_Qx D kA ad S S₉ E) (va_A (ma_wl kA ad S) H.size) := by
  have hpre := fun U hU hW => ma_pre (as := as) C Wd U hU hW
  obtain ⟨hx, hb, hml, hown, hts, hK, hN, hini, hR1, hR2, hA⟩ := C
  obtain ⟨hl, hh, hL, hc, hP, hD, hS, hX⟩ := Wd
  obtain ⟨m1, m2, m3, m4, m5, m6⟩ := ma_md_spec hmd
  have hws := ma_ws_ok hts m1
  have hfr : (ma_rm (d - 1) (w - (19 + nL₉)) mc ms).frames + 1 ≤ R.frames := by show d - 1 + 1 ≤ _; omega
  have hlo : 8 + (nL₉ + 11) + (ma_rm (d - 1) (w - (19 + nL₉)) mc ms).locals ≤ R.locals := by show 8 + (nL₉ + 11) + (w - (19 + nL₉)) ≤ _; omega
  have hcode : Cond.code y cc₉ nL₉ ret₉ ∈ ma_ws y cc₉ nL₉ ret₉ := List.mem_cons_self
  have hW8 : 2 * (F0 m pc ls (ma_ts ad st)).monitorRoom + ((ma_ts ad rest).map fun v => v.category).sum ≤ 8 := lv_room (by rw [ma_sz_ts]; exact h3)
  have recv : ∀ b, ma_is S b = true → 1 ≤ (mH S b).1 → (mH S b).1 ≤ 12 → ∃ cellB : Cell, H[ad b]? = some cellB ∧ cellB.vm.isStatics = false ∧ s.vm.findClass (ma_cn (mH S b).1) = some cellB.cls := by
    intro b hb1 t1 t2
    simp only [ma_is, Bool.and_eq_true, decide_eq_true_eq] at hb1
    obtain ⟨C, T, hcl, -, -, -⟩ := ma_clok_all t1 t2
    have hC := ma_cn_cl t1 t2 hcl
    subst hC
    exact va_recv (a := ad b) (fs := ma_fs ad S b (mH S b).1) hK hP hcl ((ma_wl_at hb1.1 hb1.2).trans (by rw [ma_E_obj (by omega)]))
  have rcv : ∀ b t, ma_rt S b = some t → ∃ cellB : Cell, H[ad b]? = some cellB ∧ cellB.vm.isStatics = false ∧ s.vm.findClass (ma_cn t) = some cellB.cls := by
    intro b t hrt
    unfold ma_rt at hrt
    split at hrt
    · next hlt =>
      cases hrt
      exact vk_recv hX.2.2.1 hlt hS
    · split at hrt
      · next hbb =>
        simp only [Bool.and_eq_true, decide_eq_true_eq] at hbb
        cases hrt
        exact recv b hbb.1.1 hbb.1.2 hbb.2
      · cases hrt
  have stk : ∀ (j b : Nat) (r : List ma_V), st.drop j = .inr (.inr (some b)) :: r → ma_ts ad st = (ma_ts ad (st.take j).reverse).reverse ++ Value.ref (ad b) :: ma_ts ad r ∧ (ma_ts ad (st.take j).reverse).length = j := by
    intro j b r hdr
    constructor
    · have h0 : ma_ts ad st = ma_ts ad (st.take j ++ st.drop j) := by rw [List.take_append_drop]
      rw [h0, hdr]
      unfold ma_ts
      rw [List.map_append, List.map_reverse, List.reverse_reverse]
      rfl
    · have hj : j < st.length := by
        rcases Nat.lt_or_ge j st.length with z | z
        · exact z
        · rw [List.drop_eq_nil_of_le z] at hdr; cases hdr
      unfold ma_ts
      rw [List.length_map, List.length_reverse, List.length_take]
      omega
  have lenOf : ∀ {nn : Nat}, (parseMethodDescriptor y.desc).map (fun d => d.parameters.length) = some nn → ∀ sig, parseMethodDescriptor y.desc = some sig → nn = sig.parameters.length := by
    intro nn hp sig hs
    rw [hs] at hp
    exact (Option.some.inj hp).symm
  unfold ma_cl at h
  split at h
  · next x =>
    split at h
    · cases h
    · next q0 hq0 =>
      split at h
      · next b r hdr =>
        split at h
        · cases h
        · next t hrt =>
          split at h
          · next q hq =>
            split at h
            · next hn =>
              cases h
              obtain ⟨w1, w2, w3, w4, w5, w6⟩ := ma_fd_spec hq
              have w4 : q.1.2.2 = t := w4.resolve_left (by simp)
              obtain ⟨s1, s2⟩ := stk _ _ _ hdr
              have rc := rcv b t hrt
              have hp : PreV s H (ma_cn t) (ad b) (ma_Pc X D kA ad S (.inr (.inr (some b)) :: (st.take q0.2.1.2.2).reverse) H.size) (ma_ts ad (st.take q0.2.1.2.2).reverse) := ⟨ma_Pc_blind, rc, hpre⟩
              unfold ma_clc at w1
              rw [hmd] at w1
              simp only [w2, w3, w4, Bool.and_eq_true] at w1
              have hlen := lenOf (of_decide_eq_true w1.1)
              rw [hn] at hlen
              have w1 := w1.2
              split at w1
              all_goals first | omega | (rename_i hk9; omega) | skip
              · simp only [Bool.and_eq_true] at w1
                exact vx_runV ⟨hx, hb, hml, hown, hts⟩ hM ⟨⟨rfl, rfl, hfr, hlo, hws, hcode, hts _ m1, hts _ m2, ⟨m5, m6⟩, hlen, hts _ (ma_w_in w1.1.1)⟩, hts _ (ma_w_in w1.1.2), hts _ (ma_w_in w1.2)⟩ hp rfl s2 hl.1 s1 hW8 hd hf
              · simp only [Bool.and_eq_true] at w1
                exact vx_runV ⟨hx, hb, hml, hown, hts⟩ hM ⟨⟨rfl, rfl, hfr, hlo, hws, hcode, hts _ m1, hts _ m2, ⟨m5, m6⟩, hlen, hts _ (ma_w_in w1.1.1.1)⟩, hts _ (ma_w_in w1.1.1.2), hts _ (ma_TB_p w1.1.2 w1.2)⟩ hp rfl s2 hl.1 s1 hW8 hd hf
              all_goals cases w1
            · cases h
          · cases h
      · cases h
  · next x =>
    split at h
    · cases h
    · next q hq =>
      split at h
      · next hk =>
        cases h
        have := (ma_fd_spec hq).2.2.2.2.1
        omega
      · cases h
  · next x =>
    split at h
    · cases h
    · next q hq =>
      split at h
      · split at h
        · cases h
          have := (ma_fd_spec hq).2.2.2.2.1
          omega
        · cases h
      · cases h
  · cases h
end MA12
theorem ma_ts_app (ad : Nat → Nat) (v : Option ma_V) (r : List ma_V) : (v.map (ma_tv ad)).toList ++ ma_ts ad r = ma_ts ad (v.toList ++ r) := by
  cases v <;> rfl
theorem ma_ok_all (X : Nat × (Nat → Int32)) (l : Launch) (hlt : l.stackTraces = false) : ∀ f, ma_OK X l f := by
  intro f
  induction f with
  | zero => intro d w M pc L st S out S₉ h; cases h
  | succ f ih =>
    intro d w M pc L st S out S₉ h o y cc nL ret hmd p e R s m args below meth c H locs cells slots Q ls ad kA D A C Wd hr1 hr2 kr kt
    have hcnt := ma_run_c _ _ _ _ _ _ _ _ _ _ h Wd.2.1 Wd.2.2.1 Wd.2.2.2.1
    unfold ma_run at h
    rw [hmd] at h
    simp only at h
    split at h
    · cases h
    · next i n hd =>
      split at h
      · next pc1 L1 st1 S1 h1 =>
        have cl := ma_one_c Wd.2.1 Wd.2.2.1 Wd.2.2.2.1 h1
        have cnt1 := ma_run_c _ _ _ _ _ _ _ _ _ _ h cl.1 cl.2.1 cl.2.2.1
        have ec : mC S₉ - mC S = (mC S1 - mC S) + (mC S₉ - mC S1) := by omega
        have ez : mZ S₉ - mZ S = (mZ S1 - mZ S) + (mZ S₉ - mZ S1) := by omega
        refine ma_one_ok C Wd hd h1 (by omega) (by omega) (fun ad1 H1 locs1 ls1 hag Wd1 => ?_)
        refine ih d w M pc1 L1 st1 S1 out S₉ h o y cc nL ret hmd p e R s m args below meth c H1 locs1 _ _ Q ls1 ad1 kA D A C Wd1 (by omega) (by omega) ?_ ?_
        · intro v hv ad2 H2 locs2 ls2 pc2 n2 i2 st2 hag2 Wd2 hd2 hret
          have := kr v hv ad2 H2 locs2 ls2 pc2 n2 i2 st2 (fun b hb => (hag2 b (by omega)).trans (hag b hb)) Wd2 hd2 hret
          rw [ec, ez, ← Nat.add_assoc, ← Nat.add_assoc] at this
          exact this
        · intro x px hx
          obtain ⟨k1, k2⟩ := kt x px hx
          refine ⟨fun ad2 H2 locs2 ls2 st2 S2 hag2 Wd2 hb2 hm1 hm2 hth h6 hw => ?_, fun ad2 H2 locs2 ls2 r2 q ce hag2 Wd2 hce hcv hcl => ?_⟩
          · have := k1 ad2 H2 locs2 ls2 st2 S2 (fun b hb => (hag2 b (by omega)).trans (hag b hb)) Wd2 hb2 (by omega) (by omega) hth h6 hw
            rw [show mC S2 - mC S = (mC S1 - mC S) + (mC S2 - mC S1) by omega, show mZ S2 - mZ S = (mZ S1 - mZ S) + (mZ S2 - mZ S1) by omega, ← Nat.add_assoc, ← Nat.add_assoc] at this
            exact this
          · have := k2 ad2 H2 locs2 ls2 r2 q ce (fun b hb => (hag2 b (by omega)).trans (hag b hb)) Wd2 hce hcv hcl
            rw [ec, ez, ← Nat.add_assoc, ← Nat.add_assoc] at this
            exact this
      · split at h
        · next v hv =>
          cases h
          have hWd := Wd
          obtain ⟨hl, hh, hL, hc, hP, hD, hS, hX⟩ := Wd
          have := kr v rfl ad H locs ls pc n i st (fun _ _ => rfl) ⟨⟨hl.1, hl.2.1, fun q hq => by cases hq⟩, hh, ma_nil_cL, hc, hP, hD, hS, hX⟩ hd hv
          simp only [Nat.sub_self, Nat.add_zero] at this
          exact this
        · split at h
          · next x hth =>
            split at h
            · next hroom =>
              cases h
              obtain ⟨hl, hh, hL, hc, hP, hD, hS, hX⟩ := Wd
              have := (kt x pc rfl).1 ad H locs ls st S (fun _ _ => rfl) ⟨⟨hl.1, hl.2.1, fun q hq => by cases hq⟩, hh, ma_nil_cL, hc, hP, hD, hS, hX⟩ rfl (Nat.le_refl _) (Nat.le_refl _) hth hroom.1 hroom.2
              simp only [Nat.sub_self, Nat.add_zero] at this
              exact this
            · cases h
          · split at h
            · cases h
            · next k M₉ as rest hcl =>
              obtain ⟨g1, g2, g3⟩ := ma_cl_c Wd.2.2.2.1 hcl
              split at h
              · cases h
              · next o₉ y₉ cc₉ nL₉ ret₉ hmd₉ =>
                split at h
                · next hroom =>
                  obtain ⟨r1, r2, r3, r4⟩ := hroom
                  split at h
                  · next v S1 hrun =>
                    have cnt1 := ma_run_c _ _ _ _ _ _ _ _ _ _ hrun Wd.2.1 (ma_args_cL as 0 g1) ma_nil_cs
                    have cs1 : ma_cs (mN S1) (v.toList ++ rest) := ma_opt_cs (fun u hu => cnt1.2.2.2.2 u (by rw [hu])) (g2.mono cnt1.2.1)
                    have cnt2 := ma_run_c _ _ _ _ _ _ _ _ _ _ h cnt1.1 (Wd.2.2.1.mono cnt1.2.1) cs1
                    have ec : mC S₉ - mC S = (mC S1 - mC S) + (mC S₉ - mC S1) := by omega
                    have ez : mZ S₉ - mZ S = (mZ S1 - mZ S) + (mZ S₉ - mZ S1) := by omega
                    have hmet := ma_met ih hmd₉ Wd.2.1 g1 r3 hrun D kA ad H.size
                    have hrn := ma_cl_run (l := l) (e := e) (below := below) (cells := cells) (slots := slots) C Wd hd hcl hmd₉ r1 r2 r4 hmet ⟨by omega, by omega⟩
                    have hA := C.2.2.2.2.2.2.2.2.2.2
                    have hl := Wd.1
                    refine ma_called hrn Wd.2.2.2.2.2.1 Wd.2.2.2.2.2.2.1 hA (fun ad1 H1 locs1 hag hP1 hD1 hS1 => ?_)
                    have hrest : ma_ts ad1 rest = ma_ts ad rest := ma_ts_ad g2 hag
                    rw [← hrest, ma_ts_app]
                    have Wd1 : ma_Wd X s nL D kA A ad1 L (v.toList ++ rest) S1 H1 locs1 ls := ⟨by rw [ma_tl_ad Wd.2.2.1 hag]; exact hl, cnt1.1, Wd.2.2.1.mono cnt1.2.1, cs1, hP1, hD1, hS1, Wd.2.2.2.2.2.2.2.ad (fun b hb => hag b (Nat.lt_of_lt_of_le hb Wd.2.1.2))⟩
                    refine ih d w M (pc + 3) L (v.toList ++ rest) S1 out S₉ h o y cc nL ret hmd p e R s m args below meth c H1 locs1 _ _ Q ls ad1 kA D A C Wd1 (by omega) (by omega) ?_ ?_
                    · intro v2 hv ad2 H2 locs2 ls2 pc2 n2 i2 st2 hag2 Wd2 hd2 hret
                      have := kr v2 hv ad2 H2 locs2 ls2 pc2 n2 i2 st2 (fun b hb => (hag2 b (by omega)).trans (hag b hb)) Wd2 hd2 hret
                      rw [ec, ez, ← Nat.add_assoc, ← Nat.add_assoc] at this
                      exact this
                    · intro x px hx
                      obtain ⟨k1, k2⟩ := kt x px hx
                      refine ⟨fun ad2 H2 locs2 ls2 st2 S2 hag2 Wd2 hb2 hm1 hm2 hth h6 hw => ?_, fun ad2 H2 locs2 ls2 r2 q ce hag2 Wd2 hce hcv hcl => ?_⟩
                      · have := k1 ad2 H2 locs2 ls2 st2 S2 (fun b hb => (hag2 b (by omega)).trans (hag b hb)) Wd2 hb2 (by omega) (by omega) hth h6 hw
                        rw [show mC S2 - mC S = (mC S1 - mC S) + (mC S2 - mC S1) by omega, show mZ S2 - mZ S = (mZ S1 - mZ S) + (mZ S2 - mZ S1) by omega, ← Nat.add_assoc, ← Nat.add_assoc] at this
                        exact this
                      · have := k2 ad2 H2 locs2 ls2 r2 q ce (fun b hb => (hag2 b (by omega)).trans (hag b hb)) Wd2 hce hcv hcl
                        rw [ec, ez, ← Nat.add_assoc, ← Nat.add_assoc] at this
                        exact this
                  · next x px S1 hrun =>
                    split at h
                    · next hk =>
                      cases h
                      have cnt1 := ma_run_c _ _ _ _ _ _ _ _ _ _ hrun Wd.2.1 (ma_args_cL as 0 g1) ma_nil_cs
                      have hmet := ma_metx ih hlt hmd₉ Wd.2.1 g1 r3 hrun D kA ad H.size
                      have hrn := ma_cl_thr (l := l) (e := e) (below := below) (cells := cells) (slots := slots) C Wd hd hcl hk hmd₉ r1 r2 r4 hmet ⟨by omega, by omega⟩
                      have hA := C.2.2.2.2.2.2.2.2.2.2
                      have hl := Wd.1
                      refine ma_threw hrn Wd.2.2.2.2.2.1 Wd.2.2.2.2.2.2.1 hA (fun ad1 H1 locs1 q ce hag hP1 hD1 hS1 hce hcv hcl => ?_)
                      have hrest : ma_ts ad1 rest = ma_ts ad rest := ma_ts_ad g2 hag
                      rw [← hrest]
                      exact (kt x pc rfl).2 ad1 H1 locs1 ls rest q ce hag ⟨⟨hl.1, hl.2.1, fun q hq => by cases hq⟩, cnt1.1, ma_nil_cL, g2.mono cnt1.2.1, hP1, hD1, hS1, Wd.2.2.2.2.2.2.2.ad (fun b hb => hag b (Nat.lt_of_lt_of_le hb Wd.2.1.2))⟩ hce hcv hcl
                    · cases h
                  · cases h
                · cases h

/-! from 70.catch -/
section MA13
variable {p : Program} {l : Launch} {e : Env} {R : Room} {s : State} {m : MethodId} {args : Array Value} {below : List Frame} {meth : Method} {c : Code} {H : Heap} {locs : List Loc} {cells slots : Nat} {Q : State → Prop}
variable {mc ms : Nat} {free : Addr → Prop} {A0 A1 : Nat → Prop} {H0 : Heap} {a : Array Value} {pc : Nat} {ls : Array Slot} {st0 rest : List Value}
theorem vx_catch {own name : String} {E : String} {ce : Cell} {q : Addr} (hown : s.vm.findClass own = some m.cls) (pre : List ExceptionTableEntry) (x : ExceptionTableEntry) (suf : List ExceptionTableEntry) (hsplit : c.exceptionTable.toList = pre ++ x :: suf)
    (hpass : ∀ z ∈ pre, covers z pc = false ∨ (z.catchType ≠ 0 ∧ ∃ nm : String, (Cond.classLink own z.catchType nm).before args s = true ∧ va_Nc E nm s)) (hx : covers x pc = true) (h0 : x.catchType ≠ 0)
    (hlink : (Cond.classLink own x.catchType name).before args s = true) (hcast : (Cond.castable E name).before args s = true) (hcell : H[q]? = some ce) (hv : ce.vm = .none) (hcl : s.vm.findClass E = some ce.cls)
    (kk : W p l e R s m args below meth c H locs cells slots Q (F0 m x.handlerPc ls [.ref q])) : vx_W p l e R s m args below meth c H locs cells slots Q (F0 m pc ls rest) q := by
  intro T hT X
  have hpl : e.platform.magicAccessors = ({} : Platform).magicAccessors := by rw [X.admits.platform]
  obtain ⟨c3, c4, hc3, hc4, hasg⟩ := Cond.castable_spec hcast
  cases Option.some.inj (hc3.symm.trans hcl)
  obtain ⟨c5, hc5, hcl5⟩ := Cond.classLink_spec hown hlink e.platform hpl
  cases Option.some.inj (hc4.symm.trans hc5)
  obtain ⟨vm₉, X₉, st⟩ := Stand.thenCaughtThrough X q (g := F0 m pc ls rest) rfl (Steps.refl _) (by rw [hT]; exact hcell) (by rw [hv]; rfl) (by obtain ⟨k9, h9, -⟩ := Vm.findClass_spec hcl; exact ⟨k9, h9⟩) pre x suf hsplit
    (fun z hz => by
      rcases hpass z hz with h | ⟨hz0, nm, hl1, hn1⟩
      · exact Or.inl h
      · obtain ⟨c6, hc6, hcl6⟩ := Cond.classLink_spec hown hl1 e.platform hpl
        obtain ⟨a8, b8, h1, h2, h3⟩ := hn1
        cases Option.some.inj (h1.symm.trans hcl)
        cases Option.some.inj (h2.symm.trans hc6)
        exact Or.inr ⟨hz0, _, hcl6, h3⟩) hx (Or.inr ⟨h0, c4, hcl5, hasg⟩)
  obtain ⟨t, a1, b1⟩ := kk (T.setVm vm₉) hT X₉
  exact ⟨t, st.trans a1, b1⟩
end MA13

/-! from 72.frames -/
/-! THE SMALL MACHINE, part 13: the law's own frame and its methods that catch -/
/-- the frames of the law: 0 the law itself, the others its methods with a table: code, locals, answer, table -/
def ma_fi (k : Nat) : Option (ByteArray × Nat × Option FieldType × List (Nat × Nat × Nat × Nat)) := match k with
  | 0 => some (code, 7, some .boolean, [])
  | 1 => some (method_3_code, 8, some .int, [(0, 16, 19, 13)])
  | 2 => some (method_4_code, 4, some .int, [(0, 9, 12, 19)])
  | 3 => some (method_5_code, 5, some .int, [(0, 10, 13, 19), (0, 10, 17, 25)])
  | 4 => some (method_6_code, 5, some .int, [(0, 10, 13, 19), (0, 10, 17, 25)])
  | 5 => some (method_7_code, 6, some .int, [(0, 12, 15, 19), (0, 12, 19, 25)])
  | 6 => some (method_8_code, 6, some .int, [(0, 12, 15, 25), (0, 12, 19, 38), (0, 12, 23, 13), (0, 12, 27, 40)])
  | 7 => some (method_9_code, 6, some .int, [(0, 12, 15, 25), (0, 12, 19, 38), (0, 12, 23, 13), (0, 12, 27, 40)])
  | 8 => some (method_10_code, 5, some .int, [(0, 10, 13, 25), (0, 10, 17, 38), (0, 10, 21, 13)])
  | 9 => some (method_11_code, 5, some .int, [(0, 10, 13, 19), (0, 10, 17, 25), (0, 10, 21, 38)])
  | 10 => some (method_12_code, 5, some .int, [(0, 10, 13, 19), (0, 10, 17, 25), (0, 10, 21, 38)])
  | 11 => some (method_13_code, 5, some .int, [(0, 10, 13, 19), (0, 10, 17, 25)])
  | 12 => some (method_14_code, 5, some .int, [(0, 10, 13, 25), (0, 10, 17, 38), (0, 10, 21, 61)])
  | 13 => some (method_15_code, 4, some .int, [(0, 9, 12, 25), (0, 9, 15, 38)])
  | 14 => some (method_16_code, 4, some .int, [(0, 9, 12, 19), (0, 9, 15, 25)])
  | 15 => some (method_17_code, 3, some .int, [(0, 8, 11, 25)])
  | 16 => some (method_18_code, 4, some .int, [(0, 9, 12, 19), (0, 9, 15, 25), (0, 9, 18, 61)])
  | 17 => some (method_19_code, 5, some .int, [(0, 10, 13, 19), (0, 10, 17, 25), (0, 10, 21, 38)])
  | 18 => some (method_20_code, 5, some .int, [(0, 10, 13, 19), (0, 10, 17, 25), (0, 10, 21, 61), (0, 10, 25, 13)])
  | 19 => some (method_21_code, 4, some .int, [(0, 9, 12, 19), (0, 9, 15, 25)])
  | _ => none
def ma_fy (k : Nat) : MethodName := match k with
  | 1 => ⟨"CollectorHouseLaw", "feed", "(LCollectorHouse;IIIII[J)I"⟩
  | 2 => ⟨"CollectorHouseLaw", "end", "(LCollectorHouse;I[J)I"⟩
  | 3 => ⟨"CollectorHouseLaw", "kind", "(LCollectorHouse;II[J)I"⟩
  | 4 => ⟨"CollectorHouseLaw", "make", "(LCollectorHouse;II[J)I"⟩
  | 5 => ⟨"CollectorHouseLaw", "row", "(LCollectorHouse;ZII[J)I"⟩
  | 6 => ⟨"CollectorHouseLaw", "put", "(LCollectorHouse;III[J)I"⟩
  | 7 => ⟨"CollectorHouseLaw", "link", "(LCollectorHouse;III[J)I"⟩
  | 8 => ⟨"CollectorHouseLaw", "get", "(LCollectorHouse;II[J)I"⟩
  | 9 => ⟨"CollectorHouseLaw", "root", "(LCollectorHouse;II[J)I"⟩
  | 10 => ⟨"CollectorHouseLaw", "weak", "(LCollectorHouse;II[J)I"⟩
  | 11 => ⟨"CollectorHouseLaw", "strong", "(LCollectorHouse;II[J)I"⟩
  | 12 => ⟨"CollectorHouseLaw", "hold", "(LCollectorHouse;IZ[J)I"⟩
  | 13 => ⟨"CollectorHouseLaw", "wish", "(LCollectorHouse;I[J)I"⟩
  | 14 => ⟨"CollectorHouseLaw", "granted", "(LCollectorHouse;I[J)I"⟩
  | 15 => ⟨"CollectorHouseLaw", "clean", "(LCollectorHouse;[J)I"⟩
  | 16 => ⟨"CollectorHouseLaw", "step", "(LCollectorHouse;I[J)I"⟩
  | 17 => ⟨"CollectorHouseLaw", "about", "(LCollectorHouse;II[J)I"⟩
  | 18 => ⟨"CollectorHouseLaw", "block", "(LCollectorHouse;II[J)I"⟩
  | 19 => ⟨"CollectorHouseLaw", "count", "(LCollectorHouse;I[J)I"⟩
  | _ => ⟨"", "", ""⟩
theorem ma_fw1 : Cond.codeWith (ma_fy 1) method_3_code 8 (some .int) [(0, 16, 19, 13)] ∈ ma_TB ∧ Cond.static (ma_fy 1) ∈ ma_TB ∧ (ma_fy 1).cls = "CollectorHouseLaw" := ⟨ma_T3 (i := 44) rfl rfl, ma_T3 (i := 43) (by decide +kernel) (by decide +kernel), rfl⟩
theorem ma_fw2 : Cond.codeWith (ma_fy 2) method_4_code 4 (some .int) [(0, 9, 12, 19)] ∈ ma_TB ∧ Cond.static (ma_fy 2) ∈ ma_TB ∧ (ma_fy 2).cls = "CollectorHouseLaw" := ⟨ma_T3 (i := 122) rfl rfl, ma_T3 (i := 121) (by decide +kernel) (by decide +kernel), rfl⟩
theorem ma_fw3 : Cond.codeWith (ma_fy 3) method_5_code 5 (some .int) [(0, 10, 13, 19), (0, 10, 17, 25)] ∈ ma_TB ∧ Cond.static (ma_fy 3) ∈ ma_TB ∧ (ma_fy 3).cls = "CollectorHouseLaw" := ⟨ma_T3 (i := 145) rfl rfl, ma_T3 (i := 144) (by decide +kernel) (by decide +kernel), rfl⟩
theorem ma_fw4 : Cond.codeWith (ma_fy 4) method_6_code 5 (some .int) [(0, 10, 13, 19), (0, 10, 17, 25)] ∈ ma_TB ∧ Cond.static (ma_fy 4) ∈ ma_TB ∧ (ma_fy 4).cls = "CollectorHouseLaw" := ⟨ma_T3 (i := 168) rfl rfl, ma_T3 (i := 167) (by decide +kernel) (by decide +kernel), rfl⟩
theorem ma_fw5 : Cond.codeWith (ma_fy 5) method_7_code 6 (some .int) [(0, 12, 15, 19), (0, 12, 19, 25)] ∈ ma_TB ∧ Cond.static (ma_fy 5) ∈ ma_TB ∧ (ma_fy 5).cls = "CollectorHouseLaw" := ⟨ma_T5 (i := 216) rfl rfl, ma_T5 (i := 215) (by decide +kernel) (by decide +kernel), rfl⟩
theorem ma_fw6 : Cond.codeWith (ma_fy 6) method_8_code 6 (some .int) [(0, 12, 15, 25), (0, 12, 19, 38), (0, 12, 23, 13), (0, 12, 27, 40)] ∈ ma_TB ∧ Cond.static (ma_fy 6) ∈ ma_TB ∧ (ma_fy 6).cls = "CollectorHouseLaw" := ⟨ma_T5 (i := 224) rfl rfl, ma_T5 (i := 223) (by decide +kernel) (by decide +kernel), rfl⟩
theorem ma_fw7 : Cond.codeWith (ma_fy 7) method_9_code 6 (some .int) [(0, 12, 15, 25), (0, 12, 19, 38), (0, 12, 23, 13), (0, 12, 27, 40)] ∈ ma_TB ∧ Cond.static (ma_fy 7) ∈ ma_TB ∧ (ma_fy 7).cls = "CollectorHouseLaw" := ⟨ma_T6 (i := 33) rfl rfl, ma_T6 (i := 32) (by decide +kernel) (by decide +kernel), rfl⟩
theorem ma_fw8 : Cond.codeWith (ma_fy 8) method_10_code 5 (some .int) [(0, 10, 13, 25), (0, 10, 17, 38), (0, 10, 21, 13)] ∈ ma_TB ∧ Cond.static (ma_fy 8) ∈ ma_TB ∧ (ma_fy 8).cls = "CollectorHouseLaw" := ⟨ma_T6 (i := 57) rfl rfl, ma_T6 (i := 56) (by decide +kernel) (by decide +kernel), rfl⟩
theorem ma_fw9 : Cond.codeWith (ma_fy 9) method_11_code 5 (some .int) [(0, 10, 13, 19), (0, 10, 17, 25), (0, 10, 21, 38)] ∈ ma_TB ∧ Cond.static (ma_fy 9) ∈ ma_TB ∧ (ma_fy 9).cls = "CollectorHouseLaw" := ⟨ma_T6 (i := 68) rfl rfl, ma_T6 (i := 67) (by decide +kernel) (by decide +kernel), rfl⟩
theorem ma_fw10 : Cond.codeWith (ma_fy 10) method_12_code 5 (some .int) [(0, 10, 13, 19), (0, 10, 17, 25), (0, 10, 21, 38)] ∈ ma_TB ∧ Cond.static (ma_fy 10) ∈ ma_TB ∧ (ma_fy 10).cls = "CollectorHouseLaw" := ⟨ma_T6 (i := 75) rfl rfl, ma_T6 (i := 74) (by decide +kernel) (by decide +kernel), rfl⟩
theorem ma_fw11 : Cond.codeWith (ma_fy 11) method_13_code 5 (some .int) [(0, 10, 13, 19), (0, 10, 17, 25)] ∈ ma_TB ∧ Cond.static (ma_fy 11) ∈ ma_TB ∧ (ma_fy 11).cls = "CollectorHouseLaw" := ⟨ma_T6 (i := 82) rfl rfl, ma_T6 (i := 81) (by decide +kernel) (by decide +kernel), rfl⟩
theorem ma_fw12 : Cond.codeWith (ma_fy 12) method_14_code 5 (some .int) [(0, 10, 13, 25), (0, 10, 17, 38), (0, 10, 21, 61)] ∈ ma_TB ∧ Cond.static (ma_fy 12) ∈ ma_TB ∧ (ma_fy 12).cls = "CollectorHouseLaw" := ⟨ma_T6 (i := 102) rfl rfl, ma_T6 (i := 101) (by decide +kernel) (by decide +kernel), rfl⟩
theorem ma_fw13 : Cond.codeWith (ma_fy 13) method_15_code 4 (some .int) [(0, 9, 12, 25), (0, 9, 15, 38)] ∈ ma_TB ∧ Cond.static (ma_fy 13) ∈ ma_TB ∧ (ma_fy 13).cls = "CollectorHouseLaw" := ⟨ma_T6 (i := 144) rfl rfl, ma_T6 (i := 143) (by decide +kernel) (by decide +kernel), rfl⟩
theorem ma_fw14 : Cond.codeWith (ma_fy 14) method_16_code 4 (some .int) [(0, 9, 12, 19), (0, 9, 15, 25)] ∈ ma_TB ∧ Cond.static (ma_fy 14) ∈ ma_TB ∧ (ma_fy 14).cls = "CollectorHouseLaw" := ⟨ma_T6 (i := 151) rfl rfl, ma_T6 (i := 150) (by decide +kernel) (by decide +kernel), rfl⟩
theorem ma_fw15 : Cond.codeWith (ma_fy 15) method_17_code 3 (some .int) [(0, 8, 11, 25)] ∈ ma_TB ∧ Cond.static (ma_fy 15) ∈ ma_TB ∧ (ma_fy 15).cls = "CollectorHouseLaw" := ⟨ma_T6 (i := 162) rfl rfl, ma_T6 (i := 161) (by decide +kernel) (by decide +kernel), rfl⟩
theorem ma_fw16 : Cond.codeWith (ma_fy 16) method_18_code 4 (some .int) [(0, 9, 12, 19), (0, 9, 15, 25), (0, 9, 18, 61)] ∈ ma_TB ∧ Cond.static (ma_fy 16) ∈ ma_TB ∧ (ma_fy 16).cls = "CollectorHouseLaw" := ⟨ma_T6 (i := 181) rfl rfl, ma_T6 (i := 180) (by decide +kernel) (by decide +kernel), rfl⟩
theorem ma_fw17 : Cond.codeWith (ma_fy 17) method_19_code 5 (some .int) [(0, 10, 13, 19), (0, 10, 17, 25), (0, 10, 21, 38)] ∈ ma_TB ∧ Cond.static (ma_fy 17) ∈ ma_TB ∧ (ma_fy 17).cls = "CollectorHouseLaw" := ⟨ma_T6 (i := 189) rfl rfl, ma_T6 (i := 188) (by decide +kernel) (by decide +kernel), rfl⟩
theorem ma_fw18 : Cond.codeWith (ma_fy 18) method_20_code 5 (some .int) [(0, 10, 13, 19), (0, 10, 17, 25), (0, 10, 21, 61), (0, 10, 25, 13)] ∈ ma_TB ∧ Cond.static (ma_fy 18) ∈ ma_TB ∧ (ma_fy 18).cls = "CollectorHouseLaw" := ⟨ma_T6 (i := 223) rfl rfl, ma_T6 (i := 222) (by decide +kernel) (by decide +kernel), rfl⟩
theorem ma_fw19 : Cond.codeWith (ma_fy 19) method_21_code 4 (some .int) [(0, 9, 12, 19), (0, 9, 15, 25)] ∈ ma_TB ∧ Cond.static (ma_fy 19) ∈ ma_TB ∧ (ma_fy 19).cls = "CollectorHouseLaw" := ⟨ma_T6 (i := 238) rfl rfl, ma_T6 (i := 237) (by decide +kernel) (by decide +kernel), rfl⟩
theorem ma_fw {k nL : Nat} {cc : ByteArray} {ret : Option FieldType} {hh : List (Nat × Nat × Nat × Nat)} (hk : 1 ≤ k) (h : ma_fi k = some (cc, nL, ret, hh)) : Cond.codeWith (ma_fy k) cc nL ret hh ∈ ma_TB ∧ Cond.static (ma_fy k) ∈ ma_TB ∧ (ma_fy k).cls = "CollectorHouseLaw" := by
  unfold ma_fi at h
  split at h
  · omega
  · cases h; exact ma_fw1
  · cases h; exact ma_fw2
  · cases h; exact ma_fw3
  · cases h; exact ma_fw4
  · cases h; exact ma_fw5
  · cases h; exact ma_fw6
  · cases h; exact ma_fw7
  · cases h; exact ma_fw8
  · cases h; exact ma_fw9
  · cases h; exact ma_fw10
  · cases h; exact ma_fw11
  · cases h; exact ma_fw12
  · cases h; exact ma_fw13
  · cases h; exact ma_fw14
  · cases h; exact ma_fw15
  · cases h; exact ma_fw16
  · cases h; exact ma_fw17
  · cases h; exact ma_fw18
  · cases h; exact ma_fw19
  · cases h
theorem ma_fwi : Cond.initialized "CollectorHouseLaw" ∈ ma_TB := ma_T1 (i := 0) (by decide +kernel) (by decide +kernel)
/-- calls of those: pool entry, method, how many arguments -/
def ma_cwh : List ((Nat × Nat × Nat) × Nat) := [((89, 1, 7), 522), ((95, 2, 3), 600), ((99, 3, 4), 623), ((107, 4, 4), 646), ((110, 5, 5), 1174), ((114, 6, 5), 1182), ((118, 7, 5), 1231), ((121, 8, 4), 1255), ((124, 9, 4), 1266), ((127, 10, 4), 1273), ((130, 11, 4), 1280), ((133, 12, 4), 1300), ((140, 13, 3), 1342), ((143, 14, 3), 1349), ((146, 15, 2), 1360), ((150, 16, 3), 1379), ((153, 17, 4), 1387), ((156, 18, 4), 1421), ((159, 19, 3), 1436)]
theorem ma_cwh_ok : ∀ q ∈ ma_cwh, (ma_w q.2 (.methodLink "CollectorHouseLaw" q.1.1 (ma_fy q.1.2.1)) && decide ((parseMethodDescriptor (ma_fy q.1.2.1).desc).map (fun d => d.parameters.length) = some q.1.2.2) && decide (1 ≤ q.1.2.1)) = true := List.all_eq_true.mp (by decide +kernel)
def ma_cw (i : Instr) (n : Nat) (st : List ma_V) : Option (Nat × List ma_V × List ma_V) := match i, n with
  | .invokestatic x, 3 => match ma_cwh.find? (fun q => q.1.1 == x) with
    | some q => if q.1.2.2 ≤ st.length then some (q.1.2.1, (st.take q.1.2.2).reverse, st.drop q.1.2.2) else none
    | none => none
  | _, _ => none
/-- the classes that the tables name -/
def ma_cth2 : List ((Nat × Nat) × Nat) := [((13, 1), 525), ((19, 2), 603), ((25, 3), 626), ((38, 4), 1185), ((40, 5), 1186), ((61, 6), 1303)]
theorem ma_cth2_ok : ∀ q ∈ ma_cth2, ma_w q.2 (.classLink "CollectorHouseLaw" q.1.1 (ma_xn q.1.2)) = true := List.all_eq_true.mp (by decide +kernel)
def ma_cx (ct : Nat) : Option Nat := (ma_cth2.find? (fun q => q.1.1 == ct)).map (fun q => q.1.2)
theorem ma_cx_spec {ct x : Nat} (h : ma_cx ct = some x) : Cond.classLink "CollectorHouseLaw" ct (ma_xn x) ∈ ma_TB := by
  unfold ma_cx at h
  cases hf : ma_cth2.find? (fun q => q.1.1 == ct) with
  | none => rw [hf] at h; cases h
  | some q =>
    rw [hf] at h
    have hk : q.1.2 = x := Option.some.inj h
    have h1 := List.find?_some hf
    simp only [beq_iff_eq] at h1
    have h2 := ma_cth2_ok q (List.mem_of_find?_eq_some hf)
    rw [hk, h1] at h2
    exact ma_w_in h2
/-- the answer behind a handler: put it away, a constant, answer -/
def ma_hk (cc : ByteArray) (nL h : Nat) : Option Int32 := match decode cc h with
  | .ok (.astore_n k, 1) => if (k : Nat) < nL then (match decode cc (h + 1), decode cc (h + 1 + 1) with
    | .ok (.iconst c, 1), .ok (.ireturn, 1) => some (Int32.ofInt c)
    | _, _ => none) else none
  | .ok (.astore k, 2) => if k < nL then (match decode cc (h + 2), decode cc (h + 2 + 1) with
    | .ok (.iconst c, 1), .ok (.ireturn, 1) => some (Int32.ofInt c)
    | _, _ => none) else none
  | _ => none
/-- the first row of the table that takes exception x, thrown at pc -/
def ma_hd (cc : ByteArray) (nL x pc : Nat) (hh : List (Nat × Nat × Nat × Nat)) : Option Int32 := match hh with
  | [] => none
  | q :: r => if covers ⟨q.1, q.2.1, q.2.2.1, q.2.2.2⟩ pc && decide (q.2.2.2 ≠ 0) then (match ma_cx q.2.2.2 with
    | some z => if z = x then (if Cond.castable (ma_xn x) (ma_xn x) ∈ ma_nw then ma_hk cc nL q.2.2.1 else none) else if (ma_xn x, ma_xn z) ∈ ma_nc then ma_hd cc nL x pc r else none
    | none => none) else none
def ma_frun (X : Nat × (Nat → Int32)) : Nat → Nat → Nat → Nat → Nat → ma_L → List ma_V → ma_S → Option (Option ma_V × ma_S)
  | 0, _, _, _, _, _, _, _ => none
  | f + 1, k, d, w, pc, L, st, S => match ma_fi k with
    | none => none
    | some (cc, nL, ret, hh) => match decode cc pc with
      | .error _ => none
      | .ok (i, n) => match ma_one X 14 false nL d w i n pc L st S with
        | some (pc₉, L₉, st₉, S₉) => ma_frun X f k d w pc₉ L₉ st₉ S₉
        | none => match ma_ret ret i n st with
          | some v => some (v, S)
          | none => match ma_cl 14 i n st S with
            | some ((kd, M₉), as, rest) => (match ma_md M₉ with
              | none => none
              | some (_, _, _, nL₉, _) => if 1 ≤ d ∧ 19 + nL₉ ≤ w ∧ ma_sz as ≤ nL₉ ∧ ma_sz rest ≤ 8 then (match ma_run X f (d - 1) (w - (19 + nL₉)) M₉ 0 (ma_args 0 as) [] S with
                | some (.inl v, S₉) => ma_frun X f k d w (pc + 3) L (v.toList ++ rest) S₉
                | some (.inr (x, _), S₉) => if kd ≤ 1 ∧ ret = some .int then (ma_hd cc nL x pc hh).map (fun c => (some (.inl c), S₉)) else none
                | none => none) else none)
            | none => match ma_cw i n st with
              | none => none
              | some (k₉, as, rest) => match ma_fi k₉ with
                | none => none
                | some (_, nL₉, _, _) => if 1 ≤ d ∧ 19 + nL₉ ≤ w ∧ ma_sz as ≤ nL₉ ∧ ma_sz rest ≤ 8 then (match ma_frun X f k₉ (d - 1) (w - (19 + nL₉)) 0 (ma_args 0 as) [] S with
                  | some (v, S₉) => ma_frun X f k d w (pc + 3) L (v.toList ++ rest) S₉
                  | none => none) else none
theorem ma_cw_c {N n k : Nat} {i : Instr} {st as rest : List ma_V} (hc : ma_cs N st) (h : ma_cw i n st = some (k, as, rest)) : ma_cs N as ∧ ma_cs N rest := by
  unfold ma_cw at h
  split at h
  · split at h
    · split at h
      · cases h
        exact ⟨fun v hv => hc v (List.mem_of_mem_take (List.mem_reverse.mp hv)), fun v hv => hc v (List.mem_of_mem_drop hv)⟩
      · cases h
    · cases h
  · cases h
theorem ma_frun_c {X : Nat × (Nat → Int32)} : ∀ (f k d w pc : Nat) (L : ma_L) (st : List ma_V) (S : ma_S) (out : Option ma_V) (S₉ : ma_S), ma_frun X f k d w pc L st S = some (out, S₉) → ma_ch S → ma_cL (mN S) L → ma_cs (mN S) st →
    ma_ch S₉ ∧ mN S ≤ mN S₉ ∧ mC S ≤ mC S₉ ∧ mZ S ≤ mZ S₉ ∧ ∀ u, out = some u → ma_cv (mN S₉) u := by
  intro f
  induction f with
  | zero => intro k d w pc L st S out S₉ h; cases h
  | succ f ih =>
    intro k d w pc L st S out S₉ h hh hL hc
    unfold ma_frun at h
    split at h
    · cases h
    · split at h
      · cases h
      · split at h
        · next pc1 L1 st1 S1 h1 =>
          obtain ⟨a1, a2, a3, a4, a5, a6⟩ := ma_one_c hh hL hc h1
          obtain ⟨b1, b2, b3, b4, b5⟩ := ih _ _ _ _ _ _ _ _ _ h a1 a2 a3
          exact ⟨b1, by omega, by omega, by omega, b5⟩
        · split at h
          · next v hv =>
            cases h
            exact ⟨hh, Nat.le_refl _, Nat.le_refl _, Nat.le_refl _, fun u hu => ma_ret_cv hc hv u hu⟩
          · split at h
            · next kd M₉ as rest hcl =>
              obtain ⟨g1, g2, g3⟩ := ma_cl_c hc hcl
              split at h
              · cases h
              · split at h
                · split at h
                  · next v S1 hr =>
                    obtain ⟨b1, b2, b3, b4, b5⟩ := ma_run_c _ _ _ _ _ _ _ _ _ _ hr hh (ma_args_cL as 0 g1) ma_nil_cs
                    obtain ⟨c1, c2, c3, c4, c5⟩ := ih _ _ _ _ _ _ _ _ _ h b1 (hL.mono b2) (ma_opt_cs (fun u hu => b5 u (by rw [hu])) (g2.mono b2))
                    exact ⟨c1, by omega, by omega, by omega, c5⟩
                  · next x px S1 hr =>
                    obtain ⟨b1, b2, b3, b4, b5⟩ := ma_run_c _ _ _ _ _ _ _ _ _ _ hr hh (ma_args_cL as 0 g1) ma_nil_cs
                    split at h
                    · cases hq : ma_hd _ _ x pc _ with
                      | none => rw [hq] at h; cases h
                      | some c9 =>
                        rw [hq] at h
                        cases h
                        exact ⟨b1, b2, b3, b4, fun u hu => by cases hu; exact ma_cv_i⟩
                    · cases h
                  · cases h
                · cases h
            · split at h
              · cases h
              · next k₉ as rest hcw =>
                obtain ⟨g1, g2⟩ := ma_cw_c hc hcw
                split at h
                · cases h
                · split at h
                  · split at h
                    · next v S1 hr =>
                      obtain ⟨b1, b2, b3, b4, b5⟩ := ih _ _ _ _ _ _ _ _ _ hr hh (ma_args_cL as 0 g1) ma_nil_cs
                      obtain ⟨c1, c2, c3, c4, c5⟩ := ih _ _ _ _ _ _ _ _ _ h b1 (hL.mono b2) (ma_opt_cs b5 (g2.mono b2))
                      exact ⟨c1, by omega, by omega, by omega, c5⟩
                    · cases h
                  · cases h

/-! from 74.catches -/
/-! THE SMALL MACHINE, part 14: the machine follows the law's frames too -/
def ma_FOK (X : Nat × (Nat → Int32)) (l : Launch) (f : Nat) : Prop := ∀ (k d w pc : Nat) (L : ma_L) (st : List ma_V) (S : ma_S) (out : Option ma_V) (S₉ : ma_S), ma_frun X f k d w pc L st S = some (out, S₉) →
  ∀ (cc : ByteArray) (nL : Nat) (ret : Option FieldType) (hh : List (Nat × Nat × Nat × Nat)), ma_fi k = some (cc, nL, ret, hh) →
  ∀ (p : Program) (e : Env) (R : Room) (s : State) (m : MethodId) (args : Array Value) (below : List Frame) (meth : Method) (c : Code) (H : Heap) (locs : List Loc) (cells slots : Nat) (Q : State → Prop) (ls : Array Slot) (ad : Nat → Nat) (kA : Nat → ClassId) (D : va_G) (A : Nat → Prop),
  ma_Cx X p R s m args meth c cc 14 false nL d w D kA A → (ret = some .int → c.exceptionTable.toList = tableOf hh) → ma_Wd X s nL D kA A ad L st S H locs ls → cells + (mC S₉ - mC S) ≤ R.cells → slots + (mZ S₉ - mZ S) ≤ R.slots →
  (∀ (ad₉ : Nat → Nat) (H1 : Heap) (locs1 : List Loc) (ls1 : Array Slot) (pc1 n1 : Nat) (i1 : Instr) (st1 : List ma_V), (∀ b, b < mN S → ad₉ b = ad b) → ma_Wd X s nL D kA A ad₉ [] st1 S₉ H1 locs1 ls1 → decode cc pc1 = .ok (i1, n1) → ma_ret ret i1 n1 st1 = some out → W p l e R s m args below meth c H1 locs1 (cells + (mC S₉ - mC S)) (slots + (mZ S₉ - mZ S)) Q (F0 m pc1 ls1 (ma_ts ad₉ st1))) →
  W p l e R s m args below meth c H locs cells slots Q (F0 m pc ls (ma_ts ad st))
section MA14
variable {p : Program} {l : Launch} {e : Env} {R : Room} {s : State} {m : MethodId} {args : Array Value} {below : List Frame} {meth : Method} {c : Code} {H : Heap} {locs : List Loc} {cells slots : Nat} {Q : State → Prop} {cc : ByteArray} {pc : Nat} {ls : Array Slot} {ad : Nat → Nat} {kA : Nat → ClassId} {D : va_G} {A : Nat → Prop}
theorem ma_hk_ok (hx : p.tables.exec = Jvm.exec) (hb : c.code = cc) {nL h : Nat} {c9 : Int32} {q : Addr} (hl : lv_has ls nL []) (hk : ma_hk cc nL h = some c9) (kk : ∀ (ls1 : Array Slot) (pc1 : Nat), lv_has ls1 nL [] → decode cc pc1 = .ok (.ireturn, 1) → W p l e R s m args below meth c H locs cells slots Q (F0 m pc1 ls1 [.int c9])) : W p l e R s m args below meth c H locs cells slots Q (F0 m h ls [.ref q]) := by
  unfold ma_hk at hk
  split at hk
  · next k d0 =>
    split at hk
    · next hlt =>
      split at hk
      · next cst d1 d2 =>
        cases hk
        exact lv_astore_n hx hb d0 rfl hl hlt rfl (fun ls₉ hl₉ => lv_iconst hx hb d1 rfl (kk ls₉ _ ⟨hl₉.1, hl₉.2.1, fun q hq => by cases hq⟩ d2))
      · cases hk
    · cases hk
  · next k d0 =>
    split at hk
    · next hlt =>
      split at hk
      · next cst d1 d2 =>
        cases hk
        exact lv_astore hx hb d0 hl hlt rfl (fun ls₉ hl₉ => lv_iconst hx hb d1 rfl (kk ls₉ _ ⟨hl₉.1, hl₉.2.1, fun q hq => by cases hq⟩ d2))
      · cases hk
    · cases hk
  · cases hk
theorem ma_hd_ok (hx : p.tables.exec = Jvm.exec) (hb : c.code = cc) {nL x : Nat} {c9 : Int32} {q : Addr} {ce : Cell} {rest : List Value} (hown : s.vm.findClass (ma_cn 14) = some m.cls) (hts : ∀ w ∈ ma_TB, w.before args s = true) (hN : ma_Nx s) (hl : lv_has ls nL []) (hce : H[q]? = some ce) (hcv : ce.vm = .none) (hcl : s.vm.findClass (ma_xn x) = some ce.cls)
    (kk : ∀ (ls1 : Array Slot) (pc1 : Nat), lv_has ls1 nL [] → decode cc pc1 = .ok (.ireturn, 1) → W p l e R s m args below meth c H locs cells slots Q (F0 m pc1 ls1 [.int c9])) :
    ∀ (hh : List (Nat × Nat × Nat × Nat)) (pre : List ExceptionTableEntry), c.exceptionTable.toList = pre ++ tableOf hh → (∀ z ∈ pre, covers z pc = false ∨ (z.catchType ≠ 0 ∧ ∃ nm : String, (Cond.classLink (ma_cn 14) z.catchType nm).before args s = true ∧ va_Nc (ma_xn x) nm s)) → ma_hd cc nL x pc hh = some c9 → vx_W p l e R s m args below meth c H locs cells slots Q (F0 m pc ls rest) q := by
  intro hh
  induction hh with
  | nil => intro pre _ _ h; cases h
  | cons a r ih =>
    intro pre hsp hpre h
    unfold ma_hd at h
    split at h
    · next hc0 =>
      rw [Bool.and_eq_true] at hc0
      have hc : covers ⟨a.1, a.2.1, a.2.2.1, a.2.2.2⟩ pc = true ∧ a.2.2.2 ≠ 0 := ⟨hc0.1, of_decide_eq_true hc0.2⟩
      split at h
      · next z hz =>
        have hlk := hts _ (ma_cx_spec hz)
        split at h
        · next hzx =>
          subst hzx
          split at h
          · next hca =>
            exact vx_catch (own := ma_cn 14) (name := ma_xn z) hown pre ⟨a.1, a.2.1, a.2.2.1, a.2.2.2⟩ (tableOf r) hsp hpre hc.1 hc.2 hlk (va_Nw.use rfl (hN.1 _ hca)) hce hcv hcl (ma_hk_ok hx hb hl h kk)
          · cases h
        · split at h
          · next hnc =>
            refine ih (pre ++ [⟨a.1, a.2.1, a.2.2.1, a.2.2.2⟩]) (by rw [hsp, List.append_assoc]; rfl) (fun y hy => ?_) h
            rcases List.mem_append.mp hy with hy | hy
            · exact hpre y hy
            · rw [List.mem_singleton] at hy
              subst hy
              exact Or.inr ⟨hc.2, ma_xn z, hlk, hN.2.2 _ hnc⟩
          · cases h
      · cases h
    · cases h
theorem ma_metw {X : Nat × (Nat → Int32)} {f d w k nL : Nat} {ret : Option FieldType} {hh : List (Nat × Nat × Nat × Nat)} {as : List ma_V} {S S₉ : ma_S} (IH : ma_FOK X l f) (hk : 1 ≤ k) (hfi : ma_fi k = some (cc, nL, ret, hh)) (hch : ma_ch S) (has : ma_cs (mN S) as) (hsz : ma_sz as ≤ nL) {v : Option ma_V} (hrun : ma_frun X f k d w 0 (ma_args 0 as) [] S = some (v, S₉)) (D : va_G) (kA : Nat → ClassId) (ad : Nat → Nat) (sz : Nat) :
    Met l (ma_fy k) (Cond.codeWith (ma_fy k) cc nL ret hh :: ma_TB) (ma_rm d w (mC S₉ - mC S) (mZ S₉ - mZ S)) (ma_Pc X D kA ad S as sz) (ma_Qc D kA ad S S₉ v) (mC S₉ - mC S) (mZ S₉ - mZ S) (va_A (ma_wl kA ad S) sz) := by
  obtain ⟨w1, w2, w3⟩ := ma_fw hk hfi
  refine va_MetW (cc := cc) (maxL := nL) (ret := ret) (hh := hh) (by rw [w3]; decide +kernel) rfl ?_
  intro p e s m args below meth c s₁ B hml hv
  obtain ⟨rfl, rfl, hP, hK, hD0, hN, hX⟩ := hv
  have hts := atoms_spec (ws := Cond.codeWith (ma_fy k) cc nL ret hh :: ma_TB) B.pre
  have hown : s.vm.findClass (ma_fy k).cls = some m.cls := findClass_of_methodNamed B.named
  have hl := lv_entry (ma_ts ad as) (n := nL) (by rw [ma_args_len]; exact hsz)
  rw [lg_entry_eq]
  rw [← ma_args_tl] at hl
  have C : ma_Cx X p (ma_rm d w (mC S₉ - mC S) (mZ S₉ - mZ S)) s m (ma_ts ad as).toArray meth c cc 14 false nL d w D kA (va_A (ma_wl kA ad S) s.heap.size) := ⟨B.exec, B.bytes, hml, (by rw [w3] at hown; exact hown), fun w hw => hts w (List.mem_cons_of_mem _ hw), hK, hN, (fun h => by cases h), Nat.le_refl _, Nat.le_refl _, fun q h => Or.inr h⟩
  refine IH k d w 0 (ma_args 0 as) [] S v S₉ hrun cc nL ret hh hfi p e _ s m _ below meth c s.heap [] 0 0 _ _ ad kA D _ C (fun _ => vx_table (x := ma_fy k) B (hts _ List.mem_cons_self)) ⟨hl, hch, ma_args_cL as 0 has, ma_nil_cs, hP, hD0.self, va_S.rf, hX⟩ (by show 0 + _ ≤ mC S₉ - mC S; omega) (by show 0 + _ ≤ mZ S₉ - mZ S; omega) ?_
  intro ad₉ H1 locs1 ls1 pc1 n1 i1 st1 hag Wd1 hd1 hr1
  obtain ⟨hl, hh1, hL1, hc1, hP1, hD1, hS1, hX1⟩ := Wd1
  rw [Nat.zero_add, Nat.zero_add]
  exact ma_ret_ok B.exec B.bytes B.notSynchronized B.returns hd1 hr1 (fun t ht hW => ⟨ad₉, rfl, hag, by rw [ht]; exact hP1, hD1, hS1.F ht⟩) hS1.2.2
theorem ma_cw_run {X : Nat × (Nat → Int32)} {nL d w n k nL₉ mc ms : Nat} {ini : Bool} {i : Instr} {L : ma_L} {st as rest : List ma_V} {S S₉ : ma_S} {cc₉ : ByteArray} {ret₉ : Option FieldType} {hh₉ : List (Nat × Nat × Nat × Nat)} {v : Option ma_V}
    (C : ma_Cx X p R s m args meth c cc 14 ini nL d w D kA A) (Wd : ma_Wd X s nL D kA A ad L st S H locs ls) (hd : decode cc pc = .ok (i, n)) (h : ma_cw i n st = some (k, as, rest)) (hfi : ma_fi k = some (cc₉, nL₉, ret₉, hh₉)) (h1 : 1 ≤ d) (h2 : 19 + nL₉ ≤ w) (h3 : ma_sz rest ≤ 8)
    (hM : 1 ≤ k → Met l (ma_fy k) (Cond.codeWith (ma_fy k) cc₉ nL₉ ret₉ hh₉ :: ma_TB) (ma_rm (d - 1) (w - (19 + nL₉)) mc ms) (ma_Pc X D kA ad S as H.size) (ma_Qc D kA ad S S₉ v) mc ms (va_A (ma_wl kA ad S) H.size)) (hf : cells + mc ≤ R.cells ∧ slots + ms ≤ R.slots) :
    va_Run p l e R s m args below meth c H locs cells slots mc ms (F0 m pc ls (ma_ts ad st)) (ma_ts ad rest) (ma_Qc D kA ad S S₉ v (ma_ts ad as).toArray) (va_A (ma_wl kA ad S) H.size) := by
  have hpre := fun U hU hW => ma_pre (as := as) C Wd U hU hW
  obtain ⟨hx, hb, hml, hown, hts, hK, hN, hini, hR1, hR2, hA⟩ := C
  obtain ⟨hl, hh, hL, hc, hP, hD, hS, hX⟩ := Wd
  unfold ma_cw at h
  split at h
  · next x =>
    split at h
    · next q hq =>
      split at h
      · next hlen =>
        cases h
        have g1 := List.find?_some hq
        simp only [beq_iff_eq] at g1
        have g2 := ma_cwh_ok q (List.mem_of_find?_eq_some hq)
        simp only [Bool.and_eq_true] at g2
        rw [g1] at g2
        have gk := of_decide_eq_true g2.2
        obtain ⟨w1, w2, w3⟩ := ma_fw gk hfi
        have s2 : (ma_ts ad (st.take q.1.2.2).reverse).length = q.1.2.2 := by
          unfold ma_ts
          rw [List.length_map, List.length_reverse, List.length_take]
          omega
        have s1 : ma_ts ad st = (ma_ts ad (st.take q.1.2.2).reverse).reverse ++ ma_ts ad (st.drop q.1.2.2) := by
          have h0 : ma_ts ad st = ma_ts ad (st.take q.1.2.2 ++ st.drop q.1.2.2) := by rw [List.take_append_drop]
          rw [h0]
          unfold ma_ts
          rw [List.map_append, List.map_reverse, List.reverse_reverse]
        have hws : ∀ w ∈ (Cond.codeWith (ma_fy q.1.2.1) cc₉ nL₉ ret₉ hh₉ :: ma_TB), ∀ (a₉ : Array Value) (U : State), s.WarmedH U.vm → w.before a₉ U = true := by
          intro w hw a₉ U hW
          have hm : w ∈ ma_TB := by
            rcases List.mem_cons.mp hw with e1 | e1
            · rw [e1]; exact w1
            · exact e1
          exact word_at hW (good_of_word (List.mem_filter.mp hm).2) (hts w hm)
        refine vx_runSW (hh := hh₉) ⟨hx, hb, hml, hown, hts⟩ (hM gk) ⟨⟨rfl, rfl, by show d - 1 + 1 ≤ _; omega, by show 8 + (nL₉ + 11) + (w - (19 + nL₉)) ≤ _; omega, hws, List.mem_cons_self⟩, hts _ w1, by rw [w3]; exact hts _ ma_fwi, by rw [w3]; exact ⟨by decide, by decide⟩, ?_, hts _ (ma_w_in g2.1.1), hts _ w2⟩ ⟨ma_Pc_blind, hpre⟩ rfl s2 hl.1 s1 (lv_room (by rw [ma_sz_ts]; exact h3)) hd hf
        intro sig hs
        have := of_decide_eq_true g2.1.2
        rw [hs] at this
        exact (Option.some.inj this).symm
      · cases h
    · cases h
  · cases h
end MA14
theorem ma_fok_all (X : Nat × (Nat → Int32)) (l : Launch) (hlt : l.stackTraces = false) : ∀ f, ma_FOK X l f := by
  intro f
  induction f with
  | zero => intro k d w pc L st S out S₉ h; cases h
  | succ f ih =>
    intro k d w pc L st S out S₉ h cc nL ret hh hfi p e R s m args below meth c H locs cells slots Q ls ad kA D A C htab Wd hr1 hr2 kr
    have hcnt := ma_frun_c _ _ _ _ _ _ _ _ _ _ h Wd.2.1 Wd.2.2.1 Wd.2.2.2.1
    unfold ma_frun at h
    rw [hfi] at h
    simp only at h
    split at h
    · cases h
    · next i n hd =>
      split at h
      · next pc1 L1 st1 S1 h1 =>
        have cl := ma_one_c Wd.2.1 Wd.2.2.1 Wd.2.2.2.1 h1
        have cnt1 := ma_frun_c _ _ _ _ _ _ _ _ _ _ h cl.1 cl.2.1 cl.2.2.1
        have ec : mC S₉ - mC S = (mC S1 - mC S) + (mC S₉ - mC S1) := by omega
        have ez : mZ S₉ - mZ S = (mZ S1 - mZ S) + (mZ S₉ - mZ S1) := by omega
        refine ma_one_ok C Wd hd h1 (by omega) (by omega) (fun ad1 H1 locs1 ls1 hag Wd1 => ?_)
        refine ih k d w pc1 L1 st1 S1 out S₉ h cc nL ret hh hfi p e R s m args below meth c H1 locs1 _ _ Q ls1 ad1 kA D A C htab Wd1 (by omega) (by omega) ?_
        intro ad2 H2 locs2 ls2 pc2 n2 i2 st2 hag2 Wd2 hd2 hret
        have := kr ad2 H2 locs2 ls2 pc2 n2 i2 st2 (fun b hb => (hag2 b (by omega)).trans (hag b hb)) Wd2 hd2 hret
        rw [ec, ez, ← Nat.add_assoc, ← Nat.add_assoc] at this
        exact this
      · split at h
        · next v hv =>
          cases h
          obtain ⟨hl, hch, hL, hc, hP, hD, hS, hX⟩ := Wd
          have := kr ad H locs ls pc n i st (fun _ _ => rfl) ⟨⟨hl.1, hl.2.1, fun q hq => by cases hq⟩, hch, ma_nil_cL, hc, hP, hD, hS, hX⟩ hd hv
          simp only [Nat.sub_self, Nat.add_zero] at this
          exact this
        · split at h
          · next kd M₉ as rest hcl =>
            obtain ⟨g1, g2, g3⟩ := ma_cl_c Wd.2.2.2.1 hcl
            split at h
            · cases h
            · next o₉ y₉ cc₉ nL₉ ret₉ hmd₉ =>
              split at h
              · next hroom =>
                obtain ⟨r1, r2, r3, r4⟩ := hroom
                split at h
                · next v S1 hrun =>
                  have cnt1 := ma_run_c _ _ _ _ _ _ _ _ _ _ hrun Wd.2.1 (ma_args_cL as 0 g1) ma_nil_cs
                  have cs1 : ma_cs (mN S1) (v.toList ++ rest) := ma_opt_cs (fun u hu => cnt1.2.2.2.2 u (by rw [hu])) (g2.mono cnt1.2.1)
                  have cnt2 := ma_frun_c _ _ _ _ _ _ _ _ _ _ h cnt1.1 (Wd.2.2.1.mono cnt1.2.1) cs1
                  have ec : mC S₉ - mC S = (mC S1 - mC S) + (mC S₉ - mC S1) := by omega
                  have ez : mZ S₉ - mZ S = (mZ S1 - mZ S) + (mZ S₉ - mZ S1) := by omega
                  have hmet := ma_met (ma_ok_all X l hlt f) hmd₉ Wd.2.1 g1 r3 hrun D kA ad H.size
                  have hrn := ma_cl_run (l := l) (e := e) (below := below) (cells := cells) (slots := slots) C Wd hd hcl hmd₉ r1 r2 r4 hmet ⟨by omega, by omega⟩
                  have hA := C.2.2.2.2.2.2.2.2.2.2
                  have hl := Wd.1
                  refine ma_called hrn Wd.2.2.2.2.2.1 Wd.2.2.2.2.2.2.1 hA (fun ad1 H1 locs1 hag hP1 hD1 hS1 => ?_)
                  have hrest : ma_ts ad1 rest = ma_ts ad rest := ma_ts_ad g2 hag
                  rw [← hrest, ma_ts_app]
                  have Wd1 : ma_Wd X s nL D kA A ad1 L (v.toList ++ rest) S1 H1 locs1 ls := ⟨by rw [ma_tl_ad Wd.2.2.1 hag]; exact hl, cnt1.1, Wd.2.2.1.mono cnt1.2.1, cs1, hP1, hD1, hS1, Wd.2.2.2.2.2.2.2.ad (fun b hb => hag b (Nat.lt_of_lt_of_le hb Wd.2.1.2))⟩
                  refine ih k d w (pc + 3) L (v.toList ++ rest) S1 out S₉ h cc nL ret hh hfi p e R s m args below meth c H1 locs1 _ _ Q ls ad1 kA D A C htab Wd1 (by omega) (by omega) ?_
                  intro ad2 H2 locs2 ls2 pc2 n2 i2 st2 hag2 Wd2 hd2 hret
                  have := kr ad2 H2 locs2 ls2 pc2 n2 i2 st2 (fun b hb => (hag2 b (by omega)).trans (hag b hb)) Wd2 hd2 hret
                  rw [ec, ez, ← Nat.add_assoc, ← Nat.add_assoc] at this
                  exact this
                · next x px S1 hrun =>
                  split at h
                  · next hk =>
                    cases hq : ma_hd cc nL x pc hh with
                    | none => rw [hq] at h; cases h
                    | some c9 =>
                      rw [hq] at h
                      cases h
                      have cnt1 := ma_run_c _ _ _ _ _ _ _ _ _ _ hrun Wd.2.1 (ma_args_cL as 0 g1) ma_nil_cs
                      have hmet := ma_metx (ma_ok_all X l hlt f) hlt hmd₉ Wd.2.1 g1 r3 hrun D kA ad H.size
                      have hrn := ma_cl_thr (l := l) (e := e) (below := below) (cells := cells) (slots := slots) C Wd hd hcl hk.1 hmd₉ r1 r2 r4 hmet ⟨by omega, by omega⟩
                      have hA := C.2.2.2.2.2.2.2.2.2.2
                      have hl := Wd.1
                      refine ma_threw hrn Wd.2.2.2.2.2.1 Wd.2.2.2.2.2.2.1 hA (fun ad1 H1 locs1 q ce hag hP1 hD1 hS1 hce hcv hcl => ?_)
                      refine ma_hd_ok C.1 C.2.1 C.2.2.2.1 C.2.2.2.2.1 C.2.2.2.2.2.2.1 (nL := nL) ⟨hl.1, hl.2.1, fun q hq => by cases hq⟩ hce hcv hcl ?_ hh [] (htab hk.2) (fun z hz => by cases hz) hq
                      intro ls1 pc1 hl1 hd1
                      have hret : ma_ret ret .ireturn 1 [.inl c9] = some (some (.inl c9)) := by rw [hk.2]; simp [ma_ret, narrow]
                      exact kr ad1 H1 locs1 ls1 pc1 1 .ireturn [.inl c9] hag ⟨hl1, cnt1.1, ma_nil_cL, ma_cs_cons ma_cv_i ma_nil_cs, hP1, hD1, hS1, Wd.2.2.2.2.2.2.2.ad (fun b hb => hag b (Nat.lt_of_lt_of_le hb Wd.2.1.2))⟩ hd1 hret
                  · cases h
                · cases h
              · cases h
          · split at h
            · cases h
            · next k₉ as rest hcw =>
              obtain ⟨g1, g2⟩ := ma_cw_c Wd.2.2.2.1 hcw
              split at h
              · cases h
              · next cc₉ nL₉ ret₉ hh₉ hfi₉ =>
                split at h
                · next hroom =>
                  obtain ⟨r1, r2, r3, r4⟩ := hroom
                  split at h
                  · next v S1 hrun =>
                    have cnt1 := ma_frun_c _ _ _ _ _ _ _ _ _ _ hrun Wd.2.1 (ma_args_cL as 0 g1) ma_nil_cs
                    have cs1 : ma_cs (mN S1) (v.toList ++ rest) := ma_opt_cs cnt1.2.2.2.2 (g2.mono cnt1.2.1)
                    have cnt2 := ma_frun_c _ _ _ _ _ _ _ _ _ _ h cnt1.1 (Wd.2.2.1.mono cnt1.2.1) cs1
                    have ec : mC S₉ - mC S = (mC S1 - mC S) + (mC S₉ - mC S1) := by omega
                    have ez : mZ S₉ - mZ S = (mZ S1 - mZ S) + (mZ S₉ - mZ S1) := by omega
                    have hrn := ma_cw_run (l := l) (e := e) (below := below) (cells := cells) (slots := slots) C Wd hd hcw hfi₉ r1 r2 r4 (fun hk => ma_metw ih hk hfi₉ Wd.2.1 g1 r3 hrun D kA ad H.size) ⟨by omega, by omega⟩
                    have hA := C.2.2.2.2.2.2.2.2.2.2
                    have hl := Wd.1
                    refine ma_called hrn Wd.2.2.2.2.2.1 Wd.2.2.2.2.2.2.1 hA (fun ad1 H1 locs1 hag hP1 hD1 hS1 => ?_)
                    have hrest : ma_ts ad1 rest = ma_ts ad rest := ma_ts_ad g2 hag
                    have hn3 : n = 3 := by
                      unfold ma_cw at hcw
                      split at hcw
                      · rfl
                      · cases hcw
                    rw [← hrest, ma_ts_app]
                    have Wd1 : ma_Wd X s nL D kA A ad1 L (v.toList ++ rest) S1 H1 locs1 ls := ⟨by rw [ma_tl_ad Wd.2.2.1 hag]; exact hl, cnt1.1, Wd.2.2.1.mono cnt1.2.1, cs1, hP1, hD1, hS1, Wd.2.2.2.2.2.2.2.ad (fun b hb => hag b (Nat.lt_of_lt_of_le hb Wd.2.1.2))⟩
                    refine ih k d w (pc + 3) L (v.toList ++ rest) S1 out S₉ h cc nL ret hh hfi p e R s m args below meth c H1 locs1 _ _ Q ls ad1 kA D A C htab Wd1 (by omega) (by omega) ?_
                    intro ad2 H2 locs2 ls2 pc2 n2 i2 st2 hag2 Wd2 hd2 hret
                    have := kr ad2 H2 locs2 ls2 pc2 n2 i2 st2 (fun b hb => (hag2 b (by omega)).trans (hag b hb)) Wd2 hd2 hret
                    rw [ec, ez, ← Nat.add_assoc, ← Nat.add_assoc] at this
                    exact this
                  · cases h
                · cases h

