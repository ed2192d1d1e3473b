/-! THE SMALL MACHINE, part 12: the machine follows every run -/
section MA12
variable {p : Program} {l : Launch} {e : Env} {R : Room} {s : State} {m : MethodId} {args : Array Value} {below : List Frame} {meth : Method} {c : Code} {H : Heap} {locs : List Loc} {cells slots : Nat} {Q : State → Prop} {cc : ByteArray} {pc : Nat} {ls : Array Slot} {ad : Nat → Nat} {kA : Nat → ClassId} {D : va_G} {A : Nat → Prop}
theorem ma_cl_thr {X : Nat × (Nat → Int32)} {o nL d w n kd M o' nL' mc ms : Nat} {ini : Bool} {i : Instr} {L : ma_L} {st as rest : List ma_V} {S S' : ma_S} {y : MethodName} {cc' : ByteArray} {ret' : Option FieldType} {E : String}
    (C : ma_Cx X p R s m args meth c cc o ini nL d w D kA A) (Wd : ma_Wd X s nL D kA A ad L st S H locs ls) (hd : decode cc pc = .ok (i, n)) (h : ma_cl o i n st S = some ((kd, M), as, rest)) (hkd : kd ≤ 1) (hmd : ma_md M = some (o', y, cc', nL', ret')) (h1 : 1 ≤ d) (h2 : 19 + nL' ≤ w) (h3 : ma_sz rest ≤ 8)
    (hM : vx_Met l y (ma_ws y cc' nL' ret') (ma_rm (d - 1) (w - (19 + nL')) mc ms) (ma_Pc X D kA ad S as H.size) (fun _ _ _ _ => False) (ma_Qx D kA ad S S' E) mc ms (va_A (ma_wl kA ad S) H.size)) (hf : cells + mc ≤ R.cells ∧ slots + ms ≤ R.slots) :
    vx_Run p l e R s m args below meth c H locs cells slots mc ms (F0 m pc ls (ma_ts ad st)) (ma_ts ad rest) (fun _ _ _ => False) (ma_Qx D kA ad S S' E) (va_A (ma_wl kA ad S) H.size) := by
  have hpre := fun U hU hW => ma_pre (as := as) C Wd U hU hW
  obtain ⟨hx, hb, hml, hown, hts, hK, hN, hini, hR1, hR2, hA⟩ := C
  obtain ⟨hl, hh, hL, hc, hP, hD, hS, hX⟩ := Wd
  obtain ⟨m1, m2, m3, m4, m5, m6⟩ := ma_md_spec hmd
  have hws := ma_ws_ok hts m1
  have hfr : (ma_rm (d - 1) (w - (19 + nL')) mc ms).frames + 1 ≤ R.frames := by show d - 1 + 1 ≤ _; omega
  have hlo : 8 + (nL' + 11) + (ma_rm (d - 1) (w - (19 + nL')) mc ms).locals ≤ R.locals := by show 8 + (nL' + 11) + (w - (19 + nL')) ≤ _; omega
  have hcode : Cond.code y cc' nL' ret' ∈ ma_ws y cc' nL' ret' := List.mem_cons_self
  have hW8 : 2 * (F0 m pc ls (ma_ts ad st)).monitorRoom + ((ma_ts ad rest).map fun v => v.category).sum ≤ 8 := lv_room (by rw [ma_sz_ts]; exact h3)
  have recv : ∀ b, ma_is S b = true → 1 ≤ (mH S b).1 → (mH S b).1 ≤ 12 → ∃ cellB : Cell, H[ad b]? = some cellB ∧ cellB.vm.isStatics = false ∧ s.vm.findClass (ma_cn (mH S b).1) = some cellB.cls := by
    intro b hb1 t1 t2
    simp only [ma_is, Bool.and_eq_true, decide_eq_true_eq] at hb1
    obtain ⟨C, T, hcl, -, -, -⟩ := ma_clok_all t1 t2
    have hC := ma_cn_cl t1 t2 hcl
    subst hC
    exact va_recv (a := ad b) (fs := ma_fs ad S b (mH S b).1) hK hP hcl ((ma_wl_at hb1.1 hb1.2).trans (by rw [ma_E_obj (by omega)]))
  have rcv : ∀ b t, ma_rt S b = some t → ∃ cellB : Cell, H[ad b]? = some cellB ∧ cellB.vm.isStatics = false ∧ s.vm.findClass (ma_cn t) = some cellB.cls := by
    intro b t hrt
    unfold ma_rt at hrt
    split at hrt
    · next hlt =>
      cases hrt
      exact vk_recv hX.2.2.1 hlt hS
    · split at hrt
      · next hbb =>
        simp only [Bool.and_eq_true, decide_eq_true_eq] at hbb
        cases hrt
        exact recv b hbb.1.1 hbb.1.2 hbb.2
      · cases hrt
  have stk : ∀ (j b : Nat) (r : List ma_V), st.drop j = .inr (.inr (some b)) :: r → ma_ts ad st = (ma_ts ad (st.take j).reverse).reverse ++ Value.ref (ad b) :: ma_ts ad r ∧ (ma_ts ad (st.take j).reverse).length = j := by
    intro j b r hdr
    constructor
    · have h0 : ma_ts ad st = ma_ts ad (st.take j ++ st.drop j) := by rw [List.take_append_drop]
      rw [h0, hdr]
      unfold ma_ts
      rw [List.map_append, List.map_reverse, List.reverse_reverse]
      rfl
    · have hj : j < st.length := by
        rcases Nat.lt_or_ge j st.length with z | z
        · exact z
        · rw [List.drop_eq_nil_of_le z] at hdr; cases hdr
      unfold ma_ts
      rw [List.length_map, List.length_reverse, List.length_take]
      omega
  have lenOf : ∀ {nn : Nat}, (parseMethodDescriptor y.desc).map (fun d => d.parameters.length) = some nn → ∀ sig, parseMethodDescriptor y.desc = some sig → nn = sig.parameters.length := by
    intro nn hp sig hs
    rw [hs] at hp
    exact (Option.some.inj hp).symm
  unfold ma_cl at h
  split at h
  · next x =>
    split at h
    · cases h
    · next q0 hq0 =>
      split at h
      · next b r hdr =>
        split at h
        · cases h
        · next t hrt =>
          split at h
          · next q hq =>
            split at h
            · next hn =>
              cases h
              obtain ⟨w1, w2, w3, w4, w5, w6⟩ := ma_fd_spec hq
              have w4 : q.1.2.2 = t := w4.resolve_left (by simp)
              obtain ⟨s1, s2⟩ := stk _ _ _ hdr
              have rc := rcv b t hrt
              have hp : PreV s H (ma_cn t) (ad b) (ma_Pc X D kA ad S (.inr (.inr (some b)) :: (st.take q0.2.1.2.2).reverse) H.size) (ma_ts ad (st.take q0.2.1.2.2).reverse) := ⟨ma_Pc_blind, rc, hpre⟩
              unfold ma_clc at w1
              rw [hmd] at w1
              simp only [w2, w3, w4, Bool.and_eq_true] at w1
              have hlen := lenOf (of_decide_eq_true w1.1)
              rw [hn] at hlen
              have w1 := w1.2
              split at w1
              all_goals first | omega | (rename_i hk9; omega) | skip
              · simp only [Bool.and_eq_true] at w1
                exact vx_runV ⟨hx, hb, hml, hown, hts⟩ hM ⟨⟨rfl, rfl, hfr, hlo, hws, hcode, hts _ m1, hts _ m2, ⟨m5, m6⟩, hlen, hts _ (ma_w_in w1.1.1)⟩, hts _ (ma_w_in w1.1.2), hts _ (ma_w_in w1.2)⟩ hp rfl s2 hl.1 s1 hW8 hd hf
              · simp only [Bool.and_eq_true] at w1
                exact vx_runV ⟨hx, hb, hml, hown, hts⟩ hM ⟨⟨rfl, rfl, hfr, hlo, hws, hcode, hts _ m1, hts _ m2, ⟨m5, m6⟩, hlen, hts _ (ma_w_in w1.1.1.1)⟩, hts _ (ma_w_in w1.1.1.2), hts _ (ma_TB_p w1.1.2 w1.2)⟩ hp rfl s2 hl.1 s1 hW8 hd hf
              all_goals cases w1
            · cases h
          · cases h
      · cases h
  · next x =>
    split at h
    · cases h
    · next q hq =>
      split at h
      · next hk =>
        cases h
        have := (ma_fd_spec hq).2.2.2.2.1
        omega
      · cases h
  · next x =>
    split at h
    · cases h
    · next q hq =>
      split at h
      · split at h
        · cases h
          have := (ma_fd_spec hq).2.2.2.2.1
          omega
        · cases h
      · cases h
  · cases h
end MA12
theorem ma_ts_app (ad : Nat → Nat) (v : Option ma_V) (r : List ma_V) : (v.map (ma_tv ad)).toList ++ ma_ts ad r = ma_ts ad (v.toList ++ r) := by
  cases v <;> rfl
theorem ma_ok_all (X : Nat × (Nat → Int32)) (l : Launch) (hlt : l.stackTraces = false) : ∀ f, ma_OK X l f := by
  intro f
  induction f with
  | zero => intro d w M pc L st S out S' h; cases h
  | succ f ih =>
    intro d w M pc L st S out S' h o y cc nL ret hmd p e R s m args below meth c H locs cells slots Q ls ad kA D A C Wd hr1 hr2 kr kt
    have hcnt := ma_run_c _ _ _ _ _ _ _ _ _ _ h Wd.2.1 Wd.2.2.1 Wd.2.2.2.1
    unfold ma_run at h
    rw [hmd] at h
    simp only at h
    split at h
    · cases h
    · next i n hd =>
      split at h
      · next pc1 L1 st1 S1 h1 =>
        have cl := ma_one_c Wd.2.1 Wd.2.2.1 Wd.2.2.2.1 h1
        have cnt1 := ma_run_c _ _ _ _ _ _ _ _ _ _ h cl.1 cl.2.1 cl.2.2.1
        have ec : mC S' - mC S = (mC S1 - mC S) + (mC S' - mC S1) := by omega
        have ez : mZ S' - mZ S = (mZ S1 - mZ S) + (mZ S' - mZ S1) := by omega
        refine ma_one_ok C Wd hd h1 (by omega) (by omega) (fun ad1 H1 locs1 ls1 hag Wd1 => ?_)
        refine ih d w M pc1 L1 st1 S1 out S' h o y cc nL ret hmd p e R s m args below meth c H1 locs1 _ _ Q ls1 ad1 kA D A C Wd1 (by omega) (by omega) ?_ ?_
        · intro v hv ad2 H2 locs2 ls2 pc2 n2 i2 st2 hag2 Wd2 hd2 hret
          have := kr v hv ad2 H2 locs2 ls2 pc2 n2 i2 st2 (fun b hb => (hag2 b (by omega)).trans (hag b hb)) Wd2 hd2 hret
          rw [ec, ez, ← Nat.add_assoc, ← Nat.add_assoc] at this
          exact this
        · intro x px hx
          obtain ⟨k1, k2⟩ := kt x px hx
          refine ⟨fun ad2 H2 locs2 ls2 st2 S2 hag2 Wd2 hb2 hm1 hm2 hth h6 hw => ?_, fun ad2 H2 locs2 ls2 r2 q ce hag2 Wd2 hce hcv hcl => ?_⟩
          · have := k1 ad2 H2 locs2 ls2 st2 S2 (fun b hb => (hag2 b (by omega)).trans (hag b hb)) Wd2 hb2 (by omega) (by omega) hth h6 hw
            rw [show mC S2 - mC S = (mC S1 - mC S) + (mC S2 - mC S1) by omega, show mZ S2 - mZ S = (mZ S1 - mZ S) + (mZ S2 - mZ S1) by omega, ← Nat.add_assoc, ← Nat.add_assoc] at this
            exact this
          · have := k2 ad2 H2 locs2 ls2 r2 q ce (fun b hb => (hag2 b (by omega)).trans (hag b hb)) Wd2 hce hcv hcl
            rw [ec, ez, ← Nat.add_assoc, ← Nat.add_assoc] at this
            exact this
      · split at h
        · next v hv =>
          cases h
          have hWd := Wd
          obtain ⟨hl, hh, hL, hc, hP, hD, hS, hX⟩ := Wd
          have := kr v rfl ad H locs ls pc n i st (fun _ _ => rfl) ⟨⟨hl.1, hl.2.1, fun q hq => by cases hq⟩, hh, ma_nil_cL, hc, hP, hD, hS, hX⟩ hd hv
          simp only [Nat.sub_self, Nat.add_zero] at this
          exact this
        · split at h
          · next x hth =>
            split at h
            · next hroom =>
              cases h
              obtain ⟨hl, hh, hL, hc, hP, hD, hS, hX⟩ := Wd
              have := (kt x pc rfl).1 ad H locs ls st S (fun _ _ => rfl) ⟨⟨hl.1, hl.2.1, fun q hq => by cases hq⟩, hh, ma_nil_cL, hc, hP, hD, hS, hX⟩ rfl (Nat.le_refl _) (Nat.le_refl _) hth hroom.1 hroom.2
              simp only [Nat.sub_self, Nat.add_zero] at this
              exact this
            · cases h
          · split at h
            · cases h
            · next k M' as rest hcl =>
              obtain ⟨g1, g2, g3⟩ := ma_cl_c Wd.2.2.2.1 hcl
              split at h
              · cases h
              · next o' y' cc' nL' ret' hmd' =>
                split at h
                · next hroom =>
                  obtain ⟨r1, r2, r3, r4⟩ := hroom
                  split at h
                  · next v S1 hrun =>
                    have cnt1 := ma_run_c _ _ _ _ _ _ _ _ _ _ hrun Wd.2.1 (ma_args_cL as 0 g1) ma_nil_cs
                    have cs1 : ma_cs (mN S1) (v.toList ++ rest) := ma_opt_cs (fun u hu => cnt1.2.2.2.2 u (by rw [hu])) (g2.mono cnt1.2.1)
                    have cnt2 := ma_run_c _ _ _ _ _ _ _ _ _ _ h cnt1.1 (Wd.2.2.1.mono cnt1.2.1) cs1
                    have ec : mC S' - mC S = (mC S1 - mC S) + (mC S' - mC S1) := by omega
                    have ez : mZ S' - mZ S = (mZ S1 - mZ S) + (mZ S' - mZ S1) := by omega
                    have hmet := ma_met ih hmd' Wd.2.1 g1 r3 hrun D kA ad H.size
                    have hrn := ma_cl_run (l := l) (e := e) (below := below) (cells := cells) (slots := slots) C Wd hd hcl hmd' r1 r2 r4 hmet ⟨by omega, by omega⟩
                    have hA := C.2.2.2.2.2.2.2.2.2.2
                    have hl := Wd.1
                    refine ma_called hrn Wd.2.2.2.2.2.1 Wd.2.2.2.2.2.2.1 hA (fun ad1 H1 locs1 hag hP1 hD1 hS1 => ?_)
                    have hrest : ma_ts ad1 rest = ma_ts ad rest := ma_ts_ad g2 hag
                    rw [← hrest, ma_ts_app]
                    have Wd1 : ma_Wd X s nL D kA A ad1 L (v.toList ++ rest) S1 H1 locs1 ls := ⟨by rw [ma_tl_ad Wd.2.2.1 hag]; exact hl, cnt1.1, Wd.2.2.1.mono cnt1.2.1, cs1, hP1, hD1, hS1, Wd.2.2.2.2.2.2.2.ad (fun b hb => hag b (Nat.lt_of_lt_of_le hb Wd.2.1.2))⟩
                    refine ih d w M (pc + 3) L (v.toList ++ rest) S1 out S' h o y cc nL ret hmd p e R s m args below meth c H1 locs1 _ _ Q ls ad1 kA D A C Wd1 (by omega) (by omega) ?_ ?_
                    · intro v2 hv ad2 H2 locs2 ls2 pc2 n2 i2 st2 hag2 Wd2 hd2 hret
                      have := kr v2 hv ad2 H2 locs2 ls2 pc2 n2 i2 st2 (fun b hb => (hag2 b (by omega)).trans (hag b hb)) Wd2 hd2 hret
                      rw [ec, ez, ← Nat.add_assoc, ← Nat.add_assoc] at this
                      exact this
                    · intro x px hx
                      obtain ⟨k1, k2⟩ := kt x px hx
                      refine ⟨fun ad2 H2 locs2 ls2 st2 S2 hag2 Wd2 hb2 hm1 hm2 hth h6 hw => ?_, fun ad2 H2 locs2 ls2 r2 q ce hag2 Wd2 hce hcv hcl => ?_⟩
                      · have := k1 ad2 H2 locs2 ls2 st2 S2 (fun b hb => (hag2 b (by omega)).trans (hag b hb)) Wd2 hb2 (by omega) (by omega) hth h6 hw
                        rw [show mC S2 - mC S = (mC S1 - mC S) + (mC S2 - mC S1) by omega, show mZ S2 - mZ S = (mZ S1 - mZ S) + (mZ S2 - mZ S1) by omega, ← Nat.add_assoc, ← Nat.add_assoc] at this
                        exact this
                      · have := k2 ad2 H2 locs2 ls2 r2 q ce (fun b hb => (hag2 b (by omega)).trans (hag b hb)) Wd2 hce hcv hcl
                        rw [ec, ez, ← Nat.add_assoc, ← Nat.add_assoc] at this
                        exact this
                  · next x px S1 hrun =>
                    split at h
                    · next hk =>
                      cases h
                      have cnt1 := ma_run_c _ _ _ _ _ _ _ _ _ _ hrun Wd.2.1 (ma_args_cL as 0 g1) ma_nil_cs
                      have hmet := ma_metx ih hlt hmd' Wd.2.1 g1 r3 hrun D kA ad H.size
                      have hrn := ma_cl_thr (l := l) (e := e) (below := below) (cells := cells) (slots := slots) C Wd hd hcl hk hmd' r1 r2 r4 hmet ⟨by omega, by omega⟩
                      have hA := C.2.2.2.2.2.2.2.2.2.2
                      have hl := Wd.1
                      refine ma_threw hrn Wd.2.2.2.2.2.1 Wd.2.2.2.2.2.2.1 hA (fun ad1 H1 locs1 q ce hag hP1 hD1 hS1 hce hcv hcl => ?_)
                      have hrest : ma_ts ad1 rest = ma_ts ad rest := ma_ts_ad g2 hag
                      rw [← hrest]
                      exact (kt x pc rfl).2 ad1 H1 locs1 ls rest q ce hag ⟨⟨hl.1, hl.2.1, fun q hq => by cases hq⟩, cnt1.1, ma_nil_cL, g2.mono cnt1.2.1, hP1, hD1, hS1, Wd.2.2.2.2.2.2.2.ad (fun b hb => hag b (Nat.lt_of_lt_of_le hb Wd.2.1.2))⟩ hce hcv hcl
                    · cases h
                  · cases h
                · cases h
