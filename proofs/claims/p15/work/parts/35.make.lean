/-! THE SMALL MACHINE, part 4: references stay inside; new cells -/
theorem ma_get_cv {n : Nat} {L : ma_L} {i : Nat} {v : ma_V} (hL : ma_cL n L) (h : ma_get L i = some v) : ma_cv n v := by
  unfold ma_get at h
  cases hf : L.find? (fun q => q.1 == i) with
  | none => rw [hf] at h; cases h
  | some q =>
    rw [hf] at h
    have h2 : q.2 = v := Option.some.inj h
    rw [← h2]
    exact hL q (List.mem_of_find?_eq_some hf)
theorem ma_push_cv {N : Nat} {i : Instr} {n : Nat} {L : ma_L} {v : ma_V} (hL : ma_cL N L) (h : ma_push i n L = some v) : ma_cv N v := by
  unfold ma_push at h
  split at h
  · cases h; exact ma_cv_i
  · cases h; exact ma_cv_i
  · cases h; exact ma_cv_i
  · cases h; exact ma_cv_l
  · cases h; exact ma_cv_n
  all_goals first | (cases h; done) | (split at h; (next hg => cases h; exact ma_get_cv hL hg); (cases h; done))
theorem ma_cs_tl {n : Nat} {v : ma_V} {r : List ma_V} (h : ma_cs n (v :: r)) : ma_cs n r := fun w hw => h w (List.mem_cons_of_mem _ hw)
theorem ma_cs_hd {n : Nat} {v : ma_V} {r : List ma_V} (h : ma_cs n (v :: r)) : ma_cv n v := h v List.mem_cons_self
theorem ma_cs_cons {n : Nat} {v : ma_V} {r : List ma_V} (h1 : ma_cv n v) (h2 : ma_cs n r) : ma_cs n (v :: r) := fun w hw => (List.mem_cons.mp hw).elim (fun e => e ▸ h1) (h2 w)
theorem ma_stk_cs {N : Nat} {i : Instr} {n : Nat} {st st' : List ma_V} (hc : ma_cs N st) (h : ma_stk i n st = some st') : ma_cs N st' := by
  unfold ma_stk at h
  split at h
  all_goals first
    | (cases h; done)
    | (cases h; exact ma_cs_cons ma_cv_i (ma_cs_tl (ma_cs_tl hc)))
    | (cases h; exact ma_cs_cons ma_cv_l (ma_cs_tl (ma_cs_tl hc)))
    | (cases h; exact ma_cs_cons ma_cv_i (ma_cs_tl hc))
    | (cases h; exact ma_cs_cons ma_cv_l (ma_cs_tl hc))
    | (split at h; (focus cases h); (focus (cases h; exact ma_cs_cons ma_cv_i (ma_cs_tl (ma_cs_tl hc)))))
    | (split at h; (focus cases h); (focus (cases h; exact ma_cs_cons (ma_cs_hd hc) hc)))
    | (split at h; (focus cases h); (focus (cases h; exact ma_cs_tl hc)))
    | (split at h; (focus cases h); (focus (cases h; exact ma_cs_cons (ma_cs_hd hc) (ma_cs_cons (ma_cs_hd (ma_cs_tl hc)) hc))))
theorem ma_st_cL {n : Nat} {L : ma_L} {i : Nat} {v : ma_V} (hL : ma_cL n L) (hv : ma_cv n v) : ma_cL n (ma_st L i v) := by
  intro q hq
  rcases List.mem_cons.mp hq with e | e
  · rw [e]; exact hv
  · exact hL q (List.mem_filter.mp e).1
theorem ma_sto_c {N : Nat} {i : Instr} {n nL : Nat} {L L' : ma_L} {st st' : List ma_V} (hL : ma_cL N L) (hc : ma_cs N st) (h : ma_sto i n nL L st = some (L', st')) : ma_cL N L' ∧ ma_cs N st' := by
  unfold ma_sto at h
  split at h
  · split at h
    · cases h; exact ⟨ma_st_cL hL ma_cv_i, ma_cs_tl hc⟩
    · cases h
  · split at h
    · cases h; exact ⟨ma_st_cL hL ma_cv_i, ma_cs_tl hc⟩
    · cases h
  · split at h
    · cases h; exact ⟨ma_st_cL hL (ma_cs_hd hc), ma_cs_tl hc⟩
    · cases h
  · split at h
    · cases h; exact ⟨ma_st_cL hL (ma_cs_hd hc), ma_cs_tl hc⟩
    · cases h
  · split at h
    · split at h
      · cases h; exact ⟨ma_st_cL hL ma_cv_i, hc⟩
      · cases h
    · cases h
  · cases h
theorem ma_jmp_cs {N : Nat} {i : Instr} {n pc t : Nat} {st st' : List ma_V} (hc : ma_cs N st) (h : ma_jmp i n pc st = some (t, st')) : ma_cs N st' := by
  have key : ∀ {o : Option Nat} {f : Nat → Nat} {r : List ma_V}, o.map (fun t => (f t, r)) = some (t, st') → r = st' := by
    intro o f r hh
    cases o with
    | none => cases hh
    | some t' => cases hh; rfl
  unfold ma_jmp at h
  split at h
  · cases key (f := fun t => t) h; exact hc
  · cases key h; exact ma_cs_tl hc
  · cases key h; exact ma_cs_tl (ma_cs_tl hc)
  · split at h
    · cases key (f := fun t => t) h; exact ma_cs_tl hc
    · cases h; exact ma_cs_tl hc
  · split at h
    · cases h; exact ma_cs_tl hc
    · cases key (f := fun t => t) h; exact ma_cs_tl hc
  · split at h
    · cases key (f := fun t => t) h; exact ma_cs_tl hc
    · split at h
      · cases key (f := fun t => t) h; exact ma_cs_tl hc
      · cases h
  · split at h
    · cases key (f := fun t => t) h; exact ma_cs_tl hc
    · cases h
  · cases h
/-- behind an instruction on cells that are there: as many cells, references inside -/
theorem ma_hp_c {o n : Nat} {ini : Bool} {i : Instr} {st st' : List ma_V} {S S' : ma_S} (hh : ma_ch S) (hc : ma_cs (mN S) st) (h : ma_hp o ini i n st S = some (st', S')) : ma_ch S' ∧ ma_cs (mN S') st' ∧ mN S' = mN S ∧ mC S' = mC S ∧ mZ S' = mZ S := by
  have put : ∀ (c k : Nat) (v : ma_V) (r : List ma_V), ma_cv (mN S) v → ma_cs (mN S) r → ma_ch (ma_put S c k v) ∧ ma_cs (mN (ma_put S c k v)) r ∧ mN (ma_put S c k v) = mN S ∧ mC (ma_put S c k v) = mC S ∧ mZ (ma_put S c k v) = mZ S := by
    intro c k v r hv hr
    obtain ⟨e1, e2, e3, e4⟩ := ma_put_n S c k v
    exact ⟨ma_put_ch hh hv, by rw [e1]; exact hr, e1, e2, e3⟩
  unfold ma_hp at h
  split at h
  · split at h
    · next x cx r hcc =>
      cases hf : ma_fld o x (mH S cx).1 with
      | none => rw [hf] at h; cases h
      | some kf => rw [hf] at h; cases h; exact ⟨hh, ma_cs_cons (ma_rd_cv hh _ _ _) (ma_cs_tl hc), rfl, rfl, rfl⟩
    · cases h
  · split at h
    · split at h
      · split at h
        · cases h; exact put _ _ _ _ (ma_cs_hd hc) (ma_cs_tl (ma_cs_tl hc))
        · cases h
      · cases h
    · cases h
  · split at h
    · cases h; exact ⟨hh, ma_cs_cons ma_cv_i (ma_cs_tl (ma_cs_tl hc)), rfl, rfl, rfl⟩
    · cases h
  · split at h
    · cases h; exact ⟨hh, ma_cs_cons ma_cv_i (ma_cs_tl (ma_cs_tl hc)), rfl, rfl, rfl⟩
    · cases h
  · split at h
    · cases h; exact ⟨hh, ma_cs_cons ma_cv_l (ma_cs_tl (ma_cs_tl hc)), rfl, rfl, rfl⟩
    · cases h
  · split at h
    · cases h
      exact ⟨hh, ma_cs_cons (fun b hb => hh.1 _ _ _ (Sum.inr.inj (Sum.inr.inj hb))) (ma_cs_tl (ma_cs_tl hc)), rfl, rfl, rfl⟩
    · cases h
  · split at h
    · cases h; exact put _ _ _ _ ma_cv_i (ma_cs_tl (ma_cs_tl (ma_cs_tl hc)))
    · cases h
  · split at h
    · split at h
      · cases h; exact put _ _ _ _ ma_cv_i (ma_cs_tl (ma_cs_tl (ma_cs_tl hc)))
      · split at h
        · cases h; exact put _ _ _ _ ma_cv_i (ma_cs_tl (ma_cs_tl (ma_cs_tl hc)))
        · cases h
    · cases h
  · split at h
    · cases h; exact put _ _ _ _ ma_cv_l (ma_cs_tl (ma_cs_tl (ma_cs_tl hc)))
    · cases h
  · split at h
    · split at h
      · cases h; exact put _ _ _ _ ma_cv_n (ma_cs_tl (ma_cs_tl (ma_cs_tl hc)))
      · split at h
        · cases h; exact put _ _ _ _ (ma_cs_hd hc) (ma_cs_tl (ma_cs_tl (ma_cs_tl hc)))
        · cases h
    · cases h
  · split at h
    · cases h; exact ⟨hh, ma_cs_cons ma_cv_i (ma_cs_tl hc), rfl, rfl, rfl⟩
    · cases h
  · cases h

/-! new cells -/
def ma_nwh : List ((Nat × Nat × Nat) × Nat × Nat × Nat) := [((11, 23, 7), 38, 39, 2), ((11, 30, 10), 105, 106, 3), ((11, 41, 8), 136, 137, 5), ((11, 46, 5), 179, 180, 6), ((11, 49, 3), 194, 195, 7), ((11, 52, 1), 212, 213, 8), ((11, 55, 2), 245, 246, 9), ((11, 58, 6), 267, 268, 10), ((11, 61, 4), 293, 294, 11), ((11, 128, 9), 1011, 1012, 26), ((2, 9, 9), 251, 1012, 26), ((6, 9, 10), 273, 106, 3), ((7, 9, 9), 44, 1012, 26), ((14, 8, 11), 30, 31, 1), ((14, 86, 12), 1507, 1508, 12)]
def ma_nwc (q : (Nat × Nat × Nat) × Nat × Nat × Nat) : Bool := match vwCl[q.1.2.2]? with
  | some (C, _, N) => decide (1 ≤ q.1.2.2) && decide (q.1.2.2 ≤ 12) && decide (N = ma_fn q.1.2.2) && (decide (tables_1[q.2.1]? = some (.classLink (ma_cn q.1.1) q.1.2.1 C)) && goodWord (.classLink (ma_cn q.1.1) q.1.2.1 C)) && (decide (tables_1[q.2.2.1]? = some (.instantiable C N)) && goodWord (.instantiable C N)) && (decide (tables_1[q.2.2.2]? = some (.initialized C)) && goodWord (.initialized C))
  | none => false
theorem ma_nwh_ok : ∀ q ∈ ma_nwh, ma_nwc q = true := List.all_eq_true.mp (by decide +kernel)
def ma_nwt (o i : Nat) : Option Nat := (ma_nwh.find? (fun q => q.1.1 == o && q.1.2.1 == i)).map (fun q => q.1.2.2)
theorem ma_nwt_spec {o i t : Nat} (h : ma_nwt o i = some t) : 1 ≤ t ∧ t ≤ 12 ∧ ∃ (C : String) (T : u_T), vwCl[t]? = some (C, T, ma_fn t) ∧ Cond.classLink (ma_cn o) i C ∈ ma_TB ∧ Cond.instantiable C (ma_fn t) ∈ ma_TB ∧ Cond.initialized C ∈ ma_TB := by
  unfold ma_nwt at h
  cases hf : ma_nwh.find? (fun q => q.1.1 == o && q.1.2.1 == i) with
  | none => rw [hf] at h; cases h
  | some q =>
    rw [hf] at h
    have hk : q.1.2.2 = t := Option.some.inj h
    have h1 := List.find?_some hf
    simp only [Bool.and_eq_true, beq_iff_eq] at h1
    have h2 := ma_nwh_ok q (List.mem_of_find?_eq_some hf)
    unfold ma_nwc at h2
    rw [hk, h1.1, h1.2] at h2
    split at h2
    · next C T N hc =>
      simp only [Bool.and_eq_true] at h2
      obtain ⟨⟨⟨⟨⟨a1, a2⟩, a3⟩, a4, a5⟩, a6, a7⟩, a8, a9⟩ := h2
      have a3 := of_decide_eq_true a3
      subst a3
      exact ⟨of_decide_eq_true a1, of_decide_eq_true a2, C, T, hc, ma_TB_in a4 a5, ma_TB_in a6 a7, ma_TB_in a8 a9⟩
    · cases h2
/-- rows of references: the class of what they hold -/
def ma_anh : List ((Nat × Nat × Nat) × Nat) := [((11, 39, 25), 134), ((11, 128, 24), 1011), ((2, 9, 24), 251), ((7, 9, 24), 44)]
def ma_anC (t : Nat) : String := if t = 24 then RX9 else RX1
def ma_anc (q : (Nat × Nat × Nat) × Nat) : Bool := (decide (q.1.2.2 = 24) || decide (q.1.2.2 = 25)) && decide (tables_1[q.2]? = some (.classLink (ma_cn q.1.1) q.1.2.1 (ma_anC q.1.2.2))) && goodWord (.classLink (ma_cn q.1.1) q.1.2.1 (ma_anC q.1.2.2))
theorem ma_anh_ok : ∀ q ∈ ma_anh, ma_anc q = true := List.all_eq_true.mp (by decide +kernel)
def ma_ant (o i : Nat) : Option Nat := (ma_anh.find? (fun q => q.1.1 == o && q.1.2.1 == i)).map (fun q => q.1.2.2)
theorem ma_ant_spec {o i t : Nat} (h : ma_ant o i = some t) : (t = 24 ∨ t = 25) ∧ Cond.classLink (ma_cn o) i (ma_anC t) ∈ ma_TB := by
  unfold ma_ant at h
  cases hf : ma_anh.find? (fun q => q.1.1 == o && q.1.2.1 == i) with
  | none => rw [hf] at h; cases h
  | some q =>
    rw [hf] at h
    have hk : q.1.2.2 = t := Option.some.inj h
    have h1 := List.find?_some hf
    simp only [Bool.and_eq_true, beq_iff_eq] at h1
    have h2 := ma_anh_ok q (List.mem_of_find?_eq_some hf)
    unfold ma_anc at h2
    rw [hk, h1.1, h1.2] at h2
    simp only [Bool.and_eq_true, Bool.or_eq_true] at h2
    exact ⟨h2.1.1.imp of_decide_eq_true of_decide_eq_true, ma_TB_in h2.1.2 h2.2⟩
def ma_at (a : ArrayType) : Option Nat := match a with
  | .int => some 20
  | .byte => some 21
  | .boolean => some 22
  | .long => some 23
  | _ => none
def ma_al (o : Nat) (i : Instr) (n : Nat) (st : List ma_V) (S : ma_S) : Option (List ma_V × ma_S) := match i, n, st with
  | .new x, 3, r => (ma_nwt o x).map (fun t => (.inr (.inr (some (mN S))) :: r, ma_new S t (ma_fn t)))
  | .newarray a, 2, .inl k :: r => if decide (0 ≤ k) && decide (k.toNatClampNeg ≤ 1000000) then (ma_at a).map (fun t => (.inr (.inr (some (mN S))) :: r, ma_new S t k.toNatClampNeg)) else none
  | .anewarray x, 3, .inl k :: r => if decide (0 ≤ k) && decide (k.toNatClampNeg ≤ 1000000) then (ma_ant o x).map (fun t => (.inr (.inr (some (mN S))) :: r, ma_new S t k.toNatClampNeg)) else none
  | _, _, _ => none
/-- no type of the world's fields is one with a point -/
def ma_nf (ty : FieldType) : Bool := match ty with
  | .float => false
  | .double => false
  | _ => true
theorem ma_nf_all : (List.range 13).all (fun t => (List.range (ma_fn t)).all (fun k => ma_nf (ma_ft t k))) = true := by decide +kernel
theorem ma_new_rd (S : ma_S) (t n k : Nat) (ty : FieldType) (ad : Nat → Nat) (h : ma_nf ty = true) : ma_tv ad (ma_rd (ma_new S t n) (mN S) k ty) = defaultValue ty := by
  cases ty <;> first | (cases h; done) | (simp [ma_rd, ma_new, ma_uc, mI, mL, mR, mN, ma_tv, va_rf, defaultValue]; done)
theorem ma_new_fs (S : ma_S) {t n : Nat} (ht : t < 13) (ad ad' : Nat → Nat) : ma_fs ad' (ma_new S t n) (mN S) t = ma_fs ad (ma_new S t n) (mN S) t ∧ ∀ j, j < ma_fn t → defaultValue (ma_ft t j) = vp_V (ma_fs ad (ma_new S t n) (mN S) t) j := by
  have hall := List.all_eq_true.mp ma_nf_all t (List.mem_range.mpr ht)
  have hnf : ∀ k, k < ma_fn t → ma_nf (ma_ft t k) = true := fun k hk => List.all_eq_true.mp hall k (List.mem_range.mpr hk)
  refine ⟨?_, fun j hj => ?_⟩
  · unfold ma_fs
    apply List.map_congr_left
    intro k hk
    rw [ma_new_rd S t n k _ ad' (hnf k (List.mem_range.mp hk)), ma_new_rd S t n k _ ad (hnf k (List.mem_range.mp hk))]
  · unfold vp_V ma_fs
    rw [List.getD_eq_getElem?_getD, List.getElem?_map, List.getElem?_range hj]
    show _ = ma_tv ad (ma_rd (ma_new S t n) (mN S) j (ma_ft t j))
    rw [ma_new_rd S t n j _ ad (hnf j hj)]
theorem ma_new_H (S : ma_S) (t n : Nat) : mH (ma_new S t n) (mN S) = (t, n) := if_pos rfl
section MA4
variable {p : Program} {l : Launch} {e : Env} {R : Room} {s : State} {m : MethodId} {args : Array Value} {below : List Frame} {meth : Method} {c : Code} {H H0 : Heap} {locs : List Loc} {cells slots : Nat} {Q : State → Prop} {cc : ByteArray} {pc : Nat} {ls : Array Slot} {ad : Nat → Nat} {kA : Nat → ClassId} {D : va_G} {A : Nat → Prop}
theorem ma_al_ok (hx : p.tables.exec = Jvm.exec) (hb : c.code = cc) {o n : Nat} {i : Instr} {st st' : List ma_V} {S S' : ma_S} (hown : s.vm.findClass (ma_cn o) = some m.cls) (hts : ∀ w ∈ ma_TB, w.before args s = true) (hK : va_K D vwCl (ma_tys kA) s) (hO : va_AO RX9 s ∧ va_AO RX1 s) (hA : ∀ q, H0.size ≤ q → A q)
    (hh : ma_ch S) (hc : ma_cs (mN S) st) (hP : va_P D vwCl (ma_wl kA ad S) H) (hD : va_D A (ma_wl kA ad S)) (hS : va_S A H0 H locs) (hd : decode cc pc = .ok (i, n)) (h : ma_al o i n st S = some (st', S')) (hr1 : cells + (mC S' - mC S) ≤ R.cells) (hr2 : slots + (mZ S' - mZ S) ≤ R.slots)
    (k : ∀ (q : Nat) (H1 : Heap), va_P D vwCl (ma_wl kA (va_up ad (mN S) q) S') H1 → va_D A (ma_wl kA (va_up ad (mN S) q) S') → va_S A H0 H1 locs → W p l e R s m args below meth c H1 locs (cells + (mC S' - mC S)) (slots + (mZ S' - mZ S)) Q (F0 m (pc + n) ls (ma_ts (va_up ad (mN S) q) st'))) :
    W p l e R s m args below meth c H locs cells slots Q (F0 m pc ls (ma_ts ad st)) ∧ ma_ch S' ∧ ma_cs (mN S') st' ∧ mN S' = mN S + 1 ∧ mC S' = mC S + 1 ∧ mZ S ≤ mZ S' := by
  have fin : ∀ (t N : Nat) (r : List ma_V), ma_cs (mN S) r → ma_ch (ma_new S t N) ∧ ma_cs (mN (ma_new S t N)) (.inr (.inr (some (mN S))) :: r) ∧ mN (ma_new S t N) = mN S + 1 ∧ mC (ma_new S t N) = mC S + 1 ∧ mZ S ≤ mZ (ma_new S t N) := by
    intro t N r hr
    exact ⟨ma_new_ch hh t N, ma_cs_cons (fun b hb => by cases hb; exact Nat.lt_succ_self _) (fun v hv => (hr v hv).mono (Nat.le_succ _)), rfl, rfl, Nat.le_add_right _ _⟩
  have e1 : ∀ t N : Nat, mC (ma_new S t N) - mC S = 1 := fun t N => by show S.2.1 + 1 - S.2.1 = 1; omega
  have e2 : ∀ t N : Nat, mZ (ma_new S t N) - mZ S = N := fun t N => by show S.2.2.1 + N - S.2.2.1 = N; omega
  have tsr : ∀ (q : Nat) (r : List ma_V), ma_cs (mN S) r → ma_ts (va_up ad (mN S) q) (.inr (.inr (some (mN S))) :: r) = .ref q :: ma_ts ad r := by
    intro q r hr
    show Value.ref (va_up ad (mN S) q (mN S)) :: ma_ts (va_up ad (mN S) q) r = _
    rw [va_up_self, ma_ts_ad hr (fun b hb => va_up_ne ad q (by omega))]
  unfold ma_al at h
  split at h
  · next r x =>
    cases ht : ma_nwt o x with
    | none => rw [ht] at h; cases h
    | some t =>
      rw [ht] at h
      cases h
      obtain ⟨t1, t2, C, T, hcl, w1, w2, w3⟩ := ma_nwt_spec ht
      obtain ⟨C9, T9, hcl9, hw, hty, hnm⟩ := ma_clok_all t1 t2
      cases hcl.symm.trans hcl9
      rw [e1] at hr1
      rw [e2] at hr2
      simp only [e1, e2] at k
      refine ⟨?_, fin t (ma_fn t) st hc⟩
      obtain ⟨f1, f2⟩ := ma_new_fs S (t := t) (n := ma_fn t) (by omega) ad ad
      refine va_new (c0 := c) (ci := t) (fs := ma_fs ad (ma_new S t (ma_fn t)) (mN S) t) hx hb hts hw (ma_ft t) hty hown (hts _ w1) (hts _ w2) (hts _ w3) hK hP hD hS hA hcl f2 hr1 hr2 hd (fun q H1 a1 a2 a3 => ?_)
      have hE : ma_wl kA ad S ++ [(q, .inr (t, ma_fs ad (ma_new S t (ma_fn t)) (mN S) t))] = ma_wl kA (va_up ad (mN S) q) (ma_new S t (ma_fn t)) := by
        rw [ma_wl_new hh, ma_E_obj (by rw [ma_new_H]; show t < 20; omega), ma_new_H, (ma_new_fs S (t := t) (n := ma_fn t) (by omega) ad (va_up ad (mN S) q)).1]
      have := k q H1 (hE ▸ a1) (hE ▸ a2) a3
      rw [tsr q st hc] at this
      exact this
  · next a kx r =>
    split at h
    · next hk =>
      simp only [Bool.and_eq_true, decide_eq_true_eq] at hk
      have hneg : ¬ kx < 0 := fun z => absurd hk.1 (Int32.not_le.mpr z)
      cases ht : ma_at a with
      | none => rw [ht] at h; cases h
      | some t =>
        rw [ht] at h
        cases h
        rw [e1] at hr1
        rw [e2] at hr2
        simp only [e1, e2] at k
        refine ⟨?_, fin t kx.toNatClampNeg r (ma_cs_tl hc)⟩
        have go : ∀ (t0 : Nat) (ty : FieldType) (a0 : vp_A), newarray.typeOf a = ty → Cond.arrayClass ty ∈ ma_TB → (ma_tys kA)[t0]? = some (kA t, ty) → (∀ cA cA' : ClassId, va_RA s cA ty → va_RA s cA' ty → cA = cA') → (∀ cA : ClassId, vp_cell cA a0 = arrV cA kx.toNatClampNeg (fun _ => defaultValue ty)) → kx.toNatClampNeg * componentBytes ty ≤ 536870912 → (∀ q, ma_E kA (va_up ad (mN S) q) (ma_new S t kx.toNatClampNeg) (mN S) = .inl (kA t, a0)) → W p l e R s m args below meth c H locs cells slots Q (F0 m pc ls (ma_ts ad (.inl kx :: r))) := by
          intro t0 ty a0 hty hw ht0 huni ha0 hby hE
          refine va_newa hx hb (hty ▸ hts _ hw) hty hK hP hD hS hA ha0 hneg rfl hby hr1 hr2 hd (fun q cA H1 b1 b2 b3 b4 => ?_)
          have hcA : cA = kA t := huni cA (kA t) (b1.2 (ma_tys kA).length (cA, ty) (by rw [List.getElem?_append_right (Nat.le_refl _), Nat.sub_self]; rfl)).2 (hK.2 t0 _ ht0).2
          subst hcA
          have hE : ma_wl kA ad S ++ [(q, .inl (kA t, a0))] = ma_wl kA (va_up ad (mN S) q) (ma_new S t kx.toNatClampNeg) := by
            rw [ma_wl_new hh, hE]
          have := k q H1 (hE ▸ b2) (hE ▸ b3) b4
          rw [tsr q r (ma_cs_tl hc)] at this
          exact this
        cases a <;> simp only [ma_at, reduceCtorEq, Option.some.injEq] at ht
        · subst ht
          exact go 2 .boolean (kx.toNatClampNeg, .inl (fun _ => 0)) rfl (ma_TB_in (j := 1770) (by decide +kernel) rfl) rfl (fun _ _ h1 h2 => Option.some.inj (h1.symm.trans h2)) (fun _ => rfl) (by show _ * 1 ≤ _; omega) (fun q => by rw [ma_E_int (t := 22) (by rw [ma_new_H]) (by omega) (by omega), ma_new_H]; show Sum.inl (kA 22, _, Sum.inl (ma_uc (mI S) S.1 (fun _ => 0) (mN S))) = _; rw [show ma_uc (mI S) S.1 (fun _ => 0) (mN S) = (fun _ => 0) from if_pos rfl])
        · subst ht
          exact go 1 .byte (kx.toNatClampNeg, .inl (fun _ => 0)) rfl (ma_TB_in (j := 103) (by decide +kernel) rfl) rfl (fun _ _ h1 h2 => Option.some.inj (h1.symm.trans h2)) (fun _ => rfl) (by show _ * 1 ≤ _; omega) (fun q => by rw [ma_E_int (t := 21) (by rw [ma_new_H]) (by omega) (by omega), ma_new_H]; show Sum.inl (kA 21, _, Sum.inl (ma_uc (mI S) S.1 (fun _ => 0) (mN S))) = _; rw [show ma_uc (mI S) S.1 (fun _ => 0) (mN S) = (fun _ => 0) from if_pos rfl])
        · subst ht
          exact go 0 .int (kx.toNatClampNeg, .inl (fun _ => 0)) rfl (ma_TB_in (j := 104) (by decide +kernel) rfl) rfl (fun _ _ h1 h2 => Option.some.inj (h1.symm.trans h2)) (fun _ => rfl) (by show _ * 4 ≤ _; omega) (fun q => by rw [ma_E_int (t := 20) (by rw [ma_new_H]) (by omega) (by omega), ma_new_H]; show Sum.inl (kA 20, _, Sum.inl (ma_uc (mI S) S.1 (fun _ => 0) (mN S))) = _; rw [show ma_uc (mI S) S.1 (fun _ => 0) (mN S) = (fun _ => 0) from if_pos rfl])
        · subst ht
          exact go 3 .long (kx.toNatClampNeg, .inr (.inl (fun _ => 0))) rfl (ma_TB_in (j := 2155) (by decide +kernel) rfl) rfl (fun _ _ h1 h2 => Option.some.inj (h1.symm.trans h2)) (fun _ => rfl) (by show _ * 8 ≤ _; omega) (fun q => by rw [ma_E_long (by rw [ma_new_H]), ma_new_H]; show Sum.inl (kA 23, _, Sum.inr (Sum.inl (ma_uc (mL S) S.1 (fun _ => 0) (mN S)))) = _; rw [show ma_uc (mL S) S.1 (fun _ => 0) (mN S) = (fun _ => 0) from if_pos rfl])
    · cases h
  · next x kx r =>
    split at h
    · next hk =>
      simp only [Bool.and_eq_true, decide_eq_true_eq] at hk
      have hneg : ¬ kx < 0 := fun z => absurd hk.1 (Int32.not_le.mpr z)
      cases ht : ma_ant o x with
      | none => rw [ht] at h; cases h
      | some t =>
        rw [ht] at h
        cases h
        rw [e1] at hr1
        rw [e2] at hr2
        simp only [e1, e2] at k
        refine ⟨?_, fin t kx.toNatClampNeg r (ma_cs_tl hc)⟩
        obtain ⟨ht2, hw⟩ := ma_ant_spec ht
        have hAO : va_AO (ma_anC t) s := by
          rcases ht2 with rfl | rfl
          · exact hO.1
          · exact hO.2
        obtain ⟨t0, ht0⟩ : ∃ t0, (ma_tys kA)[t0]? = some (kA t, FieldType.object (ma_anC t)) := by
          rcases ht2 with rfl | rfl
          · exact ⟨4, rfl⟩
          · exact ⟨5, rfl⟩
        refine va_newq hx hb hown (hts _ hw) hAO hK hP hD hS hA hneg rfl (by omega) hr1 hr2 hd (fun q cA H1 b1 b2 b3 b4 => ?_)
        have hcA : cA = kA t := by
          obtain ⟨_, _, _, _, _, g1⟩ := (b1.2 (ma_tys kA).length (cA, .object (ma_anC t)) (by rw [List.getElem?_append_right (Nat.le_refl _), Nat.sub_self]; rfl)).2
          obtain ⟨_, _, _, _, _, g2⟩ := (hK.2 t0 _ ht0).2
          exact Option.some.inj (g1.symm.trans g2)
        subst hcA
        have hE : ma_wl kA ad S ++ [(q, .inl (kA t, kx.toNatClampNeg, .inr (.inr (.inr (.inr (fun _ => none))))))] = ma_wl kA (va_up ad (mN S) q) (ma_new S t kx.toNatClampNeg) := by
          rw [ma_wl_new hh, ma_E_ref (t := t) (by rw [ma_new_H]) (by omega), ma_new_H]
          show _ = _ ++ [(q, Sum.inl (kA t, _, Sum.inr (Sum.inr (Sum.inr (Sum.inr (fun j => (ma_uc (mR S) S.1 (fun _ => none) (mN S) j).map (va_up ad (mN S) q)))))))]
          rw [show ma_uc (mR S) S.1 (fun _ => none) (mN S) = (fun _ => none) from if_pos rfl]
          rfl
        have := k q H1 (hE ▸ b2) (hE ▸ b3) b4
        rw [tsr q r (ma_cs_tl hc)] at this
        exact this
    · cases h
  · cases h
end MA4
