/-! THE HOUSE WITH THINGS: behind the constructors all new cells are Things; more backward rows -/
def zT (S : ma_S) : Prop := zO S ∧ 126 ≤ mN S ∧ ∀ c, 126 ≤ c → c < mN S → mH S c = (9, 9)
section ZT1
variable {S : ma_S} {c k r t n : Nat}
theorem zT_is (h : zT S) (e : zs c = some (t, n)) : ma_is S c = true := zO_is h.1 e
theorem zT_h (h : zT S) (e : zs c = some (t, n)) : mH S c = (t, n) := zO_h h.1 e
theorem zT_t (h : zT S) (e : zs c = some (t, n)) : (mH S c).1 = t := zO_t h.1 e
theorem zT_rt (h : zT S) (e : zs c = some (t, n)) (ht : (decide (1 ≤ t) && decide (t ≤ 12)) = true) : ma_rt S c = some t := zO_rt h.1 e ht
theorem zT_f (h : zT S) (e : zfi c k = some r) : (Sum.inr (Sum.inr (mR S c k)) : ma_V) = .inr (.inr (some r)) := zO_f h.1 e
theorem zT_r (h : zT S) (e : zfi c k = some r) : mR S c k = some r := h.1.2 _ _ _ e
theorem zT_pi (h : zT S) {x : Int32} : zT (ma_put S c k (.inl x)) := h
theorem zT_pl (h : zT S) {x : Int64} : zT (ma_put S c k (.inr (.inl x))) := h
theorem zT_pr (h : zT S) {q : Option Nat} (e : zfi c k = none) : zT (ma_put S c k (.inr (.inr q))) := ⟨zO_pr h.1 e, h.2⟩
theorem zT_b (h : zT S) : zT (ma_bump S) := h
theorem zT_cp (h : zT S) {f : Nat → Int32} : zT (ma_cp S c f) := h
theorem zT_tis (h : zT S) (hc : 126 ≤ c ∧ c < mN S) : ma_is S c = true := by
  unfold ma_is
  rw [Bool.and_eq_true, decide_eq_true_eq, decide_eq_true_eq]
  exact ⟨by omega, hc.2⟩
theorem zT_tt (h : zT S) (hc : 126 ≤ c ∧ c < mN S) : (mH S c).1 = 9 := by rw [h.2.2 c hc.1 hc.2]
theorem zT_trt (h : zT S) (hc : 126 ≤ c ∧ c < mN S) : ma_rt S c = some 9 := by
  unfold ma_rt
  rw [if_neg (by omega)]
  simp only [zT_tis h hc, zT_tt h hc]
  rfl
/-- no field that never changes is one of a Thing, or of the rows that hold them -/
theorem zfi_th (h : 126 ≤ c) : zfi c k = none := by
  unfold zfi
  cases hf : zfl.find? (fun q => q.1 == c && q.2.1 == k) with
  | none => rfl
  | some q =>
    have h1 := List.find?_some hf
    have h2 := List.mem_of_find?_eq_some hf
    simp only [Bool.and_eq_true, beq_iff_eq] at h1
    have h3 : zfl.all (fun q => decide (q.1 < 126)) = true := by decide +kernel
    have h4 := of_decide_eq_true (List.all_eq_true.mp h3 q h2)
    omega
def zfr (c : Nat) : Bool := zfl.all (fun q => !(q.1 == c))
theorem zfi_row (h : zfr c = true) : zfi c k = none := by
  unfold zfi
  cases hf : zfl.find? (fun q => q.1 == c && q.2.1 == k) with
  | none => rfl
  | some q =>
    have h1 := List.find?_some hf
    have h2 := List.mem_of_find?_eq_some hf
    simp only [Bool.and_eq_true, beq_iff_eq] at h1
    have h4 := List.all_eq_true.mp h q h2
    simp [h1.1] at h4
end ZT1
section ZW3
variable {X : Nat × (Nat → Int32)} {d w M pc : Nat} {L : ma_L} {st r : List ma_V} {S : ma_S} {o nL : Nat} {y : MethodName} {cc : ByteArray} {ret : Option FieldType} {i : Instr} {n : Nat} {Q Q' : Option ma_V ⊕ Nat → ma_S → Prop}
/-- a row of Things is written -/
theorem zw_aas (hm : ma_md M = some (o, y, cc, nL, ret)) (hd : decode cc pc = .ok (.aastore, 1)) {c N a : Nat} {j : Int32} {x : Option Nat} (hs : ma_is S c = true) (ht : mH S c = (24, N)) (ha : j.toNatClampNeg = a) (hj : 0 ≤ j ∧ a < N) (hx : ∀ b, x = some b → ma_is S b = true ∧ (mH S b).1 = 9) (K : ma_wp X d w M (pc + 1) L r (ma_put S c a (.inr (.inr x))) Q) : ma_wp X d w M pc L (.inr (.inr x) :: .inl j :: .inr (.inr (some c)) :: r) S Q := by
  subst ha
  refine zw_hp hm hd rfl rfl rfl rfl ?_ K
  unfold ma_hp ma_ix
  simp only [hs, ht, hj.1, hj.2, decide_true, Bool.and_self, if_true]
  cases x with
  | none => rfl
  | some b =>
    have := hx b rfl
    simp only [this.1, this.2, decide_true, Bool.and_self, if_true]
theorem zw_ex (hm : ma_md M = some (o, y, cc, nL, ret)) (hd : decode cc pc = .ok (i, n)) {st' : List ma_V} {S' : ma_S} (h0 : ma_push i n L = none) (h1 : ma_stk i n st = none) (h2 : ma_sto i n nL L st = none) (h3 : ma_jmp i n pc st = none) (h4 : ma_hp o (decide (y.name = "<init>")) i n st S = none) (h5 : ma_sc X i n st = none) (h : ma_ex o i n st S = some (st', S')) (k : ma_wp X d w M (pc + n) L st' S' Q) : ma_wp X d w M pc L st S Q :=
  zw_one hm hd (by unfold ma_one; simp only [h0, h1, h2, h3, h4, h5, h]) k
theorem zw_iof (hm : ma_md M = some (o, y, cc, nL, ret)) {x : Nat} (hd : decode cc pc = .ok (.instanceof x, 3)) {c t : Nat} {b : Bool} {v : Int32} (hs : ma_is S c = true) (ht : (mH S c).1 = t) (h1 : (decide (1 ≤ t) && decide (t ≤ 12)) = true) (hf : ma_ctt o x t = some b) (hv : (if b then 1 else 0) = v) (K : ma_wp X d w M (pc + 3) L (.inl v :: r) S Q) : ma_wp X d w M pc L (.inr (.inr (some c)) :: r) S Q := by
  subst hv
  rw [Bool.and_eq_true] at h1
  refine zw_ex hm hd rfl rfl rfl rfl rfl rfl ?_ K
  unfold ma_ex
  simp only [hs, ht, h1.1, h1.2, Bool.and_self, if_true, hf, Option.map_some]
theorem zw_cast (hm : ma_md M = some (o, y, cc, nL, ret)) {x : Nat} (hd : decode cc pc = .ok (.checkcast x, 3)) {c t : Nat} (hs : ma_is S c = true) (ht : (mH S c).1 = t) (h1 : (decide (1 ≤ t) && decide (t ≤ 12)) = true) (hf : ma_ctt o x t = some true) (K : ma_wp X d w M (pc + 3) L (.inr (.inr (some c)) :: r) S Q) : ma_wp X d w M pc L (.inr (.inr (some c)) :: r) S Q := by
  rw [Bool.and_eq_true] at h1
  refine zw_ex hm hd rfl rfl rfl rfl rfl rfl ?_ K
  unfold ma_ex
  simp only [hs, ht, h1.1, h1.2, Bool.and_self, if_true, hf, decide_true]
/-- a new Thing -/
theorem zw_new (hm : ma_md M = some (o, y, cc, nL, ret)) {x : Nat} (hd : decode cc pc = .ok (.new x, 3)) (h : ma_nwt o x = some 9) (K : ma_wp X d w M (pc + 3) L (.inr (.inr (some (mN S))) :: st) (ma_new S 9 9) Q) : ma_wp X d w M pc L st S Q :=
  zw_one hm hd (by unfold ma_one; simp only [ma_push, ma_stk, ma_sto, ma_jmp, ma_hp, ma_sc, ma_ex, ma_al, h, Option.map_some]; rfl) K
theorem zw_pr (hm : ma_md M = some (o, y, cc, nL, ret)) (hd : decode cc pc = .ok (i, n)) {st' : List ma_V} {S' : ma_S} (h0 : ma_push i n L = none) (h1 : ma_stk i n st = none) (h2 : ma_sto i n nL L st = none) (h3 : ma_jmp i n pc st = none) (h4 : ma_hp o (decide (y.name = "<init>")) i n st S = none) (h5 : ma_sc X i n st = none) (h6 : ma_ex o i n st S = none) (h7 : ma_al o i n st S = none) (h : ma_pr o d w i n st S = some (st', S')) (k : ma_wp X d w M (pc + n) L st' S' Q) : ma_wp X d w M pc L st S Q :=
  zw_one hm hd (by unfold ma_one; simp only [h0, h1, h2, h3, h4, h5, h6, h7, h]) k
theorem zw_max (hm : ma_md M = some (o, y, cc, nL, ret)) {x : Nat} (hd : decode cc pc = .ok (.invokestatic x, 3)) (hp : ma_prt o x = some 1) (h1 : 1 ≤ d) (hw : ma_sz r + 13 ≤ w) {a b : Int32} (hr : ∀ c a2 c0 r2, r ≠ .inr (.inr (some c)) :: .inl a2 :: .inr (.inr (some c0)) :: r2) (K : ma_wp X d w M (pc + 3) L (.inl (if a < b then b else a) :: r) S Q) : ma_wp X d w M pc L (.inl b :: .inl a :: r) S Q := by
  refine zw_pr hm hd rfl rfl rfl rfl rfl rfl rfl rfl ?_ K
  unfold ma_pr
  split
  · next e _ _ => cases e
  · next h => cases h; exact (hr _ _ _ _ rfl).elim
  · next e _ h =>
    cases e
    cases h
    simp only [h1, hw, decide_true, Bool.and_self, if_true, hp]
  · next n1 n2 n3 => exact (n3 _ _ _ _ rfl rfl rfl).elim
theorem zw_min (hm : ma_md M = some (o, y, cc, nL, ret)) {x : Nat} (hd : decode cc pc = .ok (.invokestatic x, 3)) (hp : ma_prt o x = some 2) (h1 : 1 ≤ d) (hw : ma_sz r + 13 ≤ w) {a b : Int32} (hr : ∀ c a2 c0 r2, r ≠ .inr (.inr (some c)) :: .inl a2 :: .inr (.inr (some c0)) :: r2) (K : ma_wp X d w M (pc + 3) L (.inl (if b < a then b else a) :: r) S Q) : ma_wp X d w M pc L (.inl b :: .inl a :: r) S Q := by
  refine zw_pr hm hd rfl rfl rfl rfl rfl rfl rfl rfl ?_ K
  unfold ma_pr
  split
  · next e _ _ => cases e
  · next h => cases h; exact (hr _ _ _ _ rfl).elim
  · next e _ h =>
    cases e
    cases h
    simp only [h1, hw, decide_true, Bool.and_self, if_true, hp]
  · next n1 n2 n3 => exact (n3 _ _ _ _ rfl rfl rfl).elim
theorem zw_acp (hm : ma_md M = some (o, y, cc, nL, ret)) {x : Nat} (hd : decode cc pc = .ok (.invokestatic x, 3)) (hp : ma_prt o x = some 3) (h1 : 1 ≤ d) (hw : ma_sz r + (nativeFrameWords "java/lang/System" "arraycopy" 5 + 11) ≤ w) {c N : Nat} {z b a : Int32} (hs : ma_is S c = true) (ht : mH S c = (20, N)) (ha : 0 ≤ a) (hb : 0 ≤ b) (hz : 0 ≤ z) (h3 : a.toNatClampNeg + z.toNatClampNeg ≤ N) (h4 : b.toNatClampNeg + z.toNatClampNeg ≤ N) (K : ma_wp X d w M (pc + 3) L r (ma_cp S c (va_cpy (mI S c) (mI S c) a.toNatClampNeg b.toNatClampNeg z.toNatClampNeg)) Q) : ma_wp X d w M pc L (.inl z :: .inl b :: .inr (.inr (some c)) :: .inl a :: .inr (.inr (some c)) :: r) S Q := by
  refine zw_pr hm hd rfl rfl rfl rfl rfl rfl rfl rfl ?_ K
  unfold ma_pr
  simp only [hp, h1, hw, hs, ht, ha, hb, hz, h3, h4, decide_true, Bool.and_self, if_true]
theorem zw_obj (hm : ma_md M = some (o, y, cc, nL, ret)) {x : Nat} (hd : decode cc pc = .ok (.invokespecial x, 3)) (hp : ma_prt o x = some 0) (h1 : 1 ≤ d) (hw : ma_sz r + 12 ≤ w) {c : Nat} (K : ma_wp X d w M (pc + 3) L r S Q) : ma_wp X d w M pc L (.inr (.inr (some c)) :: r) S Q := by
  refine zw_pr hm hd rfl rfl rfl rfl rfl rfl rfl rfl ?_ K
  unfold ma_pr
  simp only [hp, h1, hw, decide_true, Bool.and_self, if_true]
/-- a field in a constructor -/
def ma_pki (o x t k : Nat) : Bool := match vwCl[t]? with
  | some (_, T, _) => decide (ma_fld o x t = some k) && decide ((T k).1 = ma_cn o) && decide (1 ≤ t) && decide (t ≤ 12)
  | none => false
theorem zw_pfi (hm : ma_md M = some (o, y, cc, nL, ret)) (hy : y.name = "<init>") {x : Nat} (hd : decode cc pc = .ok (.putfield x, 3)) {c t k : Nat} {v : ma_V} (hs : ma_is S c = true) (ht : (mH S c).1 = t) (hp : ma_pki o x t k = true) (hv : ma_ok (ma_ft t k) v = true) (K : ma_wp X d w M (pc + 3) L r (ma_put S c k v) Q) : ma_wp X d w M pc L (v :: .inr (.inr (some c)) :: r) S Q := by
  refine zw_hp hm hd rfl rfl rfl rfl ?_ K
  unfold ma_pki at hp
  split at hp
  · next C T N hc =>
    simp only [Bool.and_eq_true, decide_eq_true_eq] at hp
    unfold ma_hp
    simp only [hs, ht, hp.1.2, hp.2, decide_true, Bool.and_self, if_true, hp.1.1.1, hc, hp.1.1.2, hv, hy, Bool.or_true]
  · cases hp
theorem zk_long {x : Int64} : ma_ok .long (.inr (.inl x)) = true := by simp [ma_ok]
/-- are two references the same -/
theorem zw_acmp (hm : ma_md M = some (o, y, cc, nL, ret)) {off : Int} (hd : decode cc pc = .ok (.if_acmp .eq off, 3)) {t : Nat} (ht : ma_to pc off = some t) {p q : Option Nat} (hp : ∀ b, p = some b → 64 ≤ b) (hq : ∀ b, q = some b → 64 ≤ b) (k1 : p = q → ma_wp X d w M t L r S Q) (k2 : ¬ p = q → ma_wp X d w M (pc + 3) L r S Q) : ma_wp X d w M pc L (.inr (.inr q) :: .inr (.inr p) :: r) S Q := by
  have hg : (p.all (fun b => decide (64 ≤ b)) && q.all (fun b => decide (64 ≤ b))) = true := by
    rw [Bool.and_eq_true]
    refine ⟨?_, ?_⟩
    · cases p with
      | none => rfl
      | some b => exact decide_eq_true (hp b rfl)
    · cases q with
      | none => rfl
      | some b => exact decide_eq_true (hq b rfl)
  have h : ma_one X o (decide (y.name = "<init>")) nL d w (.if_acmp .eq off) 3 pc L (.inr (.inr q) :: .inr (.inr p) :: r) S = some (if p = q then t else pc + 3, L, r, S) := by
    unfold ma_one
    simp only [ma_push, ma_stk, ma_sto, ma_jmp, ma_hp, ma_sc, ma_ex, ma_al, ma_pr, ma_tx, ma_ac, hg, if_true, ht, Option.map_some]
  refine zw_one hm hd h ?_
  by_cases e : p = q
  · rw [if_pos e]; exact k1 e
  · rw [if_neg e]; exact k2 e
/-- a method of the class above -/
theorem zw_csp (hm : ma_md M = some (o, y, cc, nL, ret)) {x M' m b nL' o' : Nat} {y' : MethodName} {cc' : ByteArray} {ret' : Option FieldType} (hd : decode cc pc = .ok (.invokespecial x, 3)) (hp : ma_prt o x = none) (hv : (ma_fd o x 0 true 6 9).map (fun q => q.2.1) = some (7, M', m)) (hm' : ma_md M' = some (o', y', cc', nL', ret')) (asr rest : List ma_V) (hl : asr.length = m) (hs : ma_is S b = true) (ht : 1 ≤ (mH S b).1 ∧ (mH S b).1 ≤ 12) (hr : 1 ≤ d ∧ 19 + nL' ≤ w) (hz : (decide (ma_sz (.inr (.inr (some b)) :: asr.reverse) ≤ nL') && decide (ma_sz rest ≤ 8)) = true)
    (hk : ma_wp X (d - 1) (w - (19 + nL')) M' 0 (ma_args 0 (.inr (.inr (some b)) :: asr.reverse)) [] S (fun z S' => match z with
      | .inl v => ma_wp X d w M (pc + 3) L (v.toList ++ rest) S' Q
      | .inr x => 7 ≤ 1 ∧ Q (.inr x) S')) : ma_wp X d w M pc L (asr ++ .inr (.inr (some b)) :: rest) S Q := by
  rw [Bool.and_eq_true, decide_eq_true_eq, decide_eq_true_eq] at hz
  cases hq : ma_fd o x 0 true 6 9 with
  | none => rw [hq] at hv; cases hv
  | some q =>
    rw [hq] at hv
    have e : q.2.1 = (7, M', m) := Option.some.inj hv
    have h2 : ma_pr o d w (.invokespecial x) 3 (asr ++ .inr (.inr (some b)) :: rest) S = none := by
      unfold ma_pr
      split
      · next h _ _ => cases h; simp [hp]
      · next h _ _ => cases h
      · next h _ _ => cases h
      · rfl
    refine zw_call (as := .inr (.inr (some b)) :: asr.reverse) (rest := rest) (k := 7) (M' := M') hm hd ?_ rfl (ma_thr_no hd (fun _ h => by cases h)) ?_ hm' ⟨hr.1, hr.2, hz.1, hz.2⟩ hk
    · unfold ma_one
      rw [h2]
      rfl
    · unfold ma_cl
      simp only [hq, e, ← hl, List.drop_left, List.take_left]
      rw [if_pos ⟨by decide, hs, ht.1, ht.2, Or.inl (by first | trivial | rfl)⟩]
end ZW3
