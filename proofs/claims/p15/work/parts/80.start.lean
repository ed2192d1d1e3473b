/-- no cell yet -/
def ma_S0 : ma_S := (64, 0, 0, fun _ => (0, 0), fun _ _ => 0, fun _ _ => 0, fun _ _ => none)
theorem ma_arr {args : Array Value} {s : State} {ty : FieldType} (hno : ∀ C, ty ≠ .object C) (h : (Cond.arrayClass ty).before args s = true) : ∃ cA : ClassId, ArrOfT s cA ty ∧ va_RA s cA ty := by
  obtain ⟨cA, k, comp, h1, h2, h3⟩ := Cond.arrayClass_spec h
  refine ⟨cA, fun n z => ⟨fun k h => (by cases h), k, h2, comp, h3⟩, ?_⟩
  cases ty <;> first | exact h1 | exact absurd rfl (hno _)
theorem ma_arrO {args : Array Value} {s : State} {C : String} (h : (Cond.arrayOver (.object C)).before args s = true) : ∃ cA : ClassId, ArrOfT s cA (.object C) ∧ va_RA s cA (.object C) := by
  obtain ⟨comp, cA, k, h1, -, h2, h3, h4⟩ := Cond.arrayOver_spec h
  exact ⟨cA, fun n z => ⟨fun k h => (by cases h), k, h2, comp, h3⟩, k, comp, h2, h3, h1, h4⟩
set_option maxHeartbeats 4000000 in
/-- THE LAW, out of its run in the small machine -/
theorem ma_start {p : Program} {e : Env} {s : State} {m : MethodId} {below : List Frame} {meth : Method} {c : Code} (l : Launch) (hlt : l.stackTraces = false) {b L : Nat} {xs : Nat → Int32} (C0 : lw_At p s m meth c b L xs)
    (hrun : ∀ ys : Nat → Int32, (∀ j, j < L → ys j = xs j) → ∃ (f : Nat) (S' : ma_S), ma_frun (L, ys) f 0 13 494 0 [(0, .inr (.inr (some 30)))] [] ma_S0 = some (some (.inl 1), S') ∧ mC S' ≤ 601024 ∧ mZ S' ≤ 7293034) :
    W p l e room_1 s m #[Value.ref b] below meth c s.heap [] 0 0 (lw_Z below #[Value.ref b] s) (entryFrame m ([Value.ref b] : List Value).toArray 7) := by
  obtain ⟨hx, hb, hr, hml, hown, hts, hX, hbl, hlocks, hgv⟩ := C0
  have htt : ∀ w ∈ tables_1, w.before #[Value.ref b] s = true := fun w hw => hts w (List.mem_append_right _ hw)
  have hfl := flat_of_before _ hgv
  have hTB := ma_tb_all hts
  have hA0 : ∀ a : Nat, a < s.heap.size → ¬ (fun q : Nat => s.heap.size ≤ q) a := fun a h z => absurd h (Nat.not_lt.mpr z)
  -- the classes
  have hk : ∀ k : Nat, ∃ z : ClassId × (Nat → Nat), ∀ q : vw_C, vwCl[k]? = some q → u_Kn s q.1 q.2.1 q.2.2 z.1 z.2 := by
    intro k
    by_cases hk : k < 13
    · obtain ⟨q, hq, hi⟩ := ma_ins1 k hk
      have hw : ∀ w ∈ u_ws q.1 q.2.1 q.2.2, w ∈ ma_TB := by
        by_cases h0 : k = 0
        · subst h0; cases hq; exact ma_clw0
        · obtain ⟨C, T, hcl, hw, -, -⟩ := ma_clok_all (t := k) (by omega) (by omega)
          cases hq.symm.trans hcl
          exact hw
      obtain ⟨cC, iS, h⟩ := u_known hTB hw (htt _ hi)
      exact ⟨(cC, iS), fun q' hq' => by cases hq.symm.trans hq'; exact h⟩
    · exact ⟨(0, fun _ => 0), fun q hq => by
        have := (List.getElem?_eq_some_iff.mp hq).1
        exact absurd this (by show ¬ k < 13; exact hk)⟩
  obtain ⟨dz, hdz⟩ := Classical.axiomOfChoice hk
  obtain ⟨a20, h20⟩ := ma_arr (fun _ h => by cases h) (htt _ ma_ac1.1)
  obtain ⟨a21, h21⟩ := ma_arr (fun _ h => by cases h) (htt _ ma_ac1.2.1)
  obtain ⟨a22, h22⟩ := ma_arr (fun _ h => by cases h) (htt _ ma_ac1.2.2.1)
  obtain ⟨a23, h23⟩ := ma_arr (fun _ h => by cases h) (htt _ ma_ac1.2.2.2)
  obtain ⟨a24, h24⟩ := ma_arrO (htt _ ma_ao1.1)
  obtain ⟨a25, h25⟩ := ma_arrO (htt _ ma_ao1.2)
  obtain ⟨kA, e20, e21, e22, e23, e24, e25⟩ : ∃ kA : Nat → ClassId, kA 20 = a20 ∧ kA 21 = a21 ∧ kA 22 = a22 ∧ kA 23 = a23 ∧ kA 24 = a24 ∧ kA 25 = a25 :=
    ⟨fun k => if k = 20 then a20 else if k = 21 then a21 else if k = 22 then a22 else if k = 23 then a23 else if k = 24 then a24 else a25, rfl, rfl, rfl, rfl, rfl, rfl⟩
  have hK : va_K (fun k => (dz k).1, fun k => (dz k).2) vwCl (ma_tys kA) s := by
    refine ⟨fun k q hq => hdz k q hq, fun k q hq => ?_⟩
    have hm := List.mem_of_getElem? hq
    simp only [ma_tys, List.mem_cons, List.not_mem_nil, or_false, e20, e21, e22, e23, e24, e25] at hm
    rcases hm with rfl | rfl | rfl | rfl | rfl | rfl
    · exact h20
    · exact h21
    · exact h22
    · exact h23
    · exact h24
    · exact h25
  have hN : ma_Nx s := by
    refine ⟨fun w hw => ?_, ⟨va_AO.of (htt _ ma_ao1.1), va_AO.of (htt _ ma_ao1.2)⟩, fun q hq => va_Nc.of (hfl _ (ma_nc_tab q hq))⟩
    have h9 := ma_nw_tab w hw
    simp only [Bool.and_eq_true, decide_eq_true_eq] at h9
    exact va_Nw.of h9.2 (htt _ h9.1)
  -- the texts and statics
  obtain ⟨adK, adV, hS1, hS2⟩ := vk_Sof (args := #[Value.ref b]) (s := s) (N := 19) (tm := ma_txt) (len := ma_txl) (byt := ma_txb) (A := fun q : Nat => s.heap.size ≤ q) ma_tx7 (fun i hi => hfl _ (ma_tx1 i hi)) (fun i hi => hfl _ (ma_tx2 i hi)) (fun i hi => hfl _ (ma_tx3 i hi)) (fun i hi => hfl _ (ma_tx4 i hi)) (fun i hi j hj => hfl _ (ma_tx5 i hi j hj)) (fun i j hi hj hij => (ma_tx6 i hi j hj hij).imp (hfl _) (hfl _)) hA0
  have hC := va_Zof (A := fun q : Nat => s.heap.size ≤ q) (htt _ ma_ls1) (htt _ ma_in1.1) (va_eqi (hfl _ ma_st1)) hA0
  have hF := va_Zqof (A := fun q : Nat => s.heap.size ≤ q) (htt _ ma_ls2) (htt _ ma_in1.2.1) (hfl _ ma_st2) hA0
  have hU := vx_Zqof (A := fun q : Nat => s.heap.size ≤ q) (htt _ ma_ls3) (htt _ ma_in1.2.2) (hfl _ ma_st3) hA0
  have hZ := vx_Zqof (A := fun q : Nat => s.heap.size ≤ q) (htt _ ma_ls4) (htt _ ma_in1.2.2) (hfl _ ma_st4) hA0
  obtain ⟨fz, ft, hF⟩ : ∃ (fz : Int32) (ft : Nat), va_Z "jdk/internal/util/Preconditions" "SIOOBE_FORMATTER" "Ljava/util/function/BiFunction;" (va_rf (if fz = 0 then none else some ft)) (fun q : Nat => s.heap.size ≤ q) s s.heap := by
    rcases hF with h | ⟨t, h⟩
    · exact ⟨0, 0, h⟩
    · exact ⟨1, t, h⟩
  obtain ⟨ys, hys, hyL⟩ : ∃ ys : Nat → Int32, (∀ j, j < L → ys j = xs j) ∧ ys L = fz := ⟨fun j => if j < L then xs j else fz, fun j hj => if_pos hj, if_neg (Nat.lt_irrefl L)⟩
  obtain ⟨ad, ad1, ad2, ad3, ad4⟩ : ∃ ad : Nat → Nat, (∀ i, i < 19 → ad i = adK i) ∧ (∀ i, i < 19 → ad (32 + i) = adV i) ∧ ad 30 = b ∧ ad 29 = ft := by
    refine ⟨fun k => if k < 19 then adK k else if k = 29 then ft else if k = 30 then b else adV (k - 32), fun i hi => if_pos hi, fun i hi => ?_, rfl, rfl⟩
    show (if 32 + i < 19 then adK (32 + i) else if 32 + i = 29 then ft else if 32 + i = 30 then b else adV (32 + i - 32)) = adV i
    rw [if_neg (by omega), if_neg (by omega), if_neg (by omega), Nat.add_sub_cancel_left]
  obtain ⟨f, S', hrn, hc1, hc2⟩ := hrun ys hys
  have hXt : ma_Xt (L, ys) ad (fun q : Nat => s.heap.size ≤ q) s s.heap := by
    refine ⟨⟨hU, hZ⟩, ⟨?_, by rw [ad3]; exact hA0 b hbl, by rw [ad3]; exact hbl⟩, ?_, ?_, hC, ?_⟩
    · rw [ad3]
      obtain ⟨scr, q1, q2, q3, q4, q5⟩ := hX
      exact ⟨scr, q1, q2, q3, q4, fun j hj => by show scr.slots[j]? = some (.int (ys j)); rw [hys j hj]; exact q5 j hj⟩
    · refine ⟨fun i hi => ?_, fun i j hi hj hij => ?_⟩
      · have := hS1.1 i hi
        simp only [ad1 i hi, ad2 i hi]
        exact this
      · rw [ad1 i hi, ad1 j hj] at hij
        exact hS1.2 i j hi hj hij
    · intro q hq
      obtain ⟨t1, t2, t3⟩ := ma_tx8 q hq
      have := hS2 q.2.2.2 t2
      rw [t3] at this
      rw [ad1 _ t2]
      exact vk_R.of (htt _ t1) this
    · have : va_rf ((ma_fm (L, ys)).map ad) = va_rf (if fz = 0 then none else some ft) := by
        unfold ma_fm
        rw [show (L, ys).2 (L, ys).1 = fz from hyL]
        split
        · rfl
        · show va_rf (some (ad 29)) = _; rw [ad4]
      rw [this]
      exact hF
  have hl := lv_entry ([.ref b]) (n := 7) (Nat.le_of_ble_eq_true rfl)
  rw [lg_entry_eq]
  generalize (lg_sl ([.ref b]) ++ List.replicate (7 - (lg_sl ([.ref b])).length) Slot.unset).toArray = ls at hl ⊢
  have hl : lv_has ls 7 (ma_tl ad [(0, .inr (.inr (some 30)))]) := by
    show lv_has ls 7 [(0, .ref (ad 30))]
    rw [ad3]
    exact hl
  refine ma_fok_all (L, ys) l hlt f 0 13 494 0 [(0, .inr (.inr (some 30)))] [] ma_S0 (some (.inl 1)) S' hrn code 7 (some .boolean) [] rfl p e room_1 s m #[Value.ref b] below meth c s.heap [] 0 0 _ ls ad kA (fun k => (dz k).1, fun k => (dz k).2) (fun q : Nat => s.heap.size ≤ q)
    ⟨hx, hb, hml, hown, hTB, hK, hN, (fun h => (by cases h)), Nat.le_refl _, Nat.le_refl _, fun q h => h⟩ (fun h => (by cases h))
    ⟨hl, ⟨fun c k b h => (by cases h), Nat.le_refl 64⟩, fun q hq => ?_, ma_nil_cs, fun k q hk => (by cases hk), ⟨fun i j p q h => (by cases h), fun k q h => (by cases h)⟩, va_S.rf, hXt⟩ (by show 0 + (mC S' - 0) ≤ 601024; omega) (by show 0 + (mZ S' - 0) ≤ 7293034; omega) ?_
  · rw [List.mem_singleton] at hq
    subst hq
    exact fun b hb => by cases hb; show 30 < 64; omega
  · intro ad' H1 locs1 ls1 pc1 n1 i1 st1 hag Wd1 hd1 hr1
    obtain ⟨hl1, hh1, hL1, hcs1, hP1, hD1, hS3, hX1⟩ := Wd1
    have hi : i1 = .ireturn ∧ n1 = 1 ∧ st1 = [.inl 1] := by
      unfold ma_ret at hr1
      split at hr1
      · split at hr1
        · split at hr1
          · cases hr1; exact ⟨rfl, rfl, rfl⟩
          · cases hr1
        · cases hr1
      · split at hr1 <;> cases hr1
      · split at hr1 <;> cases hr1
      · cases hr1
    obtain ⟨rfl, rfl, rfl⟩ := hi
    refine va_forget (fun q hq => hS3.2.2 q hq) ?_
    refine W.widen (k := 601024) (n := 7293034) (by show 0 + (mC S' - 0) ≤ 601024; omega) (by show 0 + (mZ S' - 0) ≤ 7293034; omega) ?_
    exact lw_ret hx hb hr hlocks hd1
