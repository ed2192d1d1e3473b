/-! EQUATIONS OF THE VALUE, on: fields written, rows read and written -/
section MA18
variable {X : Nat × (Nat → Int32)} {d w M pc : Nat} {L : ma_L} {st r : List ma_V} {S : ma_S} {o nL : Nat} {y : MethodName} {cc : ByteArray} {ret : Option FieldType} {i : Instr} {n : Nat}
/-- an instruction of which all but one family know nothing -/
theorem e_hp (hm : ma_md M = some (o, y, cc, nL, ret)) (hd : decode cc pc = .ok (i, n)) (h0 : ma_push i n L = none) (h1 : ma_stk i n st = none) (h2 : ma_sto i n nL L st = none) (h3 : ma_jmp i n pc st = none) (h5 : ma_sc X i n st = none) (h6 : ma_ex o i n st S = none) (h7 : ma_al o i n st S = none) (h8 : ma_pr o d w i n st S = none) (h9 : ma_tx X o i n st = none) (h10 : ma_ret ret i n st = none) (h11 : ∀ ik, i ≠ .new ik) (h12 : ma_cl o i n st S = none) :
    ma_ev X d w M pc L st S = (ma_hp o (decide (y.name = "<init>")) i n st S).bind (fun z => ma_ev X d w M (pc + n) L z.1 z.2) := by
  cases hh : ma_hp o (decide (y.name = "<init>")) i n st S with
  | none =>
    refine ma_ev_none hm hd ?_ h10 (ma_thr_no hd h11) h12
    unfold ma_one
    simp only [h0, h1, h2, h3, hh, h5, h6, h7, h8, h9]
  | some z =>
    refine ma_ev_one hm hd ?_
    unfold ma_one
    simp only [h0, h1, h2, h3, hh]
/-- a field is written -/
theorem e_putf (hm : ma_md M = some (o, y, cc, nL, ret)) {x : Nat} (hd : decode cc pc = .ok (.putfield x, 3)) {v : ma_V} {q : Option Nat} {ts : List Nat} {k : Nat} {ty : FieldType}
    (ht : ∀ t, 1 ≤ t → t ≤ 12 → if t ∈ ts then ma_fld o x t = some k ∧ ma_ft t k = ty ∧ (∃ C T N, vwCl[t]? = some (C, T, N) ∧ (!(T k).2.2.2 || (decide (y.name = "<init>") && decide ((T k).1 = ma_cn o))) = true) else ma_fld o x t = none) (hts : ∀ t ∈ ts, 1 ≤ t ∧ t ≤ 12) :
    ma_ev X d w M pc L (v :: .inr (.inr q) :: r) S = k_r q (fun c => k_c S c ts (if ma_ok ty v = true then ma_ev X d w M (pc + 3) L r (ma_put S c k v) else none)) := by
  rw [e_hp hm hd rfl rfl rfl rfl rfl rfl rfl rfl rfl rfl (fun _ h => by cases h) rfl]
  cases q with
  | none => rfl
  | some c =>
    show _ = k_c S c ts _
    unfold k_c
    by_cases hc : ma_is S c = true ∧ (mH S c).1 ∈ ts
    · rw [if_pos hc]
      have hb := hts _ hc.2
      have h9 := ht (mH S c).1 hb.1 hb.2
      rw [if_pos hc.2] at h9
      obtain ⟨g1, g2, C, T, N, g3, g4⟩ := h9
      unfold ma_hp
      simp only [hc.1, hb.1, hb.2, decide_true, Bool.and_self, if_true, g1, g3, g2, g4, Bool.and_true]
      split <;> rfl
    · rw [if_neg hc]
      have hh : ma_hp o (decide (y.name = "<init>")) (.putfield x) 3 (v :: .inr (.inr (some c)) :: r) S = none := by
        unfold ma_hp
        simp only
        split
        · next hg =>
          simp only [Bool.and_eq_true, decide_eq_true_eq] at hg
          have h9 := ht (mH S c).1 hg.1.2 hg.2
          rw [if_neg (fun z => hc ⟨hg.1.1, z⟩)] at h9
          rw [h9]
        · rfl
      rw [hh]
      rfl
theorem ma_is30 {S : ma_S} {c : Nat} (h : c < 64) : ma_is S c = false := by
  unfold ma_is
  rw [decide_eq_false (by omega)]
  rfl
/-- an int out of a row -/
theorem e_iald (hm : ma_md M = some (o, y, cc, nL, ret)) (hd : decode cc pc = .ok (.iaload, 1)) {j : Int32} {q : Option Nat} (hq : q ≠ some 30) : ma_ev X d w M pc L (.inl j :: .inr (.inr q) :: r) S = k_r q (fun c => k_x S c 20 j (ma_ev X d w M (pc + 1) L (.inl (mI S c j.toNatClampNeg) :: r) S)) := by
  have h5 : ma_sc X .iaload 1 (.inl j :: .inr (.inr q) :: r) = none := by
    unfold ma_sc
    split
    · next h => cases h; exact absurd rfl hq
    · next h => cases h
    · rfl
  rw [e_hp hm hd rfl rfl rfl rfl h5 rfl rfl rfl rfl rfl (fun _ h => by cases h) rfl]
  cases q with
  | none => rfl
  | some c =>
    show _ = k_x S c 20 j _
    unfold k_x ma_hp
    simp only [Bool.and_eq_true, decide_eq_true_eq, and_assoc]
    split <;> rfl
theorem e_iast (hm : ma_md M = some (o, y, cc, nL, ret)) (hd : decode cc pc = .ok (.iastore, 1)) {j x : Int32} {q : Option Nat} : ma_ev X d w M pc L (.inl x :: .inl j :: .inr (.inr q) :: r) S = k_r q (fun c => k_x S c 20 j (ma_ev X d w M (pc + 1) L r (ma_put S c j.toNatClampNeg (.inl x)))) := by
  rw [e_hp hm hd rfl rfl rfl rfl rfl rfl rfl rfl rfl rfl (fun _ h => by cases h) rfl]
  cases q with
  | none => rfl
  | some c =>
    show _ = k_x S c 20 j _
    unfold k_x ma_hp
    simp only [Bool.and_eq_true, decide_eq_true_eq, and_assoc]
    split <;> rfl
/-- a byte or a boolean -/
theorem e_bald (hm : ma_md M = some (o, y, cc, nL, ret)) (hd : decode cc pc = .ok (.baload, 1)) {j : Int32} {q : Option Nat} (hq : ∀ c, q = some c → 64 ≤ c) : ma_ev X d w M pc L (.inl j :: .inr (.inr q) :: r) S = k_r q (fun c => if (mH S c).1 = 22 then k_x S c 22 j (ma_ev X d w M (pc + 1) L (.inl (mI S c j.toNatClampNeg) :: r) S) else k_x S c 21 j (ma_ev X d w M (pc + 1) L (.inl (mI S c j.toNatClampNeg) :: r) S)) := by
  have h9 : ma_tx X o .baload 1 (.inl j :: .inr (.inr q) :: r) = none := by
    cases q with
    | none => rfl
    | some c =>
      have := hq c rfl
      show (if 32 ≤ c ∧ c < 32 + 19 ∧ 0 ≤ j ∧ j.toNatClampNeg < ma_txl.getD (c - 32) 0 then _ else none) = none
      rw [if_neg (by omega)]
  rw [e_hp hm hd rfl rfl rfl rfl rfl rfl rfl rfl h9 rfl (fun _ h => by cases h) rfl]
  cases q with
  | none => rfl
  | some c =>
    show _ = (if (mH S c).1 = 22 then k_x S c 22 j _ else k_x S c 21 j _)
    unfold k_x ma_hp
    simp only [Bool.and_eq_true, Bool.or_eq_true, decide_eq_true_eq, and_assoc]
    by_cases h22 : (mH S c).1 = 22
    · simp only [h22, or_true, true_and, if_true]
      split <;> rfl
    · simp only [h22, or_false, if_false]
      split <;> rfl
theorem e_bast (hm : ma_md M = some (o, y, cc, nL, ret)) (hd : decode cc pc = .ok (.bastore, 1)) {j x : Int32} {q : Option Nat} : ma_ev X d w M pc L (.inl x :: .inl j :: .inr (.inr q) :: r) S = k_r q (fun c => if (mH S c).1 = 22 then k_x S c 22 j (ma_ev X d w M (pc + 1) L r (ma_put S c j.toNatClampNeg (.inl (x &&& 1)))) else k_x S c 21 j (ma_ev X d w M (pc + 1) L r (ma_put S c j.toNatClampNeg (.inl x.toInt8.toInt32)))) := by
  rw [e_hp hm hd rfl rfl rfl rfl rfl rfl rfl rfl rfl rfl (fun _ h => by cases h) rfl]
  cases q with
  | none => rfl
  | some c =>
    show _ = (if (mH S c).1 = 22 then k_x S c 22 j _ else k_x S c 21 j _)
    unfold k_x ma_hp
    simp only [Bool.and_eq_true]
    by_cases h22 : (mH S c).1 = 22
    · simp only [h22, true_and, if_true]
      by_cases hg : ma_is S c = true ∧ ma_ix S c j = true
      · rw [if_pos hg, if_neg (by omega), if_pos hg]; rfl
      · rw [if_neg hg, if_neg hg]; rfl
    · simp only [h22, if_false]
      by_cases hg : ma_is S c = true ∧ ma_ix S c j = true
      · rw [if_pos hg]
        by_cases h21 : (mH S c).1 = 21
        · rw [if_pos h21, if_pos ⟨hg.1, h21, hg.2⟩]; rfl
        · rw [if_neg h21, if_neg (fun z => h21 z.2.1)]; rfl
      · rw [if_neg hg, if_neg (fun z => hg ⟨z.1, z.2.2⟩)]; rfl
/-- a reference out of a row -/
theorem e_aald (hm : ma_md M = some (o, y, cc, nL, ret)) (hd : decode cc pc = .ok (.aaload, 1)) {j : Int32} {q : Option Nat} : ma_ev X d w M pc L (.inl j :: .inr (.inr q) :: r) S = k_r q (fun c => if (mH S c).1 = 25 then k_x S c 25 j (ma_ev X d w M (pc + 1) L (.inr (.inr (mR S c j.toNatClampNeg)) :: r) S) else k_x S c 24 j (ma_ev X d w M (pc + 1) L (.inr (.inr (mR S c j.toNatClampNeg)) :: r) S)) := by
  rw [e_hp hm hd rfl rfl rfl rfl rfl rfl rfl rfl rfl rfl (fun _ h => by cases h) rfl]
  cases q with
  | none => rfl
  | some c =>
    show _ = (if (mH S c).1 = 25 then k_x S c 25 j _ else k_x S c 24 j _)
    unfold k_x ma_hp
    simp only [Bool.and_eq_true, Bool.or_eq_true, decide_eq_true_eq, and_assoc]
    by_cases h22 : (mH S c).1 = 25
    · simp only [h22, or_true, true_and, if_true]
      split <;> rfl
    · simp only [h22, or_false, if_false]
      split <;> rfl
end MA18
