/-! from 94.437 -/
/-! by regions: room is found -/
section RG3
variable {m : Nat → Nat → Int32} {c k : Nat} {si rg pr x v : Int32} {us at₉ ws rt : Nat → Int32}
/-- some words of the present region are taken -/
theorem RG_take (h : zRG1 si rg pr us at₉ ws rt) (hs : si.toInt ≤ 256) (hr : rg.toInt ≤ 93) : 0 ≤ (pr * si).toInt ∧ (pr * si).toInt + si.toInt ≤ 1500 ∧ (pr * si).toInt + si.toInt ≤ rg.toInt * si.toInt ∧ (rt pr.toNatClampNeg).toInt ≤ si.toInt := by
  have b := RG_mul h h.2.2.2.1.1 h.2.2.2.1.2 hs hr
  exact ⟨b.1, b.2.1, b.2.2, RG_top h h.2.2.2.1.1 h.2.2.2.1.2⟩
end RG3
theorem LE_some {rt : Nat → Int32} {rg v : Int32} (h : zLE rt rg v) : 0 ≤ v.toInt → ∃ r : Nat, (r : Int) < rg.toInt ∧ rt r = 0 := fun z => ⟨v.toNatClampNeg, by rw [tn_cast z]; exact (LE_ge h z).1, (LE_ge h z).2⟩

/-! from 94.438 -/
/-! the reference (written by wip/tools/gen94m.py) -/
set_option maxRecDepth 100000 in
theorem hm_232 : ma_md 232 = some (12, yX12_findInRegion, cX12_findInRegion, 3, (some (FieldType.int))) := rfl
theorem dX12_findInRegion_0 : decode cX12_findInRegion 0 = .ok (.aload_n 0, 1) := by decide +kernel
theorem dX12_findInRegion_4 : decode cX12_findInRegion 4 = .ok (.aload_n 0, 1) := by decide +kernel
theorem dX12_findInRegion_9 : decode cX12_findInRegion 9 = .ok (.iload_n 1, 1) := by decide +kernel
theorem dX12_findInRegion_10 : decode cX12_findInRegion 10 = .ok (.iadd, 1) := by decide +kernel
theorem dX12_findInRegion_11 : decode cX12_findInRegion 11 = .ok (.aload_n 0, 1) := by decide +kernel
theorem dX12_findInRegion_20 : decode cX12_findInRegion 20 = .ok (.aload_n 0, 1) := by decide +kernel
theorem dX12_findInRegion_24 : decode cX12_findInRegion 24 = .ok (.aload_n 0, 1) := by decide +kernel
theorem dX12_findInRegion_28 : decode cX12_findInRegion 28 = .ok (.imul, 1) := by decide +kernel
theorem dX12_findInRegion_29 : decode cX12_findInRegion 29 = .ok (.aload_n 0, 1) := by decide +kernel
theorem dX12_findInRegion_33 : decode cX12_findInRegion 33 = .ok (.aload_n 0, 1) := by decide +kernel
theorem dX12_findInRegion_38 : decode cX12_findInRegion 38 = .ok (.iadd, 1) := by decide +kernel
theorem dX12_findInRegion_39 : decode cX12_findInRegion 39 = .ok (.istore_n 2, 1) := by decide +kernel
theorem dX12_findInRegion_40 : decode cX12_findInRegion 40 = .ok (.aload_n 0, 1) := by decide +kernel
theorem dX12_findInRegion_44 : decode cX12_findInRegion 44 = .ok (.aload_n 0, 1) := by decide +kernel
theorem dX12_findInRegion_48 : decode cX12_findInRegion 48 = .ok (.dup2, 1) := by decide +kernel
theorem dX12_findInRegion_50 : decode cX12_findInRegion 50 = .ok (.iload_n 1, 1) := by decide +kernel
theorem dX12_findInRegion_51 : decode cX12_findInRegion 51 = .ok (.iadd, 1) := by decide +kernel
theorem dX12_findInRegion_53 : decode cX12_findInRegion 53 = .ok (.iload_n 2, 1) := by decide +kernel
theorem dX12_findInRegion_54 : decode cX12_findInRegion 54 = .ok (.ireturn, 1) := by decide +kernel
theorem dX12_findInRegion_52 : decode cX12_findInRegion 52 = .ok (.iastore, 1) := by decide +kernel
theorem dX12_findInRegion_49 : decode cX12_findInRegion 49 = .ok (.iaload, 1) := by decide +kernel
theorem dX12_findInRegion_45 : decode cX12_findInRegion 45 = .ok (.getfield 285, 3) := by decide +kernel
theorem dX12_findInRegion_41 : decode cX12_findInRegion 41 = .ok (.getfield 80, 3) := by decide +kernel
theorem dX12_findInRegion_37 : decode cX12_findInRegion 37 = .ok (.iaload, 1) := by decide +kernel
theorem dX12_findInRegion_34 : decode cX12_findInRegion 34 = .ok (.getfield 285, 3) := by decide +kernel
theorem dX12_findInRegion_30 : decode cX12_findInRegion 30 = .ok (.getfield 80, 3) := by decide +kernel
theorem dX12_findInRegion_25 : decode cX12_findInRegion 25 = .ok (.getfield 222, 3) := by decide +kernel
theorem dX12_findInRegion_21 : decode cX12_findInRegion 21 = .ok (.getfield 285, 3) := by decide +kernel
theorem dX12_findInRegion_18 : decode cX12_findInRegion 18 = .ok (.iconst (-1), 1) := by decide +kernel
theorem dX12_findInRegion_19 : decode cX12_findInRegion 19 = .ok (.ireturn, 1) := by decide +kernel
theorem dX12_findInRegion_15 : decode cX12_findInRegion 15 = .ok (.if_icmp .le 5, 3) := by decide +kernel
theorem dX12_findInRegion_12 : decode cX12_findInRegion 12 = .ok (.getfield 222, 3) := by decide +kernel
theorem dX12_findInRegion_8 : decode cX12_findInRegion 8 = .ok (.iaload, 1) := by decide +kernel
theorem dX12_findInRegion_5 : decode cX12_findInRegion 5 = .ok (.getfield 285, 3) := by decide +kernel
theorem dX12_findInRegion_1 : decode cX12_findInRegion 1 = .ok (.getfield 80, 3) := by decide +kernel
def wr_232 (c _ : Nat) : Bool := Nat.beq c 116
theorem g_232_0 {X : Nat × (Nat → Int32)} {m : Nat → Nat → Int32} {P : Option ma_V → (Nat → Nat → Int32) → Prop} (nw : Int32) (h : (0 ≤ (m 94 63) ∧ (m 94 63).toNatClampNeg < 128) ∧ (if ((m 116 (m 94 63).toNatClampNeg) + nw) ≤ (m 94 18) then ((0 ≤ (m 94 63) ∧ (m 94 63).toNatClampNeg < 128) ∧ ((0 ≤ (m 94 63) ∧ (m 94 63).toNatClampNeg < 128) ∧ ((0 ≤ (m 94 63) ∧ (m 94 63).toNatClampNeg < 128) ∧ (P (some (.inl (((m 94 63) * (m 94 18)) + (m 116 (m 94 63).toNatClampNeg)))) (ma_u m 116 (m 94 63).toNatClampNeg ((m 116 (m 94 63).toNatClampNeg) + nw)))))) else (P (some (.inl (-1 : Int32))) m))) : zm X 0 0 232 0 [(0, .inr (.inr (some 94))), (1, .inl nw)] m P := by
  intro d w S Q hd hw hS hm HQ
  subst hm
  refine zw_push hm_232 dX12_findInRegion_0 (v := .inr (.inr (some 94))) rfl ?_
  refine zw_gf hm_232 dX12_findInRegion_1 (v := .inr (.inr (some 116))) (zT_is hS s_94) (zT_t hS s_94) rfl f_12_80_12 (zT_f hS r_94_65) ?_
  refine zw_push hm_232 dX12_findInRegion_4 (v := .inr (.inr (some 94))) rfl ?_
  refine zw_gf hm_232 dX12_findInRegion_5 (v := .inl ((mI S) 94 63)) (zT_is hS s_94) (zT_t hS s_94) rfl f_12_285_12 rfl ?_
  obtain ⟨hg, h⟩ := h
  refine zw_ia hm_232 dX12_findInRegion_8 (zT_is hS s_116) (zT_h hS s_116) rfl hg ?_
  show ma_wp X d w 232 9 [(0, .inr (.inr (some 94))), (1, .inl nw)] [.inl ((mI S) 116 ((mI S) 94 63).toNatClampNeg)] S _
  refine zw_push hm_232 dX12_findInRegion_9 (v := .inl nw) rfl ?_
  refine zw_stk hm_232 dX12_findInRegion_10 (st₉ := [.inl (((mI S) 116 ((mI S) 94 63).toNatClampNeg) + nw)]) rfl rfl ?_
  refine zw_push hm_232 dX12_findInRegion_11 (v := .inr (.inr (some 94))) rfl ?_
  refine zw_gf hm_232 dX12_findInRegion_12 (v := .inl ((mI S) 94 18)) (zT_is hS s_94) (zT_t hS s_94) rfl f_12_222_12 rfl ?_
  refine zw_if2 hm_232 dX12_findInRegion_15 (t := 20) rfl zc2_le ?_ ?_
  · intro hc
    rw [if_pos hc] at h
    refine zw_push hm_232 dX12_findInRegion_20 (v := .inr (.inr (some 94))) rfl ?_
    refine zw_gf hm_232 dX12_findInRegion_21 (v := .inl ((mI S) 94 63)) (zT_is hS s_94) (zT_t hS s_94) rfl f_12_285_12 rfl ?_
    refine zw_push hm_232 dX12_findInRegion_24 (v := .inr (.inr (some 94))) rfl ?_
    refine zw_gf hm_232 dX12_findInRegion_25 (v := .inl ((mI S) 94 18)) (zT_is hS s_94) (zT_t hS s_94) rfl f_12_222_12 rfl ?_
    refine zw_stk hm_232 dX12_findInRegion_28 (st₉ := [.inl (((mI S) 94 63) * ((mI S) 94 18))]) rfl rfl ?_
    refine zw_push hm_232 dX12_findInRegion_29 (v := .inr (.inr (some 94))) rfl ?_
    refine zw_gf hm_232 dX12_findInRegion_30 (v := .inr (.inr (some 116))) (zT_is hS s_94) (zT_t hS s_94) rfl f_12_80_12 (zT_f hS r_94_65) ?_
    refine zw_push hm_232 dX12_findInRegion_33 (v := .inr (.inr (some 94))) rfl ?_
    refine zw_gf hm_232 dX12_findInRegion_34 (v := .inl ((mI S) 94 63)) (zT_is hS s_94) (zT_t hS s_94) rfl f_12_285_12 rfl ?_
    obtain ⟨hg, h⟩ := h
    refine zw_ia hm_232 dX12_findInRegion_37 (zT_is hS s_116) (zT_h hS s_116) rfl hg ?_
    show ma_wp X d w 232 38 [(0, .inr (.inr (some 94))), (1, .inl nw)] [.inl ((mI S) 116 ((mI S) 94 63).toNatClampNeg), .inl (((mI S) 94 63) * ((mI S) 94 18))] S _
    refine zw_stk hm_232 dX12_findInRegion_38 (st₉ := [.inl ((((mI S) 94 63) * ((mI S) 94 18)) + ((mI S) 116 ((mI S) 94 63).toNatClampNeg))]) rfl rfl ?_
    refine zw_sto hm_232 dX12_findInRegion_39 [(2, .inl ((((mI S) 94 63) * ((mI S) 94 18)) + ((mI S) 116 ((mI S) 94 63).toNatClampNeg))), (0, .inr (.inr (some 94))), (1, .inl nw)] rfl rfl rfl ?_
    refine zw_push hm_232 dX12_findInRegion_40 (v := .inr (.inr (some 94))) rfl ?_
    refine zw_gf hm_232 dX12_findInRegion_41 (v := .inr (.inr (some 116))) (zT_is hS s_94) (zT_t hS s_94) rfl f_12_80_12 (zT_f hS r_94_65) ?_
    refine zw_push hm_232 dX12_findInRegion_44 (v := .inr (.inr (some 94))) rfl ?_
    refine zw_gf hm_232 dX12_findInRegion_45 (v := .inl ((mI S) 94 63)) (zT_is hS s_94) (zT_t hS s_94) rfl f_12_285_12 rfl ?_
    refine zw_stk hm_232 dX12_findInRegion_48 (st₉ := [.inl ((mI S) 94 63), .inr (.inr (some 116)), .inl ((mI S) 94 63), .inr (.inr (some 116))]) rfl rfl ?_
    obtain ⟨hg, h⟩ := h
    refine zw_ia hm_232 dX12_findInRegion_49 (zT_is hS s_116) (zT_h hS s_116) rfl hg ?_
    show ma_wp X d w 232 50 [(2, .inl ((((mI S) 94 63) * ((mI S) 94 18)) + ((mI S) 116 ((mI S) 94 63).toNatClampNeg))), (0, .inr (.inr (some 94))), (1, .inl nw)] [.inl ((mI S) 116 ((mI S) 94 63).toNatClampNeg), .inl ((mI S) 94 63), .inr (.inr (some 116))] S _
    refine zw_push hm_232 dX12_findInRegion_50 (v := .inl nw) rfl ?_
    refine zw_stk hm_232 dX12_findInRegion_51 (st₉ := [.inl (((mI S) 116 ((mI S) 94 63).toNatClampNeg) + nw), .inl ((mI S) 94 63), .inr (.inr (some 116))]) rfl rfl ?_
    obtain ⟨hg, h⟩ := h
    refine zw_ias hm_232 dX12_findInRegion_52 (zT_is hS s_116) (zT_h hS s_116) rfl hg ?_
    refine zw_push hm_232 dX12_findInRegion_53 (v := .inl ((((mI S) 94 63) * ((mI S) 94 18)) + ((mI S) 116 ((mI S) 94 63).toNatClampNeg))) rfl ?_
    exact zw_iret hm_232 dX12_findInRegion_54 (HQ _ _ h)
  · intro hc
    rw [if_neg hc] at h
    refine zw_push hm_232 dX12_findInRegion_18 (v := .inl (-1 : Int32)) rfl ?_
    exact zw_iret hm_232 dX12_findInRegion_19 (HQ _ _ h)
theorem sp_232 {X : Nat × (Nat → Int32)} {P : Option ma_V → (Nat → Nat → Int32) → Prop} {m : Nat → Nat → Int32} (nw : Int32) (hV : zV m) (hpre0 : 1 ≤ nw.toInt) (hpre1 : nw.toInt ≤ 61) (r_RG : zRG1 (m 94 18) (m 94 64) (m 94 63) (m 99) (m 103) (m 102) (m 116)) (KZ : ∀ v m₉, zV (zov wr_232 m m₉) → (zRG1 (m 94 18) (m 94 64) (m 94 63) (m 99) (m 103) (m 102) (m₉ 116)) → (v.toInt = -1 ∨ (0 ≤ v.toInt ∧ v.toInt + nw.toInt ≤ (m 94 64).toInt * (m 94 18).toInt ∧ nw.toInt ≤ (m 94 18).toInt)) → (-1 ≤ v.toInt ∧ v.toInt ≤ 1500) → P (some (.inl v)) (zov wr_232 m m₉)) : zm X 0 0 232 0 [(0, .inr (.inr (some 94))), (1, .inl nw)] m P := by
  have K : ∀ v m₉, zF wr_232 m m₉ → zV m₉ → (zRG1 (m₉ 94 18) (m₉ 94 64) (m₉ 94 63) (m₉ 99) (m₉ 103) (m₉ 102) (m₉ 116)) → (v.toInt = -1 ∨ (0 ≤ v.toInt ∧ v.toInt + nw.toInt ≤ (m₉ 94 64).toInt * (m₉ 94 18).toInt ∧ nw.toInt ≤ (m₉ 94 18).toInt)) → (-1 ≤ v.toInt ∧ v.toInt ≤ 1500) → P (some (.inl v)) m₉ := by
    intro v m₉ hf z q0 q1 q2
    have e := zov_eq hf
    rw [e] at z ⊢
    try rw [e] at q0
    try rw [e] at q1
    try rw [e] at q2
    exact KZ v m₉ z q0 q1 q2
  refine g_232_0 nw ?_
  have f1 : 0 ≤ (m 94 63).toInt ∧ (m 94 63).toInt ≤ 127 := rs_94_63 (m := m) hV
  try have rpr := r_RG.2.2.2.1
  try have rsi := r_RG.1
  try have rrg := r_RG.2.1
  try have rtk := RG_take r_RG (by have := rs_94_18 hV; omega) (by have := rs_94_64 hV; omega)
  have hg2 : (0 ≤ (m 94 63) ∧ (m 94 63).toNatClampNeg < 128) := i_ix (by omega) (by omega)
  refine ⟨hg2, ?_⟩
  first | have f3 : 0 ≤ (m 116 (m 94 63).toNatClampNeg).toInt ∧ (m 116 (m 94 63).toNatClampNeg).toInt ≤ 4600 := ra_116 (m := m) hV (k := (m 94 63).toNatClampNeg) (i_ix (n := 128) (by omega) (by omega)).2 | have b4 := i_bd (m 116 (m 94 63).toNatClampNeg)
  have b5 := i_bd nw
  first | have e6 : ((m 116 (m 94 63).toNatClampNeg) + nw).toInt = (m 116 (m 94 63).toNatClampNeg).toInt + nw.toInt := i_add (by omega) (by omega) | have b7 := i_bd ((m 116 (m 94 63).toNatClampNeg) + nw)
  have f8 : 0 ≤ (m 94 18).toInt ∧ (m 94 18).toInt ≤ 256 := rs_94_18 (m := m) hV
  refine zd (fun (h9 : ((m 116 (m 94 63).toNatClampNeg) + nw) ≤ (m 94 18)) => ?_) (fun (h9 : ¬ ((m 116 (m 94 63).toNatClampNeg) + nw) ≤ (m 94 18)) => ?_)
  · skip
    have g10 := i_le h9
    try have rpr := r_RG.2.2.2.1
    try have rsi := r_RG.1
    try have rrg := r_RG.2.1
    try have rtk := RG_take r_RG (by have := rs_94_18 hV; omega) (by have := rs_94_64 hV; omega)
    have hg11 : (0 ≤ (m 94 63) ∧ (m 94 63).toNatClampNeg < 128) := i_ix (by omega) (by omega)
    refine ⟨hg11, ?_⟩
    try have rpr := r_RG.2.2.2.1
    try have rsi := r_RG.1
    try have rrg := r_RG.2.1
    try have rtk := RG_take r_RG (by have := rs_94_18 hV; omega) (by have := rs_94_64 hV; omega)
    have hg12 : (0 ≤ (m 94 63) ∧ (m 94 63).toNatClampNeg < 128) := i_ix (by omega) (by omega)
    refine ⟨hg12, ?_⟩
    try have rpr := r_RG.2.2.2.1
    try have rsi := r_RG.1
    try have rrg := r_RG.2.1
    try have rtk := RG_take r_RG (by have := rs_94_18 hV; omega) (by have := rs_94_64 hV; omega)
    have hg13 : (0 ≤ (m 94 63) ∧ (m 94 63).toNatClampNeg < 128) := i_ix (by omega) (by omega)
    refine ⟨hg13, ?_⟩
    try have rpr := r_RG.2.2.2.1
    try have rsi := r_RG.1
    try have rrg := r_RG.2.1
    try have rtk := RG_take r_RG (by have := rs_94_18 hV; omega) (by have := rs_94_64 hV; omega)
    have hV14 : zV (ma_u m 116 (m 94 63).toNatClampNeg ((m 116 (m 94 63).toNatClampNeg) + nw)) := ua_116 hV (by omega) (by omega)
    first | have f15 := i_muln (x := (m 94 63)) (y := (m 94 18)) (by omega) (by omega) (by omega) (by omega) | have b16 := i_bd ((m 94 63) * (m 94 18))
    first | have e17 : (((m 94 63) * (m 94 18)) + (m 116 (m 94 63).toNatClampNeg)).toInt = ((m 94 63) * (m 94 18)).toInt + (m 116 (m 94 63).toNatClampNeg).toInt := i_add (by omega) (by omega) | have b18 := i_bd (((m 94 63) * (m 94 18)) + (m 116 (m 94 63).toNatClampNeg))
    exact K ((((m 94 63) * (m 94 18)) + (m 116 (m 94 63).toNatClampNeg))) _ (zF_u zF_rfl rfl) hV14 (show zRG1 (m 94 18) (m 94 64) (m 94 63) (m 99) (m 103) (m 102) ((ma_u m 116 (m 94 63).toNatClampNeg ((m 116 (m 94 63).toNatClampNeg) + nw)) 116) from by first | (exact RG_put r_RG (by omega)) | (exfalso; omega; done) | (exfalso; contradiction; done)) (show (((m 94 63) * (m 94 18)) + (m 116 (m 94 63).toNatClampNeg)).toInt = -1 ∨ (0 ≤ (((m 94 63) * (m 94 18)) + (m 116 (m 94 63).toNatClampNeg)).toInt ∧ (((m 94 63) * (m 94 18)) + (m 116 (m 94 63).toNatClampNeg)).toInt + nw.toInt ≤ (m 94 64).toInt * (m 94 18).toInt ∧ nw.toInt ≤ (m 94 18).toInt) from by first | (exact Or.inl (by decide)) | (exact Or.inr ⟨by omega, by omega, by omega⟩) | (exfalso; omega; done) | (exfalso; contradiction; done)) (show -1 ≤ (((m 94 63) * (m 94 18)) + (m 116 (m 94 63).toNatClampNeg)).toInt ∧ (((m 94 63) * (m 94 18)) + (m 116 (m 94 63).toNatClampNeg)).toInt ≤ 1500 from by omega)
  · skip
    have g19 := i_nle h9
    try have rpr := r_RG.2.2.2.1
    try have rsi := r_RG.1
    try have rrg := r_RG.2.1
    try have rtk := RG_take r_RG (by have := rs_94_18 hV; omega) (by have := rs_94_64 hV; omega)
    have li20 : (-1 : Int32).toInt = -1 := rfl
    exact K ((-1 : Int32)) _ zF_rfl hV r_RG (show (-1 : Int32).toInt = -1 ∨ (0 ≤ (-1 : Int32).toInt ∧ (-1 : Int32).toInt + nw.toInt ≤ (m 94 64).toInt * (m 94 18).toInt ∧ nw.toInt ≤ (m 94 18).toInt) from by first | (exact Or.inl (by decide)) | (exact Or.inr ⟨by omega, by omega, by omega⟩) | (exfalso; omega; done) | (exfalso; contradiction; done)) (show -1 ≤ (-1 : Int32).toInt ∧ (-1 : Int32).toInt ≤ 1500 from by omega)

/-! from 94.439 -/
/-! the reference (written by wip/tools/gen94m.py) -/
set_option maxRecDepth 100000 in
theorem hm_231 : ma_md 231 = some (12, yX12_findInRegions, cX12_findInRegions, 4, (some (FieldType.int))) := rfl
theorem v_12_451_12 : ma_vl 12 451 12 = some (1, 232, 1) := by decide +kernel
theorem v_12_454_12 : ma_vl 12 454 12 = some (1, 233, 0) := by decide +kernel
theorem v_12_457_12 : ma_vl 12 457 12 = some (1, 235, 0) := by decide +kernel
theorem dX12_findInRegions_0 : decode cX12_findInRegions 0 = .ok (.iload_n 1, 1) := by decide +kernel
theorem dX12_findInRegions_1 : decode cX12_findInRegions 1 = .ok (.aload_n 0, 1) := by decide +kernel
theorem dX12_findInRegions_10 : decode cX12_findInRegions 10 = .ok (.aload_n 0, 1) := by decide +kernel
theorem dX12_findInRegions_11 : decode cX12_findInRegions 11 = .ok (.iload_n 1, 1) := by decide +kernel
theorem dX12_findInRegions_12 : decode cX12_findInRegions 12 = .ok (.invokevirtual 451, 3) := by decide +kernel
theorem dX12_findInRegions_15 : decode cX12_findInRegions 15 = .ok (.istore_n 2, 1) := by decide +kernel
theorem dX12_findInRegions_16 : decode cX12_findInRegions 16 = .ok (.iload_n 2, 1) := by decide +kernel
theorem dX12_findInRegions_22 : decode cX12_findInRegions 22 = .ok (.aload_n 0, 1) := by decide +kernel
theorem dX12_findInRegions_23 : decode cX12_findInRegions 23 = .ok (.invokevirtual 454, 3) := by decide +kernel
theorem dX12_findInRegions_26 : decode cX12_findInRegions 26 = .ok (.iconst 2, 1) := by decide +kernel
theorem dX12_findInRegions_41 : decode cX12_findInRegions 41 = .ok (.aload_n 0, 1) := by decide +kernel
theorem dX12_findInRegions_42 : decode cX12_findInRegions 42 = .ok (.invokevirtual 457, 3) := by decide +kernel
theorem dX12_findInRegions_45 : decode cX12_findInRegions 45 = .ok (.istore_n 3, 1) := by decide +kernel
theorem dX12_findInRegions_46 : decode cX12_findInRegions 46 = .ok (.aload_n 0, 1) := by decide +kernel
theorem dX12_findInRegions_47 : decode cX12_findInRegions 47 = .ok (.iload_n 1, 1) := by decide +kernel
theorem dX12_findInRegions_48 : decode cX12_findInRegions 48 = .ok (.invokevirtual 451, 3) := by decide +kernel
theorem dX12_findInRegions_51 : decode cX12_findInRegions 51 = .ok (.istore_n 2, 1) := by decide +kernel
theorem dX12_findInRegions_52 : decode cX12_findInRegions 52 = .ok (.iload_n 2, 1) := by decide +kernel
theorem dX12_findInRegions_58 : decode cX12_findInRegions 58 = .ok (.aload_n 0, 1) := by decide +kernel
theorem dX12_findInRegions_59 : decode cX12_findInRegions 59 = .ok (.invokevirtual 417, 3) := by decide +kernel
theorem dX12_findInRegions_67 : decode cX12_findInRegions 67 = .ok (.aload_n 0, 1) := by decide +kernel
theorem dX12_findInRegions_68 : decode cX12_findInRegions 68 = .ok (.aload_n 0, 1) := by decide +kernel
theorem dX12_findInRegions_69 : decode cX12_findInRegions 69 = .ok (.invokevirtual 417, 3) := by decide +kernel
theorem dX12_findInRegions_75 : decode cX12_findInRegions 75 = .ok (.aload_n 0, 1) := by decide +kernel
theorem dX12_findInRegions_76 : decode cX12_findInRegions 76 = .ok (.iload_n 1, 1) := by decide +kernel
theorem dX12_findInRegions_77 : decode cX12_findInRegions 77 = .ok (.invokevirtual 451, 3) := by decide +kernel
theorem dX12_findInRegions_80 : decode cX12_findInRegions 80 = .ok (.ireturn, 1) := by decide +kernel
theorem dX12_findInRegions_72 : decode cX12_findInRegions 72 = .ok (.putfield 285, 3) := by decide +kernel
theorem dX12_findInRegions_65 : decode cX12_findInRegions 65 = .ok (.iconst (-1), 1) := by decide +kernel
theorem dX12_findInRegions_66 : decode cX12_findInRegions 66 = .ok (.ireturn, 1) := by decide +kernel
theorem dX12_findInRegions_62 : decode cX12_findInRegions 62 = .ok (.ifCond .ge 5, 3) := by decide +kernel
theorem dX12_findInRegions_56 : decode cX12_findInRegions 56 = .ok (.iload_n 2, 1) := by decide +kernel
theorem dX12_findInRegions_57 : decode cX12_findInRegions 57 = .ok (.ireturn, 1) := by decide +kernel
theorem dX12_findInRegions_53 : decode cX12_findInRegions 53 = .ok (.ifCond .lt 5, 3) := by decide +kernel
theorem dX12_findInRegions_30 : decode cX12_findInRegions 30 = .ok (.aload_n 0, 1) := by decide +kernel
theorem dX12_findInRegions_31 : decode cX12_findInRegions 31 = .ok (.aload_n 0, 1) := by decide +kernel
theorem dX12_findInRegions_32 : decode cX12_findInRegions 32 = .ok (.invokevirtual 417, 3) := by decide +kernel
theorem dX12_findInRegions_38 : decode cX12_findInRegions 38 = .ok (.goto 37, 3) := by decide +kernel
theorem dX12_findInRegions_35 : decode cX12_findInRegions 35 = .ok (.putfield 285, 3) := by decide +kernel
theorem dX12_findInRegions_27 : decode cX12_findInRegions 27 = .ok (.if_icmp .lt 14, 3) := by decide +kernel
theorem dX12_findInRegions_20 : decode cX12_findInRegions 20 = .ok (.iload_n 2, 1) := by decide +kernel
theorem dX12_findInRegions_21 : decode cX12_findInRegions 21 = .ok (.ireturn, 1) := by decide +kernel
theorem dX12_findInRegions_17 : decode cX12_findInRegions 17 = .ok (.ifCond .lt 5, 3) := by decide +kernel
theorem dX12_findInRegions_8 : decode cX12_findInRegions 8 = .ok (.iconst (-1), 1) := by decide +kernel
theorem dX12_findInRegions_9 : decode cX12_findInRegions 9 = .ok (.ireturn, 1) := by decide +kernel
theorem dX12_findInRegions_5 : decode cX12_findInRegions 5 = .ok (.if_icmp .le 5, 3) := by decide +kernel
theorem dX12_findInRegions_2 : decode cX12_findInRegions 2 = .ok (.getfield 222, 3) := by decide +kernel
def wr_231 (c k : Nat) : Bool := Nat.beq c 99 || Nat.beq c 103 || Nat.beq c 105 || Nat.beq c 109 || Nat.beq c 110 || Nat.beq c 111 || Nat.beq c 113 || Nat.beq c 114 || Nat.beq c 116 || Nat.beq c 118 || Nat.beq c 122 || Nat.beq c 123 || Nat.beq c 124 || (Nat.beq c 94 && (Nat.beq k 44 || Nat.beq k 45 || Nat.beq k 47 || Nat.beq k 48 || Nat.beq k 49 || Nat.beq k 55 || Nat.beq k 63 || Nat.beq k 73))
theorem ws_232_231 : ∀ c k, wr_232 c k = true → wr_231 c k = true := by
  intro c k h
  simp only [wr_232, wr_231, Bool.or_eq_true, Bool.and_eq_true, Nat.beq_eq] at h ⊢
  omega
theorem ws_233_231 : ∀ c k, wr_233 c k = true → wr_231 c k = true := fun _ _ h => by cases h
theorem ws_234_231 : ∀ c k, wr_234 c k = true → wr_231 c k = true := fun _ _ h => by cases h
theorem ws_235_231 : ∀ c k, wr_235 c k = true → wr_231 c k = true := by
  intro c k h
  simp only [wr_235, wr_231, Bool.or_eq_true, Bool.and_eq_true, Nat.beq_eq] at h ⊢
  omega
theorem g_231_0 {X : Nat × (Nat → Int32)} {m : Nat → Nat → Int32} {P : Option ma_V → (Nat → Nat → Int32) → Prop} (nw : Int32) (h : if nw ≤ (m 94 18) then (zm X 0 0 232 0 [(0, .inr (.inr (some 94))), (1, .inl nw)] m (zmi (fun v2 m1 => if v2 < 0 then (zm X 0 0 233 0 [(0, .inr (.inr (some 94)))] m1 (zmi (fun v4 m3 => if v4 < (2 : Int32) then (zm X 5 108 235 0 [(0, .inr (.inr (some 94)))] m3 (zmi (fun v6 m5 => zm X 0 0 232 0 [(0, .inr (.inr (some 94))), (1, .inl nw)] m5 (zmi (fun v8 m7 => if v8 < 0 then (zm X 0 0 234 0 [(0, .inr (.inr (some 94)))] m7 (zmi (fun v10 m9 => if 0 ≤ v10 then (zm X 0 0 234 0 [(0, .inr (.inr (some 94)))] m9 (zmi (fun v12 m11 => zm X 0 0 232 0 [(0, .inr (.inr (some 94))), (1, .inl nw)] (ma_u m11 94 63 v12) (zmi (fun v14 m13 => P (some (.inl v14)) m13))))) else (P (some (.inl (-1 : Int32))) m9)))) else (P (some (.inl v8)) m7)))))) else (zm X 0 0 234 0 [(0, .inr (.inr (some 94)))] m3 (zmi (fun v16 m15 => zm X 0 0 232 0 [(0, .inr (.inr (some 94))), (1, .inl nw)] (ma_u m15 94 63 v16) (zmi (fun v18 m17 => P (some (.inl v18)) m17)))))))) else (P (some (.inl v2)) m1)))) else (P (some (.inl (-1 : Int32))) m)) : zm X 6 137 231 0 [(0, .inr (.inr (some 94))), (1, .inl nw)] m P := by
  intro d w S Q hd hw hS hm HQ
  subst hm
  refine zw_push hm_231 dX12_findInRegions_0 (v := .inl nw) rfl ?_
  refine zw_push hm_231 dX12_findInRegions_1 (v := .inr (.inr (some 94))) rfl ?_
  refine zw_gf hm_231 dX12_findInRegions_2 (v := .inl ((mI S) 94 18)) (zT_is hS s_94) (zT_t hS s_94) rfl f_12_222_12 rfl ?_
  refine zw_if2 hm_231 dX12_findInRegions_5 (t := 10) rfl zc2_le ?_ ?_
  · intro hc
    rw [if_pos hc] at h
    refine zw_push hm_231 dX12_findInRegions_10 (v := .inr (.inr (some 94))) rfl ?_
    refine zw_push hm_231 dX12_findInRegions_11 (v := .inl nw) rfl ?_
    refine zw_cv hm_231 dX12_findInRegions_12 v_12_451_12 hm_232 [.inl nw] [] rfl (zT_rt hS s_94 rfl) ⟨by omega, by omega⟩ rfl (h _ _ S _ (by omega) (by omega) hS rfl (fun o9 m1 hv => ?_))
    obtain ⟨v2, rfl, h⟩ := zmi_of hv
    show ma_wp X d w 231 15 [(0, .inr (.inr (some 94))), (1, .inl nw)] [.inl v2] (zst S m1) _
    refine zw_sto hm_231 dX12_findInRegions_15 [(2, .inl v2), (0, .inr (.inr (some 94))), (1, .inl nw)] rfl rfl rfl ?_
    refine zw_push hm_231 dX12_findInRegions_16 (v := .inl v2) rfl ?_
    refine zw_if0 hm_231 dX12_findInRegions_17 (t := 22) rfl zc0_lt ?_ ?_
    · intro hc
      rw [if_pos hc] at h
      refine zw_push hm_231 dX12_findInRegions_22 (v := .inr (.inr (some 94))) rfl ?_
      refine zw_cv hm_231 dX12_findInRegions_23 v_12_454_12 hm_233 [] [] rfl (zT_rt (zT_zst hS m1) s_94 rfl) ⟨by omega, by omega⟩ rfl (h _ _ (zst S m1) _ (by omega) (by omega) (zT_zst hS m1) rfl (fun o9 m3 hv => ?_))
      obtain ⟨v4, rfl, h⟩ := zmi_of hv
      show ma_wp X d w 231 26 [(2, .inl v2), (0, .inr (.inr (some 94))), (1, .inl nw)] [.inl v4] (zst S m3) _
      refine zw_push hm_231 dX12_findInRegions_26 (v := .inl (2 : Int32)) rfl ?_
      refine zw_if2 hm_231 dX12_findInRegions_27 (t := 41) rfl zc2_lt ?_ ?_
      · intro hc
        rw [if_pos hc] at h
        refine zw_push hm_231 dX12_findInRegions_41 (v := .inr (.inr (some 94))) rfl ?_
        refine zw_cv hm_231 dX12_findInRegions_42 v_12_457_12 hm_235 [] [] rfl (zT_rt (zT_zst hS m3) s_94 rfl) ⟨by omega, by omega⟩ rfl (h _ _ (zst S m3) _ (by omega) (by omega) (zT_zst hS m3) rfl (fun o9 m5 hv => ?_))
        obtain ⟨v6, rfl, h⟩ := zmi_of hv
        show ma_wp X d w 231 45 [(2, .inl v2), (0, .inr (.inr (some 94))), (1, .inl nw)] [.inl v6] (zst S m5) _
        refine zw_sto hm_231 dX12_findInRegions_45 [(3, .inl v6), (2, .inl v2), (0, .inr (.inr (some 94))), (1, .inl nw)] rfl rfl rfl ?_
        refine zw_push hm_231 dX12_findInRegions_46 (v := .inr (.inr (some 94))) rfl ?_
        refine zw_push hm_231 dX12_findInRegions_47 (v := .inl nw) rfl ?_
        refine zw_cv hm_231 dX12_findInRegions_48 v_12_451_12 hm_232 [.inl nw] [] rfl (zT_rt (zT_zst hS m5) s_94 rfl) ⟨by omega, by omega⟩ rfl (h _ _ (zst S m5) _ (by omega) (by omega) (zT_zst hS m5) rfl (fun o9 m7 hv => ?_))
        obtain ⟨v8, rfl, h⟩ := zmi_of hv
        show ma_wp X d w 231 51 [(3, .inl v6), (2, .inl v2), (0, .inr (.inr (some 94))), (1, .inl nw)] [.inl v8] (zst S m7) _
        refine zw_sto hm_231 dX12_findInRegions_51 [(2, .inl v8), (3, .inl v6), (0, .inr (.inr (some 94))), (1, .inl nw)] rfl rfl rfl ?_
        refine zw_push hm_231 dX12_findInRegions_52 (v := .inl v8) rfl ?_
        refine zw_if0 hm_231 dX12_findInRegions_53 (t := 58) rfl zc0_lt ?_ ?_
        · intro hc
          rw [if_pos hc] at h
          refine zw_push hm_231 dX12_findInRegions_58 (v := .inr (.inr (some 94))) rfl ?_
          refine zw_cv hm_231 dX12_findInRegions_59 v_12_417_12 hm_234 [] [] rfl (zT_rt (zT_zst hS m7) s_94 rfl) ⟨by omega, by omega⟩ rfl (h _ _ (zst S m7) _ (by omega) (by omega) (zT_zst hS m7) rfl (fun o9 m9 hv => ?_))
          obtain ⟨v10, rfl, h⟩ := zmi_of hv
          show ma_wp X d w 231 62 [(2, .inl v8), (3, .inl v6), (0, .inr (.inr (some 94))), (1, .inl nw)] [.inl v10] (zst S m9) _
          refine zw_if0 hm_231 dX12_findInRegions_62 (t := 67) rfl zc0_ge ?_ ?_
          · intro hc
            rw [if_pos hc] at h
            refine zw_push hm_231 dX12_findInRegions_67 (v := .inr (.inr (some 94))) rfl ?_
            refine zw_push hm_231 dX12_findInRegions_68 (v := .inr (.inr (some 94))) rfl ?_
            refine zw_cv hm_231 dX12_findInRegions_69 v_12_417_12 hm_234 [] [.inr (.inr (some 94))] rfl (zT_rt (zT_zst hS m9) s_94 rfl) ⟨by omega, by omega⟩ rfl (h _ _ (zst S m9) _ (by omega) (by omega) (zT_zst hS m9) rfl (fun o9 m11 hv => ?_))
            obtain ⟨v12, rfl, h⟩ := zmi_of hv
            show ma_wp X d w 231 72 [(2, .inl v8), (3, .inl v6), (0, .inr (.inr (some 94))), (1, .inl nw)] [.inl v12, .inr (.inr (some 94))] (zst S m11) _
            refine zw_pf hm_231 dX12_findInRegions_72 (zT_is (zT_zst hS m11) s_94) (zT_t (zT_zst hS m11) s_94) p_12_285_12 zk_int ?_
            refine zw_push hm_231 dX12_findInRegions_75 (v := .inr (.inr (some 94))) rfl ?_
            refine zw_push hm_231 dX12_findInRegions_76 (v := .inl nw) rfl ?_
            refine zw_cv hm_231 dX12_findInRegions_77 v_12_451_12 hm_232 [.inl nw] [] rfl (zT_rt (zT_pi (zT_zst hS m11)) s_94 rfl) ⟨by omega, by omega⟩ rfl (h _ _ (ma_put (zst S m11) 94 63 (.inl v12)) _ (by omega) (by omega) (zT_pi (zT_zst hS m11)) rfl (fun o9 m13 hv => ?_))
            obtain ⟨v14, rfl, h⟩ := zmi_of hv
            show ma_wp X d w 231 80 [(2, .inl v8), (3, .inl v6), (0, .inr (.inr (some 94))), (1, .inl nw)] [.inl v14] (zst S m13) _
            exact zw_iret hm_231 dX12_findInRegions_80 (HQ _ _ h)
          · intro hc
            rw [if_neg hc] at h
            refine zw_push hm_231 dX12_findInRegions_65 (v := .inl (-1 : Int32)) rfl ?_
            exact zw_iret hm_231 dX12_findInRegions_66 (HQ _ _ h)
        · intro hc
          rw [if_neg hc] at h
          refine zw_push hm_231 dX12_findInRegions_56 (v := .inl v8) rfl ?_
          exact zw_iret hm_231 dX12_findInRegions_57 (HQ _ _ h)
      · intro hc
        rw [if_neg hc] at h
        refine zw_push hm_231 dX12_findInRegions_30 (v := .inr (.inr (some 94))) rfl ?_
        refine zw_push hm_231 dX12_findInRegions_31 (v := .inr (.inr (some 94))) rfl ?_
        refine zw_cv hm_231 dX12_findInRegions_32 v_12_417_12 hm_234 [] [.inr (.inr (some 94))] rfl (zT_rt (zT_zst hS m3) s_94 rfl) ⟨by omega, by omega⟩ rfl (h _ _ (zst S m3) _ (by omega) (by omega) (zT_zst hS m3) rfl (fun o9 m15 hv => ?_))
        obtain ⟨v16, rfl, h⟩ := zmi_of hv
        show ma_wp X d w 231 35 [(2, .inl v2), (0, .inr (.inr (some 94))), (1, .inl nw)] [.inl v16, .inr (.inr (some 94))] (zst S m15) _
        refine zw_pf hm_231 dX12_findInRegions_35 (zT_is (zT_zst hS m15) s_94) (zT_t (zT_zst hS m15) s_94) p_12_285_12 zk_int ?_
        refine zw_goto hm_231 dX12_findInRegions_38 (t := 75) rfl ?_
        refine zw_push hm_231 dX12_findInRegions_75 (v := .inr (.inr (some 94))) rfl ?_
        refine zw_push hm_231 dX12_findInRegions_76 (v := .inl nw) rfl ?_
        refine zw_cv hm_231 dX12_findInRegions_77 v_12_451_12 hm_232 [.inl nw] [] rfl (zT_rt (zT_pi (zT_zst hS m15)) s_94 rfl) ⟨by omega, by omega⟩ rfl (h _ _ (ma_put (zst S m15) 94 63 (.inl v16)) _ (by omega) (by omega) (zT_pi (zT_zst hS m15)) rfl (fun o9 m17 hv => ?_))
        obtain ⟨v18, rfl, h⟩ := zmi_of hv
        show ma_wp X d w 231 80 [(2, .inl v2), (0, .inr (.inr (some 94))), (1, .inl nw)] [.inl v18] (zst S m17) _
        exact zw_iret hm_231 dX12_findInRegions_80 (HQ _ _ h)
    · intro hc
      rw [if_neg hc] at h
      refine zw_push hm_231 dX12_findInRegions_20 (v := .inl v2) rfl ?_
      exact zw_iret hm_231 dX12_findInRegions_21 (HQ _ _ h)
  · intro hc
    rw [if_neg hc] at h
    refine zw_push hm_231 dX12_findInRegions_8 (v := .inl (-1 : Int32)) rfl ?_
    exact zw_iret hm_231 dX12_findInRegions_9 (HQ _ _ h)
theorem sp_231 {X : Nat × (Nat → Int32)} {P : Option ma_V → (Nat → Nat → Int32) → Prop} {T : Nat} {m : Nat → Nat → Int32} (nw : Int32) (hV : zV m) (hpre0 : 1 ≤ nw.toInt) (hpre1 : nw.toInt ≤ 61) (r_W : zW (m 94 7) (m 98) (m 101) (m 102) (m 108)) (r_GW : zGW T (m 94 55) (m 109)) (r_GU : zGU T (m 94 46) (m 99)) (r_OW : zOw (m 99) (m 103) (m 111)) (r_DX : zDX (m 94 10) (m 99) (m 112) (m 113) (m 114) (m 94 55) (m 98) (m 101) (m 102) (m 108)) (r_RG : zRG1 (m 94 18) (m 94 64) (m 94 63) (m 99) (m 103) (m 102) (m 116)) (hpre8 : (m 94 10).toInt = 6) (KZ : ∀ v m₉, zV (zov wr_231 m m₉) → (zGW T (m₉ 94 55) (m₉ 109)) → (zGU T (m 94 46) (m₉ 99)) → (zOw (m₉ 99) (m₉ 103) (m₉ 111)) → (zDX (m 94 10) (m₉ 99) (m 112) (m₉ 113) (m₉ 114) (m₉ 94 55) (m 98) (m 101) (m 102) (m 108)) → (zRG1 (m 94 18) (m 94 64) (m₉ 94 63) (m₉ 99) (m₉ 103) (m 102) (m₉ 116)) → (v.toInt = -1 ∨ (0 ≤ v.toInt ∧ v.toInt + nw.toInt ≤ (m 94 64).toInt * (m 94 18).toInt ∧ nw.toInt ≤ (m 94 18).toInt)) → (-1 ≤ v.toInt ∧ v.toInt ≤ 1500) → P (some (.inl v)) (zov wr_231 m m₉)) : zm X 6 137 231 0 [(0, .inr (.inr (some 94))), (1, .inl nw)] m P := by
  have K : ∀ v m₉, zF wr_231 m m₉ → zV m₉ → (zGW T (m₉ 94 55) (m₉ 109)) → (zGU T (m₉ 94 46) (m₉ 99)) → (zOw (m₉ 99) (m₉ 103) (m₉ 111)) → (zDX (m₉ 94 10) (m₉ 99) (m₉ 112) (m₉ 113) (m₉ 114) (m₉ 94 55) (m₉ 98) (m₉ 101) (m₉ 102) (m₉ 108)) → (zRG1 (m₉ 94 18) (m₉ 94 64) (m₉ 94 63) (m₉ 99) (m₉ 103) (m₉ 102) (m₉ 116)) → (v.toInt = -1 ∨ (0 ≤ v.toInt ∧ v.toInt + nw.toInt ≤ (m₉ 94 64).toInt * (m₉ 94 18).toInt ∧ nw.toInt ≤ (m₉ 94 18).toInt)) → (-1 ≤ v.toInt ∧ v.toInt ≤ 1500) → P (some (.inl v)) m₉ := by
    intro v m₉ hf z q0 q1 q2 q3 q4 q5 q6
    have e := zov_eq hf
    rw [e] at z ⊢
    try rw [e] at q0
    try rw [e] at q1
    try rw [e] at q2
    try rw [e] at q3
    try rw [e] at q4
    try rw [e] at q5
    try rw [e] at q6
    exact KZ v m₉ z q0 q1 q2 q3 q4 q5 q6
  refine g_231_0 nw ?_
  have f1 : 0 ≤ (m 94 10).toInt ∧ (m 94 10).toInt ≤ 6 := rs_94_10 (m := m) hV
  have b2 := i_bd nw
  have f3 : 0 ≤ (m 94 18).toInt ∧ (m 94 18).toInt ≤ 256 := rs_94_18 (m := m) hV
  refine zd (fun (h4 : nw ≤ (m 94 18)) => ?_) (fun (h4 : ¬ nw ≤ (m 94 18)) => ?_)
  · skip
    have g5 := i_le h4
    refine sp_232 (nw) hV (by omega) (by omega) r_RG (fun v2 m1 hV_m1 p0_m1 p1_m1 p2_m1 => zmi_n ?_)
    have p0_m1 : zRG1 (m 94 18) (m 94 64) (m 94 63) (m 99) (m 103) (m 102) (m1 116) := p0_m1
    have p1_m1 : v2.toInt = -1 ∨ (0 ≤ v2.toInt ∧ v2.toInt + nw.toInt ≤ (m 94 64).toInt * (m 94 18).toInt ∧ nw.toInt ≤ (m 94 18).toInt) := p1_m1
    have p2_m1 : -1 ≤ v2.toInt ∧ v2.toInt ≤ 1500 := p2_m1
    have b6 := i_bd v2
    have li7 : (0 : Int32).toInt = 0 := rfl
    refine zd (fun (h8 : v2 < (0 : Int32)) => ?_) (fun (h8 : ¬ v2 < (0 : Int32)) => ?_)
    · skip
      have g9 := i_lt h8
      refine sp_233  hV_m1  (fun v4 m3 hV_m3 p0_m3 => zmi_n ?_)
      have p0_m3 : v4.toInt ≤ 0 ∨ ∃ r : Nat, (r : Int) < (m 94 64).toInt ∧ (m1 116) r = 0 := p0_m3
      have b10 := i_bd v4
      have li11 : (2 : Int32).toInt = 2 := rfl
      refine zd (fun (h12 : v4 < (2 : Int32)) => ?_) (fun (h12 : ¬ v4 < (2 : Int32)) => ?_)
      · skip
        have g13 := i_lt h12
        refine sp_235  hV_m3 r_W r_GW r_GU r_OW r_DX p0_m1 (show (m 94 10).toInt = 6 from by omega) (fun v6 m5 hV_m5 p0_m5 p1_m5 p2_m5 p3_m5 p4_m5 => zmi_n ?_)
        have p0_m5 : zGW T (m5 94 55) (m5 109) := p0_m5
        have p1_m5 : zGU T (m 94 46) (m5 99) := p1_m5
        have p2_m5 : zOw (m5 99) (m5 103) (m5 111) := p2_m5
        have p3_m5 : zDX (m 94 10) (m5 99) (m 112) (m5 113) (m5 114) (m5 94 55) (m 98) (m 101) (m 102) (m 108) := p3_m5
        have p4_m5 : zRG1 (m 94 18) (m 94 64) (m5 94 63) (m5 99) (m5 103) (m 102) (m5 116) := p4_m5
        refine sp_232 (nw) hV_m5 (by omega) (by omega) p4_m5 (fun v8 m7 hV_m7 p0_m7 p1_m7 p2_m7 => zmi_n ?_)
        have p0_m7 : zRG1 (m 94 18) (m 94 64) (m5 94 63) (m5 99) (m5 103) (m 102) (m7 116) := p0_m7
        have p1_m7 : v8.toInt = -1 ∨ (0 ≤ v8.toInt ∧ v8.toInt + nw.toInt ≤ (m 94 64).toInt * (m 94 18).toInt ∧ nw.toInt ≤ (m 94 18).toInt) := p1_m7
        have p2_m7 : -1 ≤ v8.toInt ∧ v8.toInt ≤ 1500 := p2_m7
        have b14 := i_bd v8
        refine zd (fun (h15 : v8 < (0 : Int32)) => ?_) (fun (h15 : ¬ v8 < (0 : Int32)) => ?_)
        · skip
          have g16 := i_lt h15
          refine sp_234  hV_m7  (fun v10 m9 hV_m9 p0_m9 => zmi_n ?_)
          have p0_m9 : zLE (m7 116) (m 94 64) v10 := p0_m9
          try have rgb := rs_94_64 hV
          try have lel := LE_lo p0_m9
          try have lex := LE_ex p0_m9 (p0_m3.elim (fun z => by omega) id)
          try have lex3 := LE_ex p0_m9 (lexi (by omega))
          try have lexi := LE_some p0_m9
          have b17 := i_bd v10
          refine zd (fun (h18 : (0 : Int32) ≤ v10) => ?_) (fun (h18 : ¬ (0 : Int32) ≤ v10) => ?_)
          · skip
            have g19 := i_le h18
            refine sp_234  hV_m9  (fun v12 m11 hV_m11 p0_m11 => zmi_n ?_)
            have p0_m11 : zLE (m7 116) (m 94 64) v12 := p0_m11
            try have rgb := rs_94_64 hV
            try have lel := LE_lo p0_m11
            try have lex := LE_ex p0_m11 (p0_m3.elim (fun z => by omega) id)
            try have lex3 := LE_ex p0_m11 (lexi (by omega))
            try have lexi := LE_some p0_m11
            have b21 := i_bd v12
            have hV20 : zV (ma_u (zov wr_234 (zov wr_234 (zov wr_232 (zov wr_235 (zov wr_233 (zov wr_232 m m1) m3) m5) m7) m9) m11) 94 63 v12) := us_94_63 hV_m11 (by omega) (by omega)
            refine sp_232 (nw) hV20 (by omega) (by omega) (show zRG1 (m 94 18) (m 94 64) v12 (m5 99) (m5 103) (m 102) (m7 116) from by first | (exact RG_pr p0_m7 (by omega) (by omega)) | (exact RG_pr p0_m7 (LE_ex p0_m11 (p0_m3.elim (fun z => by omega) id)).1 (LE_ex p0_m11 (p0_m3.elim (fun z => by omega) id)).2) | (exfalso; omega; done) | (exfalso; contradiction; done)) (fun v14 m13 hV_m13 p0_m13 p1_m13 p2_m13 => zmi_n ?_)
            have p0_m13 : zRG1 (m 94 18) (m 94 64) v12 (m5 99) (m5 103) (m 102) (m13 116) := p0_m13
            have p1_m13 : v14.toInt = -1 ∨ (0 ≤ v14.toInt ∧ v14.toInt + nw.toInt ≤ (m 94 64).toInt * (m 94 18).toInt ∧ nw.toInt ≤ (m 94 18).toInt) := p1_m13
            have p2_m13 : -1 ≤ v14.toInt ∧ v14.toInt ≤ 1500 := p2_m13
            have b22 := i_bd v14
            exact K (v14) _ (zF_zov (zF_u (zF_zov (zF_zov (zF_zov (zF_zov (zF_zov (zF_zov zF_rfl ws_232_231) ws_233_231) ws_235_231) ws_232_231) ws_234_231) ws_234_231) rfl) ws_232_231) hV_m13 p0_m5 p1_m5 p2_m5 p3_m5 p0_m13 p1_m13 (show -1 ≤ v14.toInt ∧ v14.toInt ≤ 1500 from by omega)
          · skip
            have g23 := i_nle h18
            have li24 : (-1 : Int32).toInt = -1 := rfl
            exact K ((-1 : Int32)) _ (zF_zov (zF_zov (zF_zov (zF_zov (zF_zov zF_rfl ws_232_231) ws_233_231) ws_235_231) ws_232_231) ws_234_231) hV_m9 p0_m5 p1_m5 p2_m5 p3_m5 p0_m7 (show (-1 : Int32).toInt = -1 ∨ (0 ≤ (-1 : Int32).toInt ∧ (-1 : Int32).toInt + nw.toInt ≤ (m 94 64).toInt * (m 94 18).toInt ∧ nw.toInt ≤ (m 94 18).toInt) from by first | (exact Or.inl (by decide)) | (exact Or.inr ⟨by omega, by omega, by omega⟩) | (exact p1_m7) | (exfalso; omega; done) | (exfalso; contradiction; done)) (show -1 ≤ (-1 : Int32).toInt ∧ (-1 : Int32).toInt ≤ 1500 from by omega)
        · skip
          have g25 := i_nlt h15
          exact K (v8) _ (zF_zov (zF_zov (zF_zov (zF_zov zF_rfl ws_232_231) ws_233_231) ws_235_231) ws_232_231) hV_m7 p0_m5 p1_m5 p2_m5 p3_m5 p0_m7 p1_m7 (show -1 ≤ v8.toInt ∧ v8.toInt ≤ 1500 from by omega)
      · skip
        have g26 := i_nlt h12
        refine sp_234  hV_m3  (fun v16 m15 hV_m15 p0_m15 => zmi_n ?_)
        have p0_m15 : zLE (m1 116) (m 94 64) v16 := p0_m15
        try have rgb := rs_94_64 hV
        try have lel := LE_lo p0_m15
        try have lex := LE_ex p0_m15 (p0_m3.elim (fun z => by omega) id)
        try have lex3 := LE_ex p0_m15 (lexi (by omega))
        try have lexi := LE_some p0_m15
        have b28 := i_bd v16
        have hV27 : zV (ma_u (zov wr_234 (zov wr_233 (zov wr_232 m m1) m3) m15) 94 63 v16) := us_94_63 hV_m15 (by omega) (by omega)
        refine sp_232 (nw) hV27 (by omega) (by omega) (show zRG1 (m 94 18) (m 94 64) v16 (m 99) (m 103) (m 102) (m1 116) from by first | (exact RG_pr p0_m1 (by omega) (by omega)) | (exact RG_pr p0_m1 (LE_ex p0_m15 (p0_m3.elim (fun z => by omega) id)).1 (LE_ex p0_m15 (p0_m3.elim (fun z => by omega) id)).2) | (exfalso; omega; done) | (exfalso; contradiction; done)) (fun v18 m17 hV_m17 p0_m17 p1_m17 p2_m17 => zmi_n ?_)
        have p0_m17 : zRG1 (m 94 18) (m 94 64) v16 (m 99) (m 103) (m 102) (m17 116) := p0_m17
        have p1_m17 : v18.toInt = -1 ∨ (0 ≤ v18.toInt ∧ v18.toInt + nw.toInt ≤ (m 94 64).toInt * (m 94 18).toInt ∧ nw.toInt ≤ (m 94 18).toInt) := p1_m17
        have p2_m17 : -1 ≤ v18.toInt ∧ v18.toInt ≤ 1500 := p2_m17
        have b29 := i_bd v18
        exact K (v18) _ (zF_zov (zF_u (zF_zov (zF_zov (zF_zov zF_rfl ws_232_231) ws_233_231) ws_234_231) rfl) ws_232_231) hV_m17 r_GW r_GU r_OW r_DX p0_m17 p1_m17 (show -1 ≤ v18.toInt ∧ v18.toInt ≤ 1500 from by omega)
    · skip
      have g30 := i_nlt h8
      exact K (v2) _ (zF_zov zF_rfl ws_232_231) hV_m1 r_GW r_GU r_OW r_DX p0_m1 p1_m1 (show -1 ≤ v2.toInt ∧ v2.toInt ≤ 1500 from by omega)
  · skip
    have g31 := i_nle h4
    have li32 : (-1 : Int32).toInt = -1 := rfl
    exact K ((-1 : Int32)) _ zF_rfl hV r_GW r_GU r_OW r_DX r_RG (show (-1 : Int32).toInt = -1 ∨ (0 ≤ (-1 : Int32).toInt ∧ (-1 : Int32).toInt + nw.toInt ≤ (m 94 64).toInt * (m 94 18).toInt ∧ nw.toInt ≤ (m 94 18).toInt) from by first | (exact Or.inl (by decide)) | (exact Or.inr ⟨by omega, by omega, by omega⟩) | (exfalso; omega; done) | (exfalso; contradiction; done)) (show -1 ≤ (-1 : Int32).toInt ∧ (-1 : Int32).toInt ≤ 1500 from by omega)

/-! from 94.440 -/
/-! the place of OLD: who begins where -/
/-- below ol: each begins where its owner says, ends at e or before, and before the next begins -/
def zPK (ol e : Int) (us ws at₉ ow : Nat → Int32) : Prop := ∀ s, s < 3100 → us s ≠ 0 → (at₉ s).toInt < ol → (ow (at₉ s).toNatClampNeg).toNatClampNeg = s ∧ 0 ≤ (ow (at₉ s).toNatClampNeg).toInt ∧ (at₉ s).toInt + (ws s).toInt + 1 ≤ e ∧ ∀ s₉, s₉ < 3100 → us s₉ ≠ 0 → (at₉ s).toInt < (at₉ s₉).toInt → (at₉ s₉).toInt < ol → (at₉ s).toInt + (ws s).toInt + 1 ≤ (at₉ s₉).toInt
/-- while sliding: those that have slid end at f or before, the others begin at p or behind it -/
def zSL (ol e f p : Int) (us ws at₉ ow : Nat → Int32) : Prop := zPK ol e us ws at₉ ow ∧ f ≤ e ∧ ∀ s, s < 3100 → us s ≠ 0 → (at₉ s).toInt < ol → (at₉ s).toInt + (ws s).toInt + 1 ≤ f ∨ p ≤ (at₉ s).toInt
/-- where they are has changed below ol alone -/
def zLO (ol : Int) (at₉ at2 : Nat → Int32) : Prop := ∀ s, s < 3100 → at2 s = at₉ s ∨ ((at₉ s).toInt < ol ∧ (at2 s).toInt < ol)
section PK1
variable {ol e f p p2 f2 : Int} {us us₉ ws at₉ at2 ow ow2 ow₉ : Nat → Int32} {s to x : Int32} {m : Nat → Nat → Int32}
theorem PK_sub (h : zPK ol e us ws at₉ ow) (hs : zsw us us₉ ow ow₉ at₉) (hb : ∀ s, s < 3100 → 0 ≤ (at₉ s).toInt ∧ (at₉ s).toInt < 4600) : zPK ol e us₉ ws at₉ ow₉ := by
  intro s hs1 hu ha
  obtain ⟨a1, a2, a3, a4⟩ := h s hs1 (hs.1 s hs1 hu) ha
  have hbs := hb s hs1
  have e : ow₉ (at₉ s).toNatClampNeg = ow (at₉ s).toNatClampNeg := by
    rcases hs.2 (at₉ s).toNatClampNeg (by rw [tn_eq]; omega) with q | ⟨_, s2, h1, h2, h3, h4⟩
    · exact q
    · exfalso
      rw [tn_cast hbs.1] at h4
      obtain ⟨b1, b2, -, -⟩ := h s2 h1 h2 (by omega)
      have e2 : at₉ s2 = at₉ s := Int32.toInt_inj.mp h4
      rw [e2] at b1
      rw [a1] at b1
      rw [b1] at hu
      exact hu h3
  rw [e]
  exact ⟨a1, a2, a3, fun s₉ h1 h2 h3 h4 => a4 s₉ h1 (hs.1 s₉ h1 h2) h3 h4⟩
theorem PK_mono (h : zPK ol e us ws at₉ ow) (he : e ≤ f) : zPK ol f us ws at₉ ow := fun s h1 h2 h3 => let a := h s h1 h2 h3; ⟨a.1, a.2.1, Int.le_trans a.2.2.1 he, a.2.2.2⟩
theorem SL_0 (h : zPK ol e us ws at₉ ow) (he : 0 ≤ e) (hb : ∀ s, s < 3100 → 0 ≤ (at₉ s).toInt) : zSL ol e 0 0 us ws at₉ ow := ⟨h, he, fun s h1 _ _ => Or.inr (hb s h1)⟩
/-- no one begins here -/
theorem SL_skip (h : zSL ol e f p us ws at₉ ow) (hp : (ow p.toNat).toInt < 0) (h0 : 0 ≤ p) (e2 : p2 = p + 1) : zSL ol e f p2 us ws at₉ ow := by
  subst e2
  refine ⟨h.1, h.2.1, fun s h1 h2 h3 => ?_⟩
  rcases h.2.2 s h1 h2 h3 with q | q
  · exact Or.inl q
  · refine Or.inr ?_
    have a := (h.1 s h1 h2 h3).2.1
    refine Classical.byContradiction (fun z => ?_)
    have e : (at₉ s).toNatClampNeg = p.toNat := by rw [tn_eq]; omega
    rw [e] at a
    omega
/-- the one that begins here stays -/
theorem SL_stay (h : zSL ol e f p us ws at₉ ow) (hs : s = ow p.toNat) (h0 : 0 ≤ s.toInt) (h1 : s.toInt ≤ 3099) (hu : us s.toNatClampNeg ≠ 0) (ha : (at₉ s.toNatClampNeg).toInt = p) (hol : p < ol) (hw : 0 ≤ (ws s.toNatClampNeg).toInt) (hf : f ≤ p) (e1 : f2 = p + (ws s.toNatClampNeg).toInt + 1) (e2 : p2 = f2) : zSL ol e f2 p2 us ws at₉ ow := by
  have hs1 : s.toNatClampNeg < 3100 := by rw [tn_eq]; omega
  obtain ⟨b1, b2, b3, b4⟩ := h.1 _ hs1 hu (by omega)
  refine ⟨h.1, by omega, fun t t1 t2 t3 => ?_⟩
  rcases h.2.2 t t1 t2 t3 with q | q
  · exact Or.inl (by omega)
  · by_cases z : (at₉ t).toInt = p
    · have e3 := (h.1 t t1 t2 t3).1
      have e4 : (at₉ t).toNatClampNeg = (at₉ s.toNatClampNeg).toNatClampNeg := by rw [tn_eq, tn_eq, z, ha]
      rw [e4, b1] at e3
      exact Or.inl (by rw [← e3]; omega)
    · have := b4 t t1 t2 (by omega) t3
      exact Or.inr (by omega)
/-- the one that begins here slides -/
theorem SL_move (h : zSL ol e f p us ws at₉ ow) (hm : zmov s to at₉ ow at2 ow2) (hto : to.toInt = f) (hf0 : 0 ≤ f) (h0 : 0 ≤ s.toInt) (h1 : s.toInt ≤ 3099) (hs : s = ow p.toNat) (hu : us s.toNatClampNeg ≠ 0) (ha : (at₉ s.toNatClampNeg).toInt = p) (hol : p < ol) (hw : ∀ t, t < 3100 → 0 ≤ (ws t).toInt) (hb : ∀ t, t < 3100 → 0 ≤ (at₉ t).toInt) (hf : f ≤ p) (e1 : f2 = f + (ws s.toNatClampNeg).toInt + 1) (e2 : p2 = p + (ws s.toNatClampNeg).toInt + 1) : zSL ol e f2 p2 us ws at2 ow2 := by
  have hs1 : s.toNatClampNeg < 3100 := by rw [tn_eq]; omega
  obtain ⟨b1, b2, b3, b4⟩ := h.1 _ hs1 hu (by omega)
  have hws := hw _ hs1
  have uniq : ∀ t, t < 3100 → us t ≠ 0 → (at₉ t).toInt < ol → (at₉ t).toInt = p → t = s.toNatClampNeg := by
    intro t t1 t2 t3 z
    have e3 := (h.1 t t1 t2 t3).1
    have e4 : (at₉ t).toNatClampNeg = (at₉ s.toNatClampNeg).toNatClampNeg := by rw [tn_eq, tn_eq, z, ha]
    rw [e4, b1] at e3
    exact e3.symm
  have far : ∀ t, t < 3100 → us t ≠ 0 → (at₉ t).toInt < ol → t ≠ s.toNatClampNeg → (at₉ t).toInt + (ws t).toInt + 1 ≤ f ∨ p + (ws s.toNatClampNeg).toInt + 1 ≤ (at₉ t).toInt := by
    intro t t1 t2 t3 tn
    rcases h.2.2 t t1 t2 t3 with q | q
    · exact Or.inl q
    · by_cases z : (at₉ t).toInt = p
      · exact absurd (uniq t t1 t2 t3 z) tn
      · have := b4 t t1 t2 (by omega) t3
        exact Or.inr (by omega)
  rcases hm with ⟨m1, m2, m3⟩ | ⟨m1, m2, m3⟩
  · rw [m1, m2]
    exact SL_stay h hs h0 h1 hu ha hol hws hf (by omega) (by omega)
  · have at_s : (at2 s.toNatClampNeg).toInt = f := by rw [m1, if_pos rfl]; exact hto
    have at_o : ∀ t, t ≠ s.toNatClampNeg → at2 t = at₉ t := fun t z => by rw [m1, if_neg z]
    have ton : to.toNatClampNeg = f.toNat := by rw [tn_eq, hto]
    refine ⟨fun t t1 t2 t3 => ?_, by omega, fun t t1 t2 t3 => ?_⟩
    · by_cases z : t = s.toNatClampNeg
      · subst z
        have e3 : (at2 s.toNatClampNeg).toNatClampNeg = to.toNatClampNeg := by rw [tn_eq, at_s, ton]
        rw [e3, m2]
        refine ⟨rfl, h0, by omega, fun t₉ u1 u2 u3 u4 => ?_⟩
        have zn : t₉ ≠ s.toNatClampNeg := fun z => by rw [z] at u3; omega
        rw [at_o t₉ zn] at u3 u4 ⊢
        have := hw t₉ u1
        rcases far t₉ u1 u2 u4 zn with q | q <;> omega
      · rw [at_o t z] at t3 ⊢
        obtain ⟨c1, c2, c3, c4⟩ := h.1 t t1 t2 t3
        have hwt := hw t t1
        have hbt := hb t t1
        have ne1 : (at₉ t).toNatClampNeg ≠ to.toNatClampNeg := by
          rw [tn_eq, ton]
          rcases far t t1 t2 t3 z with q | q <;> omega
        have eq1 : ow2 (at₉ t).toNatClampNeg = ow (at₉ t).toNatClampNeg := by
          rcases m3 _ ne1 with q | ⟨q, _, _⟩
          · exact q
          · exfalso
            rw [tn_cast hbt] at q
            rw [ha] at q
            exact z (uniq t t1 t2 t3 q)
        rw [eq1]
        refine ⟨c1, c2, c3, fun t₉ u1 u2 u3 u4 => ?_⟩
        by_cases y : t₉ = s.toNatClampNeg
        · rw [y] at u3 u4 ⊢
          rcases far t t1 t2 t3 z with q | q <;> omega
        · rw [at_o t₉ y] at u3 u4 ⊢
          exact c4 t₉ u1 u2 u3 u4
    · by_cases z : t = s.toNatClampNeg
      · rw [z]; exact Or.inl (by omega)
      · rw [at_o t z] at t3 ⊢
        rcases far t t1 t2 t3 z with q | q
        · exact Or.inl (by omega)
        · exact Or.inr (by omega)
theorem SL_end (h : zSL ol e f p us ws at₉ ow) (hp : ol ≤ p) : f ≤ e ∧ zPK ol f us ws at₉ ow := by
  refine ⟨h.2.1, fun s h1 h2 h3 => ?_⟩
  obtain ⟨a1, a2, a3, a4⟩ := h.1 s h1 h2 h3
  refine ⟨a1, a2, ?_, a4⟩
  rcases h.2.2 s h1 h2 h3 with q | q <;> omega
theorem LO_rfl : zLO ol at₉ at₉ := fun _ _ => Or.inl rfl
theorem LO_mv {r : Nat → Int32} (h : zLO ol r at₉) (hm : zmov s to at₉ ow at2 ow2) (ha : (at₉ s.toNatClampNeg).toInt < ol) (hto : to.toInt < ol) : zLO ol r at2 := by
  intro t ht
  rcases hm with ⟨m1, m2, m3⟩ | ⟨m1, m2, m3⟩
  · rw [m1]; exact h t ht
  · rw [m1]
    split
    · next z =>
      refine Or.inr ⟨?_, hto⟩
      rcases h t ht with q | q
      · rw [← q, z]; exact ha
      · exact q.1
    · exact h t ht
end PK1

