/-! the reference (written by wip/tools/gen94m.py) -/
set_option maxRecDepth 100000 in
theorem hm_232 : ma_md 232 = some (12, yX12_findInRegion, cX12_findInRegion, 3, (some (FieldType.int))) := rfl
theorem dX12_findInRegion_0 : decode cX12_findInRegion 0 = .ok (.aload_n 0, 1) := by decide +kernel
theorem dX12_findInRegion_4 : decode cX12_findInRegion 4 = .ok (.aload_n 0, 1) := by decide +kernel
theorem dX12_findInRegion_9 : decode cX12_findInRegion 9 = .ok (.iload_n 1, 1) := by decide +kernel
theorem dX12_findInRegion_10 : decode cX12_findInRegion 10 = .ok (.iadd, 1) := by decide +kernel
theorem dX12_findInRegion_11 : decode cX12_findInRegion 11 = .ok (.aload_n 0, 1) := by decide +kernel
theorem dX12_findInRegion_20 : decode cX12_findInRegion 20 = .ok (.aload_n 0, 1) := by decide +kernel
theorem dX12_findInRegion_24 : decode cX12_findInRegion 24 = .ok (.aload_n 0, 1) := by decide +kernel
theorem dX12_findInRegion_28 : decode cX12_findInRegion 28 = .ok (.imul, 1) := by decide +kernel
theorem dX12_findInRegion_29 : decode cX12_findInRegion 29 = .ok (.aload_n 0, 1) := by decide +kernel
theorem dX12_findInRegion_33 : decode cX12_findInRegion 33 = .ok (.aload_n 0, 1) := by decide +kernel
theorem dX12_findInRegion_38 : decode cX12_findInRegion 38 = .ok (.iadd, 1) := by decide +kernel
theorem dX12_findInRegion_39 : decode cX12_findInRegion 39 = .ok (.istore_n 2, 1) := by decide +kernel
theorem dX12_findInRegion_40 : decode cX12_findInRegion 40 = .ok (.aload_n 0, 1) := by decide +kernel
theorem dX12_findInRegion_44 : decode cX12_findInRegion 44 = .ok (.aload_n 0, 1) := by decide +kernel
theorem dX12_findInRegion_48 : decode cX12_findInRegion 48 = .ok (.dup2, 1) := by decide +kernel
theorem dX12_findInRegion_50 : decode cX12_findInRegion 50 = .ok (.iload_n 1, 1) := by decide +kernel
theorem dX12_findInRegion_51 : decode cX12_findInRegion 51 = .ok (.iadd, 1) := by decide +kernel
theorem dX12_findInRegion_53 : decode cX12_findInRegion 53 = .ok (.iload_n 2, 1) := by decide +kernel
theorem dX12_findInRegion_54 : decode cX12_findInRegion 54 = .ok (.ireturn, 1) := by decide +kernel
theorem dX12_findInRegion_52 : decode cX12_findInRegion 52 = .ok (.iastore, 1) := by decide +kernel
theorem dX12_findInRegion_49 : decode cX12_findInRegion 49 = .ok (.iaload, 1) := by decide +kernel
theorem dX12_findInRegion_45 : decode cX12_findInRegion 45 = .ok (.getfield 285, 3) := by decide +kernel
theorem dX12_findInRegion_41 : decode cX12_findInRegion 41 = .ok (.getfield 80, 3) := by decide +kernel
theorem dX12_findInRegion_37 : decode cX12_findInRegion 37 = .ok (.iaload, 1) := by decide +kernel
theorem dX12_findInRegion_34 : decode cX12_findInRegion 34 = .ok (.getfield 285, 3) := by decide +kernel
theorem dX12_findInRegion_30 : decode cX12_findInRegion 30 = .ok (.getfield 80, 3) := by decide +kernel
theorem dX12_findInRegion_25 : decode cX12_findInRegion 25 = .ok (.getfield 222, 3) := by decide +kernel
theorem dX12_findInRegion_21 : decode cX12_findInRegion 21 = .ok (.getfield 285, 3) := by decide +kernel
theorem dX12_findInRegion_18 : decode cX12_findInRegion 18 = .ok (.iconst (-1), 1) := by decide +kernel
theorem dX12_findInRegion_19 : decode cX12_findInRegion 19 = .ok (.ireturn, 1) := by decide +kernel
theorem dX12_findInRegion_15 : decode cX12_findInRegion 15 = .ok (.if_icmp .le 5, 3) := by decide +kernel
theorem dX12_findInRegion_12 : decode cX12_findInRegion 12 = .ok (.getfield 222, 3) := by decide +kernel
theorem dX12_findInRegion_8 : decode cX12_findInRegion 8 = .ok (.iaload, 1) := by decide +kernel
theorem dX12_findInRegion_5 : decode cX12_findInRegion 5 = .ok (.getfield 285, 3) := by decide +kernel
theorem dX12_findInRegion_1 : decode cX12_findInRegion 1 = .ok (.getfield 80, 3) := by decide +kernel
def wr_232 (c _ : Nat) : Bool := Nat.beq c 116
theorem g_232_0 {X : Nat × (Nat → Int32)} {m : Nat → Nat → Int32} {P : Option ma_V → (Nat → Nat → Int32) → Prop} (nw : Int32) (h : (0 ≤ (m 94 63) ∧ (m 94 63).toNatClampNeg < 128) ∧ (if ((m 116 (m 94 63).toNatClampNeg) + nw) ≤ (m 94 18) then ((0 ≤ (m 94 63) ∧ (m 94 63).toNatClampNeg < 128) ∧ ((0 ≤ (m 94 63) ∧ (m 94 63).toNatClampNeg < 128) ∧ ((0 ≤ (m 94 63) ∧ (m 94 63).toNatClampNeg < 128) ∧ (P (some (.inl (((m 94 63) * (m 94 18)) + (m 116 (m 94 63).toNatClampNeg)))) (ma_u m 116 (m 94 63).toNatClampNeg ((m 116 (m 94 63).toNatClampNeg) + nw)))))) else (P (some (.inl (-1 : Int32))) m))) : zm X 0 0 232 0 [(0, .inr (.inr (some 94))), (1, .inl nw)] m P := by
  intro d w S Q hd hw hS hm HQ
  subst hm
  refine zw_push hm_232 dX12_findInRegion_0 (v := .inr (.inr (some 94))) rfl ?_
  refine zw_gf hm_232 dX12_findInRegion_1 (v := .inr (.inr (some 116))) (zT_is hS s_94) (zT_t hS s_94) rfl f_12_80_12 (zT_f hS r_94_65) ?_
  refine zw_push hm_232 dX12_findInRegion_4 (v := .inr (.inr (some 94))) rfl ?_
  refine zw_gf hm_232 dX12_findInRegion_5 (v := .inl ((mI S) 94 63)) (zT_is hS s_94) (zT_t hS s_94) rfl f_12_285_12 rfl ?_
  obtain ⟨hg, h⟩ := h
  refine zw_ia hm_232 dX12_findInRegion_8 (zT_is hS s_116) (zT_h hS s_116) rfl hg ?_
  show ma_wp X d w 232 9 [(0, .inr (.inr (some 94))), (1, .inl nw)] [.inl ((mI S) 116 ((mI S) 94 63).toNatClampNeg)] S _
  refine zw_push hm_232 dX12_findInRegion_9 (v := .inl nw) rfl ?_
  refine zw_stk hm_232 dX12_findInRegion_10 (st' := [.inl (((mI S) 116 ((mI S) 94 63).toNatClampNeg) + nw)]) rfl rfl ?_
  refine zw_push hm_232 dX12_findInRegion_11 (v := .inr (.inr (some 94))) rfl ?_
  refine zw_gf hm_232 dX12_findInRegion_12 (v := .inl ((mI S) 94 18)) (zT_is hS s_94) (zT_t hS s_94) rfl f_12_222_12 rfl ?_
  refine zw_if2 hm_232 dX12_findInRegion_15 (t := 20) rfl zc2_le ?_ ?_
  · intro hc
    rw [if_pos hc] at h
    refine zw_push hm_232 dX12_findInRegion_20 (v := .inr (.inr (some 94))) rfl ?_
    refine zw_gf hm_232 dX12_findInRegion_21 (v := .inl ((mI S) 94 63)) (zT_is hS s_94) (zT_t hS s_94) rfl f_12_285_12 rfl ?_
    refine zw_push hm_232 dX12_findInRegion_24 (v := .inr (.inr (some 94))) rfl ?_
    refine zw_gf hm_232 dX12_findInRegion_25 (v := .inl ((mI S) 94 18)) (zT_is hS s_94) (zT_t hS s_94) rfl f_12_222_12 rfl ?_
    refine zw_stk hm_232 dX12_findInRegion_28 (st' := [.inl (((mI S) 94 63) * ((mI S) 94 18))]) rfl rfl ?_
    refine zw_push hm_232 dX12_findInRegion_29 (v := .inr (.inr (some 94))) rfl ?_
    refine zw_gf hm_232 dX12_findInRegion_30 (v := .inr (.inr (some 116))) (zT_is hS s_94) (zT_t hS s_94) rfl f_12_80_12 (zT_f hS r_94_65) ?_
    refine zw_push hm_232 dX12_findInRegion_33 (v := .inr (.inr (some 94))) rfl ?_
    refine zw_gf hm_232 dX12_findInRegion_34 (v := .inl ((mI S) 94 63)) (zT_is hS s_94) (zT_t hS s_94) rfl f_12_285_12 rfl ?_
    obtain ⟨hg, h⟩ := h
    refine zw_ia hm_232 dX12_findInRegion_37 (zT_is hS s_116) (zT_h hS s_116) rfl hg ?_
    show ma_wp X d w 232 38 [(0, .inr (.inr (some 94))), (1, .inl nw)] [.inl ((mI S) 116 ((mI S) 94 63).toNatClampNeg), .inl (((mI S) 94 63) * ((mI S) 94 18))] S _
    refine zw_stk hm_232 dX12_findInRegion_38 (st' := [.inl ((((mI S) 94 63) * ((mI S) 94 18)) + ((mI S) 116 ((mI S) 94 63).toNatClampNeg))]) rfl rfl ?_
    refine zw_sto hm_232 dX12_findInRegion_39 [(2, .inl ((((mI S) 94 63) * ((mI S) 94 18)) + ((mI S) 116 ((mI S) 94 63).toNatClampNeg))), (0, .inr (.inr (some 94))), (1, .inl nw)] rfl rfl rfl ?_
    refine zw_push hm_232 dX12_findInRegion_40 (v := .inr (.inr (some 94))) rfl ?_
    refine zw_gf hm_232 dX12_findInRegion_41 (v := .inr (.inr (some 116))) (zT_is hS s_94) (zT_t hS s_94) rfl f_12_80_12 (zT_f hS r_94_65) ?_
    refine zw_push hm_232 dX12_findInRegion_44 (v := .inr (.inr (some 94))) rfl ?_
    refine zw_gf hm_232 dX12_findInRegion_45 (v := .inl ((mI S) 94 63)) (zT_is hS s_94) (zT_t hS s_94) rfl f_12_285_12 rfl ?_
    refine zw_stk hm_232 dX12_findInRegion_48 (st' := [.inl ((mI S) 94 63), .inr (.inr (some 116)), .inl ((mI S) 94 63), .inr (.inr (some 116))]) rfl rfl ?_
    obtain ⟨hg, h⟩ := h
    refine zw_ia hm_232 dX12_findInRegion_49 (zT_is hS s_116) (zT_h hS s_116) rfl hg ?_
    show ma_wp X d w 232 50 [(2, .inl ((((mI S) 94 63) * ((mI S) 94 18)) + ((mI S) 116 ((mI S) 94 63).toNatClampNeg))), (0, .inr (.inr (some 94))), (1, .inl nw)] [.inl ((mI S) 116 ((mI S) 94 63).toNatClampNeg), .inl ((mI S) 94 63), .inr (.inr (some 116))] S _
    refine zw_push hm_232 dX12_findInRegion_50 (v := .inl nw) rfl ?_
    refine zw_stk hm_232 dX12_findInRegion_51 (st' := [.inl (((mI S) 116 ((mI S) 94 63).toNatClampNeg) + nw), .inl ((mI S) 94 63), .inr (.inr (some 116))]) rfl rfl ?_
    obtain ⟨hg, h⟩ := h
    refine zw_ias hm_232 dX12_findInRegion_52 (zT_is hS s_116) (zT_h hS s_116) rfl hg ?_
    refine zw_push hm_232 dX12_findInRegion_53 (v := .inl ((((mI S) 94 63) * ((mI S) 94 18)) + ((mI S) 116 ((mI S) 94 63).toNatClampNeg))) rfl ?_
    exact zw_iret hm_232 dX12_findInRegion_54 (HQ _ _ h)
  · intro hc
    rw [if_neg hc] at h
    refine zw_push hm_232 dX12_findInRegion_18 (v := .inl (-1 : Int32)) rfl ?_
    exact zw_iret hm_232 dX12_findInRegion_19 (HQ _ _ h)
theorem sp_232 {X : Nat × (Nat → Int32)} {P : Option ma_V → (Nat → Nat → Int32) → Prop} {m : Nat → Nat → Int32} (nw : Int32) (hV : zV m) (hpre0 : 1 ≤ nw.toInt) (hpre1 : nw.toInt ≤ 61) (r_RG : zRG1 (m 94 18) (m 94 64) (m 94 63) (m 99) (m 103) (m 102) (m 116)) (KZ : ∀ v m', zV (zov wr_232 m m') → (zRG1 (m 94 18) (m 94 64) (m 94 63) (m 99) (m 103) (m 102) (m' 116)) → (v.toInt = -1 ∨ (0 ≤ v.toInt ∧ v.toInt + nw.toInt ≤ (m 94 64).toInt * (m 94 18).toInt ∧ nw.toInt ≤ (m 94 18).toInt)) → (-1 ≤ v.toInt ∧ v.toInt ≤ 1500) → P (some (.inl v)) (zov wr_232 m m')) : zm X 0 0 232 0 [(0, .inr (.inr (some 94))), (1, .inl nw)] m P := by
  have K : ∀ v m', zF wr_232 m m' → zV m' → (zRG1 (m' 94 18) (m' 94 64) (m' 94 63) (m' 99) (m' 103) (m' 102) (m' 116)) → (v.toInt = -1 ∨ (0 ≤ v.toInt ∧ v.toInt + nw.toInt ≤ (m' 94 64).toInt * (m' 94 18).toInt ∧ nw.toInt ≤ (m' 94 18).toInt)) → (-1 ≤ v.toInt ∧ v.toInt ≤ 1500) → P (some (.inl v)) m' := by
    intro v m' hf z q0 q1 q2
    have e := zov_eq hf
    rw [e] at z ⊢
    try rw [e] at q0
    try rw [e] at q1
    try rw [e] at q2
    exact KZ v m' z q0 q1 q2
  refine g_232_0 nw ?_
  have f1 : 0 ≤ (m 94 63).toInt ∧ (m 94 63).toInt ≤ 127 := rs_94_63 (m := m) hV
  try have rpr := r_RG.2.2.2.1
  try have rsi := r_RG.1
  try have rrg := r_RG.2.1
  try have rtk := RG_take r_RG (by have := rs_94_18 hV; omega) (by have := rs_94_64 hV; omega)
  have hg2 : (0 ≤ (m 94 63) ∧ (m 94 63).toNatClampNeg < 128) := i_ix (by omega) (by omega)
  refine ⟨hg2, ?_⟩
  first | have f3 : 0 ≤ (m 116 (m 94 63).toNatClampNeg).toInt ∧ (m 116 (m 94 63).toNatClampNeg).toInt ≤ 4600 := ra_116 (m := m) hV (k := (m 94 63).toNatClampNeg) (i_ix (n := 128) (by omega) (by omega)).2 | have b4 := i_bd (m 116 (m 94 63).toNatClampNeg)
  have b5 := i_bd nw
  first | have e6 : ((m 116 (m 94 63).toNatClampNeg) + nw).toInt = (m 116 (m 94 63).toNatClampNeg).toInt + nw.toInt := i_add (by omega) (by omega) | have b7 := i_bd ((m 116 (m 94 63).toNatClampNeg) + nw)
  have f8 : 0 ≤ (m 94 18).toInt ∧ (m 94 18).toInt ≤ 256 := rs_94_18 (m := m) hV
  refine zd (fun (h9 : ((m 116 (m 94 63).toNatClampNeg) + nw) ≤ (m 94 18)) => ?_) (fun (h9 : ¬ ((m 116 (m 94 63).toNatClampNeg) + nw) ≤ (m 94 18)) => ?_)
  · skip
    have g10 := i_le h9
    try have rpr := r_RG.2.2.2.1
    try have rsi := r_RG.1
    try have rrg := r_RG.2.1
    try have rtk := RG_take r_RG (by have := rs_94_18 hV; omega) (by have := rs_94_64 hV; omega)
    have hg11 : (0 ≤ (m 94 63) ∧ (m 94 63).toNatClampNeg < 128) := i_ix (by omega) (by omega)
    refine ⟨hg11, ?_⟩
    try have rpr := r_RG.2.2.2.1
    try have rsi := r_RG.1
    try have rrg := r_RG.2.1
    try have rtk := RG_take r_RG (by have := rs_94_18 hV; omega) (by have := rs_94_64 hV; omega)
    have hg12 : (0 ≤ (m 94 63) ∧ (m 94 63).toNatClampNeg < 128) := i_ix (by omega) (by omega)
    refine ⟨hg12, ?_⟩
    try have rpr := r_RG.2.2.2.1
    try have rsi := r_RG.1
    try have rrg := r_RG.2.1
    try have rtk := RG_take r_RG (by have := rs_94_18 hV; omega) (by have := rs_94_64 hV; omega)
    have hg13 : (0 ≤ (m 94 63) ∧ (m 94 63).toNatClampNeg < 128) := i_ix (by omega) (by omega)
    refine ⟨hg13, ?_⟩
    try have rpr := r_RG.2.2.2.1
    try have rsi := r_RG.1
    try have rrg := r_RG.2.1
    try have rtk := RG_take r_RG (by have := rs_94_18 hV; omega) (by have := rs_94_64 hV; omega)
    have hV14 : zV (ma_u m 116 (m 94 63).toNatClampNeg ((m 116 (m 94 63).toNatClampNeg) + nw)) := ua_116 hV (by omega) (by omega)
    first | have f15 := i_muln (x := (m 94 63)) (y := (m 94 18)) (by omega) (by omega) (by omega) (by omega) | have b16 := i_bd ((m 94 63) * (m 94 18))
    first | have e17 : (((m 94 63) * (m 94 18)) + (m 116 (m 94 63).toNatClampNeg)).toInt = ((m 94 63) * (m 94 18)).toInt + (m 116 (m 94 63).toNatClampNeg).toInt := i_add (by omega) (by omega) | have b18 := i_bd (((m 94 63) * (m 94 18)) + (m 116 (m 94 63).toNatClampNeg))
    exact K ((((m 94 63) * (m 94 18)) + (m 116 (m 94 63).toNatClampNeg))) _ (zF_u zF_rfl rfl) hV14 (show zRG1 (m 94 18) (m 94 64) (m 94 63) (m 99) (m 103) (m 102) ((ma_u m 116 (m 94 63).toNatClampNeg ((m 116 (m 94 63).toNatClampNeg) + nw)) 116) from by first | (exact RG_put r_RG (by omega)) | (exfalso; omega; done) | (exfalso; contradiction; done)) (show (((m 94 63) * (m 94 18)) + (m 116 (m 94 63).toNatClampNeg)).toInt = -1 ∨ (0 ≤ (((m 94 63) * (m 94 18)) + (m 116 (m 94 63).toNatClampNeg)).toInt ∧ (((m 94 63) * (m 94 18)) + (m 116 (m 94 63).toNatClampNeg)).toInt + nw.toInt ≤ (m 94 64).toInt * (m 94 18).toInt ∧ nw.toInt ≤ (m 94 18).toInt) from by first | (exact Or.inl (by decide)) | (exact Or.inr ⟨by omega, by omega, by omega⟩) | (exfalso; omega; done) | (exfalso; contradiction; done)) (show -1 ≤ (((m 94 63) * (m 94 18)) + (m 116 (m 94 63).toNatClampNeg)).toInt ∧ (((m 94 63) * (m 94 18)) + (m 116 (m 94 63).toNatClampNeg)).toInt ≤ 1500 from by omega)
  · skip
    have g19 := i_nle h9
    try have rpr := r_RG.2.2.2.1
    try have rsi := r_RG.1
    try have rrg := r_RG.2.1
    try have rtk := RG_take r_RG (by have := rs_94_18 hV; omega) (by have := rs_94_64 hV; omega)
    have li20 : (-1 : Int32).toInt = -1 := rfl
    exact K ((-1 : Int32)) _ zF_rfl hV r_RG (show (-1 : Int32).toInt = -1 ∨ (0 ≤ (-1 : Int32).toInt ∧ (-1 : Int32).toInt + nw.toInt ≤ (m 94 64).toInt * (m 94 18).toInt ∧ nw.toInt ≤ (m 94 18).toInt) from by first | (exact Or.inl (by decide)) | (exact Or.inr ⟨by omega, by omega, by omega⟩) | (exfalso; omega; done) | (exfalso; contradiction; done)) (show -1 ≤ (-1 : Int32).toInt ∧ (-1 : Int32).toInt ≤ 1500 from by omega)
