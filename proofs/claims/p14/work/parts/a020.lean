/-! from 94.407 -/
/-! the reference (written by wip/tools/gen94m.py) -/
set_option maxRecDepth 100000 in
theorem hm_227 : ma_md 227 = some (12, yX12_startOf, cX12_startOf, 3, (some (FieldType.int))) := rfl
theorem dX12_startOf_0 : decode cX12_startOf 0 = .ok (.iconst 0, 1) := by decide +kernel
theorem dX12_startOf_1 : decode cX12_startOf 1 = .ok (.istore_n 2, 1) := by decide +kernel
theorem dX12_startOf_2 : decode cX12_startOf 2 = .ok (.iload_n 2, 1) := by decide +kernel
theorem dX12_startOf_3 : decode cX12_startOf 3 = .ok (.iload_n 1, 1) := by decide +kernel
theorem dX12_startOf_38 : decode cX12_startOf 38 = .ok (.iload_n 2, 1) := by decide +kernel
theorem dX12_startOf_39 : decode cX12_startOf 39 = .ok (.ireturn, 1) := by decide +kernel
theorem dX12_startOf_7 : decode cX12_startOf 7 = .ok (.aload_n 0, 1) := by decide +kernel
theorem dX12_startOf_11 : decode cX12_startOf 11 = .ok (.iload_n 2, 1) := by decide +kernel
theorem dX12_startOf_31 : decode cX12_startOf 31 = .ok (.iload_n 2, 1) := by decide +kernel
theorem dX12_startOf_32 : decode cX12_startOf 32 = .ok (.iconst 1, 1) := by decide +kernel
theorem dX12_startOf_33 : decode cX12_startOf 33 = .ok (.iadd, 1) := by decide +kernel
theorem dX12_startOf_34 : decode cX12_startOf 34 = .ok (.istore_n 2, 1) := by decide +kernel
theorem dX12_startOf_35 : decode cX12_startOf 35 = .ok (.goto (-33), 3) := by decide +kernel
theorem dX12_startOf_16 : decode cX12_startOf 16 = .ok (.iload_n 2, 1) := by decide +kernel
theorem dX12_startOf_17 : decode cX12_startOf 17 = .ok (.aload_n 0, 1) := by decide +kernel
theorem dX12_startOf_18 : decode cX12_startOf 18 = .ok (.aload_n 0, 1) := by decide +kernel
theorem dX12_startOf_22 : decode cX12_startOf 22 = .ok (.iload_n 2, 1) := by decide +kernel
theorem dX12_startOf_24 : decode cX12_startOf 24 = .ok (.invokevirtual 327, 3) := by decide +kernel
theorem dX12_startOf_27 : decode cX12_startOf 27 = .ok (.iadd, 1) := by decide +kernel
theorem dX12_startOf_28 : decode cX12_startOf 28 = .ok (.goto 6, 3) := by decide +kernel
theorem dX12_startOf_23 : decode cX12_startOf 23 = .ok (.iaload, 1) := by decide +kernel
theorem dX12_startOf_19 : decode cX12_startOf 19 = .ok (.getfield 65, 3) := by decide +kernel
theorem dX12_startOf_13 : decode cX12_startOf 13 = .ok (.ifCond .lt 18, 3) := by decide +kernel
theorem dX12_startOf_12 : decode cX12_startOf 12 = .ok (.iaload, 1) := by decide +kernel
theorem dX12_startOf_8 : decode cX12_startOf 8 = .ok (.getfield 65, 3) := by decide +kernel
theorem dX12_startOf_4 : decode cX12_startOf 4 = .ok (.if_icmp .ge 34, 3) := by decide +kernel
def wr_227 (_ _ : Nat) : Bool := false
theorem g_227_0 {X : Nat × (Nat → Int32)} {m : Nat → Nat → Int32} {P : Option ma_V → (Nat → Nat → Int32) → Prop} (p : Int32) (h : zm X 1 21 227 2 [(0, .inr (.inr (some 94))), (1, .inl p), (2, .inl (0 : Int32))] m P) : zm X 1 21 227 0 [(0, .inr (.inr (some 94))), (1, .inl p)] m P := by
  intro d w S Q hd hw hS hm HQ
  subst hm
  refine zw_push hm_227 dX12_startOf_0 (v := .inl (0 : Int32)) rfl ?_
  refine zw_sto hm_227 dX12_startOf_1 [(2, .inl (0 : Int32)), (0, .inr (.inr (some 94))), (1, .inl p)] rfl rfl rfl ?_
  exact zw_sub (ma_nd_of (ks := [0, 1, 2]) rfl (by decide)) (ma_nd_of (ks := [2, 0, 1]) rfl (by decide)) (ma_le_cons rfl (ma_le_cons rfl (ma_le_cons rfl (ma_le_nil _)))) (h d w _ Q (by omega) (by omega) hS rfl HQ)
theorem g_227_2 {X : Nat × (Nat → Int32)} {m : Nat → Nat → Int32} {P : Option ma_V → (Nat → Nat → Int32) → Prop} (l1 : Int32) (l2 : Int32) (h : if l1 ≤ l2 then (P (some (.inl l2)) m) else ((0 ≤ l2 ∧ l2.toNatClampNeg < 4600) ∧ (if (m 111 l2.toNatClampNeg) < 0 then (zm X 1 21 227 2 [(0, .inr (.inr (some 94))), (1, .inl l1), (2, .inl (l2 + (1 : Int32)))] m P) else ((0 ≤ l2 ∧ l2.toNatClampNeg < 4600) ∧ ((0 ≤ (m 111 l2.toNatClampNeg) ∧ (m 111 l2.toNatClampNeg).toNatClampNeg < 3100) ∧ (zm X 1 21 227 2 [(0, .inr (.inr (some 94))), (1, .inl l1), (2, .inl (l2 + ((m 102 (m 111 l2.toNatClampNeg).toNatClampNeg) + (1 : Int32))))] m P)))))) : zm X 1 21 227 2 [(0, .inr (.inr (some 94))), (1, .inl l1), (2, .inl l2)] m P := by
  intro d w S Q hd hw hS hm HQ
  subst hm
  refine zw_push hm_227 dX12_startOf_2 (v := .inl l2) rfl ?_
  refine zw_push hm_227 dX12_startOf_3 (v := .inl l1) rfl ?_
  refine zw_if2 hm_227 dX12_startOf_4 (t := 38) rfl zc2_ge ?_ ?_
  · intro hc
    rw [if_pos hc] at h
    refine zw_push hm_227 dX12_startOf_38 (v := .inl l2) rfl ?_
    exact zw_iret hm_227 dX12_startOf_39 (HQ _ _ h)
  · intro hc
    rw [if_neg hc] at h
    refine zw_push hm_227 dX12_startOf_7 (v := .inr (.inr (some 94))) rfl ?_
    refine zw_gf hm_227 dX12_startOf_8 (v := .inr (.inr (some 111))) (zT_is hS s_94) (zT_t hS s_94) rfl f_12_65_12 (zT_f hS r_94_43) ?_
    refine zw_push hm_227 dX12_startOf_11 (v := .inl l2) rfl ?_
    obtain ⟨hg, h⟩ := h
    refine zw_ia hm_227 dX12_startOf_12 (zT_is hS s_111) (zT_h hS s_111) rfl hg ?_
    show ma_wp X d w 227 13 [(0, .inr (.inr (some 94))), (1, .inl l1), (2, .inl l2)] [.inl ((mI S) 111 l2.toNatClampNeg)] S _
    refine zw_if0 hm_227 dX12_startOf_13 (t := 31) rfl zc0_lt ?_ ?_
    · intro hc
      rw [if_pos hc] at h
      refine zw_push hm_227 dX12_startOf_31 (v := .inl l2) rfl ?_
      refine zw_push hm_227 dX12_startOf_32 (v := .inl (1 : Int32)) rfl ?_
      refine zw_stk hm_227 dX12_startOf_33 (st₉ := [.inl (l2 + (1 : Int32))]) rfl rfl ?_
      refine zw_sto hm_227 dX12_startOf_34 [(2, .inl (l2 + (1 : Int32))), (0, .inr (.inr (some 94))), (1, .inl l1)] rfl rfl rfl ?_
      refine zw_goto hm_227 dX12_startOf_35 (t := 2) rfl ?_
      exact zw_sub (ma_nd_of (ks := [0, 1, 2]) rfl (by decide)) (ma_nd_of (ks := [2, 0, 1]) rfl (by decide)) (ma_le_cons rfl (ma_le_cons rfl (ma_le_cons rfl (ma_le_nil _)))) (h d w _ Q (by omega) (by omega) hS rfl HQ)
    · intro hc
      rw [if_neg hc] at h
      refine zw_push hm_227 dX12_startOf_16 (v := .inl l2) rfl ?_
      refine zw_push hm_227 dX12_startOf_17 (v := .inr (.inr (some 94))) rfl ?_
      refine zw_push hm_227 dX12_startOf_18 (v := .inr (.inr (some 94))) rfl ?_
      refine zw_gf hm_227 dX12_startOf_19 (v := .inr (.inr (some 111))) (zT_is hS s_94) (zT_t hS s_94) rfl f_12_65_12 (zT_f hS r_94_43) ?_
      refine zw_push hm_227 dX12_startOf_22 (v := .inl l2) rfl ?_
      obtain ⟨hg, h⟩ := h
      refine zw_ia hm_227 dX12_startOf_23 (zT_is hS s_111) (zT_h hS s_111) rfl hg ?_
      show ma_wp X d w 227 24 [(0, .inr (.inr (some 94))), (1, .inl l1), (2, .inl l2)] [.inl ((mI S) 111 l2.toNatClampNeg), .inr (.inr (some 94)), .inl l2] S _
      refine zw_cv hm_227 dX12_startOf_24 v_12_327_12 hm_201 [.inl ((mI S) 111 l2.toNatClampNeg)] [.inl l2] rfl (zT_rt hS s_94 rfl) ⟨by omega, by omega⟩ rfl ?_
      show ma_wp X (d - 1) (w - 21) 201 0 [(0, .inr (.inr (some 94))), (1, .inl ((mI S) 111 l2.toNatClampNeg))] [] S _
      refine zw_push hm_201 dX12_sizeOf_0 (v := .inr (.inr (some 94))) rfl ?_
      refine zw_gf hm_201 dX12_sizeOf_1 (v := .inr (.inr (some 102))) (zT_is hS s_94) (zT_t hS s_94) rfl f_12_37_12 (zT_f hS r_94_34) ?_
      refine zw_push hm_201 dX12_sizeOf_4 (v := .inl ((mI S) 111 l2.toNatClampNeg)) rfl ?_
      obtain ⟨hg, h⟩ := h
      refine zw_ia hm_201 dX12_sizeOf_5 (zT_is hS s_102) (zT_h hS s_102) rfl hg ?_
      show ma_wp X (d - 1) (w - 21) 201 6 [(0, .inr (.inr (some 94))), (1, .inl ((mI S) 111 l2.toNatClampNeg))] [.inl ((mI S) 102 ((mI S) 111 l2.toNatClampNeg).toNatClampNeg)] S _
      refine zw_push hm_201 dX12_sizeOf_6 (v := .inl (1 : Int32)) rfl ?_
      refine zw_stk hm_201 dX12_sizeOf_7 (st₉ := [.inl (((mI S) 102 ((mI S) 111 l2.toNatClampNeg).toNatClampNeg) + (1 : Int32))]) rfl rfl ?_
      refine zw_iret hm_201 dX12_sizeOf_8 ?_
      show ma_wp X d w 227 27 [(0, .inr (.inr (some 94))), (1, .inl l1), (2, .inl l2)] [.inl (((mI S) 102 ((mI S) 111 l2.toNatClampNeg).toNatClampNeg) + (1 : Int32)), .inl l2] S _
      refine zw_stk hm_227 dX12_startOf_27 (st₉ := [.inl (l2 + (((mI S) 102 ((mI S) 111 l2.toNatClampNeg).toNatClampNeg) + (1 : Int32)))]) rfl rfl ?_
      refine zw_goto hm_227 dX12_startOf_28 (t := 34) rfl ?_
      refine zw_sto hm_227 dX12_startOf_34 [(2, .inl (l2 + (((mI S) 102 ((mI S) 111 l2.toNatClampNeg).toNatClampNeg) + (1 : Int32)))), (0, .inr (.inr (some 94))), (1, .inl l1)] rfl rfl rfl ?_
      refine zw_goto hm_227 dX12_startOf_35 (t := 2) rfl ?_
      exact zw_sub (ma_nd_of (ks := [0, 1, 2]) rfl (by decide)) (ma_nd_of (ks := [2, 0, 1]) rfl (by decide)) (ma_le_cons rfl (ma_le_cons rfl (ma_le_cons rfl (ma_le_nil _)))) (h d w _ Q (by omega) (by omega) hS rfl HQ)
theorem lp_227_2 {X : Nat × (Nat → Int32)} {P : Option ma_V → (Nat → Nat → Int32) → Prop} {p : Int32} {m0 : Nat → Nat → Int32} (h0 : zV m0) (K : ∀ v m₉, zF wr_227 m0 m₉ → zV m₉ → (0 ≤ v.toInt ∧ v.toInt ≤ 4700) → P (some (.inl v)) m₉) : ∀ (n : Nat) (m : Nat → Nat → Int32) (l1 : Int32) (l2 : Int32), (4800 - l2.toInt).toNat = n → zF wr_227 m0 m → zV m → (0 ≤ l2.toInt) → (l2.toInt ≤ 4700) → (l1.toInt ≤ 4600) → zm X 1 21 227 2 [(0, .inr (.inr (some 94))), (1, .inl l1), (2, .inl l2)] m P := by
  intro n
  induction n using Nat.strongRecOn with
  | _ n IH =>
    intro m l1 l2 hmu hF hV hi0 hi1 hi2
    refine g_227_2 l1 l2 ?_
    have b1 := i_bd l1
    have b2 := i_bd l2
    refine zd (fun (h3 : l1 ≤ l2) => ?_) (fun (h3 : ¬ l1 ≤ l2) => ?_)
    · skip
      have g4 := i_le h3
      exact K (l2) _ hF hV (show 0 ≤ l2.toInt ∧ l2.toInt ≤ 4700 from by omega)
    · skip
      have g5 := i_nle h3
      have hg6 : (0 ≤ l2 ∧ l2.toNatClampNeg < 4600) := i_ix (by omega) (by omega)
      refine ⟨hg6, ?_⟩
      first | have f7 : -1 ≤ (m 111 l2.toNatClampNeg).toInt ∧ (m 111 l2.toNatClampNeg).toInt ≤ 3099 := ra_111 (m := m) hV (k := l2.toNatClampNeg) (i_ix (n := 4600) (by omega) (by omega)).2 | have b8 := i_bd (m 111 l2.toNatClampNeg)
      have li9 : (0 : Int32).toInt = 0 := rfl
      refine zd (fun (h10 : (m 111 l2.toNatClampNeg) < (0 : Int32)) => ?_) (fun (h10 : ¬ (m 111 l2.toNatClampNeg) < (0 : Int32)) => ?_)
      · skip
        have g11 := i_lt h10
        first | have e12 : (l2 + (1 : Int32)).toInt = l2.toInt + (1) := i_addk rfl (by omega) (by omega) | have b13 := i_bd (l2 + (1 : Int32))
        exact IH (4800 - (l2 + (1 : Int32)).toInt).toNat (by omega) _ (l1) ((l2 + (1 : Int32))) rfl hF hV (by omega) (by omega) (by omega)
      · skip
        have g14 := i_nlt h10
        have hg15 : (0 ≤ l2 ∧ l2.toNatClampNeg < 4600) := i_ix (by omega) (by omega)
        refine ⟨hg15, ?_⟩
        have hg16 : (0 ≤ (m 111 l2.toNatClampNeg) ∧ (m 111 l2.toNatClampNeg).toNatClampNeg < 3100) := i_ix (by omega) (by omega)
        refine ⟨hg16, ?_⟩
        first | have f17 : 0 ≤ (m 102 (m 111 l2.toNatClampNeg).toNatClampNeg).toInt ∧ (m 102 (m 111 l2.toNatClampNeg).toNatClampNeg).toInt ≤ 60 := ra_102 (m := m) hV (k := (m 111 l2.toNatClampNeg).toNatClampNeg) (i_ix (n := 3100) (by omega) (by omega)).2 | have b18 := i_bd (m 102 (m 111 l2.toNatClampNeg).toNatClampNeg)
        first | have e19 : ((m 102 (m 111 l2.toNatClampNeg).toNatClampNeg) + (1 : Int32)).toInt = (m 102 (m 111 l2.toNatClampNeg).toNatClampNeg).toInt + (1) := i_addk rfl (by omega) (by omega) | have b20 := i_bd ((m 102 (m 111 l2.toNatClampNeg).toNatClampNeg) + (1 : Int32))
        first | have e21 : (l2 + ((m 102 (m 111 l2.toNatClampNeg).toNatClampNeg) + (1 : Int32))).toInt = l2.toInt + ((m 102 (m 111 l2.toNatClampNeg).toNatClampNeg) + (1 : Int32)).toInt := i_add (by omega) (by omega) | have b22 := i_bd (l2 + ((m 102 (m 111 l2.toNatClampNeg).toNatClampNeg) + (1 : Int32)))
        exact IH (4800 - (l2 + ((m 102 (m 111 l2.toNatClampNeg).toNatClampNeg) + (1 : Int32))).toInt).toNat (by omega) _ (l1) ((l2 + ((m 102 (m 111 l2.toNatClampNeg).toNatClampNeg) + (1 : Int32)))) rfl hF hV (by omega) (by omega) (by omega)
theorem sp_227 {X : Nat × (Nat → Int32)} {P : Option ma_V → (Nat → Nat → Int32) → Prop} {m : Nat → Nat → Int32} (p : Int32) (hV : zV m) (hpre0 : p.toInt ≤ 4600) (KZ : ∀ v m₉, zV (zov wr_227 m m₉) → (0 ≤ v.toInt ∧ v.toInt ≤ 4700) → P (some (.inl v)) (zov wr_227 m m₉)) : zm X 1 21 227 0 [(0, .inr (.inr (some 94))), (1, .inl p)] m P := by
  have K : ∀ v m₉, zF wr_227 m m₉ → zV m₉ → (0 ≤ v.toInt ∧ v.toInt ≤ 4700) → P (some (.inl v)) m₉ := by
    intro v m₉ hf z q0
    have e := zov_eq hf
    rw [e] at z ⊢
    try rw [e] at q0
    exact KZ v m₉ z q0
  refine g_227_0 p ?_
  have b1 := i_bd p
  have li2 : (0 : Int32).toInt = 0 := rfl
  exact lp_227_2 (p := p) hV K _ _ (p) ((0 : Int32)) rfl zF_rfl hV (by omega) (by omega) (by omega)

/-! from 94.408 -/
/-! the reference (written by wip/tools/gen94m.py) -/
set_option maxRecDepth 100000 in
theorem hm_224 : ma_md 224 = some (12, yX12_find, cX12_find, 5, (some (FieldType.int))) := rfl
theorem f_12_205_12 : ma_fld 12 205 12 = some 12 := by decide +kernel
theorem f_12_282_12 : ma_fld 12 282 12 = some 62 := by decide +kernel
theorem v_12_426_12 : ma_vl 12 426 12 = some (1, 225, 3) := by decide +kernel
theorem v_12_430_12 : ma_vl 12 430 12 = some (1, 227, 1) := by decide +kernel
theorem v_12_433_12 : ma_vl 12 433 12 = some (1, 228, 2) := by decide +kernel
theorem dX12_find_0 : decode cX12_find 0 = .ok (.aload_n 0, 1) := by decide +kernel
theorem dX12_find_18 : decode cX12_find 18 = .ok (.aload_n 0, 1) := by decide +kernel
theorem dX12_find_22 : decode cX12_find 22 = .ok (.iconst 1, 1) := by decide +kernel
theorem dX12_find_61 : decode cX12_find 61 = .ok (.iconst (-1), 1) := by decide +kernel
theorem dX12_find_62 : decode cX12_find 62 = .ok (.istore_n 2, 1) := by decide +kernel
theorem dX12_find_63 : decode cX12_find 63 = .ok (.iconst 0, 1) := by decide +kernel
theorem dX12_find_64 : decode cX12_find 64 = .ok (.istore_n 3, 1) := by decide +kernel
theorem dX12_find_65 : decode cX12_find 65 = .ok (.aload_n 0, 1) := by decide +kernel
theorem dX12_find_66 : decode cX12_find 66 = .ok (.iconst 0, 1) := by decide +kernel
theorem dX12_find_67 : decode cX12_find 67 = .ok (.aload_n 0, 1) := by decide +kernel
theorem dX12_find_71 : decode cX12_find 71 = .ok (.invokevirtual 423, 3) := by decide +kernel
theorem dX12_find_74 : decode cX12_find 74 = .ok (.istore 4, 2) := by decide +kernel
theorem dX12_find_68 : decode cX12_find 68 = .ok (.getfield 202, 3) := by decide +kernel
theorem dX12_find_26 : decode cX12_find 26 = .ok (.aload_n 0, 1) := by decide +kernel
theorem dX12_find_27 : decode cX12_find 27 = .ok (.aload_n 0, 1) := by decide +kernel
theorem dX12_find_31 : decode cX12_find 31 = .ok (.invokevirtual 430, 3) := by decide +kernel
theorem dX12_find_34 : decode cX12_find 34 = .ok (.istore_n 2, 1) := by decide +kernel
theorem dX12_find_35 : decode cX12_find 35 = .ok (.aload_n 0, 1) := by decide +kernel
theorem dX12_find_36 : decode cX12_find 36 = .ok (.iload_n 1, 1) := by decide +kernel
theorem dX12_find_37 : decode cX12_find 37 = .ok (.iload_n 2, 1) := by decide +kernel
theorem dX12_find_38 : decode cX12_find 38 = .ok (.aload_n 0, 1) := by decide +kernel
theorem dX12_find_42 : decode cX12_find 42 = .ok (.invokevirtual 426, 3) := by decide +kernel
theorem dX12_find_45 : decode cX12_find 45 = .ok (.istore_n 3, 1) := by decide +kernel
theorem dX12_find_46 : decode cX12_find 46 = .ok (.iload_n 3, 1) := by decide +kernel
theorem dX12_find_54 : decode cX12_find 54 = .ok (.aload_n 0, 1) := by decide +kernel
theorem dX12_find_55 : decode cX12_find 55 = .ok (.iload_n 1, 1) := by decide +kernel
theorem dX12_find_56 : decode cX12_find 56 = .ok (.iload_n 2, 1) := by decide +kernel
theorem dX12_find_57 : decode cX12_find 57 = .ok (.invokevirtual 433, 3) := by decide +kernel
theorem dX12_find_60 : decode cX12_find 60 = .ok (.ireturn, 1) := by decide +kernel
theorem dX12_find_50 : decode cX12_find 50 = .ok (.iload_n 3, 1) := by decide +kernel
theorem dX12_find_51 : decode cX12_find 51 = .ok (.goto 9, 3) := by decide +kernel
theorem dX12_find_47 : decode cX12_find 47 = .ok (.ifCond .lt 7, 3) := by decide +kernel
theorem dX12_find_39 : decode cX12_find 39 = .ok (.getfield 202, 3) := by decide +kernel
theorem dX12_find_28 : decode cX12_find 28 = .ok (.getfield 282, 3) := by decide +kernel
theorem dX12_find_23 : decode cX12_find 23 = .ok (.if_icmp .ne 38, 3) := by decide +kernel
theorem dX12_find_19 : decode cX12_find 19 = .ok (.getfield 205, 3) := by decide +kernel
theorem dX12_find_7 : decode cX12_find 7 = .ok (.aload_n 0, 1) := by decide +kernel
theorem dX12_find_8 : decode cX12_find 8 = .ok (.iload_n 1, 1) := by decide +kernel
theorem dX12_find_9 : decode cX12_find 9 = .ok (.iconst 0, 1) := by decide +kernel
theorem dX12_find_10 : decode cX12_find 10 = .ok (.aload_n 0, 1) := by decide +kernel
theorem dX12_find_14 : decode cX12_find 14 = .ok (.invokevirtual 426, 3) := by decide +kernel
theorem dX12_find_17 : decode cX12_find 17 = .ok (.ireturn, 1) := by decide +kernel
theorem dX12_find_11 : decode cX12_find 11 = .ok (.getfield 202, 3) := by decide +kernel
theorem dX12_find_4 : decode cX12_find 4 = .ok (.ifCond .ne 14, 3) := by decide +kernel
theorem dX12_find_1 : decode cX12_find 1 = .ok (.getfield 205, 3) := by decide +kernel
theorem dX12_find_76 : decode cX12_find 76 = .ok (.iload 4, 2) := by decide +kernel
theorem dX12_find_161 : decode cX12_find 161 = .ok (.iload_n 2, 1) := by decide +kernel
theorem dX12_find_162 : decode cX12_find 162 = .ok (.ireturn, 1) := by decide +kernel
theorem dX12_find_81 : decode cX12_find 81 = .ok (.aload_n 0, 1) := by decide +kernel
theorem dX12_find_82 : decode cX12_find 82 = .ok (.dup, 1) := by decide +kernel
theorem dX12_find_86 : decode cX12_find 86 = .ok (.iconst 1, 1) := by decide +kernel
theorem dX12_find_87 : decode cX12_find 87 = .ok (.iadd, 1) := by decide +kernel
theorem dX12_find_91 : decode cX12_find 91 = .ok (.aload_n 0, 1) := by decide +kernel
theorem dX12_find_95 : decode cX12_find 95 = .ok (.iload_n 1, 1) := by decide +kernel
theorem dX12_find_141 : decode cX12_find 141 = .ok (.aload_n 0, 1) := by decide +kernel
theorem dX12_find_142 : decode cX12_find 142 = .ok (.iload 4, 2) := by decide +kernel
theorem dX12_find_144 : decode cX12_find 144 = .ok (.aload_n 0, 1) := by decide +kernel
theorem dX12_find_148 : decode cX12_find 148 = .ok (.iadd, 1) := by decide +kernel
theorem dX12_find_149 : decode cX12_find 149 = .ok (.aload_n 0, 1) := by decide +kernel
theorem dX12_find_153 : decode cX12_find 153 = .ok (.invokevirtual 423, 3) := by decide +kernel
theorem dX12_find_156 : decode cX12_find 156 = .ok (.istore 4, 2) := by decide +kernel
theorem dX12_find_158 : decode cX12_find 158 = .ok (.goto (-82), 3) := by decide +kernel
theorem dX12_find_150 : decode cX12_find 150 = .ok (.getfield 202, 3) := by decide +kernel
theorem dX12_find_145 : decode cX12_find 145 = .ok (.getfield 420, 3) := by decide +kernel
theorem dX12_find_99 : decode cX12_find 99 = .ok (.iload_n 2, 1) := by decide +kernel
theorem dX12_find_133 : decode cX12_find 133 = .ok (.iload 4, 2) := by decide +kernel
theorem dX12_find_135 : decode cX12_find 135 = .ok (.istore_n 2, 1) := by decide +kernel
theorem dX12_find_136 : decode cX12_find 136 = .ok (.aload_n 0, 1) := by decide +kernel
theorem dX12_find_140 : decode cX12_find 140 = .ok (.istore_n 3, 1) := by decide +kernel
theorem dX12_find_137 : decode cX12_find 137 = .ok (.getfield 420, 3) := by decide +kernel
theorem dX12_find_103 : decode cX12_find 103 = .ok (.aload_n 0, 1) := by decide +kernel
theorem dX12_find_107 : decode cX12_find 107 = .ok (.iconst 2, 1) := by decide +kernel
theorem dX12_find_122 : decode cX12_find 122 = .ok (.aload_n 0, 1) := by decide +kernel
theorem dX12_find_126 : decode cX12_find 126 = .ok (.iload_n 3, 1) := by decide +kernel
theorem dX12_find_130 : decode cX12_find 130 = .ok (.goto 11, 3) := by decide +kernel
theorem dX12_find_127 : decode cX12_find 127 = .ok (.if_icmp .gt 6, 3) := by decide +kernel
theorem dX12_find_123 : decode cX12_find 123 = .ok (.getfield 420, 3) := by decide +kernel
theorem dX12_find_111 : decode cX12_find 111 = .ok (.aload_n 0, 1) := by decide +kernel
theorem dX12_find_115 : decode cX12_find 115 = .ok (.iload_n 3, 1) := by decide +kernel
theorem dX12_find_119 : decode cX12_find 119 = .ok (.goto 22, 3) := by decide +kernel
theorem dX12_find_116 : decode cX12_find 116 = .ok (.if_icmp .lt 17, 3) := by decide +kernel
theorem dX12_find_112 : decode cX12_find 112 = .ok (.getfield 420, 3) := by decide +kernel
theorem dX12_find_108 : decode cX12_find 108 = .ok (.if_icmp .ne 14, 3) := by decide +kernel
theorem dX12_find_104 : decode cX12_find 104 = .ok (.getfield 205, 3) := by decide +kernel
theorem dX12_find_100 : decode cX12_find 100 = .ok (.ifCond .lt 33, 3) := by decide +kernel
theorem dX12_find_96 : decode cX12_find 96 = .ok (.if_icmp .lt 45, 3) := by decide +kernel
theorem dX12_find_92 : decode cX12_find 92 = .ok (.getfield 420, 3) := by decide +kernel
theorem dX12_find_88 : decode cX12_find 88 = .ok (.putfield 258, 3) := by decide +kernel
theorem dX12_find_83 : decode cX12_find 83 = .ok (.getfield 258, 3) := by decide +kernel
theorem dX12_find_78 : decode cX12_find 78 = .ok (.ifCond .lt 83, 3) := by decide +kernel
def wr_224 (c k : Nat) : Bool := (Nat.beq c 94 && (Nat.beq k 50 || Nat.beq k 84))
theorem ws_225_224 : ∀ c k, wr_225 c k = true → wr_224 c k = true := by
  intro c k h
  simp only [wr_225, wr_224, Bool.or_eq_true, Bool.and_eq_true, Nat.beq_eq] at h ⊢
  omega
theorem ws_226_224 : ∀ c k, wr_226 c k = true → wr_224 c k = true := by
  intro c k h
  simp only [wr_226, wr_224, Bool.or_eq_true, Bool.and_eq_true, Nat.beq_eq] at h ⊢
  omega
theorem ws_227_224 : ∀ c k, wr_227 c k = true → wr_224 c k = true := fun _ _ h => by cases h
theorem ws_228_224 : ∀ c k, wr_228 c k = true → wr_224 c k = true := by
  intro c k h
  simp only [wr_228, wr_224, Bool.or_eq_true, Bool.and_eq_true, Nat.beq_eq] at h ⊢
  omega
theorem g_224_0 {X : Nat × (Nat → Int32)} {m : Nat → Nat → Int32} {P : Option ma_V → (Nat → Nat → Int32) → Prop} (n : Int32) (h : if (m 94 12) = 0 then (zm X 2 45 225 0 [(0, .inr (.inr (some 94))), (1, .inl n), (2, .inl (0 : Int32)), (3, .inl (m 94 11))] m (zmi (fun v10 m9 => P (some (.inl v10)) m9))) else (if (m 94 12) = (1 : Int32) then (zm X 1 21 227 0 [(0, .inr (.inr (some 94))), (1, .inl (m 94 62))] m (zmi (fun v4 m3 => zm X 2 45 225 0 [(0, .inr (.inr (some 94))), (1, .inl n), (2, .inl v4), (3, .inl (m3 94 11))] m3 (zmi (fun v6 m5 => if v6 < 0 then (zm X 2 45 228 0 [(0, .inr (.inr (some 94))), (1, .inl n), (2, .inl v4)] m5 (zmi (fun v8 m7 => P (some (.inl v8)) m7))) else (P (some (.inl v6)) m5)))))) else (zm X 1 21 226 0 [(0, .inr (.inr (some 94))), (1, .inl (0 : Int32)), (2, .inl (m 94 11))] m (zmi (fun v2 m1 => zm X 3 69 224 76 [(0, .inr (.inr (some 94))), (1, .inl n), (2, .inl (-1 : Int32)), (3, .inl (0 : Int32)), (4, .inl v2)] m1 P))))) : zm X 3 69 224 0 [(0, .inr (.inr (some 94))), (1, .inl n)] m P := by
  intro d w S Q hd hw hS hm HQ
  subst hm
  refine zw_push hm_224 dX12_find_0 (v := .inr (.inr (some 94))) rfl ?_
  refine zw_gf hm_224 dX12_find_1 (v := .inl ((mI S) 94 12)) (zT_is hS s_94) (zT_t hS s_94) rfl f_12_205_12 rfl ?_
  refine zw_if0 hm_224 dX12_find_4 (t := 18) rfl zc0_ne ?_ ?_
  · intro hc
    rw [if_neg hc] at h
    refine zw_push hm_224 dX12_find_18 (v := .inr (.inr (some 94))) rfl ?_
    refine zw_gf hm_224 dX12_find_19 (v := .inl ((mI S) 94 12)) (zT_is hS s_94) (zT_t hS s_94) rfl f_12_205_12 rfl ?_
    refine zw_push hm_224 dX12_find_22 (v := .inl (1 : Int32)) rfl ?_
    refine zw_if2 hm_224 dX12_find_23 (t := 61) rfl zc2_ne ?_ ?_
    · intro hc
      rw [if_neg hc] at h
      refine zw_push hm_224 dX12_find_61 (v := .inl (-1 : Int32)) rfl ?_
      refine zw_sto hm_224 dX12_find_62 [(2, .inl (-1 : Int32)), (0, .inr (.inr (some 94))), (1, .inl n)] rfl rfl rfl ?_
      refine zw_push hm_224 dX12_find_63 (v := .inl (0 : Int32)) rfl ?_
      refine zw_sto hm_224 dX12_find_64 [(3, .inl (0 : Int32)), (2, .inl (-1 : Int32)), (0, .inr (.inr (some 94))), (1, .inl n)] rfl rfl rfl ?_
      refine zw_push hm_224 dX12_find_65 (v := .inr (.inr (some 94))) rfl ?_
      refine zw_push hm_224 dX12_find_66 (v := .inl (0 : Int32)) rfl ?_
      refine zw_push hm_224 dX12_find_67 (v := .inr (.inr (some 94))) rfl ?_
      refine zw_gf hm_224 dX12_find_68 (v := .inl ((mI S) 94 11)) (zT_is hS s_94) (zT_t hS s_94) rfl f_12_202_12 rfl ?_
      refine zw_cv hm_224 dX12_find_71 v_12_423_12 hm_226 [.inl ((mI S) 94 11), .inl (0 : Int32)] [] rfl (zT_rt hS s_94 rfl) ⟨by omega, by omega⟩ rfl (h _ _ S _ (by omega) (by omega) hS rfl (fun o9 m1 hv => ?_))
      obtain ⟨v2, rfl, h⟩ := zmi_of hv
      show ma_wp X d w 224 74 [(3, .inl (0 : Int32)), (2, .inl (-1 : Int32)), (0, .inr (.inr (some 94))), (1, .inl n)] [.inl v2] (zst S m1) _
      refine zw_sto hm_224 dX12_find_74 [(4, .inl v2), (3, .inl (0 : Int32)), (2, .inl (-1 : Int32)), (0, .inr (.inr (some 94))), (1, .inl n)] rfl rfl rfl ?_
      exact zw_sub (ma_nd_of (ks := [0, 1, 2, 3, 4]) rfl (by decide)) (ma_nd_of (ks := [4, 3, 2, 0, 1]) rfl (by decide)) (ma_le_cons rfl (ma_le_cons rfl (ma_le_cons rfl (ma_le_cons rfl (ma_le_cons rfl (ma_le_nil _)))))) (h d w _ Q (by omega) (by omega) (zT_zst hS m1) rfl HQ)
    · intro hc
      rw [if_pos (Classical.not_not.mp hc)] at h
      refine zw_push hm_224 dX12_find_26 (v := .inr (.inr (some 94))) rfl ?_
      refine zw_push hm_224 dX12_find_27 (v := .inr (.inr (some 94))) rfl ?_
      refine zw_gf hm_224 dX12_find_28 (v := .inl ((mI S) 94 62)) (zT_is hS s_94) (zT_t hS s_94) rfl f_12_282_12 rfl ?_
      refine zw_cv hm_224 dX12_find_31 v_12_430_12 hm_227 [.inl ((mI S) 94 62)] [] rfl (zT_rt hS s_94 rfl) ⟨by omega, by omega⟩ rfl (h _ _ S _ (by omega) (by omega) hS rfl (fun o9 m3 hv => ?_))
      obtain ⟨v4, rfl, h⟩ := zmi_of hv
      show ma_wp X d w 224 34 [(0, .inr (.inr (some 94))), (1, .inl n)] [.inl v4] (zst S m3) _
      refine zw_sto hm_224 dX12_find_34 [(2, .inl v4), (0, .inr (.inr (some 94))), (1, .inl n)] rfl rfl rfl ?_
      refine zw_push hm_224 dX12_find_35 (v := .inr (.inr (some 94))) rfl ?_
      refine zw_push hm_224 dX12_find_36 (v := .inl n) rfl ?_
      refine zw_push hm_224 dX12_find_37 (v := .inl v4) rfl ?_
      refine zw_push hm_224 dX12_find_38 (v := .inr (.inr (some 94))) rfl ?_
      refine zw_gf hm_224 dX12_find_39 (v := .inl (m3 94 11)) (zT_is (zT_zst hS m3) s_94) (zT_t (zT_zst hS m3) s_94) rfl f_12_202_12 rfl ?_
      refine zw_cv hm_224 dX12_find_42 v_12_426_12 hm_225 [.inl (m3 94 11), .inl v4, .inl n] [] rfl (zT_rt (zT_zst hS m3) s_94 rfl) ⟨by omega, by omega⟩ rfl (h _ _ (zst S m3) _ (by omega) (by omega) (zT_zst hS m3) rfl (fun o9 m5 hv => ?_))
      obtain ⟨v6, rfl, h⟩ := zmi_of hv
      show ma_wp X d w 224 45 [(2, .inl v4), (0, .inr (.inr (some 94))), (1, .inl n)] [.inl v6] (zst S m5) _
      refine zw_sto hm_224 dX12_find_45 [(3, .inl v6), (2, .inl v4), (0, .inr (.inr (some 94))), (1, .inl n)] rfl rfl rfl ?_
      refine zw_push hm_224 dX12_find_46 (v := .inl v6) rfl ?_
      refine zw_if0 hm_224 dX12_find_47 (t := 54) rfl zc0_lt ?_ ?_
      · intro hc
        rw [if_pos hc] at h
        refine zw_push hm_224 dX12_find_54 (v := .inr (.inr (some 94))) rfl ?_
        refine zw_push hm_224 dX12_find_55 (v := .inl n) rfl ?_
        refine zw_push hm_224 dX12_find_56 (v := .inl v4) rfl ?_
        refine zw_cv hm_224 dX12_find_57 v_12_433_12 hm_228 [.inl v4, .inl n] [] rfl (zT_rt (zT_zst hS m5) s_94 rfl) ⟨by omega, by omega⟩ rfl (h _ _ (zst S m5) _ (by omega) (by omega) (zT_zst hS m5) rfl (fun o9 m7 hv => ?_))
        obtain ⟨v8, rfl, h⟩ := zmi_of hv
        show ma_wp X d w 224 60 [(3, .inl v6), (2, .inl v4), (0, .inr (.inr (some 94))), (1, .inl n)] [.inl v8] (zst S m7) _
        exact zw_iret hm_224 dX12_find_60 (HQ _ _ h)
      · intro hc
        rw [if_neg hc] at h
        refine zw_push hm_224 dX12_find_50 (v := .inl v6) rfl ?_
        refine zw_goto hm_224 dX12_find_51 (t := 60) rfl ?_
        exact zw_iret hm_224 dX12_find_60 (HQ _ _ h)
  · intro hc
    rw [if_pos (Classical.not_not.mp hc)] at h
    refine zw_push hm_224 dX12_find_7 (v := .inr (.inr (some 94))) rfl ?_
    refine zw_push hm_224 dX12_find_8 (v := .inl n) rfl ?_
    refine zw_push hm_224 dX12_find_9 (v := .inl (0 : Int32)) rfl ?_
    refine zw_push hm_224 dX12_find_10 (v := .inr (.inr (some 94))) rfl ?_
    refine zw_gf hm_224 dX12_find_11 (v := .inl ((mI S) 94 11)) (zT_is hS s_94) (zT_t hS s_94) rfl f_12_202_12 rfl ?_
    refine zw_cv hm_224 dX12_find_14 v_12_426_12 hm_225 [.inl ((mI S) 94 11), .inl (0 : Int32), .inl n] [] rfl (zT_rt hS s_94 rfl) ⟨by omega, by omega⟩ rfl (h _ _ S _ (by omega) (by omega) hS rfl (fun o9 m9 hv => ?_))
    obtain ⟨v10, rfl, h⟩ := zmi_of hv
    show ma_wp X d w 224 17 [(0, .inr (.inr (some 94))), (1, .inl n)] [.inl v10] (zst S m9) _
    exact zw_iret hm_224 dX12_find_17 (HQ _ _ h)
theorem g_224_76 {X : Nat × (Nat → Int32)} {m : Nat → Nat → Int32} {P : Option ma_V → (Nat → Nat → Int32) → Prop} (l1 : Int32) (l2 : Int32) (l3 : Int32) (l4 : Int32) (h : if l4 < 0 then (P (some (.inl l2)) m) else (if (m 94 84) < l1 then (zm X 1 21 226 0 [(0, .inr (.inr (some 94))), (1, .inl (l4 + (m 94 84))), (2, .inl (m 94 11))] (ma_u m 94 50 ((m 94 50) + (1 : Int32))) (zmi (fun v2 m1 => zm X 3 69 224 76 [(0, .inr (.inr (some 94))), (1, .inl l1), (2, .inl l2), (3, .inl l3), (4, .inl v2)] m1 P))) else (if l2 < 0 then (zm X 1 21 226 0 [(0, .inr (.inr (some 94))), (1, .inl (l4 + (m 94 84))), (2, .inl (m 94 11))] (ma_u m 94 50 ((m 94 50) + (1 : Int32))) (zmi (fun v4 m3 => zm X 3 69 224 76 [(0, .inr (.inr (some 94))), (1, .inl l1), (2, .inl l4), (3, .inl (m 94 84)), (4, .inl v4)] m3 P))) else (if (m 94 12) = (2 : Int32) then (if (m 94 84) < l3 then (zm X 1 21 226 0 [(0, .inr (.inr (some 94))), (1, .inl (l4 + (m 94 84))), (2, .inl (m 94 11))] (ma_u m 94 50 ((m 94 50) + (1 : Int32))) (zmi (fun v10 m9 => zm X 3 69 224 76 [(0, .inr (.inr (some 94))), (1, .inl l1), (2, .inl l4), (3, .inl (m 94 84)), (4, .inl v10)] m9 P))) else (zm X 1 21 226 0 [(0, .inr (.inr (some 94))), (1, .inl (l4 + (m 94 84))), (2, .inl (m 94 11))] (ma_u m 94 50 ((m 94 50) + (1 : Int32))) (zmi (fun v12 m11 => zm X 3 69 224 76 [(0, .inr (.inr (some 94))), (1, .inl l1), (2, .inl l2), (3, .inl l3), (4, .inl v12)] m11 P)))) else (if l3 < (m 94 84) then (zm X 1 21 226 0 [(0, .inr (.inr (some 94))), (1, .inl (l4 + (m 94 84))), (2, .inl (m 94 11))] (ma_u m 94 50 ((m 94 50) + (1 : Int32))) (zmi (fun v6 m5 => zm X 3 69 224 76 [(0, .inr (.inr (some 94))), (1, .inl l1), (2, .inl l4), (3, .inl (m 94 84)), (4, .inl v6)] m5 P))) else (zm X 1 21 226 0 [(0, .inr (.inr (some 94))), (1, .inl (l4 + (m 94 84))), (2, .inl (m 94 11))] (ma_u m 94 50 ((m 94 50) + (1 : Int32))) (zmi (fun v8 m7 => zm X 3 69 224 76 [(0, .inr (.inr (some 94))), (1, .inl l1), (2, .inl l2), (3, .inl l3), (4, .inl v8)] m7 P)))))))) : zm X 3 69 224 76 [(0, .inr (.inr (some 94))), (1, .inl l1), (2, .inl l2), (3, .inl l3), (4, .inl l4)] m P := by
  intro d w S Q hd hw hS hm HQ
  subst hm
  refine zw_push hm_224 dX12_find_76 (v := .inl l4) rfl ?_
  refine zw_if0 hm_224 dX12_find_78 (t := 161) rfl zc0_lt ?_ ?_
  · intro hc
    rw [if_pos hc] at h
    refine zw_push hm_224 dX12_find_161 (v := .inl l2) rfl ?_
    exact zw_iret hm_224 dX12_find_162 (HQ _ _ h)
  · intro hc
    rw [if_neg hc] at h
    refine zw_push hm_224 dX12_find_81 (v := .inr (.inr (some 94))) rfl ?_
    refine zw_stk hm_224 dX12_find_82 (st₉ := [.inr (.inr (some 94)), .inr (.inr (some 94))]) rfl rfl ?_
    refine zw_gf hm_224 dX12_find_83 (v := .inl ((mI S) 94 50)) (zT_is hS s_94) (zT_t hS s_94) rfl f_12_258_12 rfl ?_
    refine zw_push hm_224 dX12_find_86 (v := .inl (1 : Int32)) rfl ?_
    refine zw_stk hm_224 dX12_find_87 (st₉ := [.inl (((mI S) 94 50) + (1 : Int32)), .inr (.inr (some 94))]) rfl rfl ?_
    refine zw_pf hm_224 dX12_find_88 (zT_is hS s_94) (zT_t hS s_94) p_12_258_12 zk_int ?_
    refine zw_push hm_224 dX12_find_91 (v := .inr (.inr (some 94))) rfl ?_
    refine zw_gf hm_224 dX12_find_92 (v := .inl ((mI S) 94 84)) (zT_is (zT_pi hS) s_94) (zT_t (zT_pi hS) s_94) rfl f_12_420_12 rfl ?_
    refine zw_push hm_224 dX12_find_95 (v := .inl l1) rfl ?_
    refine zw_if2 hm_224 dX12_find_96 (t := 141) rfl zc2_lt ?_ ?_
    · intro hc
      rw [if_pos hc] at h
      refine zw_push hm_224 dX12_find_141 (v := .inr (.inr (some 94))) rfl ?_
      refine zw_push hm_224 dX12_find_142 (v := .inl l4) rfl ?_
      refine zw_push hm_224 dX12_find_144 (v := .inr (.inr (some 94))) rfl ?_
      refine zw_gf hm_224 dX12_find_145 (v := .inl ((mI S) 94 84)) (zT_is (zT_pi hS) s_94) (zT_t (zT_pi hS) s_94) rfl f_12_420_12 rfl ?_
      refine zw_stk hm_224 dX12_find_148 (st₉ := [.inl (l4 + ((mI S) 94 84)), .inr (.inr (some 94))]) rfl rfl ?_
      refine zw_push hm_224 dX12_find_149 (v := .inr (.inr (some 94))) rfl ?_
      refine zw_gf hm_224 dX12_find_150 (v := .inl ((mI S) 94 11)) (zT_is (zT_pi hS) s_94) (zT_t (zT_pi hS) s_94) rfl f_12_202_12 rfl ?_
      refine zw_cv hm_224 dX12_find_153 v_12_423_12 hm_226 [.inl ((mI S) 94 11), .inl (l4 + ((mI S) 94 84))] [] rfl (zT_rt (zT_pi hS) s_94 rfl) ⟨by omega, by omega⟩ rfl (h _ _ (ma_put S 94 50 (.inl (((mI S) 94 50) + (1 : Int32)))) _ (by omega) (by omega) (zT_pi hS) rfl (fun o9 m1 hv => ?_))
      obtain ⟨v2, rfl, h⟩ := zmi_of hv
      show ma_wp X d w 224 156 [(0, .inr (.inr (some 94))), (1, .inl l1), (2, .inl l2), (3, .inl l3), (4, .inl l4)] [.inl v2] (zst S m1) _
      refine zw_sto hm_224 dX12_find_156 [(4, .inl v2), (0, .inr (.inr (some 94))), (1, .inl l1), (2, .inl l2), (3, .inl l3)] rfl rfl rfl ?_
      refine zw_goto hm_224 dX12_find_158 (t := 76) rfl ?_
      exact zw_sub (ma_nd_of (ks := [0, 1, 2, 3, 4]) rfl (by decide)) (ma_nd_of (ks := [4, 0, 1, 2, 3]) rfl (by decide)) (ma_le_cons rfl (ma_le_cons rfl (ma_le_cons rfl (ma_le_cons rfl (ma_le_cons rfl (ma_le_nil _)))))) (h d w _ Q (by omega) (by omega) (zT_zst hS m1) rfl HQ)
    · intro hc
      rw [if_neg hc] at h
      refine zw_push hm_224 dX12_find_99 (v := .inl l2) rfl ?_
      refine zw_if0 hm_224 dX12_find_100 (t := 133) rfl zc0_lt ?_ ?_
      · intro hc
        rw [if_pos hc] at h
        refine zw_push hm_224 dX12_find_133 (v := .inl l4) rfl ?_
        refine zw_sto hm_224 dX12_find_135 [(2, .inl l4), (0, .inr (.inr (some 94))), (1, .inl l1), (3, .inl l3), (4, .inl l4)] rfl rfl rfl ?_
        refine zw_push hm_224 dX12_find_136 (v := .inr (.inr (some 94))) rfl ?_
        refine zw_gf hm_224 dX12_find_137 (v := .inl ((mI S) 94 84)) (zT_is (zT_pi hS) s_94) (zT_t (zT_pi hS) s_94) rfl f_12_420_12 rfl ?_
        refine zw_sto hm_224 dX12_find_140 [(3, .inl ((mI S) 94 84)), (2, .inl l4), (0, .inr (.inr (some 94))), (1, .inl l1), (4, .inl l4)] rfl rfl rfl ?_
        refine zw_push hm_224 dX12_find_141 (v := .inr (.inr (some 94))) rfl ?_
        refine zw_push hm_224 dX12_find_142 (v := .inl l4) rfl ?_
        refine zw_push hm_224 dX12_find_144 (v := .inr (.inr (some 94))) rfl ?_
        refine zw_gf hm_224 dX12_find_145 (v := .inl ((mI S) 94 84)) (zT_is (zT_pi hS) s_94) (zT_t (zT_pi hS) s_94) rfl f_12_420_12 rfl ?_
        refine zw_stk hm_224 dX12_find_148 (st₉ := [.inl (l4 + ((mI S) 94 84)), .inr (.inr (some 94))]) rfl rfl ?_
        refine zw_push hm_224 dX12_find_149 (v := .inr (.inr (some 94))) rfl ?_
        refine zw_gf hm_224 dX12_find_150 (v := .inl ((mI S) 94 11)) (zT_is (zT_pi hS) s_94) (zT_t (zT_pi hS) s_94) rfl f_12_202_12 rfl ?_
        refine zw_cv hm_224 dX12_find_153 v_12_423_12 hm_226 [.inl ((mI S) 94 11), .inl (l4 + ((mI S) 94 84))] [] rfl (zT_rt (zT_pi hS) s_94 rfl) ⟨by omega, by omega⟩ rfl (h _ _ (ma_put S 94 50 (.inl (((mI S) 94 50) + (1 : Int32)))) _ (by omega) (by omega) (zT_pi hS) rfl (fun o9 m3 hv => ?_))
        obtain ⟨v4, rfl, h⟩ := zmi_of hv
        show ma_wp X d w 224 156 [(3, .inl ((mI S) 94 84)), (2, .inl l4), (0, .inr (.inr (some 94))), (1, .inl l1), (4, .inl l4)] [.inl v4] (zst S m3) _
        refine zw_sto hm_224 dX12_find_156 [(4, .inl v4), (3, .inl ((mI S) 94 84)), (2, .inl l4), (0, .inr (.inr (some 94))), (1, .inl l1)] rfl rfl rfl ?_
        refine zw_goto hm_224 dX12_find_158 (t := 76) rfl ?_
        exact zw_sub (ma_nd_of (ks := [0, 1, 2, 3, 4]) rfl (by decide)) (ma_nd_of (ks := [4, 3, 2, 0, 1]) rfl (by decide)) (ma_le_cons rfl (ma_le_cons rfl (ma_le_cons rfl (ma_le_cons rfl (ma_le_cons rfl (ma_le_nil _)))))) (h d w _ Q (by omega) (by omega) (zT_zst hS m3) rfl HQ)
      · intro hc
        rw [if_neg hc] at h
        refine zw_push hm_224 dX12_find_103 (v := .inr (.inr (some 94))) rfl ?_
        refine zw_gf hm_224 dX12_find_104 (v := .inl ((mI S) 94 12)) (zT_is (zT_pi hS) s_94) (zT_t (zT_pi hS) s_94) rfl f_12_205_12 rfl ?_
        refine zw_push hm_224 dX12_find_107 (v := .inl (2 : Int32)) rfl ?_
        refine zw_if2 hm_224 dX12_find_108 (t := 122) rfl zc2_ne ?_ ?_
        · intro hc
          rw [if_neg hc] at h
          refine zw_push hm_224 dX12_find_122 (v := .inr (.inr (some 94))) rfl ?_
          refine zw_gf hm_224 dX12_find_123 (v := .inl ((mI S) 94 84)) (zT_is (zT_pi hS) s_94) (zT_t (zT_pi hS) s_94) rfl f_12_420_12 rfl ?_
          refine zw_push hm_224 dX12_find_126 (v := .inl l3) rfl ?_
          refine zw_if2 hm_224 dX12_find_127 (t := 133) rfl zc2_gt ?_ ?_
          · intro hc
            rw [if_pos hc] at h
            refine zw_push hm_224 dX12_find_133 (v := .inl l4) rfl ?_
            refine zw_sto hm_224 dX12_find_135 [(2, .inl l4), (0, .inr (.inr (some 94))), (1, .inl l1), (3, .inl l3), (4, .inl l4)] rfl rfl rfl ?_
            refine zw_push hm_224 dX12_find_136 (v := .inr (.inr (some 94))) rfl ?_
            refine zw_gf hm_224 dX12_find_137 (v := .inl ((mI S) 94 84)) (zT_is (zT_pi hS) s_94) (zT_t (zT_pi hS) s_94) rfl f_12_420_12 rfl ?_
            refine zw_sto hm_224 dX12_find_140 [(3, .inl ((mI S) 94 84)), (2, .inl l4), (0, .inr (.inr (some 94))), (1, .inl l1), (4, .inl l4)] rfl rfl rfl ?_
            refine zw_push hm_224 dX12_find_141 (v := .inr (.inr (some 94))) rfl ?_
            refine zw_push hm_224 dX12_find_142 (v := .inl l4) rfl ?_
            refine zw_push hm_224 dX12_find_144 (v := .inr (.inr (some 94))) rfl ?_
            refine zw_gf hm_224 dX12_find_145 (v := .inl ((mI S) 94 84)) (zT_is (zT_pi hS) s_94) (zT_t (zT_pi hS) s_94) rfl f_12_420_12 rfl ?_
            refine zw_stk hm_224 dX12_find_148 (st₉ := [.inl (l4 + ((mI S) 94 84)), .inr (.inr (some 94))]) rfl rfl ?_
            refine zw_push hm_224 dX12_find_149 (v := .inr (.inr (some 94))) rfl ?_
            refine zw_gf hm_224 dX12_find_150 (v := .inl ((mI S) 94 11)) (zT_is (zT_pi hS) s_94) (zT_t (zT_pi hS) s_94) rfl f_12_202_12 rfl ?_
            refine zw_cv hm_224 dX12_find_153 v_12_423_12 hm_226 [.inl ((mI S) 94 11), .inl (l4 + ((mI S) 94 84))] [] rfl (zT_rt (zT_pi hS) s_94 rfl) ⟨by omega, by omega⟩ rfl (h _ _ (ma_put S 94 50 (.inl (((mI S) 94 50) + (1 : Int32)))) _ (by omega) (by omega) (zT_pi hS) rfl (fun o9 m5 hv => ?_))
            obtain ⟨v6, rfl, h⟩ := zmi_of hv
            show ma_wp X d w 224 156 [(3, .inl ((mI S) 94 84)), (2, .inl l4), (0, .inr (.inr (some 94))), (1, .inl l1), (4, .inl l4)] [.inl v6] (zst S m5) _
            refine zw_sto hm_224 dX12_find_156 [(4, .inl v6), (3, .inl ((mI S) 94 84)), (2, .inl l4), (0, .inr (.inr (some 94))), (1, .inl l1)] rfl rfl rfl ?_
            refine zw_goto hm_224 dX12_find_158 (t := 76) rfl ?_
            exact zw_sub (ma_nd_of (ks := [0, 1, 2, 3, 4]) rfl (by decide)) (ma_nd_of (ks := [4, 3, 2, 0, 1]) rfl (by decide)) (ma_le_cons rfl (ma_le_cons rfl (ma_le_cons rfl (ma_le_cons rfl (ma_le_cons rfl (ma_le_nil _)))))) (h d w _ Q (by omega) (by omega) (zT_zst hS m5) rfl HQ)
          · intro hc
            rw [if_neg hc] at h
            refine zw_goto hm_224 dX12_find_130 (t := 141) rfl ?_
            refine zw_push hm_224 dX12_find_141 (v := .inr (.inr (some 94))) rfl ?_
            refine zw_push hm_224 dX12_find_142 (v := .inl l4) rfl ?_
            refine zw_push hm_224 dX12_find_144 (v := .inr (.inr (some 94))) rfl ?_
            refine zw_gf hm_224 dX12_find_145 (v := .inl ((mI S) 94 84)) (zT_is (zT_pi hS) s_94) (zT_t (zT_pi hS) s_94) rfl f_12_420_12 rfl ?_
            refine zw_stk hm_224 dX12_find_148 (st₉ := [.inl (l4 + ((mI S) 94 84)), .inr (.inr (some 94))]) rfl rfl ?_
            refine zw_push hm_224 dX12_find_149 (v := .inr (.inr (some 94))) rfl ?_
            refine zw_gf hm_224 dX12_find_150 (v := .inl ((mI S) 94 11)) (zT_is (zT_pi hS) s_94) (zT_t (zT_pi hS) s_94) rfl f_12_202_12 rfl ?_
            refine zw_cv hm_224 dX12_find_153 v_12_423_12 hm_226 [.inl ((mI S) 94 11), .inl (l4 + ((mI S) 94 84))] [] rfl (zT_rt (zT_pi hS) s_94 rfl) ⟨by omega, by omega⟩ rfl (h _ _ (ma_put S 94 50 (.inl (((mI S) 94 50) + (1 : Int32)))) _ (by omega) (by omega) (zT_pi hS) rfl (fun o9 m7 hv => ?_))
            obtain ⟨v8, rfl, h⟩ := zmi_of hv
            show ma_wp X d w 224 156 [(0, .inr (.inr (some 94))), (1, .inl l1), (2, .inl l2), (3, .inl l3), (4, .inl l4)] [.inl v8] (zst S m7) _
            refine zw_sto hm_224 dX12_find_156 [(4, .inl v8), (0, .inr (.inr (some 94))), (1, .inl l1), (2, .inl l2), (3, .inl l3)] rfl rfl rfl ?_
            refine zw_goto hm_224 dX12_find_158 (t := 76) rfl ?_
            exact zw_sub (ma_nd_of (ks := [0, 1, 2, 3, 4]) rfl (by decide)) (ma_nd_of (ks := [4, 0, 1, 2, 3]) rfl (by decide)) (ma_le_cons rfl (ma_le_cons rfl (ma_le_cons rfl (ma_le_cons rfl (ma_le_cons rfl (ma_le_nil _)))))) (h d w _ Q (by omega) (by omega) (zT_zst hS m7) rfl HQ)
        · intro hc
          rw [if_pos (Classical.not_not.mp hc)] at h
          refine zw_push hm_224 dX12_find_111 (v := .inr (.inr (some 94))) rfl ?_
          refine zw_gf hm_224 dX12_find_112 (v := .inl ((mI S) 94 84)) (zT_is (zT_pi hS) s_94) (zT_t (zT_pi hS) s_94) rfl f_12_420_12 rfl ?_
          refine zw_push hm_224 dX12_find_115 (v := .inl l3) rfl ?_
          refine zw_if2 hm_224 dX12_find_116 (t := 133) rfl zc2_lt ?_ ?_
          · intro hc
            rw [if_pos hc] at h
            refine zw_push hm_224 dX12_find_133 (v := .inl l4) rfl ?_
            refine zw_sto hm_224 dX12_find_135 [(2, .inl l4), (0, .inr (.inr (some 94))), (1, .inl l1), (3, .inl l3), (4, .inl l4)] rfl rfl rfl ?_
            refine zw_push hm_224 dX12_find_136 (v := .inr (.inr (some 94))) rfl ?_
            refine zw_gf hm_224 dX12_find_137 (v := .inl ((mI S) 94 84)) (zT_is (zT_pi hS) s_94) (zT_t (zT_pi hS) s_94) rfl f_12_420_12 rfl ?_
            refine zw_sto hm_224 dX12_find_140 [(3, .inl ((mI S) 94 84)), (2, .inl l4), (0, .inr (.inr (some 94))), (1, .inl l1), (4, .inl l4)] rfl rfl rfl ?_
            refine zw_push hm_224 dX12_find_141 (v := .inr (.inr (some 94))) rfl ?_
            refine zw_push hm_224 dX12_find_142 (v := .inl l4) rfl ?_
            refine zw_push hm_224 dX12_find_144 (v := .inr (.inr (some 94))) rfl ?_
            refine zw_gf hm_224 dX12_find_145 (v := .inl ((mI S) 94 84)) (zT_is (zT_pi hS) s_94) (zT_t (zT_pi hS) s_94) rfl f_12_420_12 rfl ?_
            refine zw_stk hm_224 dX12_find_148 (st₉ := [.inl (l4 + ((mI S) 94 84)), .inr (.inr (some 94))]) rfl rfl ?_
            refine zw_push hm_224 dX12_find_149 (v := .inr (.inr (some 94))) rfl ?_
            refine zw_gf hm_224 dX12_find_150 (v := .inl ((mI S) 94 11)) (zT_is (zT_pi hS) s_94) (zT_t (zT_pi hS) s_94) rfl f_12_202_12 rfl ?_
            refine zw_cv hm_224 dX12_find_153 v_12_423_12 hm_226 [.inl ((mI S) 94 11), .inl (l4 + ((mI S) 94 84))] [] rfl (zT_rt (zT_pi hS) s_94 rfl) ⟨by omega, by omega⟩ rfl (h _ _ (ma_put S 94 50 (.inl (((mI S) 94 50) + (1 : Int32)))) _ (by omega) (by omega) (zT_pi hS) rfl (fun o9 m9 hv => ?_))
            obtain ⟨v10, rfl, h⟩ := zmi_of hv
            show ma_wp X d w 224 156 [(3, .inl ((mI S) 94 84)), (2, .inl l4), (0, .inr (.inr (some 94))), (1, .inl l1), (4, .inl l4)] [.inl v10] (zst S m9) _
            refine zw_sto hm_224 dX12_find_156 [(4, .inl v10), (3, .inl ((mI S) 94 84)), (2, .inl l4), (0, .inr (.inr (some 94))), (1, .inl l1)] rfl rfl rfl ?_
            refine zw_goto hm_224 dX12_find_158 (t := 76) rfl ?_
            exact zw_sub (ma_nd_of (ks := [0, 1, 2, 3, 4]) rfl (by decide)) (ma_nd_of (ks := [4, 3, 2, 0, 1]) rfl (by decide)) (ma_le_cons rfl (ma_le_cons rfl (ma_le_cons rfl (ma_le_cons rfl (ma_le_cons rfl (ma_le_nil _)))))) (h d w _ Q (by omega) (by omega) (zT_zst hS m9) rfl HQ)
          · intro hc
            rw [if_neg hc] at h
            refine zw_goto hm_224 dX12_find_119 (t := 141) rfl ?_
            refine zw_push hm_224 dX12_find_141 (v := .inr (.inr (some 94))) rfl ?_
            refine zw_push hm_224 dX12_find_142 (v := .inl l4) rfl ?_
            refine zw_push hm_224 dX12_find_144 (v := .inr (.inr (some 94))) rfl ?_
            refine zw_gf hm_224 dX12_find_145 (v := .inl ((mI S) 94 84)) (zT_is (zT_pi hS) s_94) (zT_t (zT_pi hS) s_94) rfl f_12_420_12 rfl ?_
            refine zw_stk hm_224 dX12_find_148 (st₉ := [.inl (l4 + ((mI S) 94 84)), .inr (.inr (some 94))]) rfl rfl ?_
            refine zw_push hm_224 dX12_find_149 (v := .inr (.inr (some 94))) rfl ?_
            refine zw_gf hm_224 dX12_find_150 (v := .inl ((mI S) 94 11)) (zT_is (zT_pi hS) s_94) (zT_t (zT_pi hS) s_94) rfl f_12_202_12 rfl ?_
            refine zw_cv hm_224 dX12_find_153 v_12_423_12 hm_226 [.inl ((mI S) 94 11), .inl (l4 + ((mI S) 94 84))] [] rfl (zT_rt (zT_pi hS) s_94 rfl) ⟨by omega, by omega⟩ rfl (h _ _ (ma_put S 94 50 (.inl (((mI S) 94 50) + (1 : Int32)))) _ (by omega) (by omega) (zT_pi hS) rfl (fun o9 m11 hv => ?_))
            obtain ⟨v12, rfl, h⟩ := zmi_of hv
            show ma_wp X d w 224 156 [(0, .inr (.inr (some 94))), (1, .inl l1), (2, .inl l2), (3, .inl l3), (4, .inl l4)] [.inl v12] (zst S m11) _
            refine zw_sto hm_224 dX12_find_156 [(4, .inl v12), (0, .inr (.inr (some 94))), (1, .inl l1), (2, .inl l2), (3, .inl l3)] rfl rfl rfl ?_
            refine zw_goto hm_224 dX12_find_158 (t := 76) rfl ?_
            exact zw_sub (ma_nd_of (ks := [0, 1, 2, 3, 4]) rfl (by decide)) (ma_nd_of (ks := [4, 0, 1, 2, 3]) rfl (by decide)) (ma_le_cons rfl (ma_le_cons rfl (ma_le_cons rfl (ma_le_cons rfl (ma_le_cons rfl (ma_le_nil _)))))) (h d w _ Q (by omega) (by omega) (zT_zst hS m11) rfl HQ)
theorem lp_224_76 {X : Nat × (Nat → Int32)} {P : Option ma_V → (Nat → Nat → Int32) → Prop} {n : Int32} {m0 : Nat → Nat → Int32} (h0 : zV m0) (K : ∀ v m₉, zF wr_224 m0 m₉ → zV m₉ → (-1 ≤ v.toInt ∧ v.toInt ≤ 1500) → P (some (.inl v)) m₉) : ∀ (n : Nat) (m : Nat → Nat → Int32) (l1 : Int32) (l2 : Int32) (l3 : Int32) (l4 : Int32), (4700 - l4.toInt % 4701).toNat = n → zF wr_224 m0 m → zV m → (-1 ≤ l2.toInt) → (l2.toInt ≤ 1500) → (l4.toInt = -1 ∨ (0 ≤ l4.toInt ∧ l4.toInt < (m 94 11).toInt ∧ 1 ≤ (m 94 84).toInt ∧ l4.toInt + (m 94 84).toInt ≤ (m 94 11).toInt)) → zm X 3 69 224 76 [(0, .inr (.inr (some 94))), (1, .inl l1), (2, .inl l2), (3, .inl l3), (4, .inl l4)] m P := by
  intro n
  induction n using Nat.strongRecOn with
  | _ n IH =>
    intro m l1 l2 l3 l4 hmu hF hV hi0 hi1 hi2
    refine g_224_76 l1 l2 l3 l4 ?_
    have f1 : 0 ≤ (m 94 11).toInt ∧ (m 94 11).toInt ≤ 1500 := rs_94_11 (m := m) hV
    have f2 : 0 ≤ (m 94 84).toInt ∧ (m 94 84).toInt ≤ 4600 := rs_94_84 (m := m) hV
    have b3 := i_bd l4
    have li4 : (0 : Int32).toInt = 0 := rfl
    refine zd (fun (h5 : l4 < (0 : Int32)) => ?_) (fun (h5 : ¬ l4 < (0 : Int32)) => ?_)
    · skip
      have g6 := i_lt h5
      have b7 := i_bd l2
      exact K (l2) _ hF hV (show -1 ≤ l2.toInt ∧ l2.toInt ≤ 1500 from by omega)
    · skip
      have g8 := i_nlt h5
      have b9 := i_bd l1
      refine zd (fun (h10 : (m 94 84) < l1) => ?_) (fun (h10 : ¬ (m 94 84) < l1) => ?_)
      · skip
        have g11 := i_lt h10
        first | have e12 : (l4 + (m 94 84)).toInt = l4.toInt + (m 94 84).toInt := i_add (by omega) (by omega) | have b13 := i_bd (l4 + (m 94 84))
        have hV14 : zV (ma_u m 94 50 ((m 94 50) + (1 : Int32))) := uf_94_50 hV
        refine sp_226 ((l4 + (m 94 84))) ((m 94 11)) hV14 (by omega) (by omega) (by omega) (fun v2 m1 hV_m1 p0_m1 => zmi_n ?_)
        have p0_m1 : v2.toInt = -1 ∨ ((l4 + (m 94 84)).toInt ≤ v2.toInt ∧ v2.toInt < (m 94 11).toInt ∧ 1 ≤ (m1 94 84).toInt ∧ v2.toInt + (m1 94 84).toInt ≤ (m 94 11).toInt) := p0_m1
        have f15 : 0 ≤ (m1 94 84).toInt ∧ (m1 94 84).toInt ≤ 4600 := rs_94_84 (m := (zov wr_226 (ma_u m 94 50 ((m 94 50) + (1 : Int32))) m1)) hV_m1
        have b16 := i_bd l2
        have b17 := i_bd l3
        have b18 := i_bd v2
        exact IH (4700 - v2.toInt % 4701).toNat (by omega) _ (l1) (l2) (l3) (v2) rfl (zF_zov (zF_u hF rfl) ws_226_224) hV_m1 (by omega) (by omega) (show v2.toInt = -1 ∨ (0 ≤ v2.toInt ∧ v2.toInt < (m 94 11).toInt ∧ 1 ≤ (m1 94 84).toInt ∧ v2.toInt + (m1 94 84).toInt ≤ (m 94 11).toInt) from by omega)
      · skip
        have g19 := i_nlt h10
        have b20 := i_bd l2
        refine zd (fun (h21 : l2 < (0 : Int32)) => ?_) (fun (h21 : ¬ l2 < (0 : Int32)) => ?_)
        · skip
          have g22 := i_lt h21
          first | have e23 : (l4 + (m 94 84)).toInt = l4.toInt + (m 94 84).toInt := i_add (by omega) (by omega) | have b24 := i_bd (l4 + (m 94 84))
          have hV25 : zV (ma_u m 94 50 ((m 94 50) + (1 : Int32))) := uf_94_50 hV
          refine sp_226 ((l4 + (m 94 84))) ((m 94 11)) hV25 (by omega) (by omega) (by omega) (fun v4 m3 hV_m3 p0_m3 => zmi_n ?_)
          have p0_m3 : v4.toInt = -1 ∨ ((l4 + (m 94 84)).toInt ≤ v4.toInt ∧ v4.toInt < (m 94 11).toInt ∧ 1 ≤ (m3 94 84).toInt ∧ v4.toInt + (m3 94 84).toInt ≤ (m 94 11).toInt) := p0_m3
          have f26 : 0 ≤ (m3 94 84).toInt ∧ (m3 94 84).toInt ≤ 4600 := rs_94_84 (m := (zov wr_226 (ma_u m 94 50 ((m 94 50) + (1 : Int32))) m3)) hV_m3
          have b27 := i_bd v4
          exact IH (4700 - v4.toInt % 4701).toNat (by omega) _ (l1) (l4) ((m 94 84)) (v4) rfl (zF_zov (zF_u hF rfl) ws_226_224) hV_m3 (by omega) (by omega) (show v4.toInt = -1 ∨ (0 ≤ v4.toInt ∧ v4.toInt < (m 94 11).toInt ∧ 1 ≤ (m3 94 84).toInt ∧ v4.toInt + (m3 94 84).toInt ≤ (m 94 11).toInt) from by omega)
        · skip
          have g28 := i_nlt h21
          have b29 := i_bd (m 94 12)
          have li30 : (2 : Int32).toInt = 2 := rfl
          refine zd (fun (h31 : (m 94 12) = (2 : Int32)) => ?_) (fun (h31 : ¬ (m 94 12) = (2 : Int32)) => ?_)
          · skip
            have g32 := i_eq h31
            have b33 := i_bd l3
            refine zd (fun (h34 : (m 94 84) < l3) => ?_) (fun (h34 : ¬ (m 94 84) < l3) => ?_)
            · skip
              have g35 := i_lt h34
              first | have e36 : (l4 + (m 94 84)).toInt = l4.toInt + (m 94 84).toInt := i_add (by omega) (by omega) | have b37 := i_bd (l4 + (m 94 84))
              have hV38 : zV (ma_u m 94 50 ((m 94 50) + (1 : Int32))) := uf_94_50 hV
              refine sp_226 ((l4 + (m 94 84))) ((m 94 11)) hV38 (by omega) (by omega) (by omega) (fun v10 m9 hV_m9 p0_m9 => zmi_n ?_)
              have p0_m9 : v10.toInt = -1 ∨ ((l4 + (m 94 84)).toInt ≤ v10.toInt ∧ v10.toInt < (m 94 11).toInt ∧ 1 ≤ (m9 94 84).toInt ∧ v10.toInt + (m9 94 84).toInt ≤ (m 94 11).toInt) := p0_m9
              have f39 : 0 ≤ (m9 94 84).toInt ∧ (m9 94 84).toInt ≤ 4600 := rs_94_84 (m := (zov wr_226 (ma_u m 94 50 ((m 94 50) + (1 : Int32))) m9)) hV_m9
              have b40 := i_bd v10
              exact IH (4700 - v10.toInt % 4701).toNat (by omega) _ (l1) (l4) ((m 94 84)) (v10) rfl (zF_zov (zF_u hF rfl) ws_226_224) hV_m9 (by omega) (by omega) (show v10.toInt = -1 ∨ (0 ≤ v10.toInt ∧ v10.toInt < (m 94 11).toInt ∧ 1 ≤ (m9 94 84).toInt ∧ v10.toInt + (m9 94 84).toInt ≤ (m 94 11).toInt) from by omega)
            · skip
              have g41 := i_nlt h34
              first | have e42 : (l4 + (m 94 84)).toInt = l4.toInt + (m 94 84).toInt := i_add (by omega) (by omega) | have b43 := i_bd (l4 + (m 94 84))
              have hV44 : zV (ma_u m 94 50 ((m 94 50) + (1 : Int32))) := uf_94_50 hV
              refine sp_226 ((l4 + (m 94 84))) ((m 94 11)) hV44 (by omega) (by omega) (by omega) (fun v12 m11 hV_m11 p0_m11 => zmi_n ?_)
              have p0_m11 : v12.toInt = -1 ∨ ((l4 + (m 94 84)).toInt ≤ v12.toInt ∧ v12.toInt < (m 94 11).toInt ∧ 1 ≤ (m11 94 84).toInt ∧ v12.toInt + (m11 94 84).toInt ≤ (m 94 11).toInt) := p0_m11
              have f45 : 0 ≤ (m11 94 84).toInt ∧ (m11 94 84).toInt ≤ 4600 := rs_94_84 (m := (zov wr_226 (ma_u m 94 50 ((m 94 50) + (1 : Int32))) m11)) hV_m11
              have b46 := i_bd v12
              exact IH (4700 - v12.toInt % 4701).toNat (by omega) _ (l1) (l2) (l3) (v12) rfl (zF_zov (zF_u hF rfl) ws_226_224) hV_m11 (by omega) (by omega) (show v12.toInt = -1 ∨ (0 ≤ v12.toInt ∧ v12.toInt < (m 94 11).toInt ∧ 1 ≤ (m11 94 84).toInt ∧ v12.toInt + (m11 94 84).toInt ≤ (m 94 11).toInt) from by omega)
          · skip
            have g47 := i_ne h31
            have b48 := i_bd l3
            refine zd (fun (h49 : l3 < (m 94 84)) => ?_) (fun (h49 : ¬ l3 < (m 94 84)) => ?_)
            · skip
              have g50 := i_lt h49
              first | have e51 : (l4 + (m 94 84)).toInt = l4.toInt + (m 94 84).toInt := i_add (by omega) (by omega) | have b52 := i_bd (l4 + (m 94 84))
              have hV53 : zV (ma_u m 94 50 ((m 94 50) + (1 : Int32))) := uf_94_50 hV
              refine sp_226 ((l4 + (m 94 84))) ((m 94 11)) hV53 (by omega) (by omega) (by omega) (fun v6 m5 hV_m5 p0_m5 => zmi_n ?_)
              have p0_m5 : v6.toInt = -1 ∨ ((l4 + (m 94 84)).toInt ≤ v6.toInt ∧ v6.toInt < (m 94 11).toInt ∧ 1 ≤ (m5 94 84).toInt ∧ v6.toInt + (m5 94 84).toInt ≤ (m 94 11).toInt) := p0_m5
              have f54 : 0 ≤ (m5 94 84).toInt ∧ (m5 94 84).toInt ≤ 4600 := rs_94_84 (m := (zov wr_226 (ma_u m 94 50 ((m 94 50) + (1 : Int32))) m5)) hV_m5
              have b55 := i_bd v6
              exact IH (4700 - v6.toInt % 4701).toNat (by omega) _ (l1) (l4) ((m 94 84)) (v6) rfl (zF_zov (zF_u hF rfl) ws_226_224) hV_m5 (by omega) (by omega) (show v6.toInt = -1 ∨ (0 ≤ v6.toInt ∧ v6.toInt < (m 94 11).toInt ∧ 1 ≤ (m5 94 84).toInt ∧ v6.toInt + (m5 94 84).toInt ≤ (m 94 11).toInt) from by omega)
            · skip
              have g56 := i_nlt h49
              first | have e57 : (l4 + (m 94 84)).toInt = l4.toInt + (m 94 84).toInt := i_add (by omega) (by omega) | have b58 := i_bd (l4 + (m 94 84))
              have hV59 : zV (ma_u m 94 50 ((m 94 50) + (1 : Int32))) := uf_94_50 hV
              refine sp_226 ((l4 + (m 94 84))) ((m 94 11)) hV59 (by omega) (by omega) (by omega) (fun v8 m7 hV_m7 p0_m7 => zmi_n ?_)
              have p0_m7 : v8.toInt = -1 ∨ ((l4 + (m 94 84)).toInt ≤ v8.toInt ∧ v8.toInt < (m 94 11).toInt ∧ 1 ≤ (m7 94 84).toInt ∧ v8.toInt + (m7 94 84).toInt ≤ (m 94 11).toInt) := p0_m7
              have f60 : 0 ≤ (m7 94 84).toInt ∧ (m7 94 84).toInt ≤ 4600 := rs_94_84 (m := (zov wr_226 (ma_u m 94 50 ((m 94 50) + (1 : Int32))) m7)) hV_m7
              have b61 := i_bd v8
              exact IH (4700 - v8.toInt % 4701).toNat (by omega) _ (l1) (l2) (l3) (v8) rfl (zF_zov (zF_u hF rfl) ws_226_224) hV_m7 (by omega) (by omega) (show v8.toInt = -1 ∨ (0 ≤ v8.toInt ∧ v8.toInt < (m 94 11).toInt ∧ 1 ≤ (m7 94 84).toInt ∧ v8.toInt + (m7 94 84).toInt ≤ (m 94 11).toInt) from by omega)
theorem sp_224 {X : Nat × (Nat → Int32)} {P : Option ma_V → (Nat → Nat → Int32) → Prop} {m : Nat → Nat → Int32} (n : Int32) (hV : zV m)  (KZ : ∀ v m₉, zV (zov wr_224 m m₉) → (-1 ≤ v.toInt ∧ v.toInt ≤ 1500) → P (some (.inl v)) (zov wr_224 m m₉)) : zm X 3 69 224 0 [(0, .inr (.inr (some 94))), (1, .inl n)] m P := by
  have K : ∀ v m₉, zF wr_224 m m₉ → zV m₉ → (-1 ≤ v.toInt ∧ v.toInt ≤ 1500) → P (some (.inl v)) m₉ := by
    intro v m₉ hf z q0
    have e := zov_eq hf
    rw [e] at z ⊢
    try rw [e] at q0
    exact KZ v m₉ z q0
  refine g_224_0 n ?_
  have b1 := i_bd (m 94 12)
  have li2 : (0 : Int32).toInt = 0 := rfl
  refine zd (fun (h3 : (m 94 12) = (0 : Int32)) => ?_) (fun (h3 : ¬ (m 94 12) = (0 : Int32)) => ?_)
  · skip
    have g4 := i_eq h3
    have b5 := i_bd n
    have f6 : 0 ≤ (m 94 11).toInt ∧ (m 94 11).toInt ≤ 1500 := rs_94_11 (m := m) hV
    refine sp_225 (n) ((0 : Int32)) ((m 94 11)) hV (by omega) (by omega) (by omega) (fun v10 m9 hV_m9 p0_m9 => zmi_n ?_)
    have p0_m9 : -1 ≤ v10.toInt ∧ v10.toInt ≤ 1500 := p0_m9
    have b7 := i_bd v10
    exact K (v10) _ (zF_zov zF_rfl ws_225_224) hV_m9 (show -1 ≤ v10.toInt ∧ v10.toInt ≤ 1500 from by omega)
  · skip
    have g8 := i_ne h3
    have li9 : (1 : Int32).toInt = 1 := rfl
    refine zd (fun (h10 : (m 94 12) = (1 : Int32)) => ?_) (fun (h10 : ¬ (m 94 12) = (1 : Int32)) => ?_)
    · skip
      have g11 := i_eq h10
      have f12 : 0 ≤ (m 94 62).toInt ∧ (m 94 62).toInt ≤ 4600 := rs_94_62 (m := m) hV
      refine sp_227 ((m 94 62)) hV (by omega) (fun v4 m3 hV_m3 p0_m3 => zmi_n ?_)
      have p0_m3 : 0 ≤ v4.toInt ∧ v4.toInt ≤ 4700 := p0_m3
      have b13 := i_bd n
      have b14 := i_bd v4
      have f15 : 0 ≤ (m 94 11).toInt ∧ (m 94 11).toInt ≤ 1500 := rs_94_11 (m := m) hV
      refine sp_225 (n) (v4) ((m 94 11)) hV_m3 (by omega) (by omega) (by omega) (fun v6 m5 hV_m5 p0_m5 => zmi_n ?_)
      have p0_m5 : -1 ≤ v6.toInt ∧ v6.toInt ≤ 1500 := p0_m5
      have b16 := i_bd v6
      refine zd (fun (h17 : v6 < (0 : Int32)) => ?_) (fun (h17 : ¬ v6 < (0 : Int32)) => ?_)
      · skip
        have g18 := i_lt h17
        refine sp_228 (n) (v4) hV_m5  (fun v8 m7 hV_m7 p0_m7 => zmi_n ?_)
        have p0_m7 : -1 ≤ v8.toInt ∧ v8.toInt ≤ 1500 := p0_m7
        have b19 := i_bd v8
        exact K (v8) _ (zF_zov (zF_zov (zF_zov zF_rfl ws_227_224) ws_225_224) ws_228_224) hV_m7 (show -1 ≤ v8.toInt ∧ v8.toInt ≤ 1500 from by omega)
      · skip
        have g20 := i_nlt h17
        exact K (v6) _ (zF_zov (zF_zov zF_rfl ws_227_224) ws_225_224) hV_m5 (show -1 ≤ v6.toInt ∧ v6.toInt ≤ 1500 from by omega)
    · skip
      have g21 := i_ne h10
      have f22 : 0 ≤ (m 94 11).toInt ∧ (m 94 11).toInt ≤ 1500 := rs_94_11 (m := m) hV
      refine sp_226 ((0 : Int32)) ((m 94 11)) hV (by omega) (by omega) (by omega) (fun v2 m1 hV_m1 p0_m1 => zmi_n ?_)
      have p0_m1 : v2.toInt = -1 ∨ ((0 : Int32).toInt ≤ v2.toInt ∧ v2.toInt < (m 94 11).toInt ∧ 1 ≤ (m1 94 84).toInt ∧ v2.toInt + (m1 94 84).toInt ≤ (m 94 11).toInt) := p0_m1
      have f23 : 0 ≤ (m1 94 84).toInt ∧ (m1 94 84).toInt ≤ 4600 := rs_94_84 (m := (zov wr_226 m m1)) hV_m1
      have b24 := i_bd n
      have li25 : (-1 : Int32).toInt = -1 := rfl
      have b26 := i_bd v2
      exact lp_224_76 (n := n) hV K _ _ (n) ((-1 : Int32)) ((0 : Int32)) (v2) rfl (zF_zov zF_rfl ws_226_224) hV_m1 (by omega) (by omega) (show v2.toInt = -1 ∨ (0 ≤ v2.toInt ∧ v2.toInt < (m 94 11).toInt ∧ 1 ≤ (m1 94 84).toInt ∧ v2.toInt + (m1 94 84).toInt ≤ (m 94 11).toInt) from by omega)

