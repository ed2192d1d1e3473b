/-! the reference (written by wip/tools/gen94m.py) -/
set_option maxRecDepth 100000 in
theorem hm_227 : ma_md 227 = some (12, yX12_startOf, cX12_startOf, 3, (some (FieldType.int))) := rfl
theorem dX12_startOf_0 : decode cX12_startOf 0 = .ok (.iconst 0, 1) := by decide +kernel
theorem dX12_startOf_1 : decode cX12_startOf 1 = .ok (.istore_n 2, 1) := by decide +kernel
theorem dX12_startOf_2 : decode cX12_startOf 2 = .ok (.iload_n 2, 1) := by decide +kernel
theorem dX12_startOf_3 : decode cX12_startOf 3 = .ok (.iload_n 1, 1) := by decide +kernel
theorem dX12_startOf_38 : decode cX12_startOf 38 = .ok (.iload_n 2, 1) := by decide +kernel
theorem dX12_startOf_39 : decode cX12_startOf 39 = .ok (.ireturn, 1) := by decide +kernel
theorem dX12_startOf_7 : decode cX12_startOf 7 = .ok (.aload_n 0, 1) := by decide +kernel
theorem dX12_startOf_11 : decode cX12_startOf 11 = .ok (.iload_n 2, 1) := by decide +kernel
theorem dX12_startOf_31 : decode cX12_startOf 31 = .ok (.iload_n 2, 1) := by decide +kernel
theorem dX12_startOf_32 : decode cX12_startOf 32 = .ok (.iconst 1, 1) := by decide +kernel
theorem dX12_startOf_33 : decode cX12_startOf 33 = .ok (.iadd, 1) := by decide +kernel
theorem dX12_startOf_34 : decode cX12_startOf 34 = .ok (.istore_n 2, 1) := by decide +kernel
theorem dX12_startOf_35 : decode cX12_startOf 35 = .ok (.goto (-33), 3) := by decide +kernel
theorem dX12_startOf_16 : decode cX12_startOf 16 = .ok (.iload_n 2, 1) := by decide +kernel
theorem dX12_startOf_17 : decode cX12_startOf 17 = .ok (.aload_n 0, 1) := by decide +kernel
theorem dX12_startOf_18 : decode cX12_startOf 18 = .ok (.aload_n 0, 1) := by decide +kernel
theorem dX12_startOf_22 : decode cX12_startOf 22 = .ok (.iload_n 2, 1) := by decide +kernel
theorem dX12_startOf_24 : decode cX12_startOf 24 = .ok (.invokevirtual 327, 3) := by decide +kernel
theorem dX12_startOf_27 : decode cX12_startOf 27 = .ok (.iadd, 1) := by decide +kernel
theorem dX12_startOf_28 : decode cX12_startOf 28 = .ok (.goto 6, 3) := by decide +kernel
theorem dX12_startOf_23 : decode cX12_startOf 23 = .ok (.iaload, 1) := by decide +kernel
theorem dX12_startOf_19 : decode cX12_startOf 19 = .ok (.getfield 65, 3) := by decide +kernel
theorem dX12_startOf_13 : decode cX12_startOf 13 = .ok (.ifCond .lt 18, 3) := by decide +kernel
theorem dX12_startOf_12 : decode cX12_startOf 12 = .ok (.iaload, 1) := by decide +kernel
theorem dX12_startOf_8 : decode cX12_startOf 8 = .ok (.getfield 65, 3) := by decide +kernel
theorem dX12_startOf_4 : decode cX12_startOf 4 = .ok (.if_icmp .ge 34, 3) := by decide +kernel
def wr_227 (_ _ : Nat) : Bool := false
theorem g_227_0 {X : Nat × (Nat → Int32)} {m : Nat → Nat → Int32} {P : Option ma_V → (Nat → Nat → Int32) → Prop} (p : Int32) (h : zm X 1 21 227 2 [(0, .inr (.inr (some 94))), (1, .inl p), (2, .inl (0 : Int32))] m P) : zm X 1 21 227 0 [(0, .inr (.inr (some 94))), (1, .inl p)] m P := by
  intro d w S Q hd hw hS hm HQ
  subst hm
  refine zw_push hm_227 dX12_startOf_0 (v := .inl (0 : Int32)) rfl ?_
  refine zw_sto hm_227 dX12_startOf_1 [(2, .inl (0 : Int32)), (0, .inr (.inr (some 94))), (1, .inl p)] rfl rfl rfl ?_
  exact zw_sub (ma_nd_of (ks := [0, 1, 2]) rfl (by decide)) (ma_nd_of (ks := [2, 0, 1]) rfl (by decide)) (ma_le_cons rfl (ma_le_cons rfl (ma_le_cons rfl (ma_le_nil _)))) (h d w _ Q (by omega) (by omega) hS rfl HQ)
theorem g_227_2 {X : Nat × (Nat → Int32)} {m : Nat → Nat → Int32} {P : Option ma_V → (Nat → Nat → Int32) → Prop} (l1 : Int32) (l2 : Int32) (h : if l1 ≤ l2 then (P (some (.inl l2)) m) else ((0 ≤ l2 ∧ l2.toNatClampNeg < 4600) ∧ (if (m 111 l2.toNatClampNeg) < 0 then (zm X 1 21 227 2 [(0, .inr (.inr (some 94))), (1, .inl l1), (2, .inl (l2 + (1 : Int32)))] m P) else ((0 ≤ l2 ∧ l2.toNatClampNeg < 4600) ∧ ((0 ≤ (m 111 l2.toNatClampNeg) ∧ (m 111 l2.toNatClampNeg).toNatClampNeg < 3100) ∧ (zm X 1 21 227 2 [(0, .inr (.inr (some 94))), (1, .inl l1), (2, .inl (l2 + ((m 102 (m 111 l2.toNatClampNeg).toNatClampNeg) + (1 : Int32))))] m P)))))) : zm X 1 21 227 2 [(0, .inr (.inr (some 94))), (1, .inl l1), (2, .inl l2)] m P := by
  intro d w S Q hd hw hS hm HQ
  subst hm
  refine zw_push hm_227 dX12_startOf_2 (v := .inl l2) rfl ?_
  refine zw_push hm_227 dX12_startOf_3 (v := .inl l1) rfl ?_
  refine zw_if2 hm_227 dX12_startOf_4 (t := 38) rfl zc2_ge ?_ ?_
  · intro hc
    rw [if_pos hc] at h
    refine zw_push hm_227 dX12_startOf_38 (v := .inl l2) rfl ?_
    exact zw_iret hm_227 dX12_startOf_39 (HQ _ _ h)
  · intro hc
    rw [if_neg hc] at h
    refine zw_push hm_227 dX12_startOf_7 (v := .inr (.inr (some 94))) rfl ?_
    refine zw_gf hm_227 dX12_startOf_8 (v := .inr (.inr (some 111))) (zT_is hS s_94) (zT_t hS s_94) rfl f_12_65_12 (zT_f hS r_94_43) ?_
    refine zw_push hm_227 dX12_startOf_11 (v := .inl l2) rfl ?_
    obtain ⟨hg, h⟩ := h
    refine zw_ia hm_227 dX12_startOf_12 (zT_is hS s_111) (zT_h hS s_111) rfl hg ?_
    show ma_wp X d w 227 13 [(0, .inr (.inr (some 94))), (1, .inl l1), (2, .inl l2)] [.inl ((mI S) 111 l2.toNatClampNeg)] S _
    refine zw_if0 hm_227 dX12_startOf_13 (t := 31) rfl zc0_lt ?_ ?_
    · intro hc
      rw [if_pos hc] at h
      refine zw_push hm_227 dX12_startOf_31 (v := .inl l2) rfl ?_
      refine zw_push hm_227 dX12_startOf_32 (v := .inl (1 : Int32)) rfl ?_
      refine zw_stk hm_227 dX12_startOf_33 (st' := [.inl (l2 + (1 : Int32))]) rfl rfl ?_
      refine zw_sto hm_227 dX12_startOf_34 [(2, .inl (l2 + (1 : Int32))), (0, .inr (.inr (some 94))), (1, .inl l1)] rfl rfl rfl ?_
      refine zw_goto hm_227 dX12_startOf_35 (t := 2) rfl ?_
      exact zw_sub (ma_nd_of (ks := [0, 1, 2]) rfl (by decide)) (ma_nd_of (ks := [2, 0, 1]) rfl (by decide)) (ma_le_cons rfl (ma_le_cons rfl (ma_le_cons rfl (ma_le_nil _)))) (h d w _ Q (by omega) (by omega) hS rfl HQ)
    · intro hc
      rw [if_neg hc] at h
      refine zw_push hm_227 dX12_startOf_16 (v := .inl l2) rfl ?_
      refine zw_push hm_227 dX12_startOf_17 (v := .inr (.inr (some 94))) rfl ?_
      refine zw_push hm_227 dX12_startOf_18 (v := .inr (.inr (some 94))) rfl ?_
      refine zw_gf hm_227 dX12_startOf_19 (v := .inr (.inr (some 111))) (zT_is hS s_94) (zT_t hS s_94) rfl f_12_65_12 (zT_f hS r_94_43) ?_
      refine zw_push hm_227 dX12_startOf_22 (v := .inl l2) rfl ?_
      obtain ⟨hg, h⟩ := h
      refine zw_ia hm_227 dX12_startOf_23 (zT_is hS s_111) (zT_h hS s_111) rfl hg ?_
      show ma_wp X d w 227 24 [(0, .inr (.inr (some 94))), (1, .inl l1), (2, .inl l2)] [.inl ((mI S) 111 l2.toNatClampNeg), .inr (.inr (some 94)), .inl l2] S _
      refine zw_cv hm_227 dX12_startOf_24 v_12_327_12 hm_201 [.inl ((mI S) 111 l2.toNatClampNeg)] [.inl l2] rfl (zT_rt hS s_94 rfl) ⟨by omega, by omega⟩ rfl ?_
      show ma_wp X (d - 1) (w - 21) 201 0 [(0, .inr (.inr (some 94))), (1, .inl ((mI S) 111 l2.toNatClampNeg))] [] S _
      refine zw_push hm_201 dX12_sizeOf_0 (v := .inr (.inr (some 94))) rfl ?_
      refine zw_gf hm_201 dX12_sizeOf_1 (v := .inr (.inr (some 102))) (zT_is hS s_94) (zT_t hS s_94) rfl f_12_37_12 (zT_f hS r_94_34) ?_
      refine zw_push hm_201 dX12_sizeOf_4 (v := .inl ((mI S) 111 l2.toNatClampNeg)) rfl ?_
      obtain ⟨hg, h⟩ := h
      refine zw_ia hm_201 dX12_sizeOf_5 (zT_is hS s_102) (zT_h hS s_102) rfl hg ?_
      show ma_wp X (d - 1) (w - 21) 201 6 [(0, .inr (.inr (some 94))), (1, .inl ((mI S) 111 l2.toNatClampNeg))] [.inl ((mI S) 102 ((mI S) 111 l2.toNatClampNeg).toNatClampNeg)] S _
      refine zw_push hm_201 dX12_sizeOf_6 (v := .inl (1 : Int32)) rfl ?_
      refine zw_stk hm_201 dX12_sizeOf_7 (st' := [.inl (((mI S) 102 ((mI S) 111 l2.toNatClampNeg).toNatClampNeg) + (1 : Int32))]) rfl rfl ?_
      refine zw_iret hm_201 dX12_sizeOf_8 ?_
      show ma_wp X d w 227 27 [(0, .inr (.inr (some 94))), (1, .inl l1), (2, .inl l2)] [.inl (((mI S) 102 ((mI S) 111 l2.toNatClampNeg).toNatClampNeg) + (1 : Int32)), .inl l2] S _
      refine zw_stk hm_227 dX12_startOf_27 (st' := [.inl (l2 + (((mI S) 102 ((mI S) 111 l2.toNatClampNeg).toNatClampNeg) + (1 : Int32)))]) rfl rfl ?_
      refine zw_goto hm_227 dX12_startOf_28 (t := 34) rfl ?_
      refine zw_sto hm_227 dX12_startOf_34 [(2, .inl (l2 + (((mI S) 102 ((mI S) 111 l2.toNatClampNeg).toNatClampNeg) + (1 : Int32)))), (0, .inr (.inr (some 94))), (1, .inl l1)] rfl rfl rfl ?_
      refine zw_goto hm_227 dX12_startOf_35 (t := 2) rfl ?_
      exact zw_sub (ma_nd_of (ks := [0, 1, 2]) rfl (by decide)) (ma_nd_of (ks := [2, 0, 1]) rfl (by decide)) (ma_le_cons rfl (ma_le_cons rfl (ma_le_cons rfl (ma_le_nil _)))) (h d w _ Q (by omega) (by omega) hS rfl HQ)
theorem lp_227_2 {X : Nat × (Nat → Int32)} {P : Option ma_V → (Nat → Nat → Int32) → Prop} {p : Int32} {m0 : Nat → Nat → Int32} (h0 : zV m0) (K : ∀ v m', zF wr_227 m0 m' → zV m' → (0 ≤ v.toInt ∧ v.toInt ≤ 4700) → P (some (.inl v)) m') : ∀ (n : Nat) (m : Nat → Nat → Int32) (l1 : Int32) (l2 : Int32), (4800 - l2.toInt).toNat = n → zF wr_227 m0 m → zV m → (0 ≤ l2.toInt) → (l2.toInt ≤ 4700) → (l1.toInt ≤ 4600) → zm X 1 21 227 2 [(0, .inr (.inr (some 94))), (1, .inl l1), (2, .inl l2)] m P := by
  intro n
  induction n using Nat.strongRecOn with
  | _ n IH =>
    intro m l1 l2 hmu hF hV hi0 hi1 hi2
    refine g_227_2 l1 l2 ?_
    have b1 := i_bd l1
    have b2 := i_bd l2
    refine zd (fun (h3 : l1 ≤ l2) => ?_) (fun (h3 : ¬ l1 ≤ l2) => ?_)
    · skip
      have g4 := i_le h3
      exact K (l2) _ hF hV (show 0 ≤ l2.toInt ∧ l2.toInt ≤ 4700 from by omega)
    · skip
      have g5 := i_nle h3
      have hg6 : (0 ≤ l2 ∧ l2.toNatClampNeg < 4600) := i_ix (by omega) (by omega)
      refine ⟨hg6, ?_⟩
      first | have f7 : -1 ≤ (m 111 l2.toNatClampNeg).toInt ∧ (m 111 l2.toNatClampNeg).toInt ≤ 3099 := ra_111 (m := m) hV (k := l2.toNatClampNeg) (i_ix (n := 4600) (by omega) (by omega)).2 | have b8 := i_bd (m 111 l2.toNatClampNeg)
      have li9 : (0 : Int32).toInt = 0 := rfl
      refine zd (fun (h10 : (m 111 l2.toNatClampNeg) < (0 : Int32)) => ?_) (fun (h10 : ¬ (m 111 l2.toNatClampNeg) < (0 : Int32)) => ?_)
      · skip
        have g11 := i_lt h10
        first | have e12 : (l2 + (1 : Int32)).toInt = l2.toInt + (1) := i_addk rfl (by omega) (by omega) | have b13 := i_bd (l2 + (1 : Int32))
        exact IH (4800 - (l2 + (1 : Int32)).toInt).toNat (by omega) _ (l1) ((l2 + (1 : Int32))) rfl hF hV (by omega) (by omega) (by omega)
      · skip
        have g14 := i_nlt h10
        have hg15 : (0 ≤ l2 ∧ l2.toNatClampNeg < 4600) := i_ix (by omega) (by omega)
        refine ⟨hg15, ?_⟩
        have hg16 : (0 ≤ (m 111 l2.toNatClampNeg) ∧ (m 111 l2.toNatClampNeg).toNatClampNeg < 3100) := i_ix (by omega) (by omega)
        refine ⟨hg16, ?_⟩
        first | have f17 : 0 ≤ (m 102 (m 111 l2.toNatClampNeg).toNatClampNeg).toInt ∧ (m 102 (m 111 l2.toNatClampNeg).toNatClampNeg).toInt ≤ 60 := ra_102 (m := m) hV (k := (m 111 l2.toNatClampNeg).toNatClampNeg) (i_ix (n := 3100) (by omega) (by omega)).2 | have b18 := i_bd (m 102 (m 111 l2.toNatClampNeg).toNatClampNeg)
        first | have e19 : ((m 102 (m 111 l2.toNatClampNeg).toNatClampNeg) + (1 : Int32)).toInt = (m 102 (m 111 l2.toNatClampNeg).toNatClampNeg).toInt + (1) := i_addk rfl (by omega) (by omega) | have b20 := i_bd ((m 102 (m 111 l2.toNatClampNeg).toNatClampNeg) + (1 : Int32))
        first | have e21 : (l2 + ((m 102 (m 111 l2.toNatClampNeg).toNatClampNeg) + (1 : Int32))).toInt = l2.toInt + ((m 102 (m 111 l2.toNatClampNeg).toNatClampNeg) + (1 : Int32)).toInt := i_add (by omega) (by omega) | have b22 := i_bd (l2 + ((m 102 (m 111 l2.toNatClampNeg).toNatClampNeg) + (1 : Int32)))
        exact IH (4800 - (l2 + ((m 102 (m 111 l2.toNatClampNeg).toNatClampNeg) + (1 : Int32))).toInt).toNat (by omega) _ (l1) ((l2 + ((m 102 (m 111 l2.toNatClampNeg).toNatClampNeg) + (1 : Int32)))) rfl hF hV (by omega) (by omega) (by omega)
theorem sp_227 {X : Nat × (Nat → Int32)} {P : Option ma_V → (Nat → Nat → Int32) → Prop} {m : Nat → Nat → Int32} (p : Int32) (hV : zV m) (hpre0 : p.toInt ≤ 4600) (KZ : ∀ v m', zV (zov wr_227 m m') → (0 ≤ v.toInt ∧ v.toInt ≤ 4700) → P (some (.inl v)) (zov wr_227 m m')) : zm X 1 21 227 0 [(0, .inr (.inr (some 94))), (1, .inl p)] m P := by
  have K : ∀ v m', zF wr_227 m m' → zV m' → (0 ≤ v.toInt ∧ v.toInt ≤ 4700) → P (some (.inl v)) m' := by
    intro v m' hf z q0
    have e := zov_eq hf
    rw [e] at z ⊢
    try rw [e] at q0
    exact KZ v m' z q0
  refine g_227_0 p ?_
  have b1 := i_bd p
  have li2 : (0 : Int32).toInt = 0 := rfl
  exact lp_227_2 (p := p) hV K _ _ (p) ((0 : Int32)) rfl zF_rfl hV (by omega) (by omega) (by omega)
