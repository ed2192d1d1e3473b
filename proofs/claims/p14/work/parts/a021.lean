/-! from 94.409 -/
/-! the reference (written by wip/tools/gen94m.py) -/
set_option maxRecDepth 100000 in
theorem hm_192 : ma_md 192 = some (12, yX12_reference, cX12_reference, 3, (some (FieldType.int))) := rfl
set_option maxRecDepth 100000 in
theorem hm_193 : ma_md 193 = some (12, yX12_isReference, cX12_isReference, 3, (some (FieldType.boolean))) := rfl
theorem s_98 : zs 98 = some (20, 16) := rfl
theorem s_101 : zs 101 = some (20, 3100) := rfl
theorem s_108 : zs 108 = some (20, 186000) := rfl
theorem r_94_6 : zfi 94 6 = some 98 := rfl
theorem r_94_33 : zfi 94 33 = some 101 := rfl
theorem r_94_40 : zfi 94 40 = some 108 := rfl
theorem f_12_24_12 : ma_fld 12 24 12 = some 6 := by decide +kernel
theorem f_12_34_12 : ma_fld 12 34 12 = some 33 := by decide +kernel
theorem f_12_56_12 : ma_fld 12 56 12 = some 40 := by decide +kernel
theorem v_12_288_12 : ma_vl 12 288 12 = some (1, 193, 2) := by decide +kernel
theorem dX12_reference_0 : decode cX12_reference 0 = .ok (.aload_n 0, 1) := by decide +kernel
theorem dX12_reference_1 : decode cX12_reference 1 = .ok (.iload_n 1, 1) := by decide +kernel
theorem dX12_reference_2 : decode cX12_reference 2 = .ok (.iload_n 2, 1) := by decide +kernel
theorem dX12_reference_3 : decode cX12_reference 3 = .ok (.invokevirtual 288, 3) := by decide +kernel
theorem dX12_isReference_0 : decode cX12_isReference 0 = .ok (.aload_n 0, 1) := by decide +kernel
theorem dX12_isReference_4 : decode cX12_isReference 4 = .ok (.iload_n 1, 1) := by decide +kernel
theorem dX12_isReference_6 : decode cX12_isReference 6 = .ok (.bipush 16, 2) := by decide +kernel
theorem dX12_isReference_41 : decode cX12_isReference 41 = .ok (.iconst 1, 1) := by decide +kernel
theorem dX12_isReference_42 : decode cX12_isReference 42 = .ok (.goto 4, 3) := by decide +kernel
theorem dX12_reference_6 : decode cX12_reference 6 = .ok (.ifCond .eq 17, 3) := by decide +kernel
theorem dX12_reference_9 : decode cX12_reference 9 = .ok (.aload_n 0, 1) := by decide +kernel
theorem dX12_reference_13 : decode cX12_reference 13 = .ok (.iload_n 1, 1) := by decide +kernel
theorem dX12_reference_14 : decode cX12_reference 14 = .ok (.bipush 60, 2) := by decide +kernel
theorem dX12_reference_16 : decode cX12_reference 16 = .ok (.imul, 1) := by decide +kernel
theorem dX12_reference_17 : decode cX12_reference 17 = .ok (.iload_n 2, 1) := by decide +kernel
theorem dX12_reference_18 : decode cX12_reference 18 = .ok (.iadd, 1) := by decide +kernel
theorem dX12_reference_20 : decode cX12_reference 20 = .ok (.goto 4, 3) := by decide +kernel
theorem dX12_reference_24 : decode cX12_reference 24 = .ok (.ireturn, 1) := by decide +kernel
theorem dX12_reference_19 : decode cX12_reference 19 = .ok (.iaload, 1) := by decide +kernel
theorem dX12_reference_10 : decode cX12_reference 10 = .ok (.getfield 56, 3) := by decide +kernel
theorem dX12_isReference_46 : decode cX12_isReference 46 = .ok (.ireturn, 1) := by decide +kernel
theorem dX12_isReference_11 : decode cX12_isReference 11 = .ok (.aload_n 0, 1) := by decide +kernel
theorem dX12_isReference_15 : decode cX12_isReference 15 = .ok (.iload_n 1, 1) := by decide +kernel
theorem dX12_isReference_17 : decode cX12_isReference 17 = .ok (.bipush 16, 2) := by decide +kernel
theorem dX12_isReference_45 : decode cX12_isReference 45 = .ok (.iconst 0, 1) := by decide +kernel
theorem dX12_reference_23 : decode cX12_reference 23 = .ok (.iconst (-1), 1) := by decide +kernel
theorem dX12_isReference_22 : decode cX12_isReference 22 = .ok (.aload_n 0, 1) := by decide +kernel
theorem dX12_isReference_26 : decode cX12_isReference 26 = .ok (.aload_n 0, 1) := by decide +kernel
theorem dX12_isReference_30 : decode cX12_isReference 30 = .ok (.iload_n 1, 1) := by decide +kernel
theorem dX12_isReference_33 : decode cX12_isReference 33 = .ok (.iload_n 2, 1) := by decide +kernel
theorem dX12_isReference_34 : decode cX12_isReference 34 = .ok (.ishr, 1) := by decide +kernel
theorem dX12_isReference_35 : decode cX12_isReference 35 = .ok (.iconst 1, 1) := by decide +kernel
theorem dX12_isReference_36 : decode cX12_isReference 36 = .ok (.iand, 1) := by decide +kernel
theorem dX12_isReference_37 : decode cX12_isReference 37 = .ok (.iconst 1, 1) := by decide +kernel
theorem dX12_isReference_38 : decode cX12_isReference 38 = .ok (.if_icmp .ne 7, 3) := by decide +kernel
theorem dX12_isReference_32 : decode cX12_isReference 32 = .ok (.iaload, 1) := by decide +kernel
theorem dX12_isReference_31 : decode cX12_isReference 31 = .ok (.iaload, 1) := by decide +kernel
theorem dX12_isReference_27 : decode cX12_isReference 27 = .ok (.getfield 34, 3) := by decide +kernel
theorem dX12_isReference_23 : decode cX12_isReference 23 = .ok (.getfield 24, 3) := by decide +kernel
theorem dX12_isReference_19 : decode cX12_isReference 19 = .ok (.if_icmp .ge 26, 3) := by decide +kernel
theorem dX12_isReference_16 : decode cX12_isReference 16 = .ok (.iaload, 1) := by decide +kernel
theorem dX12_isReference_12 : decode cX12_isReference 12 = .ok (.getfield 34, 3) := by decide +kernel
theorem dX12_isReference_8 : decode cX12_isReference 8 = .ok (.if_icmp .eq 33, 3) := by decide +kernel
theorem dX12_isReference_5 : decode cX12_isReference 5 = .ok (.iaload, 1) := by decide +kernel
theorem dX12_isReference_1 : decode cX12_isReference 1 = .ok (.getfield 34, 3) := by decide +kernel
def wr_192 (_ _ : Nat) : Bool := false
theorem g_192_0 {X : Nat × (Nat → Int32)} {m : Nat → Nat → Int32} {P : Option ma_V → (Nat → Nat → Int32) → Prop} (s : Int32) (i : Int32) (h : (0 ≤ s ∧ s.toNatClampNeg < 3100) ∧ (if (m 101 s.toNatClampNeg) = (16 : Int32) then ((0 ≤ ((s * (60 : Int32)) + i) ∧ ((s * (60 : Int32)) + i).toNatClampNeg < 186000) ∧ (P (some (.inl (m 108 ((s * (60 : Int32)) + i).toNatClampNeg))) m)) else ((0 ≤ s ∧ s.toNatClampNeg < 3100) ∧ (if (16 : Int32) ≤ (m 101 s.toNatClampNeg) then (P (some (.inl (-1 : Int32))) m) else ((0 ≤ s ∧ s.toNatClampNeg < 3100) ∧ ((0 ≤ (m 101 s.toNatClampNeg) ∧ (m 101 s.toNatClampNeg).toNatClampNeg < 16) ∧ (if (((m 98 (m 101 s.toNatClampNeg).toNatClampNeg) >>> (i &&& 31)) &&& (1 : Int32)) = (1 : Int32) then ((0 ≤ ((s * (60 : Int32)) + i) ∧ ((s * (60 : Int32)) + i).toNatClampNeg < 186000) ∧ (P (some (.inl (m 108 ((s * (60 : Int32)) + i).toNatClampNeg))) m)) else (P (some (.inl (-1 : Int32))) m)))))))) : zm X 1 22 192 0 [(0, .inr (.inr (some 94))), (1, .inl s), (2, .inl i)] m P := by
  intro d w S Q hd hw hS hm HQ
  subst hm
  refine zw_push hm_192 dX12_reference_0 (v := .inr (.inr (some 94))) rfl ?_
  refine zw_push hm_192 dX12_reference_1 (v := .inl s) rfl ?_
  refine zw_push hm_192 dX12_reference_2 (v := .inl i) rfl ?_
  refine zw_cv hm_192 dX12_reference_3 v_12_288_12 hm_193 [.inl i, .inl s] [] rfl (zT_rt hS s_94 rfl) ⟨by omega, by omega⟩ rfl ?_
  show ma_wp X (d - 1) (w - 22) 193 0 [(0, .inr (.inr (some 94))), (1, .inl s), (2, .inl i)] [] S _
  refine zw_push hm_193 dX12_isReference_0 (v := .inr (.inr (some 94))) rfl ?_
  refine zw_gf hm_193 dX12_isReference_1 (v := .inr (.inr (some 101))) (zT_is hS s_94) (zT_t hS s_94) rfl f_12_34_12 (zT_f hS r_94_33) ?_
  refine zw_push hm_193 dX12_isReference_4 (v := .inl s) rfl ?_
  obtain ⟨hg, h⟩ := h
  refine zw_ia hm_193 dX12_isReference_5 (zT_is hS s_101) (zT_h hS s_101) rfl hg ?_
  show ma_wp X (d - 1) (w - 22) 193 6 [(0, .inr (.inr (some 94))), (1, .inl s), (2, .inl i)] [.inl ((mI S) 101 s.toNatClampNeg)] S _
  refine zw_push hm_193 dX12_isReference_6 (v := .inl (16 : Int32)) rfl ?_
  refine zw_if2 hm_193 dX12_isReference_8 (t := 41) rfl zc2_eq ?_ ?_
  · intro hc
    rw [if_pos hc] at h
    refine zw_push hm_193 dX12_isReference_41 (v := .inl (1 : Int32)) rfl ?_
    refine zw_goto hm_193 dX12_isReference_42 (t := 46) rfl ?_
    refine zw_bret hm_193 dX12_isReference_46 (by decide) ?_
    show ma_wp X d w 192 6 [(0, .inr (.inr (some 94))), (1, .inl s), (2, .inl i)] [.inl (1 : Int32)] S _
    refine zw_if0 hm_192 dX12_reference_6 (t := 23) rfl zc0_eq (fun hc => absurd hc (by decide)) (fun _ => ?_)
    refine zw_push hm_192 dX12_reference_9 (v := .inr (.inr (some 94))) rfl ?_
    refine zw_gf hm_192 dX12_reference_10 (v := .inr (.inr (some 108))) (zT_is hS s_94) (zT_t hS s_94) rfl f_12_56_12 (zT_f hS r_94_40) ?_
    refine zw_push hm_192 dX12_reference_13 (v := .inl s) rfl ?_
    refine zw_push hm_192 dX12_reference_14 (v := .inl (60 : Int32)) rfl ?_
    refine zw_stk hm_192 dX12_reference_16 (st₉ := [.inl (s * (60 : Int32)), .inr (.inr (some 108))]) rfl rfl ?_
    refine zw_push hm_192 dX12_reference_17 (v := .inl i) rfl ?_
    refine zw_stk hm_192 dX12_reference_18 (st₉ := [.inl ((s * (60 : Int32)) + i), .inr (.inr (some 108))]) rfl rfl ?_
    obtain ⟨hg, h⟩ := h
    refine zw_ia hm_192 dX12_reference_19 (zT_is hS s_108) (zT_h hS s_108) rfl hg ?_
    show ma_wp X d w 192 20 [(0, .inr (.inr (some 94))), (1, .inl s), (2, .inl i)] [.inl ((mI S) 108 ((s * (60 : Int32)) + i).toNatClampNeg)] S _
    refine zw_goto hm_192 dX12_reference_20 (t := 24) rfl ?_
    exact zw_iret hm_192 dX12_reference_24 (HQ _ _ h)
  · intro hc
    rw [if_neg hc] at h
    refine zw_push hm_193 dX12_isReference_11 (v := .inr (.inr (some 94))) rfl ?_
    refine zw_gf hm_193 dX12_isReference_12 (v := .inr (.inr (some 101))) (zT_is hS s_94) (zT_t hS s_94) rfl f_12_34_12 (zT_f hS r_94_33) ?_
    refine zw_push hm_193 dX12_isReference_15 (v := .inl s) rfl ?_
    obtain ⟨hg, h⟩ := h
    refine zw_ia hm_193 dX12_isReference_16 (zT_is hS s_101) (zT_h hS s_101) rfl hg ?_
    show ma_wp X (d - 1) (w - 22) 193 17 [(0, .inr (.inr (some 94))), (1, .inl s), (2, .inl i)] [.inl ((mI S) 101 s.toNatClampNeg)] S _
    refine zw_push hm_193 dX12_isReference_17 (v := .inl (16 : Int32)) rfl ?_
    refine zw_if2 hm_193 dX12_isReference_19 (t := 45) rfl zc2_ge ?_ ?_
    · intro hc
      rw [if_pos hc] at h
      refine zw_push hm_193 dX12_isReference_45 (v := .inl (0 : Int32)) rfl ?_
      refine zw_bret hm_193 dX12_isReference_46 (by decide) ?_
      show ma_wp X d w 192 6 [(0, .inr (.inr (some 94))), (1, .inl s), (2, .inl i)] [.inl (0 : Int32)] S _
      refine zw_if0 hm_192 dX12_reference_6 (t := 23) rfl zc0_eq (fun _ => ?_) (fun hc => absurd (by decide) hc)
      refine zw_push hm_192 dX12_reference_23 (v := .inl (-1 : Int32)) rfl ?_
      exact zw_iret hm_192 dX12_reference_24 (HQ _ _ h)
    · intro hc
      rw [if_neg hc] at h
      refine zw_push hm_193 dX12_isReference_22 (v := .inr (.inr (some 94))) rfl ?_
      refine zw_gf hm_193 dX12_isReference_23 (v := .inr (.inr (some 98))) (zT_is hS s_94) (zT_t hS s_94) rfl f_12_24_12 (zT_f hS r_94_6) ?_
      refine zw_push hm_193 dX12_isReference_26 (v := .inr (.inr (some 94))) rfl ?_
      refine zw_gf hm_193 dX12_isReference_27 (v := .inr (.inr (some 101))) (zT_is hS s_94) (zT_t hS s_94) rfl f_12_34_12 (zT_f hS r_94_33) ?_
      refine zw_push hm_193 dX12_isReference_30 (v := .inl s) rfl ?_
      obtain ⟨hg, h⟩ := h
      refine zw_ia hm_193 dX12_isReference_31 (zT_is hS s_101) (zT_h hS s_101) rfl hg ?_
      show ma_wp X (d - 1) (w - 22) 193 32 [(0, .inr (.inr (some 94))), (1, .inl s), (2, .inl i)] [.inl ((mI S) 101 s.toNatClampNeg), .inr (.inr (some 98))] S _
      obtain ⟨hg, h⟩ := h
      refine zw_ia hm_193 dX12_isReference_32 (zT_is hS s_98) (zT_h hS s_98) rfl hg ?_
      show ma_wp X (d - 1) (w - 22) 193 33 [(0, .inr (.inr (some 94))), (1, .inl s), (2, .inl i)] [.inl ((mI S) 98 ((mI S) 101 s.toNatClampNeg).toNatClampNeg)] S _
      refine zw_push hm_193 dX12_isReference_33 (v := .inl i) rfl ?_
      refine zw_stk hm_193 dX12_isReference_34 (st₉ := [.inl (((mI S) 98 ((mI S) 101 s.toNatClampNeg).toNatClampNeg) >>> (i &&& 31))]) rfl rfl ?_
      refine zw_push hm_193 dX12_isReference_35 (v := .inl (1 : Int32)) rfl ?_
      refine zw_stk hm_193 dX12_isReference_36 (st₉ := [.inl ((((mI S) 98 ((mI S) 101 s.toNatClampNeg).toNatClampNeg) >>> (i &&& 31)) &&& (1 : Int32))]) rfl rfl ?_
      refine zw_push hm_193 dX12_isReference_37 (v := .inl (1 : Int32)) rfl ?_
      refine zw_if2 hm_193 dX12_isReference_38 (t := 45) rfl zc2_ne ?_ ?_
      · intro hc
        rw [if_neg hc] at h
        refine zw_push hm_193 dX12_isReference_45 (v := .inl (0 : Int32)) rfl ?_
        refine zw_bret hm_193 dX12_isReference_46 (by decide) ?_
        show ma_wp X d w 192 6 [(0, .inr (.inr (some 94))), (1, .inl s), (2, .inl i)] [.inl (0 : Int32)] S _
        refine zw_if0 hm_192 dX12_reference_6 (t := 23) rfl zc0_eq (fun _ => ?_) (fun hc => absurd (by decide) hc)
        refine zw_push hm_192 dX12_reference_23 (v := .inl (-1 : Int32)) rfl ?_
        exact zw_iret hm_192 dX12_reference_24 (HQ _ _ h)
      · intro hc
        rw [if_pos (Classical.not_not.mp hc)] at h
        refine zw_push hm_193 dX12_isReference_41 (v := .inl (1 : Int32)) rfl ?_
        refine zw_goto hm_193 dX12_isReference_42 (t := 46) rfl ?_
        refine zw_bret hm_193 dX12_isReference_46 (by decide) ?_
        show ma_wp X d w 192 6 [(0, .inr (.inr (some 94))), (1, .inl s), (2, .inl i)] [.inl (1 : Int32)] S _
        refine zw_if0 hm_192 dX12_reference_6 (t := 23) rfl zc0_eq (fun hc => absurd hc (by decide)) (fun _ => ?_)
        refine zw_push hm_192 dX12_reference_9 (v := .inr (.inr (some 94))) rfl ?_
        refine zw_gf hm_192 dX12_reference_10 (v := .inr (.inr (some 108))) (zT_is hS s_94) (zT_t hS s_94) rfl f_12_56_12 (zT_f hS r_94_40) ?_
        refine zw_push hm_192 dX12_reference_13 (v := .inl s) rfl ?_
        refine zw_push hm_192 dX12_reference_14 (v := .inl (60 : Int32)) rfl ?_
        refine zw_stk hm_192 dX12_reference_16 (st₉ := [.inl (s * (60 : Int32)), .inr (.inr (some 108))]) rfl rfl ?_
        refine zw_push hm_192 dX12_reference_17 (v := .inl i) rfl ?_
        refine zw_stk hm_192 dX12_reference_18 (st₉ := [.inl ((s * (60 : Int32)) + i), .inr (.inr (some 108))]) rfl rfl ?_
        obtain ⟨hg, h⟩ := h
        refine zw_ia hm_192 dX12_reference_19 (zT_is hS s_108) (zT_h hS s_108) rfl hg ?_
        show ma_wp X d w 192 20 [(0, .inr (.inr (some 94))), (1, .inl s), (2, .inl i)] [.inl ((mI S) 108 ((s * (60 : Int32)) + i).toNatClampNeg)] S _
        refine zw_goto hm_192 dX12_reference_20 (t := 24) rfl ?_
        exact zw_iret hm_192 dX12_reference_24 (HQ _ _ h)
theorem sp_192 {X : Nat × (Nat → Int32)} {P : Option ma_V → (Nat → Nat → Int32) → Prop} {m : Nat → Nat → Int32} (s : Int32) (i : Int32) (hV : zV m) (hpre0 : 0 ≤ s.toInt) (hpre1 : s.toInt ≤ 3099) (hpre2 : 0 ≤ i.toInt) (hpre3 : i.toInt < (m 102 s.toNatClampNeg).toInt) (KZ : ∀ v m₉, zV (zov wr_192 m m₉) → (v = zrf (m 98) (m 101) (m 108) s.toNatClampNeg i.toNatClampNeg) → P (some (.inl v)) (zov wr_192 m m₉)) : zm X 1 22 192 0 [(0, .inr (.inr (some 94))), (1, .inl s), (2, .inl i)] m P := by
  have K : ∀ v m₉, zF wr_192 m m₉ → zV m₉ → (v = zrf (m₉ 98) (m₉ 101) (m₉ 108) s.toNatClampNeg i.toNatClampNeg) → P (some (.inl v)) m₉ := by
    intro v m₉ hf z q0
    have e := zov_eq hf
    rw [e] at z ⊢
    try rw [e] at q0
    exact KZ v m₉ z q0
  refine g_192_0 s i ?_
  have b1 := i_bd s
  first | have f2 : 0 ≤ (m 102 s.toNatClampNeg).toInt ∧ (m 102 s.toNatClampNeg).toInt ≤ 60 := ra_102 (m := m) hV (k := s.toNatClampNeg) (i_ix (n := 3100) (by omega) (by omega)).2 | have b3 := i_bd (m 102 s.toNatClampNeg)
  have hg4 : (0 ≤ s ∧ s.toNatClampNeg < 3100) := i_ix (by omega) (by omega)
  refine ⟨hg4, ?_⟩
  first | have f5 : 0 ≤ (m 101 s.toNatClampNeg).toInt ∧ (m 101 s.toNatClampNeg).toInt ≤ 17 := ra_101 (m := m) hV (k := s.toNatClampNeg) (i_ix (n := 3100) (by omega) (by omega)).2 | have b6 := i_bd (m 101 s.toNatClampNeg)
  have li7 : (16 : Int32).toInt = 16 := rfl
  refine zd (fun (h8 : (m 101 s.toNatClampNeg) = (16 : Int32)) => ?_) (fun (h8 : ¬ (m 101 s.toNatClampNeg) = (16 : Int32)) => ?_)
  · skip
    have g9 := i_eq h8
    have li10 : (60 : Int32).toInt = 60 := rfl
    first | have e11 : (s * (60 : Int32)).toInt = s.toInt * 60 := i_mulk rfl (by omega) (by omega) | have b12 := i_bd (s * (60 : Int32))
    have b13 := i_bd i
    first | have e14 : ((s * (60 : Int32)) + i).toInt = (s * (60 : Int32)).toInt + i.toInt := i_add (by omega) (by omega) | have b15 := i_bd ((s * (60 : Int32)) + i)
    have hg16 : (0 ≤ ((s * (60 : Int32)) + i) ∧ ((s * (60 : Int32)) + i).toNatClampNeg < 186000) := i_ix (by omega) (by omega)
    refine ⟨hg16, ?_⟩
    have b17 := i_bd (m 108 ((s * (60 : Int32)) + i).toNatClampNeg)
    exact K ((m 108 ((s * (60 : Int32)) + i).toNatClampNeg)) _ zF_rfl hV (show (m 108 ((s * (60 : Int32)) + i).toNatClampNeg) = zrf (m 98) (m 101) (m 108) s.toNatClampNeg i.toNatClampNeg from by first | (rw [zrf_eq (by omega) (by omega) (by omega) (by omega)]; simp [*]; done) | (rw [zrf_eq (by omega) (by omega) (by omega) (by omega), if_neg (by assumption), if_neg (fun z => absurd (Int32.lt_iff_toInt_lt.mp z.1) (by omega))]; done) | (rw [zrf_eq (by omega) (by omega) (by omega) (by omega), if_neg (by assumption), if_neg (fun z => absurd z.2 (by assumption))]; done) | (rw [zrf_eq (by omega) (by omega) (by omega) (by omega), if_neg (by assumption), if_pos ⟨Int32.lt_iff_toInt_lt.mpr (by omega), by assumption⟩]; done) | (exfalso; omega; done) | (exfalso; contradiction; done))
  · skip
    have g18 := i_ne h8
    have hg19 : (0 ≤ s ∧ s.toNatClampNeg < 3100) := i_ix (by omega) (by omega)
    refine ⟨hg19, ?_⟩
    refine zd (fun (h20 : (16 : Int32) ≤ (m 101 s.toNatClampNeg)) => ?_) (fun (h20 : ¬ (16 : Int32) ≤ (m 101 s.toNatClampNeg)) => ?_)
    · skip
      have g21 := i_le h20
      have li22 : (-1 : Int32).toInt = -1 := rfl
      exact K ((-1 : Int32)) _ zF_rfl hV (show (-1 : Int32) = zrf (m 98) (m 101) (m 108) s.toNatClampNeg i.toNatClampNeg from by first | (rw [zrf_eq (by omega) (by omega) (by omega) (by omega)]; simp [*]; done) | (rw [zrf_eq (by omega) (by omega) (by omega) (by omega), if_neg (by assumption), if_neg (fun z => absurd (Int32.lt_iff_toInt_lt.mp z.1) (by omega))]; done) | (rw [zrf_eq (by omega) (by omega) (by omega) (by omega), if_neg (by assumption), if_neg (fun z => absurd z.2 (by assumption))]; done) | (rw [zrf_eq (by omega) (by omega) (by omega) (by omega), if_neg (by assumption), if_pos ⟨Int32.lt_iff_toInt_lt.mpr (by omega), by assumption⟩]; done) | (exfalso; omega; done) | (exfalso; contradiction; done))
    · skip
      have g23 := i_nle h20
      have hg24 : (0 ≤ s ∧ s.toNatClampNeg < 3100) := i_ix (by omega) (by omega)
      refine ⟨hg24, ?_⟩
      have hg25 : (0 ≤ (m 101 s.toNatClampNeg) ∧ (m 101 s.toNatClampNeg).toNatClampNeg < 16) := i_ix (by omega) (by omega)
      refine ⟨hg25, ?_⟩
      have b26 := i_bd (((m 98 (m 101 s.toNatClampNeg).toNatClampNeg) >>> (i &&& 31)) &&& (1 : Int32))
      have li27 : (1 : Int32).toInt = 1 := rfl
      refine zd (fun (h28 : (((m 98 (m 101 s.toNatClampNeg).toNatClampNeg) >>> (i &&& 31)) &&& (1 : Int32)) = (1 : Int32)) => ?_) (fun (h28 : ¬ (((m 98 (m 101 s.toNatClampNeg).toNatClampNeg) >>> (i &&& 31)) &&& (1 : Int32)) = (1 : Int32)) => ?_)
      · skip
        have g29 := i_eq h28
        have li30 : (60 : Int32).toInt = 60 := rfl
        first | have e31 : (s * (60 : Int32)).toInt = s.toInt * 60 := i_mulk rfl (by omega) (by omega) | have b32 := i_bd (s * (60 : Int32))
        have b33 := i_bd i
        first | have e34 : ((s * (60 : Int32)) + i).toInt = (s * (60 : Int32)).toInt + i.toInt := i_add (by omega) (by omega) | have b35 := i_bd ((s * (60 : Int32)) + i)
        have hg36 : (0 ≤ ((s * (60 : Int32)) + i) ∧ ((s * (60 : Int32)) + i).toNatClampNeg < 186000) := i_ix (by omega) (by omega)
        refine ⟨hg36, ?_⟩
        have b37 := i_bd (m 108 ((s * (60 : Int32)) + i).toNatClampNeg)
        exact K ((m 108 ((s * (60 : Int32)) + i).toNatClampNeg)) _ zF_rfl hV (show (m 108 ((s * (60 : Int32)) + i).toNatClampNeg) = zrf (m 98) (m 101) (m 108) s.toNatClampNeg i.toNatClampNeg from by first | (rw [zrf_eq (by omega) (by omega) (by omega) (by omega)]; simp [*]; done) | (rw [zrf_eq (by omega) (by omega) (by omega) (by omega), if_neg (by assumption), if_neg (fun z => absurd (Int32.lt_iff_toInt_lt.mp z.1) (by omega))]; done) | (rw [zrf_eq (by omega) (by omega) (by omega) (by omega), if_neg (by assumption), if_neg (fun z => absurd z.2 (by assumption))]; done) | (rw [zrf_eq (by omega) (by omega) (by omega) (by omega), if_neg (by assumption), if_pos ⟨Int32.lt_iff_toInt_lt.mpr (by omega), by assumption⟩]; done) | (exfalso; omega; done) | (exfalso; contradiction; done))
      · skip
        have g38 := i_ne h28
        have li39 : (-1 : Int32).toInt = -1 := rfl
        exact K ((-1 : Int32)) _ zF_rfl hV (show (-1 : Int32) = zrf (m 98) (m 101) (m 108) s.toNatClampNeg i.toNatClampNeg from by first | (rw [zrf_eq (by omega) (by omega) (by omega) (by omega)]; simp [*]; done) | (rw [zrf_eq (by omega) (by omega) (by omega) (by omega), if_neg (by assumption), if_neg (fun z => absurd (Int32.lt_iff_toInt_lt.mp z.1) (by omega))]; done) | (rw [zrf_eq (by omega) (by omega) (by omega) (by omega), if_neg (by assumption), if_neg (fun z => absurd z.2 (by assumption))]; done) | (rw [zrf_eq (by omega) (by omega) (by omega) (by omega), if_neg (by assumption), if_pos ⟨Int32.lt_iff_toInt_lt.mpr (by omega), by assumption⟩]; done) | (exfalso; omega; done) | (exfalso; contradiction; done))

/-! from 94.410 -/
/-! the reference (written by wip/tools/gen94m.py) -/
set_option maxRecDepth 100000 in
theorem hm_190 : ma_md 190 = some (12, yX12_keep, cX12_keep, 2, none) := rfl
set_option maxRecDepth 100000 in
theorem hm_191 : ma_md 191 = some (12, yX12_keepAll, cX12_keepAll, 3, none) := rfl
theorem s_118 : zs 118 = some (20, 3100) := rfl
theorem r_94_72 : zfi 94 72 = some 118 := rfl
theorem f_12_86_12 : ma_fld 12 86 12 = some 72 := by decide +kernel
theorem f_12_291_12 : ma_fld 12 291 12 = some 73 := by decide +kernel
theorem p_12_291_12 : ma_pk 12 291 12 73 = true := by decide +kernel
theorem v_12_294_12 : ma_vl 12 294 12 = some (1, 192, 2) := by decide +kernel
theorem v_12_298_12 : ma_vl 12 298 12 = some (1, 190, 1) := by decide +kernel
theorem dX12_keepAll_0 : decode cX12_keepAll 0 = .ok (.aload_n 0, 1) := by decide +kernel
theorem dX12_keepAll_58 : decode cX12_keepAll 58 = .ok (.return_, 1) := by decide +kernel
theorem dX12_keepAll_7 : decode cX12_keepAll 7 = .ok (.aload_n 0, 1) := by decide +kernel
theorem dX12_keepAll_8 : decode cX12_keepAll 8 = .ok (.dup, 1) := by decide +kernel
theorem dX12_keepAll_12 : decode cX12_keepAll 12 = .ok (.iconst 1, 1) := by decide +kernel
theorem dX12_keepAll_13 : decode cX12_keepAll 13 = .ok (.isub, 1) := by decide +kernel
theorem dX12_keepAll_17 : decode cX12_keepAll 17 = .ok (.aload_n 0, 1) := by decide +kernel
theorem dX12_keepAll_21 : decode cX12_keepAll 21 = .ok (.aload_n 0, 1) := by decide +kernel
theorem dX12_keepAll_26 : decode cX12_keepAll 26 = .ok (.istore_n 1, 1) := by decide +kernel
theorem dX12_keepAll_27 : decode cX12_keepAll 27 = .ok (.iconst 0, 1) := by decide +kernel
theorem dX12_keepAll_28 : decode cX12_keepAll 28 = .ok (.istore_n 2, 1) := by decide +kernel
theorem dX12_keepAll_25 : decode cX12_keepAll 25 = .ok (.iaload, 1) := by decide +kernel
theorem dX12_keepAll_22 : decode cX12_keepAll 22 = .ok (.getfield 291, 3) := by decide +kernel
theorem dX12_keepAll_18 : decode cX12_keepAll 18 = .ok (.getfield 86, 3) := by decide +kernel
theorem dX12_keepAll_14 : decode cX12_keepAll 14 = .ok (.putfield 291, 3) := by decide +kernel
theorem dX12_keepAll_9 : decode cX12_keepAll 9 = .ok (.getfield 291, 3) := by decide +kernel
theorem dX12_keepAll_4 : decode cX12_keepAll 4 = .ok (.ifCond .le 54, 3) := by decide +kernel
theorem dX12_keepAll_1 : decode cX12_keepAll 1 = .ok (.getfield 291, 3) := by decide +kernel
theorem dX12_keepAll_29 : decode cX12_keepAll 29 = .ok (.iload_n 2, 1) := by decide +kernel
theorem dX12_keepAll_30 : decode cX12_keepAll 30 = .ok (.aload_n 0, 1) := by decide +kernel
theorem dX12_keepAll_34 : decode cX12_keepAll 34 = .ok (.iload_n 1, 1) := by decide +kernel
theorem dX12_keepAll_55 : decode cX12_keepAll 55 = .ok (.goto (-55), 3) := by decide +kernel
theorem dX12_keepAll_39 : decode cX12_keepAll 39 = .ok (.aload_n 0, 1) := by decide +kernel
theorem dX12_keepAll_40 : decode cX12_keepAll 40 = .ok (.aload_n 0, 1) := by decide +kernel
theorem dX12_keepAll_41 : decode cX12_keepAll 41 = .ok (.iload_n 1, 1) := by decide +kernel
theorem dX12_keepAll_42 : decode cX12_keepAll 42 = .ok (.iload_n 2, 1) := by decide +kernel
theorem dX12_keepAll_43 : decode cX12_keepAll 43 = .ok (.invokevirtual 294, 3) := by decide +kernel
theorem dX12_keepAll_46 : decode cX12_keepAll 46 = .ok (.invokevirtual 298, 3) := by decide +kernel
theorem dX12_keep_0 : decode cX12_keep 0 = .ok (.iload_n 1, 1) := by decide +kernel
theorem dX12_keepAll_49 : decode cX12_keepAll 49 = .ok (.iinc 2 1, 3) := by decide +kernel
theorem dX12_keepAll_52 : decode cX12_keepAll 52 = .ok (.goto (-23), 3) := by decide +kernel
theorem dX12_keep_13 : decode cX12_keep 13 = .ok (.return_, 1) := by decide +kernel
theorem dX12_keep_4 : decode cX12_keep 4 = .ok (.aload_n 0, 1) := by decide +kernel
theorem dX12_keep_8 : decode cX12_keep 8 = .ok (.iload_n 1, 1) := by decide +kernel
theorem dX12_keep_14 : decode cX12_keep 14 = .ok (.aload_n 0, 1) := by decide +kernel
theorem dX12_keep_18 : decode cX12_keep 18 = .ok (.iload_n 1, 1) := by decide +kernel
theorem dX12_keep_19 : decode cX12_keep 19 = .ok (.iconst 1, 1) := by decide +kernel
theorem dX12_keep_21 : decode cX12_keep 21 = .ok (.aload_n 0, 1) := by decide +kernel
theorem dX12_keep_25 : decode cX12_keep 25 = .ok (.aload_n 0, 1) := by decide +kernel
theorem dX12_keep_29 : decode cX12_keep 29 = .ok (.iload_n 1, 1) := by decide +kernel
theorem dX12_keep_31 : decode cX12_keep 31 = .ok (.aload_n 0, 1) := by decide +kernel
theorem dX12_keep_32 : decode cX12_keep 32 = .ok (.dup, 1) := by decide +kernel
theorem dX12_keep_36 : decode cX12_keep 36 = .ok (.iconst 1, 1) := by decide +kernel
theorem dX12_keep_37 : decode cX12_keep 37 = .ok (.iadd, 1) := by decide +kernel
theorem dX12_keep_41 : decode cX12_keep 41 = .ok (.return_, 1) := by decide +kernel
theorem dX12_keep_38 : decode cX12_keep 38 = .ok (.putfield 291, 3) := by decide +kernel
theorem dX12_keep_33 : decode cX12_keep 33 = .ok (.getfield 291, 3) := by decide +kernel
theorem dX12_keep_30 : decode cX12_keep 30 = .ok (.iastore, 1) := by decide +kernel
theorem dX12_keep_26 : decode cX12_keep 26 = .ok (.getfield 291, 3) := by decide +kernel
theorem dX12_keep_22 : decode cX12_keep 22 = .ok (.getfield 86, 3) := by decide +kernel
theorem dX12_keep_20 : decode cX12_keep 20 = .ok (.bastore, 1) := by decide +kernel
theorem dX12_keep_15 : decode cX12_keep 15 = .ok (.getfield 62, 3) := by decide +kernel
theorem dX12_keep_10 : decode cX12_keep 10 = .ok (.ifCond .eq 4, 3) := by decide +kernel
theorem dX12_keep_9 : decode cX12_keep 9 = .ok (.baload, 1) := by decide +kernel
theorem dX12_keep_5 : decode cX12_keep 5 = .ok (.getfield 62, 3) := by decide +kernel
theorem dX12_keep_1 : decode cX12_keep 1 = .ok (.ifCond .lt 12, 3) := by decide +kernel
theorem dX12_keepAll_36 : decode cX12_keepAll 36 = .ok (.if_icmp .ge 19, 3) := by decide +kernel
theorem dX12_keepAll_35 : decode cX12_keepAll 35 = .ok (.iaload, 1) := by decide +kernel
theorem dX12_keepAll_31 : decode cX12_keepAll 31 = .ok (.getfield 37, 3) := by decide +kernel
def wr_191 (c k : Nat) : Bool := Nat.beq c 110 || Nat.beq c 118 || (Nat.beq c 94 && (Nat.beq k 73))
theorem ws_192_191 : ∀ c k, wr_192 c k = true → wr_191 c k = true := fun _ _ h => by cases h
theorem g_191_0 {X : Nat × (Nat → Int32)} {m : Nat → Nat → Int32} {P : Option ma_V → (Nat → Nat → Int32) → Prop}  (h : if (m 94 73) ≤ 0 then (P none m) else ((0 ≤ ((m 94 73) - (1 : Int32)) ∧ ((m 94 73) - (1 : Int32)).toNatClampNeg < 3100) ∧ (zm X 2 44 191 29 [(0, .inr (.inr (some 94))), (1, .inl (m 118 ((m 94 73) - (1 : Int32)).toNatClampNeg)), (2, .inl (0 : Int32))] (ma_u m 94 73 ((m 94 73) - (1 : Int32))) P))) : zm X 2 44 191 0 [(0, .inr (.inr (some 94)))] m P := by
  intro d w S Q hd hw hS hm HQ
  subst hm
  refine zw_push hm_191 dX12_keepAll_0 (v := .inr (.inr (some 94))) rfl ?_
  refine zw_gf hm_191 dX12_keepAll_1 (v := .inl ((mI S) 94 73)) (zT_is hS s_94) (zT_t hS s_94) rfl f_12_291_12 rfl ?_
  refine zw_if0 hm_191 dX12_keepAll_4 (t := 58) rfl zc0_le ?_ ?_
  · intro hc
    rw [if_pos hc] at h
    exact zw_vret hm_191 dX12_keepAll_58 (HQ _ _ h)
  · intro hc
    rw [if_neg hc] at h
    refine zw_push hm_191 dX12_keepAll_7 (v := .inr (.inr (some 94))) rfl ?_
    refine zw_stk hm_191 dX12_keepAll_8 (st₉ := [.inr (.inr (some 94)), .inr (.inr (some 94))]) rfl rfl ?_
    refine zw_gf hm_191 dX12_keepAll_9 (v := .inl ((mI S) 94 73)) (zT_is hS s_94) (zT_t hS s_94) rfl f_12_291_12 rfl ?_
    refine zw_push hm_191 dX12_keepAll_12 (v := .inl (1 : Int32)) rfl ?_
    refine zw_stk hm_191 dX12_keepAll_13 (st₉ := [.inl (((mI S) 94 73) - (1 : Int32)), .inr (.inr (some 94))]) rfl rfl ?_
    refine zw_pf hm_191 dX12_keepAll_14 (zT_is hS s_94) (zT_t hS s_94) p_12_291_12 zk_int ?_
    refine zw_push hm_191 dX12_keepAll_17 (v := .inr (.inr (some 94))) rfl ?_
    refine zw_gf hm_191 dX12_keepAll_18 (v := .inr (.inr (some 118))) (zT_is (zT_pi hS) s_94) (zT_t (zT_pi hS) s_94) rfl f_12_86_12 (zT_f (zT_pi hS) r_94_72) ?_
    refine zw_push hm_191 dX12_keepAll_21 (v := .inr (.inr (some 94))) rfl ?_
    refine zw_gf hm_191 dX12_keepAll_22 (v := .inl (((mI S) 94 73) - (1 : Int32))) (zT_is (zT_pi hS) s_94) (zT_t (zT_pi hS) s_94) rfl f_12_291_12 rfl ?_
    obtain ⟨hg, h⟩ := h
    refine zw_ia hm_191 dX12_keepAll_25 (zT_is (zT_pi hS) s_118) (zT_h (zT_pi hS) s_118) rfl hg ?_
    show ma_wp X d w 191 26 [(0, .inr (.inr (some 94)))] [.inl ((mI S) 118 (((mI S) 94 73) - (1 : Int32)).toNatClampNeg)] (ma_put S 94 73 (.inl (((mI S) 94 73) - (1 : Int32)))) _
    refine zw_sto hm_191 dX12_keepAll_26 [(1, .inl ((mI S) 118 (((mI S) 94 73) - (1 : Int32)).toNatClampNeg)), (0, .inr (.inr (some 94)))] rfl rfl rfl ?_
    refine zw_push hm_191 dX12_keepAll_27 (v := .inl (0 : Int32)) rfl ?_
    refine zw_sto hm_191 dX12_keepAll_28 [(2, .inl (0 : Int32)), (1, .inl ((mI S) 118 (((mI S) 94 73) - (1 : Int32)).toNatClampNeg)), (0, .inr (.inr (some 94)))] rfl rfl rfl ?_
    exact zw_sub (ma_nd_of (ks := [0, 1, 2]) rfl (by decide)) (ma_nd_of (ks := [2, 1, 0]) rfl (by decide)) (ma_le_cons rfl (ma_le_cons rfl (ma_le_cons rfl (ma_le_nil _)))) (h d w _ Q (by omega) (by omega) (zT_pi hS) rfl HQ)
theorem g_191_29 {X : Nat × (Nat → Int32)} {m : Nat → Nat → Int32} {P : Option ma_V → (Nat → Nat → Int32) → Prop} (l1 : Int32) (l2 : Int32) (h : (0 ≤ l1 ∧ l1.toNatClampNeg < 3100) ∧ (if (m 102 l1.toNatClampNeg) ≤ l2 then (zm X 2 44 191 0 [(0, .inr (.inr (some 94)))] m P) else (zm X 1 22 192 0 [(0, .inr (.inr (some 94))), (1, .inl l1), (2, .inl l2)] m (zmi (fun v2 m1 => if v2 < 0 then (zm X 2 44 191 29 [(0, .inr (.inr (some 94))), (1, .inl l1), (2, .inl (l2 + (1 : Int32)))] m1 P) else ((0 ≤ v2 ∧ v2.toNatClampNeg < 3100) ∧ (if (m1 110 v2.toNatClampNeg) = 0 then ((0 ≤ v2 ∧ v2.toNatClampNeg < 3100) ∧ ((0 ≤ (m1 94 73) ∧ (m1 94 73).toNatClampNeg < 3100) ∧ (zm X 2 44 191 29 [(0, .inr (.inr (some 94))), (1, .inl l1), (2, .inl (l2 + (1 : Int32)))] (ma_u (ma_u (ma_u m1 110 v2.toNatClampNeg (1 : Int32)) 118 (m1 94 73).toNatClampNeg v2) 94 73 ((m1 94 73) + (1 : Int32))) P))) else (zm X 2 44 191 29 [(0, .inr (.inr (some 94))), (1, .inl l1), (2, .inl (l2 + (1 : Int32)))] m1 P)))))))) : zm X 2 44 191 29 [(0, .inr (.inr (some 94))), (1, .inl l1), (2, .inl l2)] m P := by
  intro d w S Q hd hw hS hm HQ
  subst hm
  refine zw_push hm_191 dX12_keepAll_29 (v := .inl l2) rfl ?_
  refine zw_push hm_191 dX12_keepAll_30 (v := .inr (.inr (some 94))) rfl ?_
  refine zw_gf hm_191 dX12_keepAll_31 (v := .inr (.inr (some 102))) (zT_is hS s_94) (zT_t hS s_94) rfl f_12_37_12 (zT_f hS r_94_34) ?_
  refine zw_push hm_191 dX12_keepAll_34 (v := .inl l1) rfl ?_
  obtain ⟨hg, h⟩ := h
  refine zw_ia hm_191 dX12_keepAll_35 (zT_is hS s_102) (zT_h hS s_102) rfl hg ?_
  show ma_wp X d w 191 36 [(0, .inr (.inr (some 94))), (1, .inl l1), (2, .inl l2)] [.inl ((mI S) 102 l1.toNatClampNeg), .inl l2] S _
  refine zw_if2 hm_191 dX12_keepAll_36 (t := 55) rfl zc2_ge ?_ ?_
  · intro hc
    rw [if_pos hc] at h
    refine zw_goto hm_191 dX12_keepAll_55 (t := 0) rfl ?_
    exact zw_sub (ma_nd_of (ks := [0]) rfl (by decide)) (ma_nd_of (ks := [0, 1, 2]) rfl (by decide)) (ma_le_cons rfl (ma_le_nil _)) (h d w _ Q (by omega) (by omega) hS rfl HQ)
  · intro hc
    rw [if_neg hc] at h
    refine zw_push hm_191 dX12_keepAll_39 (v := .inr (.inr (some 94))) rfl ?_
    refine zw_push hm_191 dX12_keepAll_40 (v := .inr (.inr (some 94))) rfl ?_
    refine zw_push hm_191 dX12_keepAll_41 (v := .inl l1) rfl ?_
    refine zw_push hm_191 dX12_keepAll_42 (v := .inl l2) rfl ?_
    refine zw_cv hm_191 dX12_keepAll_43 v_12_294_12 hm_192 [.inl l2, .inl l1] [.inr (.inr (some 94))] rfl (zT_rt hS s_94 rfl) ⟨by omega, by omega⟩ rfl (h _ _ S _ (by omega) (by omega) hS rfl (fun o9 m1 hv => ?_))
    obtain ⟨v2, rfl, h⟩ := zmi_of hv
    show ma_wp X d w 191 46 [(0, .inr (.inr (some 94))), (1, .inl l1), (2, .inl l2)] [.inl v2, .inr (.inr (some 94))] (zst S m1) _
    refine zw_cv hm_191 dX12_keepAll_46 v_12_298_12 hm_190 [.inl v2] [] rfl (zT_rt (zT_zst hS m1) s_94 rfl) ⟨by omega, by omega⟩ rfl ?_
    show ma_wp X (d - 1) (w - 21) 190 0 [(0, .inr (.inr (some 94))), (1, .inl v2)] [] (zst S m1) _
    refine zw_push hm_190 dX12_keep_0 (v := .inl v2) rfl ?_
    refine zw_if0 hm_190 dX12_keep_1 (t := 13) rfl zc0_lt ?_ ?_
    · intro hc
      rw [if_pos hc] at h
      refine zw_vret hm_190 dX12_keep_13 ?_
      show ma_wp X d w 191 49 [(0, .inr (.inr (some 94))), (1, .inl l1), (2, .inl l2)] [] (zst S m1) _
      refine zw_sto hm_191 dX12_keepAll_49 [(2, .inl (l2 + (1 : Int32))), (0, .inr (.inr (some 94))), (1, .inl l1)] rfl rfl rfl ?_
      refine zw_goto hm_191 dX12_keepAll_52 (t := 29) rfl ?_
      exact zw_sub (ma_nd_of (ks := [0, 1, 2]) rfl (by decide)) (ma_nd_of (ks := [2, 0, 1]) rfl (by decide)) (ma_le_cons rfl (ma_le_cons rfl (ma_le_cons rfl (ma_le_nil _)))) (h d w _ Q (by omega) (by omega) (zT_zst hS m1) rfl HQ)
    · intro hc
      rw [if_neg hc] at h
      refine zw_push hm_190 dX12_keep_4 (v := .inr (.inr (some 94))) rfl ?_
      refine zw_gf hm_190 dX12_keep_5 (v := .inr (.inr (some 110))) (zT_is (zT_zst hS m1) s_94) (zT_t (zT_zst hS m1) s_94) rfl f_12_62_12 (zT_f (zT_zst hS m1) r_94_42) ?_
      refine zw_push hm_190 dX12_keep_8 (v := .inl v2) rfl ?_
      obtain ⟨hg, h⟩ := h
      refine zw_ba hm_190 dX12_keep_9 (zT_is (zT_zst hS m1) s_110) (zT_h (zT_zst hS m1) s_110) rfl rfl hg ?_
      show ma_wp X (d - 1) (w - 21) 190 10 [(0, .inr (.inr (some 94))), (1, .inl v2)] [.inl (m1 110 v2.toNatClampNeg)] (zst S m1) _
      refine zw_if0 hm_190 dX12_keep_10 (t := 14) rfl zc0_eq ?_ ?_
      · intro hc
        rw [if_pos hc] at h
        refine zw_push hm_190 dX12_keep_14 (v := .inr (.inr (some 94))) rfl ?_
        refine zw_gf hm_190 dX12_keep_15 (v := .inr (.inr (some 110))) (zT_is (zT_zst hS m1) s_94) (zT_t (zT_zst hS m1) s_94) rfl f_12_62_12 (zT_f (zT_zst hS m1) r_94_42) ?_
        refine zw_push hm_190 dX12_keep_18 (v := .inl v2) rfl ?_
        refine zw_push hm_190 dX12_keep_19 (v := .inl (1 : Int32)) rfl ?_
        obtain ⟨hg, h⟩ := h
        refine zw_bas22l hm_190 dX12_keep_20 (hx := by decide) (yv := (1 : Int32)) (zT_is (zT_zst hS m1) s_110) (zT_h (zT_zst hS m1) s_110) rfl hg ?_
        refine zw_push hm_190 dX12_keep_21 (v := .inr (.inr (some 94))) rfl ?_
        refine zw_gf hm_190 dX12_keep_22 (v := .inr (.inr (some 118))) (zT_is (zT_pi (zT_zst hS m1)) s_94) (zT_t (zT_pi (zT_zst hS m1)) s_94) rfl f_12_86_12 (zT_f (zT_pi (zT_zst hS m1)) r_94_72) ?_
        refine zw_push hm_190 dX12_keep_25 (v := .inr (.inr (some 94))) rfl ?_
        refine zw_gf hm_190 dX12_keep_26 (v := .inl (m1 94 73)) (zT_is (zT_pi (zT_zst hS m1)) s_94) (zT_t (zT_pi (zT_zst hS m1)) s_94) rfl f_12_291_12 rfl ?_
        refine zw_push hm_190 dX12_keep_29 (v := .inl v2) rfl ?_
        obtain ⟨hg, h⟩ := h
        refine zw_ias hm_190 dX12_keep_30 (zT_is (zT_pi (zT_zst hS m1)) s_118) (zT_h (zT_pi (zT_zst hS m1)) s_118) rfl hg ?_
        refine zw_push hm_190 dX12_keep_31 (v := .inr (.inr (some 94))) rfl ?_
        refine zw_stk hm_190 dX12_keep_32 (st₉ := [.inr (.inr (some 94)), .inr (.inr (some 94))]) rfl rfl ?_
        refine zw_gf hm_190 dX12_keep_33 (v := .inl (m1 94 73)) (zT_is (zT_pi (zT_pi (zT_zst hS m1))) s_94) (zT_t (zT_pi (zT_pi (zT_zst hS m1))) s_94) rfl f_12_291_12 rfl ?_
        refine zw_push hm_190 dX12_keep_36 (v := .inl (1 : Int32)) rfl ?_
        refine zw_stk hm_190 dX12_keep_37 (st₉ := [.inl ((m1 94 73) + (1 : Int32)), .inr (.inr (some 94))]) rfl rfl ?_
        refine zw_pf hm_190 dX12_keep_38 (zT_is (zT_pi (zT_pi (zT_zst hS m1))) s_94) (zT_t (zT_pi (zT_pi (zT_zst hS m1))) s_94) p_12_291_12 zk_int ?_
        refine zw_vret hm_190 dX12_keep_41 ?_
        show ma_wp X d w 191 49 [(0, .inr (.inr (some 94))), (1, .inl l1), (2, .inl l2)] [] (ma_put (ma_put (ma_put (zst S m1) 110 v2.toNatClampNeg (.inl (1 : Int32))) 118 (m1 94 73).toNatClampNeg (.inl v2)) 94 73 (.inl ((m1 94 73) + (1 : Int32)))) _
        refine zw_sto hm_191 dX12_keepAll_49 [(2, .inl (l2 + (1 : Int32))), (0, .inr (.inr (some 94))), (1, .inl l1)] rfl rfl rfl ?_
        refine zw_goto hm_191 dX12_keepAll_52 (t := 29) rfl ?_
        exact zw_sub (ma_nd_of (ks := [0, 1, 2]) rfl (by decide)) (ma_nd_of (ks := [2, 0, 1]) rfl (by decide)) (ma_le_cons rfl (ma_le_cons rfl (ma_le_cons rfl (ma_le_nil _)))) (h d w _ Q (by omega) (by omega) (zT_pi (zT_pi (zT_pi (zT_zst hS m1)))) rfl HQ)
      · intro hc
        rw [if_neg hc] at h
        refine zw_vret hm_190 dX12_keep_13 ?_
        show ma_wp X d w 191 49 [(0, .inr (.inr (some 94))), (1, .inl l1), (2, .inl l2)] [] (zst S m1) _
        refine zw_sto hm_191 dX12_keepAll_49 [(2, .inl (l2 + (1 : Int32))), (0, .inr (.inr (some 94))), (1, .inl l1)] rfl rfl rfl ?_
        refine zw_goto hm_191 dX12_keepAll_52 (t := 29) rfl ?_
        exact zw_sub (ma_nd_of (ks := [0, 1, 2]) rfl (by decide)) (ma_nd_of (ks := [2, 0, 1]) rfl (by decide)) (ma_le_cons rfl (ma_le_cons rfl (ma_le_cons rfl (ma_le_nil _)))) (h d w _ Q (by omega) (by omega) (zT_zst hS m1) rfl HQ)
theorem lp_191_29 {X : Nat × (Nat → Int32)} {P : Option ma_V → (Nat → Nat → Int32) → Prop} {m0 : Nat → Nat → Int32} (h0 : zV m0) (K : ∀ m₉, zF wr_191 m0 m₉ → zV m₉ → ((m₉ 94 73).toInt = 0) → (((m₉ 94 10).toInt = 2 ∨ (m₉ 94 10).toInt = 3) → zCL (m₉ 110) (m₉ 98) (m₉ 101) (m₉ 102) (m₉ 108) (m₉ 118) (m₉ 94 73) 3100 0) → (zle (m0 110) (m₉ 110)) → (zKU (m₉ 94 10) (m₉ 99) (m₉ 110)) → P none m₉) {n0 : Nat} (OUT0 : ∀ (m₉ : Nat → Nat → Int32) , ((zMu (m₉ 110) (m₉ 94 73) : Int)).toNat < n0 → zF wr_191 m0 m₉ → zV m₉ → (zKS (m₉ 110) (m₉ 94 73)) → (zW (m₉ 94 7) (m₉ 98) (m₉ 101) (m₉ 102) (m₉ 108)) → (((m₉ 94 10).toInt = 2 ∨ (m₉ 94 10).toInt = 3) → zCL (m₉ 110) (m₉ 98) (m₉ 101) (m₉ 102) (m₉ 108) (m₉ 118) (m₉ 94 73) 3100 0) → (zle (m0 110) (m₉ 110)) → (zKU (m₉ 94 10) (m₉ 99) (m₉ 110)) → (zDX (m₉ 94 10) (m₉ 99) (m₉ 112) (m₉ 113) (m₉ 114) (m₉ 94 55) (m₉ 98) (m₉ 101) (m₉ 102) (m₉ 108)) → zm X 2 44 191 0 [(0, .inr (.inr (some 94)))] m₉ P) : ∀ (n : Nat) (m : Nat → Nat → Int32) (l1 : Int32) (l2 : Int32), (61 - l2.toInt).toNat = n → zF wr_191 m0 m → zV m → (0 ≤ l1.toInt) → (l1.toInt ≤ 3099) → (0 ≤ l2.toInt) → (zKS (m 110) (m 94 73)) → (zW (m 94 7) (m 98) (m 101) (m 102) (m 108)) → (((m 94 10).toInt = 2 ∨ (m 94 10).toInt = 3) → zCL (m 110) (m 98) (m 101) (m 102) (m 108) (m 118) (m 94 73) l1.toNatClampNeg l2.toNatClampNeg) → (zle (m0 110) (m 110)) → (zKU (m 94 10) (m 99) (m 110)) → (zDX (m 94 10) (m 99) (m 112) (m 113) (m 114) (m 94 55) (m 98) (m 101) (m 102) (m 108)) → (zMu (m 110) (m 94 73) < n0) → zm X 2 44 191 29 [(0, .inr (.inr (some 94))), (1, .inl l1), (2, .inl l2)] m P := by
  intro n
  induction n using Nat.strongRecOn with
  | _ n IH =>
    intro m l1 l2 hmu hF hV hi0 hi1 hi2 r_KS r_W r_CL r_KM r_KU r_DX r_MU
    refine g_191_29 l1 l2 ?_
    have b1 := i_bd l1
    have hg2 : (0 ≤ l1 ∧ l1.toNatClampNeg < 3100) := i_ix (by omega) (by omega)
    refine ⟨hg2, ?_⟩
    first | have f3 : 0 ≤ (m 102 l1.toNatClampNeg).toInt ∧ (m 102 l1.toNatClampNeg).toInt ≤ 60 := ra_102 (m := m) hV (k := l1.toNatClampNeg) (i_ix (n := 3100) (by omega) (by omega)).2 | have b4 := i_bd (m 102 l1.toNatClampNeg)
    have b5 := i_bd l2
    refine zd (fun (h6 : (m 102 l1.toNatClampNeg) ≤ l2) => ?_) (fun (h6 : ¬ (m 102 l1.toNatClampNeg) ≤ l2) => ?_)
    · skip
      have g7 := i_le h6
      exact OUT0 _  (show ((zMu (m 110) (m 94 73) : Int)).toNat < n0 from by omega) hF hV r_KS r_W (show ((m 94 10).toInt = 2 ∨ (m 94 10).toInt = 3) → zCL (m 110) (m 98) (m 101) (m 102) (m 108) (m 118) (m 94 73) 3100 0 from by first | (exact fun hp => CL_done (r_CL hp) (by rw [tn_cast (x := l2) (by omega)]; omega)) | (exfalso; omega; done) | (exfalso; contradiction; done)) r_KM r_KU r_DX
    · skip
      have g8 := i_nle h6
      refine sp_192 (l1) (l2) hV (by omega) (by omega) (by omega) (show l2.toInt < (m 102 l1.toNatClampNeg).toInt from by omega) (fun v2 m1 hV_m1 p0_m1 => zmi_n ?_)
      have p0_m1 : v2 = zrf (m 98) (m 101) (m 108) l1.toNatClampNeg l2.toNatClampNeg := p0_m1
      try have := W_ref r_W (by omega) (by omega) (by omega) (by omega) p0_m1
      have b9 := i_bd v2
      have li10 : (0 : Int32).toInt = 0 := rfl
      refine zd (fun (h11 : v2 < (0 : Int32)) => ?_) (fun (h11 : ¬ v2 < (0 : Int32)) => ?_)
      · skip
        have g12 := i_lt h11
        first | have e13 : (l2 + (1 : Int32)).toInt = l2.toInt + (1) := i_addk rfl (by omega) (by omega) | have b14 := i_bd (l2 + (1 : Int32))
        exact IH (61 - (l2 + (1 : Int32)).toInt).toNat (by omega) _ (l1) ((l2 + (1 : Int32))) rfl (zF_zov hF ws_192_191) hV_m1 (by omega) (by omega) (by omega) r_KS r_W (show ((m 94 10).toInt = 2 ∨ (m 94 10).toInt = 3) → zCL (m 110) (m 98) (m 101) (m 102) (m 108) (m 118) (m 94 73) l1.toNatClampNeg (l2 + (1 : Int32)).toNatClampNeg from by first | (exact fun hp => CL_adv (r_CL hp) (Or.inl (by rw [← p0_m1]; omega)) (tn_succ (by omega) (by omega))) | (exact fun hp => CL_adv (r_CL hp) (Or.inr (by rw [← p0_m1]; assumption)) (tn_succ (by omega) (by omega))) | (exfalso; omega; done) | (exfalso; contradiction; done)) r_KM r_KU r_DX r_MU
      · skip
        have g15 := i_nlt h11
        have hg16 : (0 ≤ v2 ∧ v2.toNatClampNeg < 3100) := i_ix (by omega) (by omega)
        refine ⟨hg16, ?_⟩
        first | have f17 : 0 ≤ (m 110 v2.toNatClampNeg).toInt ∧ (m 110 v2.toNatClampNeg).toInt ≤ 1 := ra_110 (m := m) hV (k := v2.toNatClampNeg) (i_ix (n := 3100) (by omega) (by omega)).2 | have b18 := i_bd (m 110 v2.toNatClampNeg)
        refine zd (fun (h19 : (m 110 v2.toNatClampNeg) = (0 : Int32)) => ?_) (fun (h19 : ¬ (m 110 v2.toNatClampNeg) = (0 : Int32)) => ?_)
        · skip
          have g20 := i_eq h19
          have hg21 : (0 ≤ v2 ∧ v2.toNatClampNeg < 3100) := i_ix (by omega) (by omega)
          refine ⟨hg21, ?_⟩
          have f22 : 0 ≤ (m 94 73).toInt ∧ (m 94 73).toInt ≤ 3100 := rs_94_73 (m := m) hV
          try have gk := KS_room r_KS (by assumption) (by omega)
          have hg23 : (0 ≤ (m 94 73) ∧ (m 94 73).toNatClampNeg < 3100) := i_ix (by omega) (by omega)
          refine ⟨hg23, ?_⟩
          have li25 : (1 : Int32).toInt = 1 := rfl
          have hV24 : zV (ma_u (zov wr_192 m m1) 110 v2.toNatClampNeg (1 : Int32)) := ua_110 hV_m1 (by omega) (by omega)
          have hV26 : zV (ma_u (ma_u (zov wr_192 m m1) 110 v2.toNatClampNeg (1 : Int32)) 118 (m 94 73).toNatClampNeg v2) := ua_118 hV24 (by omega) (by omega)
          first | have e28 : ((m 94 73) + (1 : Int32)).toInt = (m 94 73).toInt + (1) := i_addk rfl (by omega) (by omega) | have b29 := i_bd ((m 94 73) + (1 : Int32))
          have hV27 : zV (ma_u (ma_u (ma_u (zov wr_192 m m1) 110 v2.toNatClampNeg (1 : Int32)) 118 (m 94 73).toNatClampNeg v2) 94 73 ((m 94 73) + (1 : Int32))) := us_94_73 hV26 (by omega) (by omega)
          first | have e30 : (l2 + (1 : Int32)).toInt = l2.toInt + (1) := i_addk rfl (by omega) (by omega) | have b31 := i_bd (l2 + (1 : Int32))
          exact IH (61 - (l2 + (1 : Int32)).toInt).toNat (by omega) _ (l1) ((l2 + (1 : Int32))) rfl (zF_u (zF_u (zF_u (zF_zov hF ws_192_191) rfl) rfl) rfl) hV27 (by omega) (by omega) (by omega) (show zKS ((ma_u m 110 v2.toNatClampNeg (1 : Int32)) 110) ((m 94 73) + (1 : Int32)) from by first | (exact KS_push r_KS (by assumption) (by omega) (by decide) (by assumption)) | (exact KS_push (KS_0 (r := m 110) (y := m 94 73) (by omega)) (by assumption) (by omega) (by decide) (by assumption)) | (exfalso; omega; done) | (exfalso; contradiction; done)) r_W (show ((m 94 10).toInt = 2 ∨ (m 94 10).toInt = 3) → zCL ((ma_u m 110 v2.toNatClampNeg (1 : Int32)) 110) (m 98) (m 101) (m 102) (m 108) ((ma_u m 118 (m 94 73).toNatClampNeg v2) 118) ((m 94 73) + (1 : Int32)) l1.toNatClampNeg (l2 + (1 : Int32)).toNatClampNeg from by first | (exact fun hp => CL_adv (CL_push (r_CL hp) (by decide) (by omega) rfl (by assumption)) (Or.inr (by rw [← p0_m1, mu_self]; decide)) (tn_succ (by omega) (by omega))) | (exfalso; omega; done) | (exfalso; contradiction; done)) (show zle (m0 110) ((ma_u m 110 v2.toNatClampNeg (1 : Int32)) 110) from by first | (exact zle_push r_KM (by decide)) | (exact zle_rfl) | (exfalso; omega; done) | (exfalso; contradiction; done)) (show zKU (m 94 10) (m 99) ((ma_u m 110 v2.toNatClampNeg (1 : Int32)) 110) from by first | (exact KU_push r_KU (fun hp => KU_ref r_KU r_DX (by omega) ((r_CL hp).2.1 (by omega)) (by rw [tn_cast (x := l2) (by omega)]; omega) p0_m1 (by omega) hp)) | (exfalso; omega; done) | (exfalso; contradiction; done)) r_DX (show zMu ((ma_u m 110 v2.toNatClampNeg (1 : Int32)) 110) ((m 94 73) + (1 : Int32)) < n0 from by first | (have zq := Mu_push (m := m) (c := 110) (z := m 94 73) (y := (m 94 73) + (1 : Int32)) (x := 1) (by omega) (by assumption) (by omega) (by decide) (by assumption); omega; done) | (exfalso; omega; done) | (exfalso; contradiction; done))
        · skip
          have g32 := i_ne h19
          first | have e33 : (l2 + (1 : Int32)).toInt = l2.toInt + (1) := i_addk rfl (by omega) (by omega) | have b34 := i_bd (l2 + (1 : Int32))
          exact IH (61 - (l2 + (1 : Int32)).toInt).toNat (by omega) _ (l1) ((l2 + (1 : Int32))) rfl (zF_zov hF ws_192_191) hV_m1 (by omega) (by omega) (by omega) r_KS r_W (show ((m 94 10).toInt = 2 ∨ (m 94 10).toInt = 3) → zCL (m 110) (m 98) (m 101) (m 102) (m 108) (m 118) (m 94 73) l1.toNatClampNeg (l2 + (1 : Int32)).toNatClampNeg from by first | (exact fun hp => CL_adv (r_CL hp) (Or.inl (by rw [← p0_m1]; omega)) (tn_succ (by omega) (by omega))) | (exact fun hp => CL_adv (r_CL hp) (Or.inr (by rw [← p0_m1]; assumption)) (tn_succ (by omega) (by omega))) | (exfalso; omega; done) | (exfalso; contradiction; done)) r_KM r_KU r_DX r_MU
theorem lp_191_0 {X : Nat × (Nat → Int32)} {P : Option ma_V → (Nat → Nat → Int32) → Prop} {m0 : Nat → Nat → Int32} (h0 : zV m0) (K : ∀ m₉, zF wr_191 m0 m₉ → zV m₉ → ((m₉ 94 73).toInt = 0) → (((m₉ 94 10).toInt = 2 ∨ (m₉ 94 10).toInt = 3) → zCL (m₉ 110) (m₉ 98) (m₉ 101) (m₉ 102) (m₉ 108) (m₉ 118) (m₉ 94 73) 3100 0) → (zle (m0 110) (m₉ 110)) → (zKU (m₉ 94 10) (m₉ 99) (m₉ 110)) → P none m₉) : ∀ (n : Nat) (m : Nat → Nat → Int32) , ((zMu (m 110) (m 94 73) : Int)).toNat = n → zF wr_191 m0 m → zV m → (zKS (m 110) (m 94 73)) → (zW (m 94 7) (m 98) (m 101) (m 102) (m 108)) → (((m 94 10).toInt = 2 ∨ (m 94 10).toInt = 3) → zCL (m 110) (m 98) (m 101) (m 102) (m 108) (m 118) (m 94 73) 3100 0) → (zle (m0 110) (m 110)) → (zKU (m 94 10) (m 99) (m 110)) → (zDX (m 94 10) (m 99) (m 112) (m 113) (m 114) (m 94 55) (m 98) (m 101) (m 102) (m 108)) → zm X 2 44 191 0 [(0, .inr (.inr (some 94)))] m P := by
  intro n
  induction n using Nat.strongRecOn with
  | _ n IH =>
    intro m  hmu hF hV r_KS r_W r_CL r_KM r_KU r_DX
    refine g_191_0  ?_
    have f1 : 0 ≤ (m 94 73).toInt ∧ (m 94 73).toInt ≤ 3100 := rs_94_73 (m := m) hV
    have li2 : (0 : Int32).toInt = 0 := rfl
    refine zd (fun (h3 : (m 94 73) ≤ (0 : Int32)) => ?_) (fun (h3 : ¬ (m 94 73) ≤ (0 : Int32)) => ?_)
    · skip
      have g4 := i_le h3
      exact K _ hF hV (show (m 94 73).toInt = 0 from by omega) r_CL r_KM r_KU
    · skip
      have g5 := i_nle h3
      first | have e6 : ((m 94 73) - (1 : Int32)).toInt = (m 94 73).toInt - (1) := i_subk rfl (by omega) (by omega) | have b7 := i_bd ((m 94 73) - (1 : Int32))
      try have gk := KS_room r_KS (by assumption) (by omega)
      have hg8 : (0 ≤ ((m 94 73) - (1 : Int32)) ∧ ((m 94 73) - (1 : Int32)).toNatClampNeg < 3100) := i_ix (by omega) (by omega)
      refine ⟨hg8, ?_⟩
      have hV9 : zV (ma_u m 94 73 ((m 94 73) - (1 : Int32))) := us_94_73 hV (by omega) (by omega)
      first | have f10 : 0 ≤ (m 118 ((m 94 73) - (1 : Int32)).toNatClampNeg).toInt ∧ (m 118 ((m 94 73) - (1 : Int32)).toNatClampNeg).toInt ≤ 3099 := ra_118 (m := m) hV (k := ((m 94 73) - (1 : Int32)).toNatClampNeg) (i_ix (n := 3100) (by omega) (by omega)).2 | have b11 := i_bd (m 118 ((m 94 73) - (1 : Int32)).toNatClampNeg)
      exact lp_191_29 h0 K (fun _  z1 z2 z3 y0 y1 y2 y3 y4 y5 => IH _ z1 _  rfl z2 z3 y0 y1 y2 y3 y4 y5) _ _ ((m 118 ((m 94 73) - (1 : Int32)).toNatClampNeg)) ((0 : Int32)) rfl (zF_u hF rfl) hV9 (by omega) (by omega) (by omega) (show zKS (m 110) ((m 94 73) - (1 : Int32)) from by first | (exact KS_0 (by omega)) | (exact KS_dec r_KS (by omega)) | (exfalso; omega; done) | (exfalso; contradiction; done)) r_W (show ((m 94 10).toInt = 2 ∨ (m 94 10).toInt = 3) → zCL (m 110) (m 98) (m 101) (m 102) (m 108) (m 118) ((m 94 73) - (1 : Int32)) (m 118 ((m 94 73) - (1 : Int32)).toNatClampNeg).toNatClampNeg (0 : Int32).toNatClampNeg from by first | (exact fun hp => CL_pop (r_CL hp) (by omega) (by omega) rfl) | (exfalso; omega; done) | (exfalso; contradiction; done)) r_KM r_KU r_DX (show zMu (m 110) ((m 94 73) - (1 : Int32)) < n from by first | (have zq := Mu_pop (r := m 110) (z := m 94 73) (y := (m 94 73) - (1 : Int32)) (by omega) (by omega); omega; done) | (exfalso; omega; done) | (exfalso; contradiction; done))
theorem sp_191 {X : Nat × (Nat → Int32)} {P : Option ma_V → (Nat → Nat → Int32) → Prop} {m : Nat → Nat → Int32}  (hV : zV m) (r_KS : zKS (m 110) (m 94 73)) (r_W : zW (m 94 7) (m 98) (m 101) (m 102) (m 108)) (r_CL : ((m 94 10).toInt = 2 ∨ (m 94 10).toInt = 3) → zCL (m 110) (m 98) (m 101) (m 102) (m 108) (m 118) (m 94 73) 3100 0) (r_KU : zKU (m 94 10) (m 99) (m 110)) (r_DX : zDX (m 94 10) (m 99) (m 112) (m 113) (m 114) (m 94 55) (m 98) (m 101) (m 102) (m 108)) (KZ : ∀ m₉, zV (zov wr_191 m m₉) → ((m₉ 94 73).toInt = 0) → (((m 94 10).toInt = 2 ∨ (m 94 10).toInt = 3) → zCL (m₉ 110) (m 98) (m 101) (m 102) (m 108) (m₉ 118) (m₉ 94 73) 3100 0) → (zle (m 110) (m₉ 110)) → (zKU (m 94 10) (m 99) (m₉ 110)) → P none (zov wr_191 m m₉)) : zm X 2 44 191 0 [(0, .inr (.inr (some 94)))] m P := by
  have K : ∀ m₉, zF wr_191 m m₉ → zV m₉ → ((m₉ 94 73).toInt = 0) → (((m₉ 94 10).toInt = 2 ∨ (m₉ 94 10).toInt = 3) → zCL (m₉ 110) (m₉ 98) (m₉ 101) (m₉ 102) (m₉ 108) (m₉ 118) (m₉ 94 73) 3100 0) → (zle (m 110) (m₉ 110)) → (zKU (m₉ 94 10) (m₉ 99) (m₉ 110)) → P none m₉ := by
    intro m₉ hf z q0 q1 q2 q3
    have e := zov_eq hf
    rw [e] at z ⊢
    try rw [e] at q0
    try rw [e] at q1
    try rw [e] at q2
    try rw [e] at q3
    exact KZ m₉ z q0 q1 q2 q3
  exact lp_191_0 hV K _ _  rfl zF_rfl hV r_KS r_W r_CL (show zle (m 110) (m 110) from by first | (exact zle_rfl) | (exfalso; omega; done) | (exfalso; contradiction; done)) r_KU r_DX

/-! from 94.411 -/
/-! granting and removing -/
def zuw (r r₉ : Nat → Int32) : Prop := ∀ k : Nat, r₉ k = r k ∨ (r₉ k).toInt < 0
def zwx (wi wi₉ : Nat → Int32) (wm s : Int32) : Prop := (∀ k : Nat, (k : Int) < wm.toInt → wi₉ k = wi k) ∧ wi₉ wm.toNatClampNeg = s
/-- of those in use before, up to l, they are in use still if they are kept -/
def zrm (us us₉ kp : Nat → Int32) (l : Nat) : Prop := ∀ s, s < 3100 → (s < l → (us₉ s ≠ 0 ↔ us s ≠ 0 ∧ kp s ≠ 0)) ∧ (l ≤ s → us₉ s = us s)
def zowr (ow ow₉ us kp at₉ : Nat → Int32) : Prop := ∀ p : Nat, p < 4600 → ow₉ p = ow p ∨ ((ow₉ p).toInt = -1 ∧ ∃ s, s < 3100 ∧ us s ≠ 0 ∧ kp s = 0 ∧ (at₉ s).toInt = (p : Int))
/-- what a sweep leaves -/
def zsw (us us₉ ow ow₉ at₉ : Nat → Int32) : Prop := (∀ s, s < 3100 → us₉ s ≠ 0 → us s ≠ 0) ∧ ∀ p : Nat, p < 4600 → ow₉ p = ow p ∨ ((ow₉ p).toInt = -1 ∧ ∃ s, s < 3100 ∧ us s ≠ 0 ∧ us₉ s = 0 ∧ (at₉ s).toInt = (p : Int))
section GR1
variable {m ms : Nat → Nat → Int32} {c d k : Nat} {kp kr kd ws wd st us rt wk wi wk₉ wi₉ us₉ ow ow₉ at₉ nr : Nat → Int32} {z x y v po wm wm₉ a b s : Int32} {l l2 : Nat}
theorem zuw_rfl : zuw wk wk := fun _ => Or.inl rfl
theorem zuw_tr {r : Nat → Int32} (h : zuw r wk) (h₉ : zuw wk wk₉) : zuw r wk₉ := fun k => (h₉ k).elim (fun e => (h k).elim (fun e2 => Or.inl (e.trans e2)) (fun q => Or.inr (by rw [e]; exact q))) Or.inr
theorem zuw_put {r : Nat → Int32} (h : zuw r (m c)) (hx : x.toInt < 0) : zuw r (ma_u m c k x c) := by
  intro j
  rw [mu_at]
  split
  · exact Or.inr hx
  · exact h j
theorem cov_uw {n : Int} (h : zcov us wk n) (hu : zuw wk wk₉) : zcov us wk₉ n := by
  intro j hj
  rcases hu j with e | e
  · rw [e]; exact h j hj
  · exact Or.inl e
theorem cov_wx {n : Int} (h : zcov us wi wm.toInt) (hx : zwx wi wi₉ wm s) (hs : us s.toNatClampNeg ≠ 0) (h0 : 0 ≤ wm.toInt) (hn : n = wm.toInt + 1) : zcov us wi₉ n := by
  intro j hj
  have e : wm.toNatClampNeg = wm.toInt.toNat := rfl
  by_cases q : j = wm.toNatClampNeg
  · rw [q, hx.2]; exact Or.inr hs
  · rw [hx.1 j (by omega)]; exact h j (by omega)
theorem DX_wish (h : zDX po us rt wk wi wm kr kd ws wd) (hu : zuw wk wk₉) (hx : zwx wi wi₉ wm s) (hs : us s.toNatClampNeg ≠ 0) (h0 : 0 ≤ wm.toInt) (hn : wm₉.toInt = wm.toInt + 1) : zDX po us rt wk₉ wi₉ wm₉ kr kd ws wd := by
  intro hp
  obtain ⟨a1, a2, a3, a4⟩ := h hp
  exact ⟨a1, cov_uw a2 hu, cov_wx a3 hx hs h0 hn, a4⟩
theorem WS_ge (h : zWS nr us kp wi a v) (hv : 0 ≤ v.toInt) : 0 ≤ v.toInt ∧ v.toInt ≤ 3099 ∧ us v.toNatClampNeg ≠ 0 ∧ kp v.toNatClampNeg = 0 ∧ wi v.toNatClampNeg ≠ 0 ∧ a.toInt < (nr v.toNatClampNeg).toInt := h.elim (fun q => by omega) id
theorem WS_weak (h : zWS nr us kp wi a v) (hb : b.toInt ≤ a.toInt) : zWS nr us kp wi b v := h.elim Or.inl (fun q => Or.inr ⟨q.1, q.2.1, q.2.2.1, q.2.2.2.1, q.2.2.2.2.1, by have := q.2.2.2.2.2; omega⟩)
theorem rm_0 : zrm us us kp 0 := fun s _ => ⟨fun h => absurd h (Nat.not_lt_zero _), fun _ => rfl⟩
theorem rm_skip (h : zrm us us₉ kp l) (hk : us₉ l = 0 ∨ kp l ≠ 0) (e : l2 = l + 1) : zrm us us₉ kp l2 := by
  subst e
  intro s hs
  refine ⟨fun hl => ?_, fun hl => (h s hs).2 (by omega)⟩
  by_cases q : s = l
  · subst q
    have e2 := (h s hs).2 (Nat.le_refl _)
    rw [e2]
    rw [e2] at hk
    exact ⟨fun z => ⟨z, hk.elim (fun w => absurd w z) id⟩, fun z => z.1⟩
  · exact (h s hs).1 (by omega)
theorem rm_put (h : zrm us (m c) kp l) (hk : kp l = 0) (e : l2 = l + 1) : zrm us (ma_u m c l 0 c) kp l2 := by
  subst e
  intro s hs
  by_cases q : s = l
  · subst q
    refine ⟨fun _ => ?_, fun hl => by omega⟩
    rw [mu_self]
    exact ⟨fun z => absurd rfl z, fun z => absurd hk z.2⟩
  · rw [mu_ne q]
    exact ⟨fun hl => (h s hs).1 (by omega), fun hl => (h s hs).2 (by omega)⟩
theorem owr_rfl : zowr ow ow us kp at₉ := fun _ _ => Or.inl rfl
theorem owr_put {s : Nat} (h : zowr ow (m c) us kp at₉) (hs : s < 3100) (hu : us s ≠ 0) (hk : kp s = 0) (hx : x.toInt = -1) (hat : (at₉ s).toInt = (k : Int)) : zowr ow (ma_u m c k x c) us kp at₉ := by
  intro p hp
  rw [mu_at]
  split
  · next e => exact Or.inr ⟨hx, s, hs, hu, hk, by rw [e]; exact hat⟩
  · exact h p hp
/-- one is removed -/
theorem Ow_rm {mo : Nat → Nat → Int32} {co : Nat} (h : zOw (m c) at₉ (mo co)) (hx : x.toInt = -1) (hk : (at₉ k).toInt = (l : Int)) : zOw (ma_u m c k 0 c) at₉ (ma_u mo co l x co) := by
  intro p hp ho
  by_cases q : p = l
  · rw [q, mu_self] at ho; omega
  · rw [mu_ne q] at ho ⊢
    have := h p hp ho
    have e : (mo co p).toNatClampNeg ≠ k := fun z => by rw [z] at this; omega
    rw [mu_ne e]
    exact this
theorem DX_sweep (hC : zCL kp kr kd ws wd st z 3100 0) (hz : z.toInt = 0) (hr : zcov kp rt 16) (hw : zcov kp wi wm.toInt) (hk : zcov kp wk 16) (hu : zKU po us kp) (hm : zrm us us₉ kp 3100) (br : ∀ j : Nat, (j : Int) < 16 → (rt j).toInt ≤ 3099) (bw : ∀ j : Nat, (j : Int) < wm.toInt → (wi j).toInt ≤ 3099) (bk : ∀ j : Nat, (j : Int) < 16 → (wk j).toInt ≤ 3099) (bf : ∀ s, s < 3100 → ∀ i : Nat, (i : Int) < (ws s).toInt → (zrf kr kd wd s i).toInt ≤ 3099) : zDX po us₉ rt wk wi wm kr kd ws wd := by
  intro hp
  have key : ∀ j : Int32, j.toInt ≤ 3099 → (j.toInt < 0 ∨ kp j.toNatClampNeg ≠ 0) → (j.toInt < 0 ∨ us₉ j.toNatClampNeg ≠ 0) := by
    intro j hj hq
    rcases hq with q | q
    · exact Or.inl q
    · have hl : j.toNatClampNeg < 3100 := by rw [tn_eq]; omega
      exact Or.inr (((hm _ hl).1 hl).mpr ⟨hu hp _ hl q, q⟩)
  refine ⟨fun j hj => key _ (br j hj) (hr j hj), fun j hj => key _ (bk j hj) (hk j hj), fun j hj => key _ (bw j hj) (hw j hj), fun s hs hus i hi => ?_⟩
  have hks := (((hm s hs).1 hs).mp hus).2
  rcases hC.2.2 s hs hks with ⟨j, hj, _⟩ | q | ⟨q, _⟩
  · omega
  · exact key _ (bf s hs i hi) (q i hi)
  · omega
theorem sw_of (hm : zrm us us₉ kp 3100) (ho : zowr ow ow₉ us kp at₉) : zsw us us₉ ow ow₉ at₉ := by
  refine ⟨fun s hs h => (((hm s hs).1 hs).mp h).1, fun p hp => ?_⟩
  rcases ho p hp with e | ⟨e, s, hs, hu, hk, ha⟩
  · exact Or.inl e
  · refine Or.inr ⟨e, s, hs, hu, ?_, ha⟩
    refine Classical.byContradiction (fun z => ?_)
    exact (((hm s hs).1 hs).mp z).2 hk
theorem W_hi {ks : Int32} (h : zW ks kr kd ws wd) : ∀ s, s < 3100 → ∀ i : Nat, (i : Int) < (ws s).toInt → (zrf kr kd wd s i).toInt ≤ 3099 := fun s hs i hi => ((h s hs).1 i hi).2
end GR1

