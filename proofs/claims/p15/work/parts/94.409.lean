/-! the reference (written by wip/tools/gen94m.py) -/
set_option maxRecDepth 100000 in
theorem hm_192 : ma_md 192 = some (12, yX12_reference, cX12_reference, 3, (some (FieldType.int))) := rfl
set_option maxRecDepth 100000 in
theorem hm_193 : ma_md 193 = some (12, yX12_isReference, cX12_isReference, 3, (some (FieldType.boolean))) := rfl
theorem s_98 : zs 98 = some (20, 16) := rfl
theorem s_101 : zs 101 = some (20, 3100) := rfl
theorem s_108 : zs 108 = some (20, 186000) := rfl
theorem r_94_6 : zfi 94 6 = some 98 := rfl
theorem r_94_33 : zfi 94 33 = some 101 := rfl
theorem r_94_40 : zfi 94 40 = some 108 := rfl
theorem f_12_24_12 : ma_fld 12 24 12 = some 6 := by decide +kernel
theorem f_12_34_12 : ma_fld 12 34 12 = some 33 := by decide +kernel
theorem f_12_56_12 : ma_fld 12 56 12 = some 40 := by decide +kernel
theorem v_12_288_12 : ma_vl 12 288 12 = some (1, 193, 2) := by decide +kernel
theorem dX12_reference_0 : decode cX12_reference 0 = .ok (.aload_n 0, 1) := by decide +kernel
theorem dX12_reference_1 : decode cX12_reference 1 = .ok (.iload_n 1, 1) := by decide +kernel
theorem dX12_reference_2 : decode cX12_reference 2 = .ok (.iload_n 2, 1) := by decide +kernel
theorem dX12_reference_3 : decode cX12_reference 3 = .ok (.invokevirtual 288, 3) := by decide +kernel
theorem dX12_isReference_0 : decode cX12_isReference 0 = .ok (.aload_n 0, 1) := by decide +kernel
theorem dX12_isReference_4 : decode cX12_isReference 4 = .ok (.iload_n 1, 1) := by decide +kernel
theorem dX12_isReference_6 : decode cX12_isReference 6 = .ok (.bipush 16, 2) := by decide +kernel
theorem dX12_isReference_41 : decode cX12_isReference 41 = .ok (.iconst 1, 1) := by decide +kernel
theorem dX12_isReference_42 : decode cX12_isReference 42 = .ok (.goto 4, 3) := by decide +kernel
theorem dX12_reference_6 : decode cX12_reference 6 = .ok (.ifCond .eq 17, 3) := by decide +kernel
theorem dX12_reference_9 : decode cX12_reference 9 = .ok (.aload_n 0, 1) := by decide +kernel
theorem dX12_reference_13 : decode cX12_reference 13 = .ok (.iload_n 1, 1) := by decide +kernel
theorem dX12_reference_14 : decode cX12_reference 14 = .ok (.bipush 60, 2) := by decide +kernel
theorem dX12_reference_16 : decode cX12_reference 16 = .ok (.imul, 1) := by decide +kernel
theorem dX12_reference_17 : decode cX12_reference 17 = .ok (.iload_n 2, 1) := by decide +kernel
theorem dX12_reference_18 : decode cX12_reference 18 = .ok (.iadd, 1) := by decide +kernel
theorem dX12_reference_20 : decode cX12_reference 20 = .ok (.goto 4, 3) := by decide +kernel
theorem dX12_reference_24 : decode cX12_reference 24 = .ok (.ireturn, 1) := by decide +kernel
theorem dX12_reference_19 : decode cX12_reference 19 = .ok (.iaload, 1) := by decide +kernel
theorem dX12_reference_10 : decode cX12_reference 10 = .ok (.getfield 56, 3) := by decide +kernel
theorem dX12_isReference_46 : decode cX12_isReference 46 = .ok (.ireturn, 1) := by decide +kernel
theorem dX12_isReference_11 : decode cX12_isReference 11 = .ok (.aload_n 0, 1) := by decide +kernel
theorem dX12_isReference_15 : decode cX12_isReference 15 = .ok (.iload_n 1, 1) := by decide +kernel
theorem dX12_isReference_17 : decode cX12_isReference 17 = .ok (.bipush 16, 2) := by decide +kernel
theorem dX12_isReference_45 : decode cX12_isReference 45 = .ok (.iconst 0, 1) := by decide +kernel
theorem dX12_reference_23 : decode cX12_reference 23 = .ok (.iconst (-1), 1) := by decide +kernel
theorem dX12_isReference_22 : decode cX12_isReference 22 = .ok (.aload_n 0, 1) := by decide +kernel
theorem dX12_isReference_26 : decode cX12_isReference 26 = .ok (.aload_n 0, 1) := by decide +kernel
theorem dX12_isReference_30 : decode cX12_isReference 30 = .ok (.iload_n 1, 1) := by decide +kernel
theorem dX12_isReference_33 : decode cX12_isReference 33 = .ok (.iload_n 2, 1) := by decide +kernel
theorem dX12_isReference_34 : decode cX12_isReference 34 = .ok (.ishr, 1) := by decide +kernel
theorem dX12_isReference_35 : decode cX12_isReference 35 = .ok (.iconst 1, 1) := by decide +kernel
theorem dX12_isReference_36 : decode cX12_isReference 36 = .ok (.iand, 1) := by decide +kernel
theorem dX12_isReference_37 : decode cX12_isReference 37 = .ok (.iconst 1, 1) := by decide +kernel
theorem dX12_isReference_38 : decode cX12_isReference 38 = .ok (.if_icmp .ne 7, 3) := by decide +kernel
theorem dX12_isReference_32 : decode cX12_isReference 32 = .ok (.iaload, 1) := by decide +kernel
theorem dX12_isReference_31 : decode cX12_isReference 31 = .ok (.iaload, 1) := by decide +kernel
theorem dX12_isReference_27 : decode cX12_isReference 27 = .ok (.getfield 34, 3) := by decide +kernel
theorem dX12_isReference_23 : decode cX12_isReference 23 = .ok (.getfield 24, 3) := by decide +kernel
theorem dX12_isReference_19 : decode cX12_isReference 19 = .ok (.if_icmp .ge 26, 3) := by decide +kernel
theorem dX12_isReference_16 : decode cX12_isReference 16 = .ok (.iaload, 1) := by decide +kernel
theorem dX12_isReference_12 : decode cX12_isReference 12 = .ok (.getfield 34, 3) := by decide +kernel
theorem dX12_isReference_8 : decode cX12_isReference 8 = .ok (.if_icmp .eq 33, 3) := by decide +kernel
theorem dX12_isReference_5 : decode cX12_isReference 5 = .ok (.iaload, 1) := by decide +kernel
theorem dX12_isReference_1 : decode cX12_isReference 1 = .ok (.getfield 34, 3) := by decide +kernel
def wr_192 (_ _ : Nat) : Bool := false
theorem g_192_0 {X : Nat × (Nat → Int32)} {m : Nat → Nat → Int32} {P : Option ma_V → (Nat → Nat → Int32) → Prop} (s : Int32) (i : Int32) (h : (0 ≤ s ∧ s.toNatClampNeg < 3100) ∧ (if (m 101 s.toNatClampNeg) = (16 : Int32) then ((0 ≤ ((s * (60 : Int32)) + i) ∧ ((s * (60 : Int32)) + i).toNatClampNeg < 186000) ∧ (P (some (.inl (m 108 ((s * (60 : Int32)) + i).toNatClampNeg))) m)) else ((0 ≤ s ∧ s.toNatClampNeg < 3100) ∧ (if (16 : Int32) ≤ (m 101 s.toNatClampNeg) then (P (some (.inl (-1 : Int32))) m) else ((0 ≤ s ∧ s.toNatClampNeg < 3100) ∧ ((0 ≤ (m 101 s.toNatClampNeg) ∧ (m 101 s.toNatClampNeg).toNatClampNeg < 16) ∧ (if (((m 98 (m 101 s.toNatClampNeg).toNatClampNeg) >>> (i &&& 31)) &&& (1 : Int32)) = (1 : Int32) then ((0 ≤ ((s * (60 : Int32)) + i) ∧ ((s * (60 : Int32)) + i).toNatClampNeg < 186000) ∧ (P (some (.inl (m 108 ((s * (60 : Int32)) + i).toNatClampNeg))) m)) else (P (some (.inl (-1 : Int32))) m)))))))) : zm X 1 22 192 0 [(0, .inr (.inr (some 94))), (1, .inl s), (2, .inl i)] m P := by
  intro d w S Q hd hw hS hm HQ
  subst hm
  refine zw_push hm_192 dX12_reference_0 (v := .inr (.inr (some 94))) rfl ?_
  refine zw_push hm_192 dX12_reference_1 (v := .inl s) rfl ?_
  refine zw_push hm_192 dX12_reference_2 (v := .inl i) rfl ?_
  refine zw_cv hm_192 dX12_reference_3 v_12_288_12 hm_193 [.inl i, .inl s] [] rfl (zT_rt hS s_94 rfl) ⟨by omega, by omega⟩ rfl ?_
  show ma_wp X (d - 1) (w - 22) 193 0 [(0, .inr (.inr (some 94))), (1, .inl s), (2, .inl i)] [] S _
  refine zw_push hm_193 dX12_isReference_0 (v := .inr (.inr (some 94))) rfl ?_
  refine zw_gf hm_193 dX12_isReference_1 (v := .inr (.inr (some 101))) (zT_is hS s_94) (zT_t hS s_94) rfl f_12_34_12 (zT_f hS r_94_33) ?_
  refine zw_push hm_193 dX12_isReference_4 (v := .inl s) rfl ?_
  obtain ⟨hg, h⟩ := h
  refine zw_ia hm_193 dX12_isReference_5 (zT_is hS s_101) (zT_h hS s_101) rfl hg ?_
  show ma_wp X (d - 1) (w - 22) 193 6 [(0, .inr (.inr (some 94))), (1, .inl s), (2, .inl i)] [.inl ((mI S) 101 s.toNatClampNeg)] S _
  refine zw_push hm_193 dX12_isReference_6 (v := .inl (16 : Int32)) rfl ?_
  refine zw_if2 hm_193 dX12_isReference_8 (t := 41) rfl zc2_eq ?_ ?_
  · intro hc
    rw [if_pos hc] at h
    refine zw_push hm_193 dX12_isReference_41 (v := .inl (1 : Int32)) rfl ?_
    refine zw_goto hm_193 dX12_isReference_42 (t := 46) rfl ?_
    refine zw_bret hm_193 dX12_isReference_46 (by decide) ?_
    show ma_wp X d w 192 6 [(0, .inr (.inr (some 94))), (1, .inl s), (2, .inl i)] [.inl (1 : Int32)] S _
    refine zw_if0 hm_192 dX12_reference_6 (t := 23) rfl zc0_eq (fun hc => absurd hc (by decide)) (fun _ => ?_)
    refine zw_push hm_192 dX12_reference_9 (v := .inr (.inr (some 94))) rfl ?_
    refine zw_gf hm_192 dX12_reference_10 (v := .inr (.inr (some 108))) (zT_is hS s_94) (zT_t hS s_94) rfl f_12_56_12 (zT_f hS r_94_40) ?_
    refine zw_push hm_192 dX12_reference_13 (v := .inl s) rfl ?_
    refine zw_push hm_192 dX12_reference_14 (v := .inl (60 : Int32)) rfl ?_
    refine zw_stk hm_192 dX12_reference_16 (st' := [.inl (s * (60 : Int32)), .inr (.inr (some 108))]) rfl rfl ?_
    refine zw_push hm_192 dX12_reference_17 (v := .inl i) rfl ?_
    refine zw_stk hm_192 dX12_reference_18 (st' := [.inl ((s * (60 : Int32)) + i), .inr (.inr (some 108))]) rfl rfl ?_
    obtain ⟨hg, h⟩ := h
    refine zw_ia hm_192 dX12_reference_19 (zT_is hS s_108) (zT_h hS s_108) rfl hg ?_
    show ma_wp X d w 192 20 [(0, .inr (.inr (some 94))), (1, .inl s), (2, .inl i)] [.inl ((mI S) 108 ((s * (60 : Int32)) + i).toNatClampNeg)] S _
    refine zw_goto hm_192 dX12_reference_20 (t := 24) rfl ?_
    exact zw_iret hm_192 dX12_reference_24 (HQ _ _ h)
  · intro hc
    rw [if_neg hc] at h
    refine zw_push hm_193 dX12_isReference_11 (v := .inr (.inr (some 94))) rfl ?_
    refine zw_gf hm_193 dX12_isReference_12 (v := .inr (.inr (some 101))) (zT_is hS s_94) (zT_t hS s_94) rfl f_12_34_12 (zT_f hS r_94_33) ?_
    refine zw_push hm_193 dX12_isReference_15 (v := .inl s) rfl ?_
    obtain ⟨hg, h⟩ := h
    refine zw_ia hm_193 dX12_isReference_16 (zT_is hS s_101) (zT_h hS s_101) rfl hg ?_
    show ma_wp X (d - 1) (w - 22) 193 17 [(0, .inr (.inr (some 94))), (1, .inl s), (2, .inl i)] [.inl ((mI S) 101 s.toNatClampNeg)] S _
    refine zw_push hm_193 dX12_isReference_17 (v := .inl (16 : Int32)) rfl ?_
    refine zw_if2 hm_193 dX12_isReference_19 (t := 45) rfl zc2_ge ?_ ?_
    · intro hc
      rw [if_pos hc] at h
      refine zw_push hm_193 dX12_isReference_45 (v := .inl (0 : Int32)) rfl ?_
      refine zw_bret hm_193 dX12_isReference_46 (by decide) ?_
      show ma_wp X d w 192 6 [(0, .inr (.inr (some 94))), (1, .inl s), (2, .inl i)] [.inl (0 : Int32)] S _
      refine zw_if0 hm_192 dX12_reference_6 (t := 23) rfl zc0_eq (fun _ => ?_) (fun hc => absurd (by decide) hc)
      refine zw_push hm_192 dX12_reference_23 (v := .inl (-1 : Int32)) rfl ?_
      exact zw_iret hm_192 dX12_reference_24 (HQ _ _ h)
    · intro hc
      rw [if_neg hc] at h
      refine zw_push hm_193 dX12_isReference_22 (v := .inr (.inr (some 94))) rfl ?_
      refine zw_gf hm_193 dX12_isReference_23 (v := .inr (.inr (some 98))) (zT_is hS s_94) (zT_t hS s_94) rfl f_12_24_12 (zT_f hS r_94_6) ?_
      refine zw_push hm_193 dX12_isReference_26 (v := .inr (.inr (some 94))) rfl ?_
      refine zw_gf hm_193 dX12_isReference_27 (v := .inr (.inr (some 101))) (zT_is hS s_94) (zT_t hS s_94) rfl f_12_34_12 (zT_f hS r_94_33) ?_
      refine zw_push hm_193 dX12_isReference_30 (v := .inl s) rfl ?_
      obtain ⟨hg, h⟩ := h
      refine zw_ia hm_193 dX12_isReference_31 (zT_is hS s_101) (zT_h hS s_101) rfl hg ?_
      show ma_wp X (d - 1) (w - 22) 193 32 [(0, .inr (.inr (some 94))), (1, .inl s), (2, .inl i)] [.inl ((mI S) 101 s.toNatClampNeg), .inr (.inr (some 98))] S _
      obtain ⟨hg, h⟩ := h
      refine zw_ia hm_193 dX12_isReference_32 (zT_is hS s_98) (zT_h hS s_98) rfl hg ?_
      show ma_wp X (d - 1) (w - 22) 193 33 [(0, .inr (.inr (some 94))), (1, .inl s), (2, .inl i)] [.inl ((mI S) 98 ((mI S) 101 s.toNatClampNeg).toNatClampNeg)] S _
      refine zw_push hm_193 dX12_isReference_33 (v := .inl i) rfl ?_
      refine zw_stk hm_193 dX12_isReference_34 (st' := [.inl (((mI S) 98 ((mI S) 101 s.toNatClampNeg).toNatClampNeg) >>> (i &&& 31))]) rfl rfl ?_
      refine zw_push hm_193 dX12_isReference_35 (v := .inl (1 : Int32)) rfl ?_
      refine zw_stk hm_193 dX12_isReference_36 (st' := [.inl ((((mI S) 98 ((mI S) 101 s.toNatClampNeg).toNatClampNeg) >>> (i &&& 31)) &&& (1 : Int32))]) rfl rfl ?_
      refine zw_push hm_193 dX12_isReference_37 (v := .inl (1 : Int32)) rfl ?_
      refine zw_if2 hm_193 dX12_isReference_38 (t := 45) rfl zc2_ne ?_ ?_
      · intro hc
        rw [if_neg hc] at h
        refine zw_push hm_193 dX12_isReference_45 (v := .inl (0 : Int32)) rfl ?_
        refine zw_bret hm_193 dX12_isReference_46 (by decide) ?_
        show ma_wp X d w 192 6 [(0, .inr (.inr (some 94))), (1, .inl s), (2, .inl i)] [.inl (0 : Int32)] S _
        refine zw_if0 hm_192 dX12_reference_6 (t := 23) rfl zc0_eq (fun _ => ?_) (fun hc => absurd (by decide) hc)
        refine zw_push hm_192 dX12_reference_23 (v := .inl (-1 : Int32)) rfl ?_
        exact zw_iret hm_192 dX12_reference_24 (HQ _ _ h)
      · intro hc
        rw [if_pos (Classical.not_not.mp hc)] at h
        refine zw_push hm_193 dX12_isReference_41 (v := .inl (1 : Int32)) rfl ?_
        refine zw_goto hm_193 dX12_isReference_42 (t := 46) rfl ?_
        refine zw_bret hm_193 dX12_isReference_46 (by decide) ?_
        show ma_wp X d w 192 6 [(0, .inr (.inr (some 94))), (1, .inl s), (2, .inl i)] [.inl (1 : Int32)] S _
        refine zw_if0 hm_192 dX12_reference_6 (t := 23) rfl zc0_eq (fun hc => absurd hc (by decide)) (fun _ => ?_)
        refine zw_push hm_192 dX12_reference_9 (v := .inr (.inr (some 94))) rfl ?_
        refine zw_gf hm_192 dX12_reference_10 (v := .inr (.inr (some 108))) (zT_is hS s_94) (zT_t hS s_94) rfl f_12_56_12 (zT_f hS r_94_40) ?_
        refine zw_push hm_192 dX12_reference_13 (v := .inl s) rfl ?_
        refine zw_push hm_192 dX12_reference_14 (v := .inl (60 : Int32)) rfl ?_
        refine zw_stk hm_192 dX12_reference_16 (st' := [.inl (s * (60 : Int32)), .inr (.inr (some 108))]) rfl rfl ?_
        refine zw_push hm_192 dX12_reference_17 (v := .inl i) rfl ?_
        refine zw_stk hm_192 dX12_reference_18 (st' := [.inl ((s * (60 : Int32)) + i), .inr (.inr (some 108))]) rfl rfl ?_
        obtain ⟨hg, h⟩ := h
        refine zw_ia hm_192 dX12_reference_19 (zT_is hS s_108) (zT_h hS s_108) rfl hg ?_
        show ma_wp X d w 192 20 [(0, .inr (.inr (some 94))), (1, .inl s), (2, .inl i)] [.inl ((mI S) 108 ((s * (60 : Int32)) + i).toNatClampNeg)] S _
        refine zw_goto hm_192 dX12_reference_20 (t := 24) rfl ?_
        exact zw_iret hm_192 dX12_reference_24 (HQ _ _ h)
theorem sp_192 {X : Nat × (Nat → Int32)} {P : Option ma_V → (Nat → Nat → Int32) → Prop} {m : Nat → Nat → Int32} (s : Int32) (i : Int32) (hV : zV m) (hpre0 : 0 ≤ s.toInt) (hpre1 : s.toInt ≤ 3099) (hpre2 : 0 ≤ i.toInt) (hpre3 : i.toInt < (m 102 s.toNatClampNeg).toInt) (KZ : ∀ v m', zV (zov wr_192 m m') → (v = zrf (m 98) (m 101) (m 108) s.toNatClampNeg i.toNatClampNeg) → P (some (.inl v)) (zov wr_192 m m')) : zm X 1 22 192 0 [(0, .inr (.inr (some 94))), (1, .inl s), (2, .inl i)] m P := by
  have K : ∀ v m', zF wr_192 m m' → zV m' → (v = zrf (m' 98) (m' 101) (m' 108) s.toNatClampNeg i.toNatClampNeg) → P (some (.inl v)) m' := by
    intro v m' hf z q0
    have e := zov_eq hf
    rw [e] at z ⊢
    try rw [e] at q0
    exact KZ v m' z q0
  refine g_192_0 s i ?_
  have b1 := i_bd s
  first | have f2 : 0 ≤ (m 102 s.toNatClampNeg).toInt ∧ (m 102 s.toNatClampNeg).toInt ≤ 60 := ra_102 (m := m) hV (k := s.toNatClampNeg) (i_ix (n := 3100) (by omega) (by omega)).2 | have b3 := i_bd (m 102 s.toNatClampNeg)
  have hg4 : (0 ≤ s ∧ s.toNatClampNeg < 3100) := i_ix (by omega) (by omega)
  refine ⟨hg4, ?_⟩
  first | have f5 : 0 ≤ (m 101 s.toNatClampNeg).toInt ∧ (m 101 s.toNatClampNeg).toInt ≤ 17 := ra_101 (m := m) hV (k := s.toNatClampNeg) (i_ix (n := 3100) (by omega) (by omega)).2 | have b6 := i_bd (m 101 s.toNatClampNeg)
  have li7 : (16 : Int32).toInt = 16 := rfl
  refine zd (fun (h8 : (m 101 s.toNatClampNeg) = (16 : Int32)) => ?_) (fun (h8 : ¬ (m 101 s.toNatClampNeg) = (16 : Int32)) => ?_)
  · skip
    have g9 := i_eq h8
    have li10 : (60 : Int32).toInt = 60 := rfl
    first | have e11 : (s * (60 : Int32)).toInt = s.toInt * 60 := i_mulk rfl (by omega) (by omega) | have b12 := i_bd (s * (60 : Int32))
    have b13 := i_bd i
    first | have e14 : ((s * (60 : Int32)) + i).toInt = (s * (60 : Int32)).toInt + i.toInt := i_add (by omega) (by omega) | have b15 := i_bd ((s * (60 : Int32)) + i)
    have hg16 : (0 ≤ ((s * (60 : Int32)) + i) ∧ ((s * (60 : Int32)) + i).toNatClampNeg < 186000) := i_ix (by omega) (by omega)
    refine ⟨hg16, ?_⟩
    have b17 := i_bd (m 108 ((s * (60 : Int32)) + i).toNatClampNeg)
    exact K ((m 108 ((s * (60 : Int32)) + i).toNatClampNeg)) _ zF_rfl hV (show (m 108 ((s * (60 : Int32)) + i).toNatClampNeg) = zrf (m 98) (m 101) (m 108) s.toNatClampNeg i.toNatClampNeg from by first | (rw [zrf_eq (by omega) (by omega) (by omega) (by omega)]; simp [*]; done) | (rw [zrf_eq (by omega) (by omega) (by omega) (by omega), if_neg (by assumption), if_neg (fun z => absurd (Int32.lt_iff_toInt_lt.mp z.1) (by omega))]; done) | (rw [zrf_eq (by omega) (by omega) (by omega) (by omega), if_neg (by assumption), if_neg (fun z => absurd z.2 (by assumption))]; done) | (rw [zrf_eq (by omega) (by omega) (by omega) (by omega), if_neg (by assumption), if_pos ⟨Int32.lt_iff_toInt_lt.mpr (by omega), by assumption⟩]; done) | (exfalso; omega; done) | (exfalso; contradiction; done))
  · skip
    have g18 := i_ne h8
    have hg19 : (0 ≤ s ∧ s.toNatClampNeg < 3100) := i_ix (by omega) (by omega)
    refine ⟨hg19, ?_⟩
    refine zd (fun (h20 : (16 : Int32) ≤ (m 101 s.toNatClampNeg)) => ?_) (fun (h20 : ¬ (16 : Int32) ≤ (m 101 s.toNatClampNeg)) => ?_)
    · skip
      have g21 := i_le h20
      have li22 : (-1 : Int32).toInt = -1 := rfl
      exact K ((-1 : Int32)) _ zF_rfl hV (show (-1 : Int32) = zrf (m 98) (m 101) (m 108) s.toNatClampNeg i.toNatClampNeg from by first | (rw [zrf_eq (by omega) (by omega) (by omega) (by omega)]; simp [*]; done) | (rw [zrf_eq (by omega) (by omega) (by omega) (by omega), if_neg (by assumption), if_neg (fun z => absurd (Int32.lt_iff_toInt_lt.mp z.1) (by omega))]; done) | (rw [zrf_eq (by omega) (by omega) (by omega) (by omega), if_neg (by assumption), if_neg (fun z => absurd z.2 (by assumption))]; done) | (rw [zrf_eq (by omega) (by omega) (by omega) (by omega), if_neg (by assumption), if_pos ⟨Int32.lt_iff_toInt_lt.mpr (by omega), by assumption⟩]; done) | (exfalso; omega; done) | (exfalso; contradiction; done))
    · skip
      have g23 := i_nle h20
      have hg24 : (0 ≤ s ∧ s.toNatClampNeg < 3100) := i_ix (by omega) (by omega)
      refine ⟨hg24, ?_⟩
      have hg25 : (0 ≤ (m 101 s.toNatClampNeg) ∧ (m 101 s.toNatClampNeg).toNatClampNeg < 16) := i_ix (by omega) (by omega)
      refine ⟨hg25, ?_⟩
      have b26 := i_bd (((m 98 (m 101 s.toNatClampNeg).toNatClampNeg) >>> (i &&& 31)) &&& (1 : Int32))
      have li27 : (1 : Int32).toInt = 1 := rfl
      refine zd (fun (h28 : (((m 98 (m 101 s.toNatClampNeg).toNatClampNeg) >>> (i &&& 31)) &&& (1 : Int32)) = (1 : Int32)) => ?_) (fun (h28 : ¬ (((m 98 (m 101 s.toNatClampNeg).toNatClampNeg) >>> (i &&& 31)) &&& (1 : Int32)) = (1 : Int32)) => ?_)
      · skip
        have g29 := i_eq h28
        have li30 : (60 : Int32).toInt = 60 := rfl
        first | have e31 : (s * (60 : Int32)).toInt = s.toInt * 60 := i_mulk rfl (by omega) (by omega) | have b32 := i_bd (s * (60 : Int32))
        have b33 := i_bd i
        first | have e34 : ((s * (60 : Int32)) + i).toInt = (s * (60 : Int32)).toInt + i.toInt := i_add (by omega) (by omega) | have b35 := i_bd ((s * (60 : Int32)) + i)
        have hg36 : (0 ≤ ((s * (60 : Int32)) + i) ∧ ((s * (60 : Int32)) + i).toNatClampNeg < 186000) := i_ix (by omega) (by omega)
        refine ⟨hg36, ?_⟩
        have b37 := i_bd (m 108 ((s * (60 : Int32)) + i).toNatClampNeg)
        exact K ((m 108 ((s * (60 : Int32)) + i).toNatClampNeg)) _ zF_rfl hV (show (m 108 ((s * (60 : Int32)) + i).toNatClampNeg) = zrf (m 98) (m 101) (m 108) s.toNatClampNeg i.toNatClampNeg from by first | (rw [zrf_eq (by omega) (by omega) (by omega) (by omega)]; simp [*]; done) | (rw [zrf_eq (by omega) (by omega) (by omega) (by omega), if_neg (by assumption), if_neg (fun z => absurd (Int32.lt_iff_toInt_lt.mp z.1) (by omega))]; done) | (rw [zrf_eq (by omega) (by omega) (by omega) (by omega), if_neg (by assumption), if_neg (fun z => absurd z.2 (by assumption))]; done) | (rw [zrf_eq (by omega) (by omega) (by omega) (by omega), if_neg (by assumption), if_pos ⟨Int32.lt_iff_toInt_lt.mpr (by omega), by assumption⟩]; done) | (exfalso; omega; done) | (exfalso; contradiction; done))
      · skip
        have g38 := i_ne h28
        have li39 : (-1 : Int32).toInt = -1 := rfl
        exact K ((-1 : Int32)) _ zF_rfl hV (show (-1 : Int32) = zrf (m 98) (m 101) (m 108) s.toNatClampNeg i.toNatClampNeg from by first | (rw [zrf_eq (by omega) (by omega) (by omega) (by omega)]; simp [*]; done) | (rw [zrf_eq (by omega) (by omega) (by omega) (by omega), if_neg (by assumption), if_neg (fun z => absurd (Int32.lt_iff_toInt_lt.mp z.1) (by omega))]; done) | (rw [zrf_eq (by omega) (by omega) (by omega) (by omega), if_neg (by assumption), if_neg (fun z => absurd z.2 (by assumption))]; done) | (rw [zrf_eq (by omega) (by omega) (by omega) (by omega), if_neg (by assumption), if_pos ⟨Int32.lt_iff_toInt_lt.mpr (by omega), by assumption⟩]; done) | (exfalso; omega; done) | (exfalso; contradiction; done))
