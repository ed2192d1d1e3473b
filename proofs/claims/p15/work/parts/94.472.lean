/-! the reference (written by wip/tools/gen94m.py) -/
set_option maxRecDepth 100000 in
theorem hm_212 : ma_md 212 = some (12, yX12_findDirty, cX12_findDirty, 4, none) := rfl
theorem dX12_findDirty_0 : decode cX12_findDirty 0 = .ok (.iconst 0, 1) := by decide +kernel
theorem dX12_findDirty_1 : decode cX12_findDirty 1 = .ok (.istore_n 1, 1) := by decide +kernel
theorem dX12_findDirty_2 : decode cX12_findDirty 2 = .ok (.iload_n 1, 1) := by decide +kernel
theorem dX12_findDirty_3 : decode cX12_findDirty 3 = .ok (.aload_n 0, 1) := by decide +kernel
theorem dX12_findDirty_7 : decode cX12_findDirty 7 = .ok (.arraylength, 1) := by decide +kernel
theorem dX12_findDirty_24 : decode cX12_findDirty 24 = .ok (.iconst 0, 1) := by decide +kernel
theorem dX12_findDirty_25 : decode cX12_findDirty 25 = .ok (.istore_n 1, 1) := by decide +kernel
theorem dX12_findDirty_11 : decode cX12_findDirty 11 = .ok (.aload_n 0, 1) := by decide +kernel
theorem dX12_findDirty_15 : decode cX12_findDirty 15 = .ok (.iload_n 1, 1) := by decide +kernel
theorem dX12_findDirty_16 : decode cX12_findDirty 16 = .ok (.iconst 0, 1) := by decide +kernel
theorem dX12_findDirty_18 : decode cX12_findDirty 18 = .ok (.iinc 1 1, 3) := by decide +kernel
theorem dX12_findDirty_21 : decode cX12_findDirty 21 = .ok (.goto (-19), 3) := by decide +kernel
theorem dX12_findDirty_17 : decode cX12_findDirty 17 = .ok (.bastore, 1) := by decide +kernel
theorem dX12_findDirty_12 : decode cX12_findDirty 12 = .ok (.getfield 83, 3) := by decide +kernel
theorem dX12_findDirty_8 : decode cX12_findDirty 8 = .ok (.if_icmp .ge 16, 3) := by decide +kernel
theorem dX12_findDirty_4 : decode cX12_findDirty 4 = .ok (.getfield 83, 3) := by decide +kernel
theorem dX12_findDirty_26 : decode cX12_findDirty 26 = .ok (.iload_n 1, 1) := by decide +kernel
theorem dX12_findDirty_27 : decode cX12_findDirty 27 = .ok (.sipush 3100, 3) := by decide +kernel
theorem dX12_findDirty_108 : decode cX12_findDirty 108 = .ok (.return_, 1) := by decide +kernel
theorem dX12_findDirty_33 : decode cX12_findDirty 33 = .ok (.aload_n 0, 1) := by decide +kernel
theorem dX12_findDirty_37 : decode cX12_findDirty 37 = .ok (.iload_n 1, 1) := by decide +kernel
theorem dX12_findDirty_102 : decode cX12_findDirty 102 = .ok (.iinc 1 1, 3) := by decide +kernel
theorem dX12_findDirty_105 : decode cX12_findDirty 105 = .ok (.goto (-79), 3) := by decide +kernel
theorem dX12_findDirty_42 : decode cX12_findDirty 42 = .ok (.aload_n 0, 1) := by decide +kernel
theorem dX12_findDirty_43 : decode cX12_findDirty 43 = .ok (.iload_n 1, 1) := by decide +kernel
theorem dX12_findDirty_44 : decode cX12_findDirty 44 = .ok (.invokevirtual 314, 3) := by decide +kernel
theorem dX12_findDirty_47 : decode cX12_findDirty 47 = .ok (.ifCond .ne 6, 3) := by decide +kernel
theorem dX12_findDirty_50 : decode cX12_findDirty 50 = .ok (.goto 52, 3) := by decide +kernel
theorem dX12_findDirty_53 : decode cX12_findDirty 53 = .ok (.iconst 0, 1) := by decide +kernel
theorem dX12_findDirty_54 : decode cX12_findDirty 54 = .ok (.istore_n 2, 1) := by decide +kernel
theorem dX12_findDirty_39 : decode cX12_findDirty 39 = .ok (.ifCond .eq 63, 3) := by decide +kernel
theorem dX12_findDirty_38 : decode cX12_findDirty 38 = .ok (.baload, 1) := by decide +kernel
theorem dX12_findDirty_34 : decode cX12_findDirty 34 = .ok (.getfield 27, 3) := by decide +kernel
theorem dX12_findDirty_30 : decode cX12_findDirty 30 = .ok (.if_icmp .ge 78, 3) := by decide +kernel
theorem dX12_findDirty_55 : decode cX12_findDirty 55 = .ok (.iload_n 2, 1) := by decide +kernel
theorem dX12_findDirty_56 : decode cX12_findDirty 56 = .ok (.aload_n 0, 1) := by decide +kernel
theorem dX12_findDirty_60 : decode cX12_findDirty 60 = .ok (.iload_n 1, 1) := by decide +kernel
theorem dX12_findDirty_65 : decode cX12_findDirty 65 = .ok (.aload_n 0, 1) := by decide +kernel
theorem dX12_findDirty_66 : decode cX12_findDirty 66 = .ok (.iload_n 1, 1) := by decide +kernel
theorem dX12_findDirty_67 : decode cX12_findDirty 67 = .ok (.iload_n 2, 1) := by decide +kernel
theorem dX12_findDirty_68 : decode cX12_findDirty 68 = .ok (.invokevirtual 294, 3) := by decide +kernel
theorem dX12_findDirty_71 : decode cX12_findDirty 71 = .ok (.istore_n 3, 1) := by decide +kernel
theorem dX12_findDirty_72 : decode cX12_findDirty 72 = .ok (.iload_n 3, 1) := by decide +kernel
theorem dX12_findDirty_96 : decode cX12_findDirty 96 = .ok (.iinc 2 1, 3) := by decide +kernel
theorem dX12_findDirty_99 : decode cX12_findDirty 99 = .ok (.goto (-44), 3) := by decide +kernel
theorem dX12_findDirty_76 : decode cX12_findDirty 76 = .ok (.aload_n 0, 1) := by decide +kernel
theorem dX12_findDirty_77 : decode cX12_findDirty 77 = .ok (.iload_n 3, 1) := by decide +kernel
theorem dX12_findDirty_78 : decode cX12_findDirty 78 = .ok (.invokevirtual 314, 3) := by decide +kernel
theorem dX12_findDirty_81 : decode cX12_findDirty 81 = .ok (.ifCond .ne 15, 3) := by decide +kernel
theorem dX12_findDirty_84 : decode cX12_findDirty 84 = .ok (.aload_n 0, 1) := by decide +kernel
theorem dX12_findDirty_88 : decode cX12_findDirty 88 = .ok (.aload_n 0, 1) := by decide +kernel
theorem dX12_findDirty_89 : decode cX12_findDirty 89 = .ok (.iload_n 1, 1) := by decide +kernel
theorem dX12_findDirty_90 : decode cX12_findDirty 90 = .ok (.iload_n 2, 1) := by decide +kernel
theorem dX12_findDirty_91 : decode cX12_findDirty 91 = .ok (.invokevirtual 375, 3) := by decide +kernel
theorem dX12_findDirty_94 : decode cX12_findDirty 94 = .ok (.iconst 1, 1) := by decide +kernel
theorem dX12_findDirty_95 : decode cX12_findDirty 95 = .ok (.bastore, 1) := by decide +kernel
theorem dX12_findDirty_85 : decode cX12_findDirty 85 = .ok (.getfield 83, 3) := by decide +kernel
theorem dX12_findDirty_73 : decode cX12_findDirty 73 = .ok (.ifCond .lt 23, 3) := by decide +kernel
theorem dX12_findDirty_62 : decode cX12_findDirty 62 = .ok (.if_icmp .ge 40, 3) := by decide +kernel
theorem dX12_findDirty_61 : decode cX12_findDirty 61 = .ok (.iaload, 1) := by decide +kernel
theorem dX12_findDirty_57 : decode cX12_findDirty 57 = .ok (.getfield 37, 3) := by decide +kernel
def wr_212 (c _ : Nat) : Bool := Nat.beq c 117
theorem ws_192_212 : ∀ c k, wr_192 c k = true → wr_212 c k = true := fun _ _ h => by cases h
theorem g_212_0 {X : Nat × (Nat → Int32)} {m : Nat → Nat → Int32} {P : Option ma_V → (Nat → Nat → Int32) → Prop}  (h : zm X 2 44 212 2 [(0, .inr (.inr (some 94))), (1, .inl (0 : Int32))] m P) : zm X 2 44 212 0 [(0, .inr (.inr (some 94)))] m P := by
  intro d w S Q hd hw hS hm HQ
  subst hm
  refine zw_push hm_212 dX12_findDirty_0 (v := .inl (0 : Int32)) rfl ?_
  refine zw_sto hm_212 dX12_findDirty_1 [(1, .inl (0 : Int32)), (0, .inr (.inr (some 94)))] rfl rfl rfl ?_
  exact zw_sub (ma_nd_of (ks := [0, 1]) rfl (by decide)) (ma_nd_of (ks := [1, 0]) rfl (by decide)) (ma_le_cons rfl (ma_le_cons rfl (ma_le_nil _))) (h d w _ Q (by omega) (by omega) hS rfl HQ)
theorem g_212_2 {X : Nat × (Nat → Int32)} {m : Nat → Nat → Int32} {P : Option ma_V → (Nat → Nat → Int32) → Prop} (l1 : Int32) (h : if (512 : Int32) ≤ l1 then (zm X 2 44 212 26 [(0, .inr (.inr (some 94))), (1, .inl (0 : Int32))] m P) else ((0 ≤ l1 ∧ l1.toNatClampNeg < 512) ∧ (zm X 2 44 212 2 [(0, .inr (.inr (some 94))), (1, .inl (l1 + (1 : Int32)))] (ma_u m 117 l1.toNatClampNeg (0 : Int32)) P))) : zm X 2 44 212 2 [(0, .inr (.inr (some 94))), (1, .inl l1)] m P := by
  intro d w S Q hd hw hS hm HQ
  subst hm
  refine zw_push hm_212 dX12_findDirty_2 (v := .inl l1) rfl ?_
  refine zw_push hm_212 dX12_findDirty_3 (v := .inr (.inr (some 94))) rfl ?_
  refine zw_gf hm_212 dX12_findDirty_4 (v := .inr (.inr (some 117))) (zT_is hS s_94) (zT_t hS s_94) rfl f_12_83_12 (zT_f hS r_94_66) ?_
  refine zw_len hm_212 dX12_findDirty_7 (v := (512 : Int32)) (zT_is hS s_117) (zT_h hS s_117) rfl rfl ?_
  refine zw_if2 hm_212 dX12_findDirty_8 (t := 24) rfl zc2_ge ?_ ?_
  · intro hc
    rw [if_pos hc] at h
    refine zw_push hm_212 dX12_findDirty_24 (v := .inl (0 : Int32)) rfl ?_
    refine zw_sto hm_212 dX12_findDirty_25 [(1, .inl (0 : Int32)), (0, .inr (.inr (some 94)))] rfl rfl rfl ?_
    exact zw_sub (ma_nd_of (ks := [0, 1]) rfl (by decide)) (ma_nd_of (ks := [1, 0]) rfl (by decide)) (ma_le_cons rfl (ma_le_cons rfl (ma_le_nil _))) (h d w _ Q (by omega) (by omega) hS rfl HQ)
  · intro hc
    rw [if_neg hc] at h
    refine zw_push hm_212 dX12_findDirty_11 (v := .inr (.inr (some 94))) rfl ?_
    refine zw_gf hm_212 dX12_findDirty_12 (v := .inr (.inr (some 117))) (zT_is hS s_94) (zT_t hS s_94) rfl f_12_83_12 (zT_f hS r_94_66) ?_
    refine zw_push hm_212 dX12_findDirty_15 (v := .inl l1) rfl ?_
    refine zw_push hm_212 dX12_findDirty_16 (v := .inl (0 : Int32)) rfl ?_
    obtain ⟨hg, h⟩ := h
    refine zw_bas22l hm_212 dX12_findDirty_17 (hx := by decide) (yv := (0 : Int32)) (zT_is hS s_117) (zT_h hS s_117) rfl hg ?_
    refine zw_sto hm_212 dX12_findDirty_18 [(1, .inl (l1 + (1 : Int32))), (0, .inr (.inr (some 94)))] rfl rfl rfl ?_
    refine zw_goto hm_212 dX12_findDirty_21 (t := 2) rfl ?_
    exact zw_sub (ma_nd_of (ks := [0, 1]) rfl (by decide)) (ma_nd_of (ks := [1, 0]) rfl (by decide)) (ma_le_cons rfl (ma_le_cons rfl (ma_le_nil _))) (h d w _ Q (by omega) (by omega) (zT_pi hS) rfl HQ)
theorem g_212_26 {X : Nat × (Nat → Int32)} {m : Nat → Nat → Int32} {P : Option ma_V → (Nat → Nat → Int32) → Prop} (l1 : Int32) (h : if (3100 : Int32) ≤ l1 then (P none m) else ((0 ≤ l1 ∧ l1.toNatClampNeg < 3100) ∧ (if (m 99 l1.toNatClampNeg) = 0 then (zm X 2 44 212 26 [(0, .inr (.inr (some 94))), (1, .inl (l1 + (1 : Int32)))] m P) else ((0 ≤ l1 ∧ l1.toNatClampNeg < 3100) ∧ (if (m 94 14) ≤ (m 103 l1.toNatClampNeg) then (zm X 2 44 212 26 [(0, .inr (.inr (some 94))), (1, .inl (l1 + (1 : Int32)))] m P) else (zm X 2 44 212 55 [(0, .inr (.inr (some 94))), (1, .inl l1), (2, .inl (0 : Int32))] m P)))))) : zm X 2 44 212 26 [(0, .inr (.inr (some 94))), (1, .inl l1)] m P := by
  intro d w S Q hd hw hS hm HQ
  subst hm
  refine zw_push hm_212 dX12_findDirty_26 (v := .inl l1) rfl ?_
  refine zw_push hm_212 dX12_findDirty_27 (v := .inl (3100 : Int32)) rfl ?_
  refine zw_if2 hm_212 dX12_findDirty_30 (t := 108) rfl zc2_ge ?_ ?_
  · intro hc
    rw [if_pos hc] at h
    exact zw_vret hm_212 dX12_findDirty_108 (HQ _ _ h)
  · intro hc
    rw [if_neg hc] at h
    refine zw_push hm_212 dX12_findDirty_33 (v := .inr (.inr (some 94))) rfl ?_
    refine zw_gf hm_212 dX12_findDirty_34 (v := .inr (.inr (some 99))) (zT_is hS s_94) (zT_t hS s_94) rfl f_12_27_12 (zT_f hS r_94_31) ?_
    refine zw_push hm_212 dX12_findDirty_37 (v := .inl l1) rfl ?_
    obtain ⟨hg, h⟩ := h
    refine zw_ba hm_212 dX12_findDirty_38 (zT_is hS s_99) (zT_h hS s_99) rfl rfl hg ?_
    show ma_wp X d w 212 39 [(0, .inr (.inr (some 94))), (1, .inl l1)] [.inl ((mI S) 99 l1.toNatClampNeg)] S _
    refine zw_if0 hm_212 dX12_findDirty_39 (t := 102) rfl zc0_eq ?_ ?_
    · intro hc
      rw [if_pos hc] at h
      refine zw_sto hm_212 dX12_findDirty_102 [(1, .inl (l1 + (1 : Int32))), (0, .inr (.inr (some 94)))] rfl rfl rfl ?_
      refine zw_goto hm_212 dX12_findDirty_105 (t := 26) rfl ?_
      exact zw_sub (ma_nd_of (ks := [0, 1]) rfl (by decide)) (ma_nd_of (ks := [1, 0]) rfl (by decide)) (ma_le_cons rfl (ma_le_cons rfl (ma_le_nil _))) (h d w _ Q (by omega) (by omega) hS rfl HQ)
    · intro hc
      rw [if_neg hc] at h
      refine zw_push hm_212 dX12_findDirty_42 (v := .inr (.inr (some 94))) rfl ?_
      refine zw_push hm_212 dX12_findDirty_43 (v := .inl l1) rfl ?_
      refine zw_cv hm_212 dX12_findDirty_44 v_12_314_12 hm_196 [.inl l1] [] rfl (zT_rt hS s_94 rfl) ⟨by omega, by omega⟩ rfl ?_
      show ma_wp X (d - 1) (w - 21) 196 0 [(0, .inr (.inr (some 94))), (1, .inl l1)] [] S _
      refine zw_push hm_196 dX12_isOld_0 (v := .inr (.inr (some 94))) rfl ?_
      refine zw_gf hm_196 dX12_isOld_1 (v := .inr (.inr (some 103))) (zT_is hS s_94) (zT_t hS s_94) rfl f_12_40_12 (zT_f hS r_94_35) ?_
      refine zw_push hm_196 dX12_isOld_4 (v := .inl l1) rfl ?_
      obtain ⟨hg, h⟩ := h
      refine zw_ia hm_196 dX12_isOld_5 (zT_is hS s_103) (zT_h hS s_103) rfl hg ?_
      show ma_wp X (d - 1) (w - 21) 196 6 [(0, .inr (.inr (some 94))), (1, .inl l1)] [.inl ((mI S) 103 l1.toNatClampNeg)] S _
      refine zw_push hm_196 dX12_isOld_6 (v := .inr (.inr (some 94))) rfl ?_
      refine zw_gf hm_196 dX12_isOld_7 (v := .inl ((mI S) 94 14)) (zT_is hS s_94) (zT_t hS s_94) rfl f_12_210_12 rfl ?_
      refine zw_if2 hm_196 dX12_isOld_10 (t := 17) rfl zc2_ge ?_ ?_
      · intro hc
        rw [if_pos hc] at h
        refine zw_push hm_196 dX12_isOld_17 (v := .inl (0 : Int32)) rfl ?_
        refine zw_bret hm_196 dX12_isOld_18 (by decide) ?_
        show ma_wp X d w 212 47 [(0, .inr (.inr (some 94))), (1, .inl l1)] [.inl (0 : Int32)] S _
        refine zw_if0 hm_212 dX12_findDirty_47 (t := 53) rfl zc0_ne (fun hc => absurd hc (by decide)) (fun _ => ?_)
        refine zw_goto hm_212 dX12_findDirty_50 (t := 102) rfl ?_
        refine zw_sto hm_212 dX12_findDirty_102 [(1, .inl (l1 + (1 : Int32))), (0, .inr (.inr (some 94)))] rfl rfl rfl ?_
        refine zw_goto hm_212 dX12_findDirty_105 (t := 26) rfl ?_
        exact zw_sub (ma_nd_of (ks := [0, 1]) rfl (by decide)) (ma_nd_of (ks := [1, 0]) rfl (by decide)) (ma_le_cons rfl (ma_le_cons rfl (ma_le_nil _))) (h d w _ Q (by omega) (by omega) hS rfl HQ)
      · intro hc
        rw [if_neg hc] at h
        refine zw_push hm_196 dX12_isOld_13 (v := .inl (1 : Int32)) rfl ?_
        refine zw_goto hm_196 dX12_isOld_14 (t := 18) rfl ?_
        refine zw_bret hm_196 dX12_isOld_18 (by decide) ?_
        show ma_wp X d w 212 47 [(0, .inr (.inr (some 94))), (1, .inl l1)] [.inl (1 : Int32)] S _
        refine zw_if0 hm_212 dX12_findDirty_47 (t := 53) rfl zc0_ne (fun _ => ?_) (fun hc => absurd (by decide) hc)
        refine zw_push hm_212 dX12_findDirty_53 (v := .inl (0 : Int32)) rfl ?_
        refine zw_sto hm_212 dX12_findDirty_54 [(2, .inl (0 : Int32)), (0, .inr (.inr (some 94))), (1, .inl l1)] rfl rfl rfl ?_
        exact zw_sub (ma_nd_of (ks := [0, 1, 2]) rfl (by decide)) (ma_nd_of (ks := [2, 0, 1]) rfl (by decide)) (ma_le_cons rfl (ma_le_cons rfl (ma_le_cons rfl (ma_le_nil _)))) (h d w _ Q (by omega) (by omega) hS rfl HQ)
theorem g_212_55 {X : Nat × (Nat → Int32)} {m : Nat → Nat → Int32} {P : Option ma_V → (Nat → Nat → Int32) → Prop} (l1 : Int32) (l2 : Int32) (h : (0 ≤ l1 ∧ l1.toNatClampNeg < 3100) ∧ (if (m 102 l1.toNatClampNeg) ≤ l2 then (zm X 2 44 212 26 [(0, .inr (.inr (some 94))), (1, .inl (l1 + (1 : Int32)))] m P) else (zm X 1 22 192 0 [(0, .inr (.inr (some 94))), (1, .inl l1), (2, .inl l2)] m (zmi (fun v2 m1 => if v2 < 0 then (zm X 2 44 212 55 [(0, .inr (.inr (some 94))), (1, .inl l1), (2, .inl (l2 + (1 : Int32)))] m1 P) else ((0 ≤ v2 ∧ v2.toNatClampNeg < 3100) ∧ (if (m1 94 14) ≤ (m1 103 v2.toNatClampNeg) then ((0 ≤ l1 ∧ l1.toNatClampNeg < 3100) ∧ ((m1 94 16) ≠ 0 ∧ ((0 ≤ ((((m1 103 l1.toNatClampNeg) + (1 : Int32)) + l2) / (m1 94 16)) ∧ ((((m1 103 l1.toNatClampNeg) + (1 : Int32)) + l2) / (m1 94 16)).toNatClampNeg < 512) ∧ (zm X 2 44 212 55 [(0, .inr (.inr (some 94))), (1, .inl l1), (2, .inl (l2 + (1 : Int32)))] (ma_u m1 117 ((((m1 103 l1.toNatClampNeg) + (1 : Int32)) + l2) / (m1 94 16)).toNatClampNeg (1 : Int32)) P)))) else (zm X 2 44 212 55 [(0, .inr (.inr (some 94))), (1, .inl l1), (2, .inl (l2 + (1 : Int32)))] m1 P)))))))) : zm X 2 44 212 55 [(0, .inr (.inr (some 94))), (1, .inl l1), (2, .inl l2)] m P := by
  intro d w S Q hd hw hS hm HQ
  subst hm
  refine zw_push hm_212 dX12_findDirty_55 (v := .inl l2) rfl ?_
  refine zw_push hm_212 dX12_findDirty_56 (v := .inr (.inr (some 94))) rfl ?_
  refine zw_gf hm_212 dX12_findDirty_57 (v := .inr (.inr (some 102))) (zT_is hS s_94) (zT_t hS s_94) rfl f_12_37_12 (zT_f hS r_94_34) ?_
  refine zw_push hm_212 dX12_findDirty_60 (v := .inl l1) rfl ?_
  obtain ⟨hg, h⟩ := h
  refine zw_ia hm_212 dX12_findDirty_61 (zT_is hS s_102) (zT_h hS s_102) rfl hg ?_
  show ma_wp X d w 212 62 [(0, .inr (.inr (some 94))), (1, .inl l1), (2, .inl l2)] [.inl ((mI S) 102 l1.toNatClampNeg), .inl l2] S _
  refine zw_if2 hm_212 dX12_findDirty_62 (t := 102) rfl zc2_ge ?_ ?_
  · intro hc
    rw [if_pos hc] at h
    refine zw_sto hm_212 dX12_findDirty_102 [(1, .inl (l1 + (1 : Int32))), (0, .inr (.inr (some 94))), (2, .inl l2)] rfl rfl rfl ?_
    refine zw_goto hm_212 dX12_findDirty_105 (t := 26) rfl ?_
    exact zw_sub (ma_nd_of (ks := [0, 1]) rfl (by decide)) (ma_nd_of (ks := [1, 0, 2]) rfl (by decide)) (ma_le_cons rfl (ma_le_cons rfl (ma_le_nil _))) (h d w _ Q (by omega) (by omega) hS rfl HQ)
  · intro hc
    rw [if_neg hc] at h
    refine zw_push hm_212 dX12_findDirty_65 (v := .inr (.inr (some 94))) rfl ?_
    refine zw_push hm_212 dX12_findDirty_66 (v := .inl l1) rfl ?_
    refine zw_push hm_212 dX12_findDirty_67 (v := .inl l2) rfl ?_
    refine zw_cv hm_212 dX12_findDirty_68 v_12_294_12 hm_192 [.inl l2, .inl l1] [] rfl (zT_rt hS s_94 rfl) ⟨by omega, by omega⟩ rfl (h _ _ S _ (by omega) (by omega) hS rfl (fun o9 m1 hv => ?_))
    obtain ⟨v2, rfl, h⟩ := zmi_of hv
    show ma_wp X d w 212 71 [(0, .inr (.inr (some 94))), (1, .inl l1), (2, .inl l2)] [.inl v2] (zst S m1) _
    refine zw_sto hm_212 dX12_findDirty_71 [(3, .inl v2), (0, .inr (.inr (some 94))), (1, .inl l1), (2, .inl l2)] rfl rfl rfl ?_
    refine zw_push hm_212 dX12_findDirty_72 (v := .inl v2) rfl ?_
    refine zw_if0 hm_212 dX12_findDirty_73 (t := 96) rfl zc0_lt ?_ ?_
    · intro hc
      rw [if_pos hc] at h
      refine zw_sto hm_212 dX12_findDirty_96 [(2, .inl (l2 + (1 : Int32))), (3, .inl v2), (0, .inr (.inr (some 94))), (1, .inl l1)] rfl rfl rfl ?_
      refine zw_goto hm_212 dX12_findDirty_99 (t := 55) rfl ?_
      exact zw_sub (ma_nd_of (ks := [0, 1, 2]) rfl (by decide)) (ma_nd_of (ks := [2, 3, 0, 1]) rfl (by decide)) (ma_le_cons rfl (ma_le_cons rfl (ma_le_cons rfl (ma_le_nil _)))) (h d w _ Q (by omega) (by omega) (zT_zst hS m1) rfl HQ)
    · intro hc
      rw [if_neg hc] at h
      refine zw_push hm_212 dX12_findDirty_76 (v := .inr (.inr (some 94))) rfl ?_
      refine zw_push hm_212 dX12_findDirty_77 (v := .inl v2) rfl ?_
      refine zw_cv hm_212 dX12_findDirty_78 v_12_314_12 hm_196 [.inl v2] [] rfl (zT_rt (zT_zst hS m1) s_94 rfl) ⟨by omega, by omega⟩ rfl ?_
      show ma_wp X (d - 1) (w - 21) 196 0 [(0, .inr (.inr (some 94))), (1, .inl v2)] [] (zst S m1) _
      refine zw_push hm_196 dX12_isOld_0 (v := .inr (.inr (some 94))) rfl ?_
      refine zw_gf hm_196 dX12_isOld_1 (v := .inr (.inr (some 103))) (zT_is (zT_zst hS m1) s_94) (zT_t (zT_zst hS m1) s_94) rfl f_12_40_12 (zT_f (zT_zst hS m1) r_94_35) ?_
      refine zw_push hm_196 dX12_isOld_4 (v := .inl v2) rfl ?_
      obtain ⟨hg, h⟩ := h
      refine zw_ia hm_196 dX12_isOld_5 (zT_is (zT_zst hS m1) s_103) (zT_h (zT_zst hS m1) s_103) rfl hg ?_
      show ma_wp X (d - 1) (w - 21) 196 6 [(0, .inr (.inr (some 94))), (1, .inl v2)] [.inl (m1 103 v2.toNatClampNeg)] (zst S m1) _
      refine zw_push hm_196 dX12_isOld_6 (v := .inr (.inr (some 94))) rfl ?_
      refine zw_gf hm_196 dX12_isOld_7 (v := .inl (m1 94 14)) (zT_is (zT_zst hS m1) s_94) (zT_t (zT_zst hS m1) s_94) rfl f_12_210_12 rfl ?_
      refine zw_if2 hm_196 dX12_isOld_10 (t := 17) rfl zc2_ge ?_ ?_
      · intro hc
        rw [if_pos hc] at h
        refine zw_push hm_196 dX12_isOld_17 (v := .inl (0 : Int32)) rfl ?_
        refine zw_bret hm_196 dX12_isOld_18 (by decide) ?_
        show ma_wp X d w 212 81 [(3, .inl v2), (0, .inr (.inr (some 94))), (1, .inl l1), (2, .inl l2)] [.inl (0 : Int32)] (zst S m1) _
        refine zw_if0 hm_212 dX12_findDirty_81 (t := 96) rfl zc0_ne (fun hc => absurd hc (by decide)) (fun _ => ?_)
        refine zw_push hm_212 dX12_findDirty_84 (v := .inr (.inr (some 94))) rfl ?_
        refine zw_gf hm_212 dX12_findDirty_85 (v := .inr (.inr (some 117))) (zT_is (zT_zst hS m1) s_94) (zT_t (zT_zst hS m1) s_94) rfl f_12_83_12 (zT_f (zT_zst hS m1) r_94_66) ?_
        refine zw_push hm_212 dX12_findDirty_88 (v := .inr (.inr (some 94))) rfl ?_
        refine zw_push hm_212 dX12_findDirty_89 (v := .inl l1) rfl ?_
        refine zw_push hm_212 dX12_findDirty_90 (v := .inl l2) rfl ?_
        refine zw_cv hm_212 dX12_findDirty_91 v_12_375_12 hm_213 [.inl l2, .inl l1] [.inr (.inr (some 117))] rfl (zT_rt (zT_zst hS m1) s_94 rfl) ⟨by omega, by omega⟩ rfl ?_
        show ma_wp X (d - 1) (w - 22) 213 0 [(0, .inr (.inr (some 94))), (1, .inl l1), (2, .inl l2)] [] (zst S m1) _
        refine zw_push hm_213 dX12_cardOf_0 (v := .inr (.inr (some 94))) rfl ?_
        refine zw_gf hm_213 dX12_cardOf_1 (v := .inr (.inr (some 103))) (zT_is (zT_zst hS m1) s_94) (zT_t (zT_zst hS m1) s_94) rfl f_12_40_12 (zT_f (zT_zst hS m1) r_94_35) ?_
        refine zw_push hm_213 dX12_cardOf_4 (v := .inl l1) rfl ?_
        obtain ⟨hg, h⟩ := h
        refine zw_ia hm_213 dX12_cardOf_5 (zT_is (zT_zst hS m1) s_103) (zT_h (zT_zst hS m1) s_103) rfl hg ?_
        show ma_wp X (d - 1) (w - 22) 213 6 [(0, .inr (.inr (some 94))), (1, .inl l1), (2, .inl l2)] [.inl (m1 103 l1.toNatClampNeg)] (zst S m1) _
        refine zw_push hm_213 dX12_cardOf_6 (v := .inl (1 : Int32)) rfl ?_
        refine zw_stk hm_213 dX12_cardOf_7 (st' := [.inl ((m1 103 l1.toNatClampNeg) + (1 : Int32))]) rfl rfl ?_
        refine zw_push hm_213 dX12_cardOf_8 (v := .inl l2) rfl ?_
        refine zw_stk hm_213 dX12_cardOf_9 (st' := [.inl (((m1 103 l1.toNatClampNeg) + (1 : Int32)) + l2)]) rfl rfl ?_
        refine zw_push hm_213 dX12_cardOf_10 (v := .inr (.inr (some 94))) rfl ?_
        refine zw_gf hm_213 dX12_cardOf_11 (v := .inl (m1 94 16)) (zT_is (zT_zst hS m1) s_94) (zT_t (zT_zst hS m1) s_94) rfl f_12_216_12 rfl ?_
        obtain ⟨hg, h⟩ := h
        refine zw_stk hm_213 dX12_cardOf_14 (st' := [.inl ((((m1 103 l1.toNatClampNeg) + (1 : Int32)) + l2) / (m1 94 16))]) rfl (if_neg hg) ?_
        refine zw_iret hm_213 dX12_cardOf_15 ?_
        show ma_wp X d w 212 94 [(3, .inl v2), (0, .inr (.inr (some 94))), (1, .inl l1), (2, .inl l2)] [.inl ((((m1 103 l1.toNatClampNeg) + (1 : Int32)) + l2) / (m1 94 16)), .inr (.inr (some 117))] (zst S m1) _
        refine zw_push hm_212 dX12_findDirty_94 (v := .inl (1 : Int32)) rfl ?_
        obtain ⟨hg, h⟩ := h
        refine zw_bas22l hm_212 dX12_findDirty_95 (hx := by decide) (yv := (1 : Int32)) (zT_is (zT_zst hS m1) s_117) (zT_h (zT_zst hS m1) s_117) rfl hg ?_
        refine zw_sto hm_212 dX12_findDirty_96 [(2, .inl (l2 + (1 : Int32))), (3, .inl v2), (0, .inr (.inr (some 94))), (1, .inl l1)] rfl rfl rfl ?_
        refine zw_goto hm_212 dX12_findDirty_99 (t := 55) rfl ?_
        exact zw_sub (ma_nd_of (ks := [0, 1, 2]) rfl (by decide)) (ma_nd_of (ks := [2, 3, 0, 1]) rfl (by decide)) (ma_le_cons rfl (ma_le_cons rfl (ma_le_cons rfl (ma_le_nil _)))) (h d w _ Q (by omega) (by omega) (zT_pi (zT_zst hS m1)) rfl HQ)
      · intro hc
        rw [if_neg hc] at h
        refine zw_push hm_196 dX12_isOld_13 (v := .inl (1 : Int32)) rfl ?_
        refine zw_goto hm_196 dX12_isOld_14 (t := 18) rfl ?_
        refine zw_bret hm_196 dX12_isOld_18 (by decide) ?_
        show ma_wp X d w 212 81 [(3, .inl v2), (0, .inr (.inr (some 94))), (1, .inl l1), (2, .inl l2)] [.inl (1 : Int32)] (zst S m1) _
        refine zw_if0 hm_212 dX12_findDirty_81 (t := 96) rfl zc0_ne (fun _ => ?_) (fun hc => absurd (by decide) hc)
        refine zw_sto hm_212 dX12_findDirty_96 [(2, .inl (l2 + (1 : Int32))), (3, .inl v2), (0, .inr (.inr (some 94))), (1, .inl l1)] rfl rfl rfl ?_
        refine zw_goto hm_212 dX12_findDirty_99 (t := 55) rfl ?_
        exact zw_sub (ma_nd_of (ks := [0, 1, 2]) rfl (by decide)) (ma_nd_of (ks := [2, 3, 0, 1]) rfl (by decide)) (ma_le_cons rfl (ma_le_cons rfl (ma_le_cons rfl (ma_le_nil _)))) (h d w _ Q (by omega) (by omega) (zT_zst hS m1) rfl HQ)
theorem lp_212_55 {X : Nat × (Nat → Int32)} {P : Option ma_V → (Nat → Nat → Int32) → Prop} {m0 : Nat → Nat → Int32} (h0 : zV m0) (K : ∀ m', zF wr_212 m0 m' → zV m' → (zDC (m' 94 14).toInt (m' 94 16).toInt (m' 99) (m' 103) (m' 102) (m' 98) (m' 101) (m' 108) (m' 117)) → P none m') {n26 : Nat} (OUT26 : ∀ (m' : Nat → Nat → Int32) (l1 : Int32), (3100 - l1.toInt).toNat < n26 → zF wr_212 m0 m' → zV m' → (0 ≤ l1.toInt) → (zW (m' 94 7) (m' 98) (m' 101) (m' 102) (m' 108)) → (4 ≤ (m' 94 16).toInt) → (zDCu (m' 94 14).toInt (m' 94 16).toInt (m' 99) (m' 103) (m' 102) (m' 98) (m' 101) (m' 108) (m' 117) l1.toNatClampNeg 0) → zm X 2 44 212 26 [(0, .inr (.inr (some 94))), (1, .inl l1)] m' P) : ∀ (n : Nat) (m : Nat → Nat → Int32) (l1 : Int32) (l2 : Int32), (61 - l2.toInt).toNat = n → zF wr_212 m0 m → zV m → (0 ≤ l1.toInt) → (l1.toInt ≤ 3099) → (0 ≤ l2.toInt) → ((3100 - l1.toInt).toNat = n26) → (zW (m 94 7) (m 98) (m 101) (m 102) (m 108)) → (4 ≤ (m 94 16).toInt) → ((m 99) l1.toNatClampNeg ≠ 0) → ((m 103 l1.toNatClampNeg).toInt < (m 94 14).toInt) → (zDCu (m 94 14).toInt (m 94 16).toInt (m 99) (m 103) (m 102) (m 98) (m 101) (m 108) (m 117) l1.toNatClampNeg l2.toNatClampNeg) → zm X 2 44 212 55 [(0, .inr (.inr (some 94))), (1, .inl l1), (2, .inl l2)] m P := by
  intro n
  induction n using Nat.strongRecOn with
  | _ n IH =>
    intro m l1 l2 hmu hF hV hi0 hi1 hi2 hi3 r_W hi5 r_UO hi7 r_DCu
    refine g_212_55 l1 l2 ?_
    have f1 : 0 ≤ (m 94 16).toInt ∧ (m 94 16).toInt ≤ 64 := rs_94_16 (m := m) hV
    have b2 := i_bd l1
    first | have f3 : 0 ≤ (m 103 l1.toNatClampNeg).toInt ∧ (m 103 l1.toNatClampNeg).toInt ≤ 4599 := ra_103 (m := m) hV (k := l1.toNatClampNeg) (i_ix (n := 3100) (by omega) (by omega)).2 | have b4 := i_bd (m 103 l1.toNatClampNeg)
    have f5 : 0 ≤ (m 94 14).toInt ∧ (m 94 14).toInt ≤ 1500 := rs_94_14 (m := m) hV
    have hg6 : (0 ≤ l1 ∧ l1.toNatClampNeg < 3100) := i_ix (by omega) (by omega)
    refine ⟨hg6, ?_⟩
    first | have f7 : 0 ≤ (m 102 l1.toNatClampNeg).toInt ∧ (m 102 l1.toNatClampNeg).toInt ≤ 60 := ra_102 (m := m) hV (k := l1.toNatClampNeg) (i_ix (n := 3100) (by omega) (by omega)).2 | have b8 := i_bd (m 102 l1.toNatClampNeg)
    have b9 := i_bd l2
    refine zd (fun (h10 : (m 102 l1.toNatClampNeg) ≤ l2) => ?_) (fun (h10 : ¬ (m 102 l1.toNatClampNeg) ≤ l2) => ?_)
    · skip
      have g11 := i_le h10
      first | have e12 : (l1 + (1 : Int32)).toInt = l1.toInt + (1) := i_addk rfl (by omega) (by omega) | have b13 := i_bd (l1 + (1 : Int32))
      exact OUT26 _ ((l1 + (1 : Int32))) (show (3100 - (l1 + (1 : Int32)).toInt).toNat < n26 from by omega) hF hV (by omega) r_W (show 4 ≤ (m 94 16).toInt from by omega) (show zDCu (m 94 14).toInt (m 94 16).toInt (m 99) (m 103) (m 102) (m 98) (m 101) (m 108) (m 117) (l1 + (1 : Int32)).toNatClampNeg 0 from by first | (exact DCu_next r_DCu (by rw [tn_cast (x := l2) (by omega)]; omega) (tn_succ (by omega) (by omega))) | (exfalso; omega; done) | (exfalso; contradiction; done))
    · skip
      have g14 := i_nle h10
      refine sp_192 (l1) (l2) hV (by omega) (by omega) (by omega) (show l2.toInt < (m 102 l1.toNatClampNeg).toInt from by omega) (fun v2 m1 hV_m1 p0_m1 => zmi_n ?_)
      have p0_m1 : v2 = zrf (m 98) (m 101) (m 108) l1.toNatClampNeg l2.toNatClampNeg := p0_m1
      try have := W_ref r_W (by omega) (by omega) (by omega) (by omega) p0_m1
      have b15 := i_bd v2
      have li16 : (0 : Int32).toInt = 0 := rfl
      refine zd (fun (h17 : v2 < (0 : Int32)) => ?_) (fun (h17 : ¬ v2 < (0 : Int32)) => ?_)
      · skip
        have g18 := i_lt h17
        first | have e19 : (l2 + (1 : Int32)).toInt = l2.toInt + (1) := i_addk rfl (by omega) (by omega) | have b20 := i_bd (l2 + (1 : Int32))
        exact IH (61 - (l2 + (1 : Int32)).toInt).toNat (by omega) _ (l1) ((l2 + (1 : Int32))) rfl (zF_zov hF ws_192_212) hV_m1 (by omega) (by omega) (by omega) (show (3100 - l1.toInt).toNat = n26 from by omega) r_W (show 4 ≤ (m 94 16).toInt from by omega) r_UO (show (m 103 l1.toNatClampNeg).toInt < (m 94 14).toInt from by omega) (show zDCu (m 94 14).toInt (m 94 16).toInt (m 99) (m 103) (m 102) (m 98) (m 101) (m 108) (m 117) l1.toNatClampNeg (l2 + (1 : Int32)).toNatClampNeg from by first | (exact DCu_adv r_DCu (Or.inl (by rw [← p0_m1]; omega)) (tn_succ (by omega) (by omega))) | (exact DCu_adv r_DCu (Or.inr (Or.inl (by rw [← p0_m1]; omega))) (tn_succ (by omega) (by omega))) | (exfalso; omega; done) | (exfalso; contradiction; done))
      · skip
        have g21 := i_nlt h17
        have hg22 : (0 ≤ v2 ∧ v2.toNatClampNeg < 3100) := i_ix (by omega) (by omega)
        refine ⟨hg22, ?_⟩
        first | have f23 : 0 ≤ (m 103 v2.toNatClampNeg).toInt ∧ (m 103 v2.toNatClampNeg).toInt ≤ 4599 := ra_103 (m := m) hV (k := v2.toNatClampNeg) (i_ix (n := 3100) (by omega) (by omega)).2 | have b24 := i_bd (m 103 v2.toNatClampNeg)
        refine zd (fun (h25 : (m 94 14) ≤ (m 103 v2.toNatClampNeg)) => ?_) (fun (h25 : ¬ (m 94 14) ≤ (m 103 v2.toNatClampNeg)) => ?_)
        · skip
          have g26 := i_le h25
          have hg27 : (0 ≤ l1 ∧ l1.toNatClampNeg < 3100) := i_ix (by omega) (by omega)
          refine ⟨hg27, ?_⟩
          have hg28 : (m 94 16) ≠ 0 := i_nz (by omega)
          refine ⟨hg28, ?_⟩
          first | have e29 : ((m 103 l1.toNatClampNeg) + (1 : Int32)).toInt = (m 103 l1.toNatClampNeg).toInt + (1) := i_addk rfl (by omega) (by omega) | have b30 := i_bd ((m 103 l1.toNatClampNeg) + (1 : Int32))
          first | have e31 : (((m 103 l1.toNatClampNeg) + (1 : Int32)) + l2).toInt = ((m 103 l1.toNatClampNeg) + (1 : Int32)).toInt + l2.toInt := i_add (by omega) (by omega) | have b32 := i_bd (((m 103 l1.toNatClampNeg) + (1 : Int32)) + l2)
          first | have f33 := i_div (x := (((m 103 l1.toNatClampNeg) + (1 : Int32)) + l2)) (y := (m 94 16)) (by omega) (by omega) | have b34 := i_bd ((((m 103 l1.toNatClampNeg) + (1 : Int32)) + l2) / (m 94 16))
          try have dv : 0 ≤ (((((m 103 l1.toNatClampNeg) + (1 : Int32)) + l2) / (m 94 16))).toInt ∧ (((((m 103 l1.toNatClampNeg) + (1 : Int32)) + l2) / (m 94 16))).toInt ≤ 499 := i_div4 (by omega) (by omega) (by omega)
          have hg35 : (0 ≤ ((((m 103 l1.toNatClampNeg) + (1 : Int32)) + l2) / (m 94 16)) ∧ ((((m 103 l1.toNatClampNeg) + (1 : Int32)) + l2) / (m 94 16)).toNatClampNeg < 512) := i_ix (by omega) (by omega)
          refine ⟨hg35, ?_⟩
          have li37 : (1 : Int32).toInt = 1 := rfl
          have hV36 : zV (ma_u (zov wr_192 m m1) 117 ((((m 103 l1.toNatClampNeg) + (1 : Int32)) + l2) / (m 94 16)).toNatClampNeg (1 : Int32)) := ua_117 hV_m1 (by omega) (by omega)
          first | have e38 : (l2 + (1 : Int32)).toInt = l2.toInt + (1) := i_addk rfl (by omega) (by omega) | have b39 := i_bd (l2 + (1 : Int32))
          exact IH (61 - (l2 + (1 : Int32)).toInt).toNat (by omega) _ (l1) ((l2 + (1 : Int32))) rfl (zF_u (zF_zov hF ws_192_212) rfl) hV36 (by omega) (by omega) (by omega) (show (3100 - l1.toInt).toNat = n26 from by omega) r_W (show 4 ≤ (m 94 16).toInt from by omega) r_UO (show (m 103 l1.toNatClampNeg).toInt < (m 94 14).toInt from by omega) (show zDCu (m 94 14).toInt (m 94 16).toInt (m 99) (m 103) (m 102) (m 98) (m 101) (m 108) ((ma_u m 117 ((((m 103 l1.toNatClampNeg) + (1 : Int32)) + l2) / (m 94 16)).toNatClampNeg (1 : Int32)) 117) l1.toNatClampNeg (l2 + (1 : Int32)).toNatClampNeg from by first | (exact DCu_adv (DCu_put r_DCu (by decide)) (Or.inr (Or.inr (by rw [← card_ix (by omega) (by omega) (by omega) (by omega) (by omega), mu_self]; decide))) (tn_succ (by omega) (by omega))) | (exfalso; omega; done) | (exfalso; contradiction; done))
        · skip
          have g40 := i_nle h25
          first | have e41 : (l2 + (1 : Int32)).toInt = l2.toInt + (1) := i_addk rfl (by omega) (by omega) | have b42 := i_bd (l2 + (1 : Int32))
          exact IH (61 - (l2 + (1 : Int32)).toInt).toNat (by omega) _ (l1) ((l2 + (1 : Int32))) rfl (zF_zov hF ws_192_212) hV_m1 (by omega) (by omega) (by omega) (show (3100 - l1.toInt).toNat = n26 from by omega) r_W (show 4 ≤ (m 94 16).toInt from by omega) r_UO (show (m 103 l1.toNatClampNeg).toInt < (m 94 14).toInt from by omega) (show zDCu (m 94 14).toInt (m 94 16).toInt (m 99) (m 103) (m 102) (m 98) (m 101) (m 108) (m 117) l1.toNatClampNeg (l2 + (1 : Int32)).toNatClampNeg from by first | (exact DCu_adv r_DCu (Or.inl (by rw [← p0_m1]; omega)) (tn_succ (by omega) (by omega))) | (exact DCu_adv r_DCu (Or.inr (Or.inl (by rw [← p0_m1]; omega))) (tn_succ (by omega) (by omega))) | (exfalso; omega; done) | (exfalso; contradiction; done))
theorem lp_212_26 {X : Nat × (Nat → Int32)} {P : Option ma_V → (Nat → Nat → Int32) → Prop} {m0 : Nat → Nat → Int32} (h0 : zV m0) (K : ∀ m', zF wr_212 m0 m' → zV m' → (zDC (m' 94 14).toInt (m' 94 16).toInt (m' 99) (m' 103) (m' 102) (m' 98) (m' 101) (m' 108) (m' 117)) → P none m') : ∀ (n : Nat) (m : Nat → Nat → Int32) (l1 : Int32), (3100 - l1.toInt).toNat = n → zF wr_212 m0 m → zV m → (0 ≤ l1.toInt) → (zW (m 94 7) (m 98) (m 101) (m 102) (m 108)) → (4 ≤ (m 94 16).toInt) → (zDCu (m 94 14).toInt (m 94 16).toInt (m 99) (m 103) (m 102) (m 98) (m 101) (m 108) (m 117) l1.toNatClampNeg 0) → zm X 2 44 212 26 [(0, .inr (.inr (some 94))), (1, .inl l1)] m P := by
  intro n
  induction n using Nat.strongRecOn with
  | _ n IH =>
    intro m l1 hmu hF hV hi0 r_W hi2 r_DCu
    refine g_212_26 l1 ?_
    have f1 : 0 ≤ (m 94 16).toInt ∧ (m 94 16).toInt ≤ 64 := rs_94_16 (m := m) hV
    have li2 : (3100 : Int32).toInt = 3100 := rfl
    have b3 := i_bd l1
    refine zd (fun (h4 : (3100 : Int32) ≤ l1) => ?_) (fun (h4 : ¬ (3100 : Int32) ≤ l1) => ?_)
    · skip
      have g5 := i_le h4
      exact K _ hF hV (show zDC (m 94 14).toInt (m 94 16).toInt (m 99) (m 103) (m 102) (m 98) (m 101) (m 108) (m 117) from by first | (exact DCu_end r_DCu (by rw [tn_eq]; omega)) | (exfalso; omega; done) | (exfalso; contradiction; done))
    · skip
      have g6 := i_nle h4
      have hg7 : (0 ≤ l1 ∧ l1.toNatClampNeg < 3100) := i_ix (by omega) (by omega)
      refine ⟨hg7, ?_⟩
      first | have f8 : 0 ≤ (m 99 l1.toNatClampNeg).toInt ∧ (m 99 l1.toNatClampNeg).toInt ≤ 1 := ra_99 (m := m) hV (k := l1.toNatClampNeg) (i_ix (n := 3100) (by omega) (by omega)).2 | have b9 := i_bd (m 99 l1.toNatClampNeg)
      have li10 : (0 : Int32).toInt = 0 := rfl
      refine zd (fun (h11 : (m 99 l1.toNatClampNeg) = (0 : Int32)) => ?_) (fun (h11 : ¬ (m 99 l1.toNatClampNeg) = (0 : Int32)) => ?_)
      · skip
        have g12 := i_eq h11
        first | have e13 : (l1 + (1 : Int32)).toInt = l1.toInt + (1) := i_addk rfl (by omega) (by omega) | have b14 := i_bd (l1 + (1 : Int32))
        exact IH (3100 - (l1 + (1 : Int32)).toInt).toNat (by omega) _ ((l1 + (1 : Int32))) rfl hF hV (by omega) r_W (show 4 ≤ (m 94 16).toInt from by omega) (show zDCu (m 94 14).toInt (m 94 16).toInt (m 99) (m 103) (m 102) (m 98) (m 101) (m 108) (m 117) (l1 + (1 : Int32)).toNatClampNeg 0 from by first | (exact DCu_skip r_DCu (Or.inl (by assumption)) (tn_succ (by omega) (by omega))) | (exact DCu_skip r_DCu (Or.inr (by omega)) (tn_succ (by omega) (by omega))) | (exfalso; omega; done) | (exfalso; contradiction; done))
      · skip
        have g15 := i_ne h11
        have hg16 : (0 ≤ l1 ∧ l1.toNatClampNeg < 3100) := i_ix (by omega) (by omega)
        refine ⟨hg16, ?_⟩
        have f17 : 0 ≤ (m 94 14).toInt ∧ (m 94 14).toInt ≤ 1500 := rs_94_14 (m := m) hV
        first | have f18 : 0 ≤ (m 103 l1.toNatClampNeg).toInt ∧ (m 103 l1.toNatClampNeg).toInt ≤ 4599 := ra_103 (m := m) hV (k := l1.toNatClampNeg) (i_ix (n := 3100) (by omega) (by omega)).2 | have b19 := i_bd (m 103 l1.toNatClampNeg)
        refine zd (fun (h20 : (m 94 14) ≤ (m 103 l1.toNatClampNeg)) => ?_) (fun (h20 : ¬ (m 94 14) ≤ (m 103 l1.toNatClampNeg)) => ?_)
        · skip
          have g21 := i_le h20
          first | have e22 : (l1 + (1 : Int32)).toInt = l1.toInt + (1) := i_addk rfl (by omega) (by omega) | have b23 := i_bd (l1 + (1 : Int32))
          exact IH (3100 - (l1 + (1 : Int32)).toInt).toNat (by omega) _ ((l1 + (1 : Int32))) rfl hF hV (by omega) r_W (show 4 ≤ (m 94 16).toInt from by omega) (show zDCu (m 94 14).toInt (m 94 16).toInt (m 99) (m 103) (m 102) (m 98) (m 101) (m 108) (m 117) (l1 + (1 : Int32)).toNatClampNeg 0 from by first | (exact DCu_skip r_DCu (Or.inl (by assumption)) (tn_succ (by omega) (by omega))) | (exact DCu_skip r_DCu (Or.inr (by omega)) (tn_succ (by omega) (by omega))) | (exfalso; omega; done) | (exfalso; contradiction; done))
        · skip
          have g24 := i_nle h20
          exact lp_212_55 h0 K (fun _ _ z1 z2 z3 y0 y1 y2 y3 => IH _ z1 _ _ rfl z2 z3 y0 y1 y2 y3) _ _ (l1) ((0 : Int32)) rfl hF hV (by omega) (by omega) (by omega) (show (3100 - l1.toInt).toNat = n from by omega) r_W (show 4 ≤ (m 94 16).toInt from by omega) (show (m 99) l1.toNatClampNeg ≠ 0 from by first | (assumption; done) | (exfalso; omega; done) | (exfalso; contradiction; done)) (show (m 103 l1.toNatClampNeg).toInt < (m 94 14).toInt from by omega) (show zDCu (m 94 14).toInt (m 94 16).toInt (m 99) (m 103) (m 102) (m 98) (m 101) (m 108) (m 117) l1.toNatClampNeg (0 : Int32).toNatClampNeg from by first | (exact r_DCu) | (exfalso; omega; done) | (exfalso; contradiction; done))
theorem lp_212_2 {X : Nat × (Nat → Int32)} {P : Option ma_V → (Nat → Nat → Int32) → Prop} {m0 : Nat → Nat → Int32} (h0 : zV m0) (K : ∀ m', zF wr_212 m0 m' → zV m' → (zDC (m' 94 14).toInt (m' 94 16).toInt (m' 99) (m' 103) (m' 102) (m' 98) (m' 101) (m' 108) (m' 117)) → P none m') : ∀ (n : Nat) (m : Nat → Nat → Int32) (l1 : Int32), (512 - l1.toInt).toNat = n → zF wr_212 m0 m → zV m → (0 ≤ l1.toInt) → (zW (m 94 7) (m 98) (m 101) (m 102) (m 108)) → (4 ≤ (m 94 16).toInt) → zm X 2 44 212 2 [(0, .inr (.inr (some 94))), (1, .inl l1)] m P := by
  intro n
  induction n using Nat.strongRecOn with
  | _ n IH =>
    intro m l1 hmu hF hV hi0 r_W hi2
    refine g_212_2 l1 ?_
    have f1 : 0 ≤ (m 94 16).toInt ∧ (m 94 16).toInt ≤ 64 := rs_94_16 (m := m) hV
    have li2 : (512 : Int32).toInt = 512 := rfl
    have b3 := i_bd l1
    refine zd (fun (h4 : (512 : Int32) ≤ l1) => ?_) (fun (h4 : ¬ (512 : Int32) ≤ l1) => ?_)
    · skip
      have g5 := i_le h4
      have li6 : (0 : Int32).toInt = 0 := rfl
      exact lp_212_26 h0 K _ _ ((0 : Int32)) rfl hF hV (by omega) r_W (show 4 ≤ (m 94 16).toInt from by omega) (show zDCu (m 94 14).toInt (m 94 16).toInt (m 99) (m 103) (m 102) (m 98) (m 101) (m 108) (m 117) (0 : Int32).toNatClampNeg 0 from by first | (exact DCu_0) | (exfalso; omega; done) | (exfalso; contradiction; done))
    · skip
      have g7 := i_nle h4
      try have dv : 0 ≤ (l1).toInt ∧ (l1).toInt ≤ 499 := i_div4 (by omega) (by omega) (by omega)
      have hg8 : (0 ≤ l1 ∧ l1.toNatClampNeg < 512) := i_ix (by omega) (by omega)
      refine ⟨hg8, ?_⟩
      have li10 : (0 : Int32).toInt = 0 := rfl
      have hV9 : zV (ma_u m 117 l1.toNatClampNeg (0 : Int32)) := ua_117 hV (by omega) (by omega)
      first | have e11 : (l1 + (1 : Int32)).toInt = l1.toInt + (1) := i_addk rfl (by omega) (by omega) | have b12 := i_bd (l1 + (1 : Int32))
      exact IH (512 - (l1 + (1 : Int32)).toInt).toNat (by omega) _ ((l1 + (1 : Int32))) rfl (zF_u hF rfl) hV9 (by omega) r_W (show 4 ≤ (m 94 16).toInt from by omega)
theorem sp_212 {X : Nat × (Nat → Int32)} {P : Option ma_V → (Nat → Nat → Int32) → Prop} {m : Nat → Nat → Int32}  (hV : zV m) (r_W : zW (m 94 7) (m 98) (m 101) (m 102) (m 108)) (hpre1 : 4 ≤ (m 94 16).toInt) (KZ : ∀ m', zV (zov wr_212 m m') → (zDC (m 94 14).toInt (m 94 16).toInt (m 99) (m 103) (m 102) (m 98) (m 101) (m 108) (m' 117)) → P none (zov wr_212 m m')) : zm X 2 44 212 0 [(0, .inr (.inr (some 94)))] m P := by
  have K : ∀ m', zF wr_212 m m' → zV m' → (zDC (m' 94 14).toInt (m' 94 16).toInt (m' 99) (m' 103) (m' 102) (m' 98) (m' 101) (m' 108) (m' 117)) → P none m' := by
    intro m' hf z q0
    have e := zov_eq hf
    rw [e] at z ⊢
    try rw [e] at q0
    exact KZ m' z q0
  refine g_212_0  ?_
  have f1 : 0 ≤ (m 94 16).toInt ∧ (m 94 16).toInt ≤ 64 := rs_94_16 (m := m) hV
  have li2 : (0 : Int32).toInt = 0 := rfl
  exact lp_212_2 hV K _ _ ((0 : Int32)) rfl zF_rfl hV (by omega) r_W (show 4 ≤ (m 94 16).toInt from by omega)
