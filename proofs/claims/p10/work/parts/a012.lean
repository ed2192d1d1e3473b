/-! from 94.472 -/
/-! the reference (written by wip/tools/gen94m.py) -/
set_option maxRecDepth 100000 in
theorem hm_212 : ma_md 212 = some (12, yX12_findDirty, cX12_findDirty, 4, none) := rfl
theorem dX12_findDirty_0 : decode cX12_findDirty 0 = .ok (.iconst 0, 1) := by decide +kernel
theorem dX12_findDirty_1 : decode cX12_findDirty 1 = .ok (.istore_n 1, 1) := by decide +kernel
theorem dX12_findDirty_2 : decode cX12_findDirty 2 = .ok (.iload_n 1, 1) := by decide +kernel
theorem dX12_findDirty_3 : decode cX12_findDirty 3 = .ok (.aload_n 0, 1) := by decide +kernel
theorem dX12_findDirty_7 : decode cX12_findDirty 7 = .ok (.arraylength, 1) := by decide +kernel
theorem dX12_findDirty_24 : decode cX12_findDirty 24 = .ok (.iconst 0, 1) := by decide +kernel
theorem dX12_findDirty_25 : decode cX12_findDirty 25 = .ok (.istore_n 1, 1) := by decide +kernel
theorem dX12_findDirty_11 : decode cX12_findDirty 11 = .ok (.aload_n 0, 1) := by decide +kernel
theorem dX12_findDirty_15 : decode cX12_findDirty 15 = .ok (.iload_n 1, 1) := by decide +kernel
theorem dX12_findDirty_16 : decode cX12_findDirty 16 = .ok (.iconst 0, 1) := by decide +kernel
theorem dX12_findDirty_18 : decode cX12_findDirty 18 = .ok (.iinc 1 1, 3) := by decide +kernel
theorem dX12_findDirty_21 : decode cX12_findDirty 21 = .ok (.goto (-19), 3) := by decide +kernel
theorem dX12_findDirty_17 : decode cX12_findDirty 17 = .ok (.bastore, 1) := by decide +kernel
theorem dX12_findDirty_12 : decode cX12_findDirty 12 = .ok (.getfield 83, 3) := by decide +kernel
theorem dX12_findDirty_8 : decode cX12_findDirty 8 = .ok (.if_icmp .ge 16, 3) := by decide +kernel
theorem dX12_findDirty_4 : decode cX12_findDirty 4 = .ok (.getfield 83, 3) := by decide +kernel
theorem dX12_findDirty_26 : decode cX12_findDirty 26 = .ok (.iload_n 1, 1) := by decide +kernel
theorem dX12_findDirty_27 : decode cX12_findDirty 27 = .ok (.sipush 3100, 3) := by decide +kernel
theorem dX12_findDirty_108 : decode cX12_findDirty 108 = .ok (.return_, 1) := by decide +kernel
theorem dX12_findDirty_33 : decode cX12_findDirty 33 = .ok (.aload_n 0, 1) := by decide +kernel
theorem dX12_findDirty_37 : decode cX12_findDirty 37 = .ok (.iload_n 1, 1) := by decide +kernel
theorem dX12_findDirty_102 : decode cX12_findDirty 102 = .ok (.iinc 1 1, 3) := by decide +kernel
theorem dX12_findDirty_105 : decode cX12_findDirty 105 = .ok (.goto (-79), 3) := by decide +kernel
theorem dX12_findDirty_42 : decode cX12_findDirty 42 = .ok (.aload_n 0, 1) := by decide +kernel
theorem dX12_findDirty_43 : decode cX12_findDirty 43 = .ok (.iload_n 1, 1) := by decide +kernel
theorem dX12_findDirty_44 : decode cX12_findDirty 44 = .ok (.invokevirtual 314, 3) := by decide +kernel
theorem dX12_findDirty_47 : decode cX12_findDirty 47 = .ok (.ifCond .ne 6, 3) := by decide +kernel
theorem dX12_findDirty_50 : decode cX12_findDirty 50 = .ok (.goto 52, 3) := by decide +kernel
theorem dX12_findDirty_53 : decode cX12_findDirty 53 = .ok (.iconst 0, 1) := by decide +kernel
theorem dX12_findDirty_54 : decode cX12_findDirty 54 = .ok (.istore_n 2, 1) := by decide +kernel
theorem dX12_findDirty_39 : decode cX12_findDirty 39 = .ok (.ifCond .eq 63, 3) := by decide +kernel
theorem dX12_findDirty_38 : decode cX12_findDirty 38 = .ok (.baload, 1) := by decide +kernel
theorem dX12_findDirty_34 : decode cX12_findDirty 34 = .ok (.getfield 27, 3) := by decide +kernel
theorem dX12_findDirty_30 : decode cX12_findDirty 30 = .ok (.if_icmp .ge 78, 3) := by decide +kernel
theorem dX12_findDirty_55 : decode cX12_findDirty 55 = .ok (.iload_n 2, 1) := by decide +kernel
theorem dX12_findDirty_56 : decode cX12_findDirty 56 = .ok (.aload_n 0, 1) := by decide +kernel
theorem dX12_findDirty_60 : decode cX12_findDirty 60 = .ok (.iload_n 1, 1) := by decide +kernel
theorem dX12_findDirty_65 : decode cX12_findDirty 65 = .ok (.aload_n 0, 1) := by decide +kernel
theorem dX12_findDirty_66 : decode cX12_findDirty 66 = .ok (.iload_n 1, 1) := by decide +kernel
theorem dX12_findDirty_67 : decode cX12_findDirty 67 = .ok (.iload_n 2, 1) := by decide +kernel
theorem dX12_findDirty_68 : decode cX12_findDirty 68 = .ok (.invokevirtual 294, 3) := by decide +kernel
theorem dX12_findDirty_71 : decode cX12_findDirty 71 = .ok (.istore_n 3, 1) := by decide +kernel
theorem dX12_findDirty_72 : decode cX12_findDirty 72 = .ok (.iload_n 3, 1) := by decide +kernel
theorem dX12_findDirty_96 : decode cX12_findDirty 96 = .ok (.iinc 2 1, 3) := by decide +kernel
theorem dX12_findDirty_99 : decode cX12_findDirty 99 = .ok (.goto (-44), 3) := by decide +kernel
theorem dX12_findDirty_76 : decode cX12_findDirty 76 = .ok (.aload_n 0, 1) := by decide +kernel
theorem dX12_findDirty_77 : decode cX12_findDirty 77 = .ok (.iload_n 3, 1) := by decide +kernel
theorem dX12_findDirty_78 : decode cX12_findDirty 78 = .ok (.invokevirtual 314, 3) := by decide +kernel
theorem dX12_findDirty_81 : decode cX12_findDirty 81 = .ok (.ifCond .ne 15, 3) := by decide +kernel
theorem dX12_findDirty_84 : decode cX12_findDirty 84 = .ok (.aload_n 0, 1) := by decide +kernel
theorem dX12_findDirty_88 : decode cX12_findDirty 88 = .ok (.aload_n 0, 1) := by decide +kernel
theorem dX12_findDirty_89 : decode cX12_findDirty 89 = .ok (.iload_n 1, 1) := by decide +kernel
theorem dX12_findDirty_90 : decode cX12_findDirty 90 = .ok (.iload_n 2, 1) := by decide +kernel
theorem dX12_findDirty_91 : decode cX12_findDirty 91 = .ok (.invokevirtual 375, 3) := by decide +kernel
theorem dX12_findDirty_94 : decode cX12_findDirty 94 = .ok (.iconst 1, 1) := by decide +kernel
theorem dX12_findDirty_95 : decode cX12_findDirty 95 = .ok (.bastore, 1) := by decide +kernel
theorem dX12_findDirty_85 : decode cX12_findDirty 85 = .ok (.getfield 83, 3) := by decide +kernel
theorem dX12_findDirty_73 : decode cX12_findDirty 73 = .ok (.ifCond .lt 23, 3) := by decide +kernel
theorem dX12_findDirty_62 : decode cX12_findDirty 62 = .ok (.if_icmp .ge 40, 3) := by decide +kernel
theorem dX12_findDirty_61 : decode cX12_findDirty 61 = .ok (.iaload, 1) := by decide +kernel
theorem dX12_findDirty_57 : decode cX12_findDirty 57 = .ok (.getfield 37, 3) := by decide +kernel
def wr_212 (c _ : Nat) : Bool := Nat.beq c 117
theorem ws_192_212 : ∀ c k, wr_192 c k = true → wr_212 c k = true := fun _ _ h => by cases h
theorem g_212_0 {X : Nat × (Nat → Int32)} {m : Nat → Nat → Int32} {P : Option ma_V → (Nat → Nat → Int32) → Prop}  (h : zm X 2 44 212 2 [(0, .inr (.inr (some 94))), (1, .inl (0 : Int32))] m P) : zm X 2 44 212 0 [(0, .inr (.inr (some 94)))] m P := by
  intro d w S Q hd hw hS hm HQ
  subst hm
  refine zw_push hm_212 dX12_findDirty_0 (v := .inl (0 : Int32)) rfl ?_
  refine zw_sto hm_212 dX12_findDirty_1 [(1, .inl (0 : Int32)), (0, .inr (.inr (some 94)))] rfl rfl rfl ?_
  exact zw_sub (ma_nd_of (ks := [0, 1]) rfl (by decide)) (ma_nd_of (ks := [1, 0]) rfl (by decide)) (ma_le_cons rfl (ma_le_cons rfl (ma_le_nil _))) (h d w _ Q (by omega) (by omega) hS rfl HQ)
theorem g_212_2 {X : Nat × (Nat → Int32)} {m : Nat → Nat → Int32} {P : Option ma_V → (Nat → Nat → Int32) → Prop} (l1 : Int32) (h : if (512 : Int32) ≤ l1 then (zm X 2 44 212 26 [(0, .inr (.inr (some 94))), (1, .inl (0 : Int32))] m P) else ((0 ≤ l1 ∧ l1.toNatClampNeg < 512) ∧ (zm X 2 44 212 2 [(0, .inr (.inr (some 94))), (1, .inl (l1 + (1 : Int32)))] (ma_u m 117 l1.toNatClampNeg (0 : Int32)) P))) : zm X 2 44 212 2 [(0, .inr (.inr (some 94))), (1, .inl l1)] m P := by
  intro d w S Q hd hw hS hm HQ
  subst hm
  refine zw_push hm_212 dX12_findDirty_2 (v := .inl l1) rfl ?_
  refine zw_push hm_212 dX12_findDirty_3 (v := .inr (.inr (some 94))) rfl ?_
  refine zw_gf hm_212 dX12_findDirty_4 (v := .inr (.inr (some 117))) (zT_is hS s_94) (zT_t hS s_94) rfl f_12_83_12 (zT_f hS r_94_66) ?_
  refine zw_len hm_212 dX12_findDirty_7 (v := (512 : Int32)) (zT_is hS s_117) (zT_h hS s_117) rfl rfl ?_
  refine zw_if2 hm_212 dX12_findDirty_8 (t := 24) rfl zc2_ge ?_ ?_
  · intro hc
    rw [if_pos hc] at h
    refine zw_push hm_212 dX12_findDirty_24 (v := .inl (0 : Int32)) rfl ?_
    refine zw_sto hm_212 dX12_findDirty_25 [(1, .inl (0 : Int32)), (0, .inr (.inr (some 94)))] rfl rfl rfl ?_
    exact zw_sub (ma_nd_of (ks := [0, 1]) rfl (by decide)) (ma_nd_of (ks := [1, 0]) rfl (by decide)) (ma_le_cons rfl (ma_le_cons rfl (ma_le_nil _))) (h d w _ Q (by omega) (by omega) hS rfl HQ)
  · intro hc
    rw [if_neg hc] at h
    refine zw_push hm_212 dX12_findDirty_11 (v := .inr (.inr (some 94))) rfl ?_
    refine zw_gf hm_212 dX12_findDirty_12 (v := .inr (.inr (some 117))) (zT_is hS s_94) (zT_t hS s_94) rfl f_12_83_12 (zT_f hS r_94_66) ?_
    refine zw_push hm_212 dX12_findDirty_15 (v := .inl l1) rfl ?_
    refine zw_push hm_212 dX12_findDirty_16 (v := .inl (0 : Int32)) rfl ?_
    obtain ⟨hg, h⟩ := h
    refine zw_bas22l hm_212 dX12_findDirty_17 (hx := by decide) (yv := (0 : Int32)) (zT_is hS s_117) (zT_h hS s_117) rfl hg ?_
    refine zw_sto hm_212 dX12_findDirty_18 [(1, .inl (l1 + (1 : Int32))), (0, .inr (.inr (some 94)))] rfl rfl rfl ?_
    refine zw_goto hm_212 dX12_findDirty_21 (t := 2) rfl ?_
    exact zw_sub (ma_nd_of (ks := [0, 1]) rfl (by decide)) (ma_nd_of (ks := [1, 0]) rfl (by decide)) (ma_le_cons rfl (ma_le_cons rfl (ma_le_nil _))) (h d w _ Q (by omega) (by omega) (zT_pi hS) rfl HQ)
theorem g_212_26 {X : Nat × (Nat → Int32)} {m : Nat → Nat → Int32} {P : Option ma_V → (Nat → Nat → Int32) → Prop} (l1 : Int32) (h : if (3100 : Int32) ≤ l1 then (P none m) else ((0 ≤ l1 ∧ l1.toNatClampNeg < 3100) ∧ (if (m 99 l1.toNatClampNeg) = 0 then (zm X 2 44 212 26 [(0, .inr (.inr (some 94))), (1, .inl (l1 + (1 : Int32)))] m P) else ((0 ≤ l1 ∧ l1.toNatClampNeg < 3100) ∧ (if (m 94 14) ≤ (m 103 l1.toNatClampNeg) then (zm X 2 44 212 26 [(0, .inr (.inr (some 94))), (1, .inl (l1 + (1 : Int32)))] m P) else (zm X 2 44 212 55 [(0, .inr (.inr (some 94))), (1, .inl l1), (2, .inl (0 : Int32))] m P)))))) : zm X 2 44 212 26 [(0, .inr (.inr (some 94))), (1, .inl l1)] m P := by
  intro d w S Q hd hw hS hm HQ
  subst hm
  refine zw_push hm_212 dX12_findDirty_26 (v := .inl l1) rfl ?_
  refine zw_push hm_212 dX12_findDirty_27 (v := .inl (3100 : Int32)) rfl ?_
  refine zw_if2 hm_212 dX12_findDirty_30 (t := 108) rfl zc2_ge ?_ ?_
  · intro hc
    rw [if_pos hc] at h
    exact zw_vret hm_212 dX12_findDirty_108 (HQ _ _ h)
  · intro hc
    rw [if_neg hc] at h
    refine zw_push hm_212 dX12_findDirty_33 (v := .inr (.inr (some 94))) rfl ?_
    refine zw_gf hm_212 dX12_findDirty_34 (v := .inr (.inr (some 99))) (zT_is hS s_94) (zT_t hS s_94) rfl f_12_27_12 (zT_f hS r_94_31) ?_
    refine zw_push hm_212 dX12_findDirty_37 (v := .inl l1) rfl ?_
    obtain ⟨hg, h⟩ := h
    refine zw_ba hm_212 dX12_findDirty_38 (zT_is hS s_99) (zT_h hS s_99) rfl rfl hg ?_
    show ma_wp X d w 212 39 [(0, .inr (.inr (some 94))), (1, .inl l1)] [.inl ((mI S) 99 l1.toNatClampNeg)] S _
    refine zw_if0 hm_212 dX12_findDirty_39 (t := 102) rfl zc0_eq ?_ ?_
    · intro hc
      rw [if_pos hc] at h
      refine zw_sto hm_212 dX12_findDirty_102 [(1, .inl (l1 + (1 : Int32))), (0, .inr (.inr (some 94)))] rfl rfl rfl ?_
      refine zw_goto hm_212 dX12_findDirty_105 (t := 26) rfl ?_
      exact zw_sub (ma_nd_of (ks := [0, 1]) rfl (by decide)) (ma_nd_of (ks := [1, 0]) rfl (by decide)) (ma_le_cons rfl (ma_le_cons rfl (ma_le_nil _))) (h d w _ Q (by omega) (by omega) hS rfl HQ)
    · intro hc
      rw [if_neg hc] at h
      refine zw_push hm_212 dX12_findDirty_42 (v := .inr (.inr (some 94))) rfl ?_
      refine zw_push hm_212 dX12_findDirty_43 (v := .inl l1) rfl ?_
      refine zw_cv hm_212 dX12_findDirty_44 v_12_314_12 hm_196 [.inl l1] [] rfl (zT_rt hS s_94 rfl) ⟨by omega, by omega⟩ rfl ?_
      show ma_wp X (d - 1) (w - 21) 196 0 [(0, .inr (.inr (some 94))), (1, .inl l1)] [] S _
      refine zw_push hm_196 dX12_isOld_0 (v := .inr (.inr (some 94))) rfl ?_
      refine zw_gf hm_196 dX12_isOld_1 (v := .inr (.inr (some 103))) (zT_is hS s_94) (zT_t hS s_94) rfl f_12_40_12 (zT_f hS r_94_35) ?_
      refine zw_push hm_196 dX12_isOld_4 (v := .inl l1) rfl ?_
      obtain ⟨hg, h⟩ := h
      refine zw_ia hm_196 dX12_isOld_5 (zT_is hS s_103) (zT_h hS s_103) rfl hg ?_
      show ma_wp X (d - 1) (w - 21) 196 6 [(0, .inr (.inr (some 94))), (1, .inl l1)] [.inl ((mI S) 103 l1.toNatClampNeg)] S _
      refine zw_push hm_196 dX12_isOld_6 (v := .inr (.inr (some 94))) rfl ?_
      refine zw_gf hm_196 dX12_isOld_7 (v := .inl ((mI S) 94 14)) (zT_is hS s_94) (zT_t hS s_94) rfl f_12_210_12 rfl ?_
      refine zw_if2 hm_196 dX12_isOld_10 (t := 17) rfl zc2_ge ?_ ?_
      · intro hc
        rw [if_pos hc] at h
        refine zw_push hm_196 dX12_isOld_17 (v := .inl (0 : Int32)) rfl ?_
        refine zw_bret hm_196 dX12_isOld_18 (by decide) ?_
        show ma_wp X d w 212 47 [(0, .inr (.inr (some 94))), (1, .inl l1)] [.inl (0 : Int32)] S _
        refine zw_if0 hm_212 dX12_findDirty_47 (t := 53) rfl zc0_ne (fun hc => absurd hc (by decide)) (fun _ => ?_)
        refine zw_goto hm_212 dX12_findDirty_50 (t := 102) rfl ?_
        refine zw_sto hm_212 dX12_findDirty_102 [(1, .inl (l1 + (1 : Int32))), (0, .inr (.inr (some 94)))] rfl rfl rfl ?_
        refine zw_goto hm_212 dX12_findDirty_105 (t := 26) rfl ?_
        exact zw_sub (ma_nd_of (ks := [0, 1]) rfl (by decide)) (ma_nd_of (ks := [1, 0]) rfl (by decide)) (ma_le_cons rfl (ma_le_cons rfl (ma_le_nil _))) (h d w _ Q (by omega) (by omega) hS rfl HQ)
      · intro hc
        rw [if_neg hc] at h
        refine zw_push hm_196 dX12_isOld_13 (v := .inl (1 : Int32)) rfl ?_
        refine zw_goto hm_196 dX12_isOld_14 (t := 18) rfl ?_
        refine zw_bret hm_196 dX12_isOld_18 (by decide) ?_
        show ma_wp X d w 212 47 [(0, .inr (.inr (some 94))), (1, .inl l1)] [.inl (1 : Int32)] S _
        refine zw_if0 hm_212 dX12_findDirty_47 (t := 53) rfl zc0_ne (fun _ => ?_) (fun hc => absurd (by decide) hc)
        refine zw_push hm_212 dX12_findDirty_53 (v := .inl (0 : Int32)) rfl ?_
        refine zw_sto hm_212 dX12_findDirty_54 [(2, .inl (0 : Int32)), (0, .inr (.inr (some 94))), (1, .inl l1)] rfl rfl rfl ?_
        exact zw_sub (ma_nd_of (ks := [0, 1, 2]) rfl (by decide)) (ma_nd_of (ks := [2, 0, 1]) rfl (by decide)) (ma_le_cons rfl (ma_le_cons rfl (ma_le_cons rfl (ma_le_nil _)))) (h d w _ Q (by omega) (by omega) hS rfl HQ)
theorem g_212_55 {X : Nat × (Nat → Int32)} {m : Nat → Nat → Int32} {P : Option ma_V → (Nat → Nat → Int32) → Prop} (l1 : Int32) (l2 : Int32) (h : (0 ≤ l1 ∧ l1.toNatClampNeg < 3100) ∧ (if (m 102 l1.toNatClampNeg) ≤ l2 then (zm X 2 44 212 26 [(0, .inr (.inr (some 94))), (1, .inl (l1 + (1 : Int32)))] m P) else (zm X 1 22 192 0 [(0, .inr (.inr (some 94))), (1, .inl l1), (2, .inl l2)] m (zmi (fun v2 m1 => if v2 < 0 then (zm X 2 44 212 55 [(0, .inr (.inr (some 94))), (1, .inl l1), (2, .inl (l2 + (1 : Int32)))] m1 P) else ((0 ≤ v2 ∧ v2.toNatClampNeg < 3100) ∧ (if (m1 94 14) ≤ (m1 103 v2.toNatClampNeg) then ((0 ≤ l1 ∧ l1.toNatClampNeg < 3100) ∧ ((m1 94 16) ≠ 0 ∧ ((0 ≤ ((((m1 103 l1.toNatClampNeg) + (1 : Int32)) + l2) / (m1 94 16)) ∧ ((((m1 103 l1.toNatClampNeg) + (1 : Int32)) + l2) / (m1 94 16)).toNatClampNeg < 512) ∧ (zm X 2 44 212 55 [(0, .inr (.inr (some 94))), (1, .inl l1), (2, .inl (l2 + (1 : Int32)))] (ma_u m1 117 ((((m1 103 l1.toNatClampNeg) + (1 : Int32)) + l2) / (m1 94 16)).toNatClampNeg (1 : Int32)) P)))) else (zm X 2 44 212 55 [(0, .inr (.inr (some 94))), (1, .inl l1), (2, .inl (l2 + (1 : Int32)))] m1 P)))))))) : zm X 2 44 212 55 [(0, .inr (.inr (some 94))), (1, .inl l1), (2, .inl l2)] m P := by
  intro d w S Q hd hw hS hm HQ
  subst hm
  refine zw_push hm_212 dX12_findDirty_55 (v := .inl l2) rfl ?_
  refine zw_push hm_212 dX12_findDirty_56 (v := .inr (.inr (some 94))) rfl ?_
  refine zw_gf hm_212 dX12_findDirty_57 (v := .inr (.inr (some 102))) (zT_is hS s_94) (zT_t hS s_94) rfl f_12_37_12 (zT_f hS r_94_34) ?_
  refine zw_push hm_212 dX12_findDirty_60 (v := .inl l1) rfl ?_
  obtain ⟨hg, h⟩ := h
  refine zw_ia hm_212 dX12_findDirty_61 (zT_is hS s_102) (zT_h hS s_102) rfl hg ?_
  show ma_wp X d w 212 62 [(0, .inr (.inr (some 94))), (1, .inl l1), (2, .inl l2)] [.inl ((mI S) 102 l1.toNatClampNeg), .inl l2] S _
  refine zw_if2 hm_212 dX12_findDirty_62 (t := 102) rfl zc2_ge ?_ ?_
  · intro hc
    rw [if_pos hc] at h
    refine zw_sto hm_212 dX12_findDirty_102 [(1, .inl (l1 + (1 : Int32))), (0, .inr (.inr (some 94))), (2, .inl l2)] rfl rfl rfl ?_
    refine zw_goto hm_212 dX12_findDirty_105 (t := 26) rfl ?_
    exact zw_sub (ma_nd_of (ks := [0, 1]) rfl (by decide)) (ma_nd_of (ks := [1, 0, 2]) rfl (by decide)) (ma_le_cons rfl (ma_le_cons rfl (ma_le_nil _))) (h d w _ Q (by omega) (by omega) hS rfl HQ)
  · intro hc
    rw [if_neg hc] at h
    refine zw_push hm_212 dX12_findDirty_65 (v := .inr (.inr (some 94))) rfl ?_
    refine zw_push hm_212 dX12_findDirty_66 (v := .inl l1) rfl ?_
    refine zw_push hm_212 dX12_findDirty_67 (v := .inl l2) rfl ?_
    refine zw_cv hm_212 dX12_findDirty_68 v_12_294_12 hm_192 [.inl l2, .inl l1] [] rfl (zT_rt hS s_94 rfl) ⟨by omega, by omega⟩ rfl (h _ _ S _ (by omega) (by omega) hS rfl (fun o9 m1 hv => ?_))
    obtain ⟨v2, rfl, h⟩ := zmi_of hv
    show ma_wp X d w 212 71 [(0, .inr (.inr (some 94))), (1, .inl l1), (2, .inl l2)] [.inl v2] (zst S m1) _
    refine zw_sto hm_212 dX12_findDirty_71 [(3, .inl v2), (0, .inr (.inr (some 94))), (1, .inl l1), (2, .inl l2)] rfl rfl rfl ?_
    refine zw_push hm_212 dX12_findDirty_72 (v := .inl v2) rfl ?_
    refine zw_if0 hm_212 dX12_findDirty_73 (t := 96) rfl zc0_lt ?_ ?_
    · intro hc
      rw [if_pos hc] at h
      refine zw_sto hm_212 dX12_findDirty_96 [(2, .inl (l2 + (1 : Int32))), (3, .inl v2), (0, .inr (.inr (some 94))), (1, .inl l1)] rfl rfl rfl ?_
      refine zw_goto hm_212 dX12_findDirty_99 (t := 55) rfl ?_
      exact zw_sub (ma_nd_of (ks := [0, 1, 2]) rfl (by decide)) (ma_nd_of (ks := [2, 3, 0, 1]) rfl (by decide)) (ma_le_cons rfl (ma_le_cons rfl (ma_le_cons rfl (ma_le_nil _)))) (h d w _ Q (by omega) (by omega) (zT_zst hS m1) rfl HQ)
    · intro hc
      rw [if_neg hc] at h
      refine zw_push hm_212 dX12_findDirty_76 (v := .inr (.inr (some 94))) rfl ?_
      refine zw_push hm_212 dX12_findDirty_77 (v := .inl v2) rfl ?_
      refine zw_cv hm_212 dX12_findDirty_78 v_12_314_12 hm_196 [.inl v2] [] rfl (zT_rt (zT_zst hS m1) s_94 rfl) ⟨by omega, by omega⟩ rfl ?_
      show ma_wp X (d - 1) (w - 21) 196 0 [(0, .inr (.inr (some 94))), (1, .inl v2)] [] (zst S m1) _
      refine zw_push hm_196 dX12_isOld_0 (v := .inr (.inr (some 94))) rfl ?_
      refine zw_gf hm_196 dX12_isOld_1 (v := .inr (.inr (some 103))) (zT_is (zT_zst hS m1) s_94) (zT_t (zT_zst hS m1) s_94) rfl f_12_40_12 (zT_f (zT_zst hS m1) r_94_35) ?_
      refine zw_push hm_196 dX12_isOld_4 (v := .inl v2) rfl ?_
      obtain ⟨hg, h⟩ := h
      refine zw_ia hm_196 dX12_isOld_5 (zT_is (zT_zst hS m1) s_103) (zT_h (zT_zst hS m1) s_103) rfl hg ?_
      show ma_wp X (d - 1) (w - 21) 196 6 [(0, .inr (.inr (some 94))), (1, .inl v2)] [.inl (m1 103 v2.toNatClampNeg)] (zst S m1) _
      refine zw_push hm_196 dX12_isOld_6 (v := .inr (.inr (some 94))) rfl ?_
      refine zw_gf hm_196 dX12_isOld_7 (v := .inl (m1 94 14)) (zT_is (zT_zst hS m1) s_94) (zT_t (zT_zst hS m1) s_94) rfl f_12_210_12 rfl ?_
      refine zw_if2 hm_196 dX12_isOld_10 (t := 17) rfl zc2_ge ?_ ?_
      · intro hc
        rw [if_pos hc] at h
        refine zw_push hm_196 dX12_isOld_17 (v := .inl (0 : Int32)) rfl ?_
        refine zw_bret hm_196 dX12_isOld_18 (by decide) ?_
        show ma_wp X d w 212 81 [(3, .inl v2), (0, .inr (.inr (some 94))), (1, .inl l1), (2, .inl l2)] [.inl (0 : Int32)] (zst S m1) _
        refine zw_if0 hm_212 dX12_findDirty_81 (t := 96) rfl zc0_ne (fun hc => absurd hc (by decide)) (fun _ => ?_)
        refine zw_push hm_212 dX12_findDirty_84 (v := .inr (.inr (some 94))) rfl ?_
        refine zw_gf hm_212 dX12_findDirty_85 (v := .inr (.inr (some 117))) (zT_is (zT_zst hS m1) s_94) (zT_t (zT_zst hS m1) s_94) rfl f_12_83_12 (zT_f (zT_zst hS m1) r_94_66) ?_
        refine zw_push hm_212 dX12_findDirty_88 (v := .inr (.inr (some 94))) rfl ?_
        refine zw_push hm_212 dX12_findDirty_89 (v := .inl l1) rfl ?_
        refine zw_push hm_212 dX12_findDirty_90 (v := .inl l2) rfl ?_
        refine zw_cv hm_212 dX12_findDirty_91 v_12_375_12 hm_213 [.inl l2, .inl l1] [.inr (.inr (some 117))] rfl (zT_rt (zT_zst hS m1) s_94 rfl) ⟨by omega, by omega⟩ rfl ?_
        show ma_wp X (d - 1) (w - 22) 213 0 [(0, .inr (.inr (some 94))), (1, .inl l1), (2, .inl l2)] [] (zst S m1) _
        refine zw_push hm_213 dX12_cardOf_0 (v := .inr (.inr (some 94))) rfl ?_
        refine zw_gf hm_213 dX12_cardOf_1 (v := .inr (.inr (some 103))) (zT_is (zT_zst hS m1) s_94) (zT_t (zT_zst hS m1) s_94) rfl f_12_40_12 (zT_f (zT_zst hS m1) r_94_35) ?_
        refine zw_push hm_213 dX12_cardOf_4 (v := .inl l1) rfl ?_
        obtain ⟨hg, h⟩ := h
        refine zw_ia hm_213 dX12_cardOf_5 (zT_is (zT_zst hS m1) s_103) (zT_h (zT_zst hS m1) s_103) rfl hg ?_
        show ma_wp X (d - 1) (w - 22) 213 6 [(0, .inr (.inr (some 94))), (1, .inl l1), (2, .inl l2)] [.inl (m1 103 l1.toNatClampNeg)] (zst S m1) _
        refine zw_push hm_213 dX12_cardOf_6 (v := .inl (1 : Int32)) rfl ?_
        refine zw_stk hm_213 dX12_cardOf_7 (st₉ := [.inl ((m1 103 l1.toNatClampNeg) + (1 : Int32))]) rfl rfl ?_
        refine zw_push hm_213 dX12_cardOf_8 (v := .inl l2) rfl ?_
        refine zw_stk hm_213 dX12_cardOf_9 (st₉ := [.inl (((m1 103 l1.toNatClampNeg) + (1 : Int32)) + l2)]) rfl rfl ?_
        refine zw_push hm_213 dX12_cardOf_10 (v := .inr (.inr (some 94))) rfl ?_
        refine zw_gf hm_213 dX12_cardOf_11 (v := .inl (m1 94 16)) (zT_is (zT_zst hS m1) s_94) (zT_t (zT_zst hS m1) s_94) rfl f_12_216_12 rfl ?_
        obtain ⟨hg, h⟩ := h
        refine zw_stk hm_213 dX12_cardOf_14 (st₉ := [.inl ((((m1 103 l1.toNatClampNeg) + (1 : Int32)) + l2) / (m1 94 16))]) rfl (if_neg hg) ?_
        refine zw_iret hm_213 dX12_cardOf_15 ?_
        show ma_wp X d w 212 94 [(3, .inl v2), (0, .inr (.inr (some 94))), (1, .inl l1), (2, .inl l2)] [.inl ((((m1 103 l1.toNatClampNeg) + (1 : Int32)) + l2) / (m1 94 16)), .inr (.inr (some 117))] (zst S m1) _
        refine zw_push hm_212 dX12_findDirty_94 (v := .inl (1 : Int32)) rfl ?_
        obtain ⟨hg, h⟩ := h
        refine zw_bas22l hm_212 dX12_findDirty_95 (hx := by decide) (yv := (1 : Int32)) (zT_is (zT_zst hS m1) s_117) (zT_h (zT_zst hS m1) s_117) rfl hg ?_
        refine zw_sto hm_212 dX12_findDirty_96 [(2, .inl (l2 + (1 : Int32))), (3, .inl v2), (0, .inr (.inr (some 94))), (1, .inl l1)] rfl rfl rfl ?_
        refine zw_goto hm_212 dX12_findDirty_99 (t := 55) rfl ?_
        exact zw_sub (ma_nd_of (ks := [0, 1, 2]) rfl (by decide)) (ma_nd_of (ks := [2, 3, 0, 1]) rfl (by decide)) (ma_le_cons rfl (ma_le_cons rfl (ma_le_cons rfl (ma_le_nil _)))) (h d w _ Q (by omega) (by omega) (zT_pi (zT_zst hS m1)) rfl HQ)
      · intro hc
        rw [if_neg hc] at h
        refine zw_push hm_196 dX12_isOld_13 (v := .inl (1 : Int32)) rfl ?_
        refine zw_goto hm_196 dX12_isOld_14 (t := 18) rfl ?_
        refine zw_bret hm_196 dX12_isOld_18 (by decide) ?_
        show ma_wp X d w 212 81 [(3, .inl v2), (0, .inr (.inr (some 94))), (1, .inl l1), (2, .inl l2)] [.inl (1 : Int32)] (zst S m1) _
        refine zw_if0 hm_212 dX12_findDirty_81 (t := 96) rfl zc0_ne (fun _ => ?_) (fun hc => absurd (by decide) hc)
        refine zw_sto hm_212 dX12_findDirty_96 [(2, .inl (l2 + (1 : Int32))), (3, .inl v2), (0, .inr (.inr (some 94))), (1, .inl l1)] rfl rfl rfl ?_
        refine zw_goto hm_212 dX12_findDirty_99 (t := 55) rfl ?_
        exact zw_sub (ma_nd_of (ks := [0, 1, 2]) rfl (by decide)) (ma_nd_of (ks := [2, 3, 0, 1]) rfl (by decide)) (ma_le_cons rfl (ma_le_cons rfl (ma_le_cons rfl (ma_le_nil _)))) (h d w _ Q (by omega) (by omega) (zT_zst hS m1) rfl HQ)
theorem lp_212_55 {X : Nat × (Nat → Int32)} {P : Option ma_V → (Nat → Nat → Int32) → Prop} {m0 : Nat → Nat → Int32} (h0 : zV m0) (K : ∀ m₉, zF wr_212 m0 m₉ → zV m₉ → (zDC (m₉ 94 14).toInt (m₉ 94 16).toInt (m₉ 99) (m₉ 103) (m₉ 102) (m₉ 98) (m₉ 101) (m₉ 108) (m₉ 117)) → P none m₉) {n26 : Nat} (OUT26 : ∀ (m₉ : Nat → Nat → Int32) (l1 : Int32), (3100 - l1.toInt).toNat < n26 → zF wr_212 m0 m₉ → zV m₉ → (0 ≤ l1.toInt) → (zW (m₉ 94 7) (m₉ 98) (m₉ 101) (m₉ 102) (m₉ 108)) → (4 ≤ (m₉ 94 16).toInt) → (zDCu (m₉ 94 14).toInt (m₉ 94 16).toInt (m₉ 99) (m₉ 103) (m₉ 102) (m₉ 98) (m₉ 101) (m₉ 108) (m₉ 117) l1.toNatClampNeg 0) → zm X 2 44 212 26 [(0, .inr (.inr (some 94))), (1, .inl l1)] m₉ P) : ∀ (n : Nat) (m : Nat → Nat → Int32) (l1 : Int32) (l2 : Int32), (61 - l2.toInt).toNat = n → zF wr_212 m0 m → zV m → (0 ≤ l1.toInt) → (l1.toInt ≤ 3099) → (0 ≤ l2.toInt) → ((3100 - l1.toInt).toNat = n26) → (zW (m 94 7) (m 98) (m 101) (m 102) (m 108)) → (4 ≤ (m 94 16).toInt) → ((m 99) l1.toNatClampNeg ≠ 0) → ((m 103 l1.toNatClampNeg).toInt < (m 94 14).toInt) → (zDCu (m 94 14).toInt (m 94 16).toInt (m 99) (m 103) (m 102) (m 98) (m 101) (m 108) (m 117) l1.toNatClampNeg l2.toNatClampNeg) → zm X 2 44 212 55 [(0, .inr (.inr (some 94))), (1, .inl l1), (2, .inl l2)] m P := by
  intro n
  induction n using Nat.strongRecOn with
  | _ n IH =>
    intro m l1 l2 hmu hF hV hi0 hi1 hi2 hi3 r_W hi5 r_UO hi7 r_DCu
    refine g_212_55 l1 l2 ?_
    have f1 : 0 ≤ (m 94 16).toInt ∧ (m 94 16).toInt ≤ 64 := rs_94_16 (m := m) hV
    have b2 := i_bd l1
    first | have f3 : 0 ≤ (m 103 l1.toNatClampNeg).toInt ∧ (m 103 l1.toNatClampNeg).toInt ≤ 4599 := ra_103 (m := m) hV (k := l1.toNatClampNeg) (i_ix (n := 3100) (by omega) (by omega)).2 | have b4 := i_bd (m 103 l1.toNatClampNeg)
    have f5 : 0 ≤ (m 94 14).toInt ∧ (m 94 14).toInt ≤ 1500 := rs_94_14 (m := m) hV
    have hg6 : (0 ≤ l1 ∧ l1.toNatClampNeg < 3100) := i_ix (by omega) (by omega)
    refine ⟨hg6, ?_⟩
    first | have f7 : 0 ≤ (m 102 l1.toNatClampNeg).toInt ∧ (m 102 l1.toNatClampNeg).toInt ≤ 60 := ra_102 (m := m) hV (k := l1.toNatClampNeg) (i_ix (n := 3100) (by omega) (by omega)).2 | have b8 := i_bd (m 102 l1.toNatClampNeg)
    have b9 := i_bd l2
    refine zd (fun (h10 : (m 102 l1.toNatClampNeg) ≤ l2) => ?_) (fun (h10 : ¬ (m 102 l1.toNatClampNeg) ≤ l2) => ?_)
    · skip
      have g11 := i_le h10
      first | have e12 : (l1 + (1 : Int32)).toInt = l1.toInt + (1) := i_addk rfl (by omega) (by omega) | have b13 := i_bd (l1 + (1 : Int32))
      exact OUT26 _ ((l1 + (1 : Int32))) (show (3100 - (l1 + (1 : Int32)).toInt).toNat < n26 from by omega) hF hV (by omega) r_W (show 4 ≤ (m 94 16).toInt from by omega) (show zDCu (m 94 14).toInt (m 94 16).toInt (m 99) (m 103) (m 102) (m 98) (m 101) (m 108) (m 117) (l1 + (1 : Int32)).toNatClampNeg 0 from by first | (exact DCu_next r_DCu (by rw [tn_cast (x := l2) (by omega)]; omega) (tn_succ (by omega) (by omega))) | (exfalso; omega; done) | (exfalso; contradiction; done))
    · skip
      have g14 := i_nle h10
      refine sp_192 (l1) (l2) hV (by omega) (by omega) (by omega) (show l2.toInt < (m 102 l1.toNatClampNeg).toInt from by omega) (fun v2 m1 hV_m1 p0_m1 => zmi_n ?_)
      have p0_m1 : v2 = zrf (m 98) (m 101) (m 108) l1.toNatClampNeg l2.toNatClampNeg := p0_m1
      try have := W_ref r_W (by omega) (by omega) (by omega) (by omega) p0_m1
      have b15 := i_bd v2
      have li16 : (0 : Int32).toInt = 0 := rfl
      refine zd (fun (h17 : v2 < (0 : Int32)) => ?_) (fun (h17 : ¬ v2 < (0 : Int32)) => ?_)
      · skip
        have g18 := i_lt h17
        first | have e19 : (l2 + (1 : Int32)).toInt = l2.toInt + (1) := i_addk rfl (by omega) (by omega) | have b20 := i_bd (l2 + (1 : Int32))
        exact IH (61 - (l2 + (1 : Int32)).toInt).toNat (by omega) _ (l1) ((l2 + (1 : Int32))) rfl (zF_zov hF ws_192_212) hV_m1 (by omega) (by omega) (by omega) (show (3100 - l1.toInt).toNat = n26 from by omega) r_W (show 4 ≤ (m 94 16).toInt from by omega) r_UO (show (m 103 l1.toNatClampNeg).toInt < (m 94 14).toInt from by omega) (show zDCu (m 94 14).toInt (m 94 16).toInt (m 99) (m 103) (m 102) (m 98) (m 101) (m 108) (m 117) l1.toNatClampNeg (l2 + (1 : Int32)).toNatClampNeg from by first | (exact DCu_adv r_DCu (Or.inl (by rw [← p0_m1]; omega)) (tn_succ (by omega) (by omega))) | (exact DCu_adv r_DCu (Or.inr (Or.inl (by rw [← p0_m1]; omega))) (tn_succ (by omega) (by omega))) | (exfalso; omega; done) | (exfalso; contradiction; done))
      · skip
        have g21 := i_nlt h17
        have hg22 : (0 ≤ v2 ∧ v2.toNatClampNeg < 3100) := i_ix (by omega) (by omega)
        refine ⟨hg22, ?_⟩
        first | have f23 : 0 ≤ (m 103 v2.toNatClampNeg).toInt ∧ (m 103 v2.toNatClampNeg).toInt ≤ 4599 := ra_103 (m := m) hV (k := v2.toNatClampNeg) (i_ix (n := 3100) (by omega) (by omega)).2 | have b24 := i_bd (m 103 v2.toNatClampNeg)
        refine zd (fun (h25 : (m 94 14) ≤ (m 103 v2.toNatClampNeg)) => ?_) (fun (h25 : ¬ (m 94 14) ≤ (m 103 v2.toNatClampNeg)) => ?_)
        · skip
          have g26 := i_le h25
          have hg27 : (0 ≤ l1 ∧ l1.toNatClampNeg < 3100) := i_ix (by omega) (by omega)
          refine ⟨hg27, ?_⟩
          have hg28 : (m 94 16) ≠ 0 := i_nz (by omega)
          refine ⟨hg28, ?_⟩
          first | have e29 : ((m 103 l1.toNatClampNeg) + (1 : Int32)).toInt = (m 103 l1.toNatClampNeg).toInt + (1) := i_addk rfl (by omega) (by omega) | have b30 := i_bd ((m 103 l1.toNatClampNeg) + (1 : Int32))
          first | have e31 : (((m 103 l1.toNatClampNeg) + (1 : Int32)) + l2).toInt = ((m 103 l1.toNatClampNeg) + (1 : Int32)).toInt + l2.toInt := i_add (by omega) (by omega) | have b32 := i_bd (((m 103 l1.toNatClampNeg) + (1 : Int32)) + l2)
          first | have f33 := i_div (x := (((m 103 l1.toNatClampNeg) + (1 : Int32)) + l2)) (y := (m 94 16)) (by omega) (by omega) | have b34 := i_bd ((((m 103 l1.toNatClampNeg) + (1 : Int32)) + l2) / (m 94 16))
          try have dv : 0 ≤ (((((m 103 l1.toNatClampNeg) + (1 : Int32)) + l2) / (m 94 16))).toInt ∧ (((((m 103 l1.toNatClampNeg) + (1 : Int32)) + l2) / (m 94 16))).toInt ≤ 499 := i_div4 (by omega) (by omega) (by omega)
          have hg35 : (0 ≤ ((((m 103 l1.toNatClampNeg) + (1 : Int32)) + l2) / (m 94 16)) ∧ ((((m 103 l1.toNatClampNeg) + (1 : Int32)) + l2) / (m 94 16)).toNatClampNeg < 512) := i_ix (by omega) (by omega)
          refine ⟨hg35, ?_⟩
          have li37 : (1 : Int32).toInt = 1 := rfl
          have hV36 : zV (ma_u (zov wr_192 m m1) 117 ((((m 103 l1.toNatClampNeg) + (1 : Int32)) + l2) / (m 94 16)).toNatClampNeg (1 : Int32)) := ua_117 hV_m1 (by omega) (by omega)
          first | have e38 : (l2 + (1 : Int32)).toInt = l2.toInt + (1) := i_addk rfl (by omega) (by omega) | have b39 := i_bd (l2 + (1 : Int32))
          exact IH (61 - (l2 + (1 : Int32)).toInt).toNat (by omega) _ (l1) ((l2 + (1 : Int32))) rfl (zF_u (zF_zov hF ws_192_212) rfl) hV36 (by omega) (by omega) (by omega) (show (3100 - l1.toInt).toNat = n26 from by omega) r_W (show 4 ≤ (m 94 16).toInt from by omega) r_UO (show (m 103 l1.toNatClampNeg).toInt < (m 94 14).toInt from by omega) (show zDCu (m 94 14).toInt (m 94 16).toInt (m 99) (m 103) (m 102) (m 98) (m 101) (m 108) ((ma_u m 117 ((((m 103 l1.toNatClampNeg) + (1 : Int32)) + l2) / (m 94 16)).toNatClampNeg (1 : Int32)) 117) l1.toNatClampNeg (l2 + (1 : Int32)).toNatClampNeg from by first | (exact DCu_adv (DCu_put r_DCu (by decide)) (Or.inr (Or.inr (by rw [← card_ix (by omega) (by omega) (by omega) (by omega) (by omega), mu_self]; decide))) (tn_succ (by omega) (by omega))) | (exfalso; omega; done) | (exfalso; contradiction; done))
        · skip
          have g40 := i_nle h25
          first | have e41 : (l2 + (1 : Int32)).toInt = l2.toInt + (1) := i_addk rfl (by omega) (by omega) | have b42 := i_bd (l2 + (1 : Int32))
          exact IH (61 - (l2 + (1 : Int32)).toInt).toNat (by omega) _ (l1) ((l2 + (1 : Int32))) rfl (zF_zov hF ws_192_212) hV_m1 (by omega) (by omega) (by omega) (show (3100 - l1.toInt).toNat = n26 from by omega) r_W (show 4 ≤ (m 94 16).toInt from by omega) r_UO (show (m 103 l1.toNatClampNeg).toInt < (m 94 14).toInt from by omega) (show zDCu (m 94 14).toInt (m 94 16).toInt (m 99) (m 103) (m 102) (m 98) (m 101) (m 108) (m 117) l1.toNatClampNeg (l2 + (1 : Int32)).toNatClampNeg from by first | (exact DCu_adv r_DCu (Or.inr (Or.inl (by rw [← p0_m1]; omega))) (tn_succ (by omega) (by omega))) | (exact DCu_adv r_DCu (Or.inl (by rw [← p0_m1]; omega)) (tn_succ (by omega) (by omega))) | (exfalso; omega; done) | (exfalso; contradiction; done))
theorem lp_212_26 {X : Nat × (Nat → Int32)} {P : Option ma_V → (Nat → Nat → Int32) → Prop} {m0 : Nat → Nat → Int32} (h0 : zV m0) (K : ∀ m₉, zF wr_212 m0 m₉ → zV m₉ → (zDC (m₉ 94 14).toInt (m₉ 94 16).toInt (m₉ 99) (m₉ 103) (m₉ 102) (m₉ 98) (m₉ 101) (m₉ 108) (m₉ 117)) → P none m₉) : ∀ (n : Nat) (m : Nat → Nat → Int32) (l1 : Int32), (3100 - l1.toInt).toNat = n → zF wr_212 m0 m → zV m → (0 ≤ l1.toInt) → (zW (m 94 7) (m 98) (m 101) (m 102) (m 108)) → (4 ≤ (m 94 16).toInt) → (zDCu (m 94 14).toInt (m 94 16).toInt (m 99) (m 103) (m 102) (m 98) (m 101) (m 108) (m 117) l1.toNatClampNeg 0) → zm X 2 44 212 26 [(0, .inr (.inr (some 94))), (1, .inl l1)] m P := by
  intro n
  induction n using Nat.strongRecOn with
  | _ n IH =>
    intro m l1 hmu hF hV hi0 r_W hi2 r_DCu
    refine g_212_26 l1 ?_
    have f1 : 0 ≤ (m 94 16).toInt ∧ (m 94 16).toInt ≤ 64 := rs_94_16 (m := m) hV
    have li2 : (3100 : Int32).toInt = 3100 := rfl
    have b3 := i_bd l1
    refine zd (fun (h4 : (3100 : Int32) ≤ l1) => ?_) (fun (h4 : ¬ (3100 : Int32) ≤ l1) => ?_)
    · skip
      have g5 := i_le h4
      exact K _ hF hV (show zDC (m 94 14).toInt (m 94 16).toInt (m 99) (m 103) (m 102) (m 98) (m 101) (m 108) (m 117) from by first | (exact DCu_end r_DCu (by rw [tn_eq]; omega)) | (exfalso; omega; done) | (exfalso; contradiction; done))
    · skip
      have g6 := i_nle h4
      have hg7 : (0 ≤ l1 ∧ l1.toNatClampNeg < 3100) := i_ix (by omega) (by omega)
      refine ⟨hg7, ?_⟩
      first | have f8 : 0 ≤ (m 99 l1.toNatClampNeg).toInt ∧ (m 99 l1.toNatClampNeg).toInt ≤ 1 := ra_99 (m := m) hV (k := l1.toNatClampNeg) (i_ix (n := 3100) (by omega) (by omega)).2 | have b9 := i_bd (m 99 l1.toNatClampNeg)
      have li10 : (0 : Int32).toInt = 0 := rfl
      refine zd (fun (h11 : (m 99 l1.toNatClampNeg) = (0 : Int32)) => ?_) (fun (h11 : ¬ (m 99 l1.toNatClampNeg) = (0 : Int32)) => ?_)
      · skip
        have g12 := i_eq h11
        first | have e13 : (l1 + (1 : Int32)).toInt = l1.toInt + (1) := i_addk rfl (by omega) (by omega) | have b14 := i_bd (l1 + (1 : Int32))
        exact IH (3100 - (l1 + (1 : Int32)).toInt).toNat (by omega) _ ((l1 + (1 : Int32))) rfl hF hV (by omega) r_W (show 4 ≤ (m 94 16).toInt from by omega) (show zDCu (m 94 14).toInt (m 94 16).toInt (m 99) (m 103) (m 102) (m 98) (m 101) (m 108) (m 117) (l1 + (1 : Int32)).toNatClampNeg 0 from by first | (exact DCu_skip r_DCu (Or.inl (by assumption)) (tn_succ (by omega) (by omega))) | (exact DCu_skip r_DCu (Or.inr (by omega)) (tn_succ (by omega) (by omega))) | (exfalso; omega; done) | (exfalso; contradiction; done))
      · skip
        have g15 := i_ne h11
        have hg16 : (0 ≤ l1 ∧ l1.toNatClampNeg < 3100) := i_ix (by omega) (by omega)
        refine ⟨hg16, ?_⟩
        have f17 : 0 ≤ (m 94 14).toInt ∧ (m 94 14).toInt ≤ 1500 := rs_94_14 (m := m) hV
        first | have f18 : 0 ≤ (m 103 l1.toNatClampNeg).toInt ∧ (m 103 l1.toNatClampNeg).toInt ≤ 4599 := ra_103 (m := m) hV (k := l1.toNatClampNeg) (i_ix (n := 3100) (by omega) (by omega)).2 | have b19 := i_bd (m 103 l1.toNatClampNeg)
        refine zd (fun (h20 : (m 94 14) ≤ (m 103 l1.toNatClampNeg)) => ?_) (fun (h20 : ¬ (m 94 14) ≤ (m 103 l1.toNatClampNeg)) => ?_)
        · skip
          have g21 := i_le h20
          first | have e22 : (l1 + (1 : Int32)).toInt = l1.toInt + (1) := i_addk rfl (by omega) (by omega) | have b23 := i_bd (l1 + (1 : Int32))
          exact IH (3100 - (l1 + (1 : Int32)).toInt).toNat (by omega) _ ((l1 + (1 : Int32))) rfl hF hV (by omega) r_W (show 4 ≤ (m 94 16).toInt from by omega) (show zDCu (m 94 14).toInt (m 94 16).toInt (m 99) (m 103) (m 102) (m 98) (m 101) (m 108) (m 117) (l1 + (1 : Int32)).toNatClampNeg 0 from by first | (exact DCu_skip r_DCu (Or.inr (by omega)) (tn_succ (by omega) (by omega))) | (exact DCu_skip r_DCu (Or.inl (by assumption)) (tn_succ (by omega) (by omega))) | (exfalso; omega; done) | (exfalso; contradiction; done))
        · skip
          have g24 := i_nle h20
          exact lp_212_55 h0 K (fun _ _ z1 z2 z3 y0 y1 y2 y3 => IH _ z1 _ _ rfl z2 z3 y0 y1 y2 y3) _ _ (l1) ((0 : Int32)) rfl hF hV (by omega) (by omega) (by omega) (show (3100 - l1.toInt).toNat = n from by omega) r_W (show 4 ≤ (m 94 16).toInt from by omega) (show (m 99) l1.toNatClampNeg ≠ 0 from by first | (assumption; done) | (exfalso; omega; done) | (exfalso; contradiction; done)) (show (m 103 l1.toNatClampNeg).toInt < (m 94 14).toInt from by omega) (show zDCu (m 94 14).toInt (m 94 16).toInt (m 99) (m 103) (m 102) (m 98) (m 101) (m 108) (m 117) l1.toNatClampNeg (0 : Int32).toNatClampNeg from by first | (exact r_DCu) | (exfalso; omega; done) | (exfalso; contradiction; done))
theorem lp_212_2 {X : Nat × (Nat → Int32)} {P : Option ma_V → (Nat → Nat → Int32) → Prop} {m0 : Nat → Nat → Int32} (h0 : zV m0) (K : ∀ m₉, zF wr_212 m0 m₉ → zV m₉ → (zDC (m₉ 94 14).toInt (m₉ 94 16).toInt (m₉ 99) (m₉ 103) (m₉ 102) (m₉ 98) (m₉ 101) (m₉ 108) (m₉ 117)) → P none m₉) : ∀ (n : Nat) (m : Nat → Nat → Int32) (l1 : Int32), (512 - l1.toInt).toNat = n → zF wr_212 m0 m → zV m → (0 ≤ l1.toInt) → (zW (m 94 7) (m 98) (m 101) (m 102) (m 108)) → (4 ≤ (m 94 16).toInt) → zm X 2 44 212 2 [(0, .inr (.inr (some 94))), (1, .inl l1)] m P := by
  intro n
  induction n using Nat.strongRecOn with
  | _ n IH =>
    intro m l1 hmu hF hV hi0 r_W hi2
    refine g_212_2 l1 ?_
    have f1 : 0 ≤ (m 94 16).toInt ∧ (m 94 16).toInt ≤ 64 := rs_94_16 (m := m) hV
    have li2 : (512 : Int32).toInt = 512 := rfl
    have b3 := i_bd l1
    refine zd (fun (h4 : (512 : Int32) ≤ l1) => ?_) (fun (h4 : ¬ (512 : Int32) ≤ l1) => ?_)
    · skip
      have g5 := i_le h4
      have li6 : (0 : Int32).toInt = 0 := rfl
      exact lp_212_26 h0 K _ _ ((0 : Int32)) rfl hF hV (by omega) r_W (show 4 ≤ (m 94 16).toInt from by omega) (show zDCu (m 94 14).toInt (m 94 16).toInt (m 99) (m 103) (m 102) (m 98) (m 101) (m 108) (m 117) (0 : Int32).toNatClampNeg 0 from by first | (exact DCu_0) | (exfalso; omega; done) | (exfalso; contradiction; done))
    · skip
      have g7 := i_nle h4
      skip
      have hg8 : (0 ≤ l1 ∧ l1.toNatClampNeg < 512) := i_ix (by omega) (by omega)
      refine ⟨hg8, ?_⟩
      have li10 : (0 : Int32).toInt = 0 := rfl
      have hV9 : zV (ma_u m 117 l1.toNatClampNeg (0 : Int32)) := ua_117 hV (by omega) (by omega)
      first | have e11 : (l1 + (1 : Int32)).toInt = l1.toInt + (1) := i_addk rfl (by omega) (by omega) | have b12 := i_bd (l1 + (1 : Int32))
      exact IH (512 - (l1 + (1 : Int32)).toInt).toNat (by omega) _ ((l1 + (1 : Int32))) rfl (zF_u hF rfl) hV9 (by omega) r_W (show 4 ≤ (m 94 16).toInt from by omega)
theorem sp_212 {X : Nat × (Nat → Int32)} {P : Option ma_V → (Nat → Nat → Int32) → Prop} {m : Nat → Nat → Int32}  (hV : zV m) (r_W : zW (m 94 7) (m 98) (m 101) (m 102) (m 108)) (hpre1 : 4 ≤ (m 94 16).toInt) (KZ : ∀ m₉, zV (zov wr_212 m m₉) → (zDC (m 94 14).toInt (m 94 16).toInt (m 99) (m 103) (m 102) (m 98) (m 101) (m 108) (m₉ 117)) → P none (zov wr_212 m m₉)) : zm X 2 44 212 0 [(0, .inr (.inr (some 94)))] m P := by
  have K : ∀ m₉, zF wr_212 m m₉ → zV m₉ → (zDC (m₉ 94 14).toInt (m₉ 94 16).toInt (m₉ 99) (m₉ 103) (m₉ 102) (m₉ 98) (m₉ 101) (m₉ 108) (m₉ 117)) → P none m₉ := by
    intro m₉ hf z q0
    have e := zov_eq hf
    rw [e] at z ⊢
    try rw [e] at q0
    exact KZ m₉ z q0
  refine g_212_0  ?_
  have f1 : 0 ≤ (m 94 16).toInt ∧ (m 94 16).toInt ≤ 64 := rs_94_16 (m := m) hV
  have li2 : (0 : Int32).toInt = 0 := rfl
  exact lp_212_2 hV K _ _ ((0 : Int32)) rfl zF_rfl hV (by omega) r_W (show 4 ≤ (m 94 16).toInt from by omega)

/-! from 94.473 -/
/-! the reference (written by wip/tools/gen94m.py) -/
set_option maxRecDepth 100000 in
theorem hm_211 : ma_md 211 = some (12, yX12_major, cX12_major, 2, (some (FieldType.int))) := rfl
theorem v_12_378_12 : ma_vl 12 378 12 = some (1, 212, 0) := by decide +kernel
theorem dX12_major_0 : decode cX12_major 0 = .ok (.aload_n 0, 1) := by decide +kernel
theorem dX12_major_1 : decode cX12_major 1 = .ok (.invokevirtual 346, 3) := by decide +kernel
theorem dX12_major_4 : decode cX12_major 4 = .ok (.istore_n 1, 1) := by decide +kernel
theorem dX12_major_5 : decode cX12_major 5 = .ok (.aload_n 0, 1) := by decide +kernel
theorem dX12_major_6 : decode cX12_major 6 = .ok (.aload_n 0, 1) := by decide +kernel
theorem dX12_major_7 : decode cX12_major 7 = .ok (.aload_n 0, 1) := by decide +kernel
theorem dX12_major_11 : decode cX12_major 11 = .ok (.invokevirtual 349, 3) := by decide +kernel
theorem dX12_major_17 : decode cX12_major 17 = .ok (.aload_n 0, 1) := by decide +kernel
theorem dX12_major_18 : decode cX12_major 18 = .ok (.invokevirtual 378, 3) := by decide +kernel
theorem dX12_major_21 : decode cX12_major 21 = .ok (.iload_n 1, 1) := by decide +kernel
theorem dX12_major_22 : decode cX12_major 22 = .ok (.ireturn, 1) := by decide +kernel
theorem dX12_major_14 : decode cX12_major 14 = .ok (.putfield 279, 3) := by decide +kernel
theorem dX12_major_8 : decode cX12_major 8 = .ok (.getfield 210, 3) := by decide +kernel
def wr_211 (c k : Nat) : Bool := Nat.beq c 99 || Nat.beq c 103 || Nat.beq c 105 || Nat.beq c 109 || Nat.beq c 110 || Nat.beq c 111 || Nat.beq c 113 || Nat.beq c 114 || Nat.beq c 117 || Nat.beq c 118 || (Nat.beq c 94 && (Nat.beq k 44 || Nat.beq k 45 || Nat.beq k 47 || Nat.beq k 48 || Nat.beq k 49 || Nat.beq k 55 || Nat.beq k 60 || Nat.beq k 73))
theorem ws_187_211 : ∀ c k, wr_187 c k = true → wr_211 c k = true := by
  intro c k h
  simp only [wr_187, Bool.or_eq_true, Bool.and_eq_true, Nat.beq_eq] at h
  rcases h with (((((((rfl | rfl) | rfl) | rfl) | rfl) | rfl) | rfl) | rfl) | ⟨rfl, (((((rfl | rfl) | rfl) | rfl) | rfl) | rfl)⟩ <;> rfl
theorem ws_204_211 : ∀ c k, wr_204 c k = true → wr_211 c k = true := by
  intro c k h
  simp only [wr_204, Bool.or_eq_true, Bool.and_eq_true, Nat.beq_eq] at h
  rcases h with (rfl | rfl) | ⟨rfl, rfl⟩ <;> rfl
theorem ws_212_211 : ∀ c k, wr_212 c k = true → wr_211 c k = true := by
  intro c k h
  simp only [wr_212, wr_211, Bool.or_eq_true, Bool.and_eq_true, Nat.beq_eq] at h ⊢
  omega
theorem g_211_0 {X : Nat × (Nat → Int32)} {m : Nat → Nat → Int32} {P : Option ma_V → (Nat → Nat → Int32) → Prop}  (h : zm X 4 88 187 0 [(0, .inr (.inr (some 94)))] m (zmi (fun v2 m1 => zm X 2 43 204 0 [(0, .inr (.inr (some 94))), (1, .inl (m1 94 14))] m1 (zmi (fun v4 m3 => zm X 2 44 212 0 [(0, .inr (.inr (some 94)))] (ma_u m3 94 60 v4) (zmv (fun m5 => P (some (.inl v2)) m5))))))) : zm X 5 108 211 0 [(0, .inr (.inr (some 94)))] m P := by
  intro d w S Q hd hw hS hm HQ
  subst hm
  refine zw_push hm_211 dX12_major_0 (v := .inr (.inr (some 94))) rfl ?_
  refine zw_cv hm_211 dX12_major_1 v_12_346_12 hm_187 [] [] rfl (zT_rt hS s_94 rfl) ⟨by omega, by omega⟩ rfl (h _ _ S _ (by omega) (by omega) hS rfl (fun o9 m1 hv => ?_))
  obtain ⟨v2, rfl, h⟩ := zmi_of hv
  show ma_wp X d w 211 4 [(0, .inr (.inr (some 94)))] [.inl v2] (zst S m1) _
  refine zw_sto hm_211 dX12_major_4 [(1, .inl v2), (0, .inr (.inr (some 94)))] rfl rfl rfl ?_
  refine zw_push hm_211 dX12_major_5 (v := .inr (.inr (some 94))) rfl ?_
  refine zw_push hm_211 dX12_major_6 (v := .inr (.inr (some 94))) rfl ?_
  refine zw_push hm_211 dX12_major_7 (v := .inr (.inr (some 94))) rfl ?_
  refine zw_gf hm_211 dX12_major_8 (v := .inl (m1 94 14)) (zT_is (zT_zst hS m1) s_94) (zT_t (zT_zst hS m1) s_94) rfl f_12_210_12 rfl ?_
  refine zw_cv hm_211 dX12_major_11 v_12_349_12 hm_204 [.inl (m1 94 14)] [.inr (.inr (some 94))] rfl (zT_rt (zT_zst hS m1) s_94 rfl) ⟨by omega, by omega⟩ rfl (h _ _ (zst S m1) _ (by omega) (by omega) (zT_zst hS m1) rfl (fun o9 m3 hv => ?_))
  obtain ⟨v4, rfl, h⟩ := zmi_of hv
  show ma_wp X d w 211 14 [(1, .inl v2), (0, .inr (.inr (some 94)))] [.inl v4, .inr (.inr (some 94))] (zst S m3) _
  refine zw_pf hm_211 dX12_major_14 (zT_is (zT_zst hS m3) s_94) (zT_t (zT_zst hS m3) s_94) p_12_279_12 zk_int ?_
  refine zw_push hm_211 dX12_major_17 (v := .inr (.inr (some 94))) rfl ?_
  refine zw_cv hm_211 dX12_major_18 v_12_378_12 hm_212 [] [] rfl (zT_rt (zT_pi (zT_zst hS m3)) s_94 rfl) ⟨by omega, by omega⟩ rfl (h _ _ (ma_put (zst S m3) 94 60 (.inl v4)) _ (by omega) (by omega) (zT_pi (zT_zst hS m3)) rfl (fun o9 m5 hv => ?_))
  obtain ⟨rfl, h⟩ := zmv_of hv
  show ma_wp X d w 211 21 [(1, .inl v2), (0, .inr (.inr (some 94)))] [] (zst S m5) _
  refine zw_push hm_211 dX12_major_21 (v := .inl v2) rfl ?_
  exact zw_iret hm_211 dX12_major_22 (HQ _ _ h)
theorem sp_211 {X : Nat × (Nat → Int32)} {P : Option ma_V → (Nat → Nat → Int32) → Prop} {T : Nat} {m : Nat → Nat → Int32}  (hV : zV m) (r_W : zW (m 94 7) (m 98) (m 101) (m 102) (m 108)) (r_GW : zGW T (m 94 55) (m 109)) (r_GU : zGU T (m 94 46) (m 99)) (r_OW : zOw (m 99) (m 103) (m 111)) (r_DX : zDX (m 94 10) (m 99) (m 112) (m 113) (m 114) (m 94 55) (m 98) (m 101) (m 102) (m 108)) (r_HA : zHA (m 94 10) (m 94 11) (m 94 13) (m 94 14) (m 94 16) (m 94 61) (m 94 59) (m 94 60) (m 99) (m 102) (m 103) (m 111) (m 117) (m 98) (m 101) (m 108)) (hpre6 : (m 94 10).toInt = 3) (KZ : ∀ v m₉, zV (zov wr_211 m m₉) → (zGW T (m₉ 94 55) (m₉ 109)) → (zGU T (m 94 46) (m₉ 99)) → (zOw (m₉ 99) (m₉ 103) (m₉ 111)) → (zDX (m 94 10) (m₉ 99) (m 112) (m₉ 113) (m₉ 114) (m₉ 94 55) (m 98) (m 101) (m 102) (m 108)) → (zHA (m 94 10) (m 94 11) (m 94 13) (m 94 14) (m 94 16) (m 94 61) (m 94 59) (m₉ 94 60) (m₉ 99) (m 102) (m₉ 103) (m₉ 111) (m₉ 117) (m 98) (m 101) (m 108)) → P (some (.inl v)) (zov wr_211 m m₉)) : zm X 5 108 211 0 [(0, .inr (.inr (some 94)))] m P := by
  have K : ∀ v m₉, zF wr_211 m m₉ → zV m₉ → (zGW T (m₉ 94 55) (m₉ 109)) → (zGU T (m₉ 94 46) (m₉ 99)) → (zOw (m₉ 99) (m₉ 103) (m₉ 111)) → (zDX (m₉ 94 10) (m₉ 99) (m₉ 112) (m₉ 113) (m₉ 114) (m₉ 94 55) (m₉ 98) (m₉ 101) (m₉ 102) (m₉ 108)) → (zHA (m₉ 94 10) (m₉ 94 11) (m₉ 94 13) (m₉ 94 14) (m₉ 94 16) (m₉ 94 61) (m₉ 94 59) (m₉ 94 60) (m₉ 99) (m₉ 102) (m₉ 103) (m₉ 111) (m₉ 117) (m₉ 98) (m₉ 101) (m₉ 108)) → P (some (.inl v)) m₉ := by
    intro v m₉ hf z q0 q1 q2 q3 q4
    have e := zov_eq hf
    rw [e] at z ⊢
    try rw [e] at q0
    try rw [e] at q1
    try rw [e] at q2
    try rw [e] at q3
    try rw [e] at q4
    exact KZ v m₉ z q0 q1 q2 q3 q4
  refine g_211_0  ?_
  have f1 : 0 ≤ (m 94 10).toInt ∧ (m 94 10).toInt ≤ 6 := rs_94_10 (m := m) hV
  try have hc4 := (r_HA.2 (by omega)).1
  refine sp_187  hV r_W r_GW r_GU r_OW r_DX (fun v2 m1 hV_m1 p0_m1 p1_m1 p2_m1 p3_m1 p4_m1 => zmi_n ?_)
  have p0_m1 : zGW T (m1 94 55) (m1 109) := p0_m1
  have p1_m1 : zGU T (m 94 46) (m1 99) := p1_m1
  have p2_m1 : zOw (m1 99) (m 103) (m1 111) := p2_m1
  have p3_m1 : zDX (m 94 10) (m1 99) (m 112) (m1 113) (m1 114) (m1 94 55) (m 98) (m 101) (m 102) (m 108) := p3_m1
  have p4_m1 : zsw (m 99) (m1 99) (m 111) (m1 111) (m 103) := p4_m1
  have f2 : 0 ≤ (m 94 14).toInt ∧ (m 94 14).toInt ≤ 1500 := rs_94_14 (m := m) hV
  try have hc4 := (r_HA.2 (by omega)).1
  refine sp_204 (G := True) (E := (m 94 60).toInt) ((m 94 14)) hV_m1 (by omega) (by omega) p2_m1 (show True → 0 ≤ (m 94 60).toInt ∧ zPK (m 94 14).toInt (m 94 60).toInt (m1 99) (m 102) (m 103) (m1 111) from by first | (exact fun _ => ⟨by have := rs_94_60 hV; omega, PK_sub (r_HA.2 (by omega)).2.2.2.1 p4_m1 (fun t ht => ⟨(ra_103 hV ht).1, by have := (ra_103 hV ht).2; omega⟩)⟩) | (exfalso; omega; done) | (exfalso; contradiction; done)) (fun v4 m3 hV_m3 p0_m3 p1_m3 p2_m3 p3_m3 => zmi_n ?_)
  have p0_m3 : zOw (m1 99) (m3 103) (m3 111) := p0_m3
  have p1_m3 : True → v4.toInt ≤ (m 94 60).toInt ∧ zPK (m 94 14).toInt v4.toInt (m1 99) (m 102) (m3 103) (m3 111) := p1_m3
  have p2_m3 : zLO (m 94 14).toInt (m 103) (m3 103) := p2_m3
  have p3_m3 : 0 ≤ v4.toInt ∧ v4.toInt ≤ 1600 := p3_m3
  have b4 := i_bd v4
  have hV3 : zV (ma_u (zov wr_204 (zov wr_187 m m1) m3) 94 60 v4) := us_94_60 hV_m3 (by omega) (by omega)
  try have hc4 := (r_HA.2 (by omega)).1
  have f5 : 0 ≤ (m 94 16).toInt ∧ (m 94 16).toInt ≤ 64 := rs_94_16 (m := m) hV
  refine sp_212  hV3 r_W (show 4 ≤ (m 94 16).toInt from by omega) (fun m5 hV_m5 p0_m5 => zmv_n ?_)
  have p0_m5 : zDC (m 94 14).toInt (m 94 16).toInt (m1 99) (m3 103) (m 102) (m 98) (m 101) (m 108) (m5 117) := p0_m5
  try have hc4 := (r_HA.2 (by omega)).1
  have b6 := i_bd v2
  exact K (v2) _ (zF_zov (zF_u (zF_zov (zF_zov zF_rfl ws_187_211) ws_204_211) rfl) ws_212_211) hV_m5 p0_m1 p1_m1 p0_m3 p3_m1 (show zHA (m 94 10) (m 94 11) (m 94 13) (m 94 14) (m 94 16) (m 94 61) (m 94 59) v4 (m1 99) (m 102) (m3 103) (m3 111) (m5 117) (m 98) (m 101) (m 108) from by first | (exact HA_major r_HA (by omega) p4_m1.1 p2_m3 (fun t ht => (ra_102 hV ht).1) (p1_m3 trivial) p0_m5) | (exfalso; omega; done) | (exfalso; contradiction; done))

/-! from 94.474 -/
/-! sums of sizes: one less, one more -/
section SM1
variable {b b₉ : Nat → Bool} {ws : Nat → Int32} {n s : Nat}
theorem sm_congr (h : ∀ t, t < n → b₉ t = b t) : sm b₉ ws n = sm b ws n := by
  induction n with
  | zero => rfl
  | succ n ih =>
    unfold sm
    rw [ih (fun t ht => h t (by omega)), h n (by omega)]
/-- one is taken out -/
theorem sm_out (hs : s < n) (h1 : b s = true) (h2 : b₉ s = false) (h : ∀ t, t < n → t ≠ s → b₉ t = b t) : sm b₉ ws n + ((ws s).toInt + 1) = sm b ws n := by
  induction n with
  | zero => omega
  | succ n ih =>
    unfold sm
    by_cases e : s = n
    · subst e
      rw [h2, h1, sm_congr (fun t ht => h t (by omega) (by omega))]
      simp
    · rw [h n (by omega) (fun z => e z.symm)]
      have := ih (by omega) (fun t ht hn => h t (by omega) hn)
      omega
theorem sm_nn (hw : ∀ t, t < n → 0 ≤ (ws t).toInt) : 0 ≤ sm b ws n := by
  induction n with
  | zero => exact Int.le_refl _
  | succ n ih =>
    unfold sm
    have i := ih (fun t ht => hw t (by omega))
    have w := hw n (by omega)
    split <;> omega
theorem sm_ge (hs : s < n) (h1 : b s = true) (hw : ∀ t, t < n → 0 ≤ (ws t).toInt) : (ws s).toInt + 1 ≤ sm b ws n := by
  have e := sm_out (b₉ := fun t => if t = s then false else b t) (ws := ws) hs h1 (by simp) (fun t _ hn => by simp [hn])
  have := sm_nn (b := fun t => if t = s then false else b t) (ws := ws) hw
  omega
end SM1
/-- in use and not kept yet -/
def zbN (us kp : Nat → Int32) : Nat → Bool := fun s => decide (us s ≠ 0 ∧ kp s = 0)
/-- in use and kept -/
def zbK (us kp : Nat → Int32) : Nat → Bool := fun s => decide (us s ≠ 0 ∧ kp s ≠ 0)
section SM2
variable {m : Nat → Nat → Int32} {c k : Nat} {us ws : Nat → Int32} {x : Int32}
theorem smN_keep (hk : k < 3100) (hu : us k ≠ 0) (h0 : m c k = 0) (hx : x ≠ 0) : sm (zbN us (ma_u m c k x c)) ws 3100 + ((ws k).toInt + 1) = sm (zbN us (m c)) ws 3100 := by
  refine sm_out hk ?_ ?_ (fun t _ hn => ?_)
  · unfold zbN; exact decide_eq_true ⟨hu, h0⟩
  · unfold zbN; exact decide_eq_false (fun z => hx (by rw [mu_self] at z; exact z.2))
  · unfold zbN; rw [mu_ne hn]
theorem smK_keep (hk : k < 3100) (hu : us k ≠ 0) (h0 : m c k = 0) (hx : x ≠ 0) : sm (zbK us (m c)) ws 3100 + ((ws k).toInt + 1) = sm (zbK us (ma_u m c k x c)) ws 3100 := by
  refine sm_out hk ?_ ?_ (fun t _ hn => ?_)
  · unfold zbK; exact decide_eq_true ⟨hu, by rw [mu_self]; exact hx⟩
  · unfold zbK; exact decide_eq_false (fun z => z.2 h0)
  · unfold zbK; rw [mu_ne hn]
theorem smN_none (h : ∀ s : Nat, s < 3100 → m c s = 0) : sm (zbN us (m c)) ws 3100 = sm (zbU us) ws 3100 := by
  refine sm_congr (fun t ht => ?_)
  unfold zbN zbU
  by_cases q : us t = 0
  · simp [q]
  · simp [q, h t ht]
end SM2

/-! from 94.475 -/
/-! those that would grow old -/
def zbG (us at₉ : Nat → Int32) (ol : Int32) (ag : Nat → Int32) (a : Int32) : Nat → Bool := fun s => decide (us s ≠ 0 ∧ ol.toInt ≤ (at₉ s).toInt ∧ ag s + (1 : Int32) = a)
theorem sm_skip {b : Nat → Bool} {ws : Nat → Int32} {x : Int} {l l2 : Nat} (h : x = sm b ws l) (hb : b l = false) (e : l2 = l + 1) : x = sm b ws l2 := by
  subst e
  unfold sm
  rw [hb, h]
  simp
theorem sm_add {b : Nat → Bool} {ws : Nat → Int32} {x y : Int} {l l2 : Nat} (h : x = sm b ws l) (hb : b l = true) (e : l2 = l + 1) (hy : y = x + ((ws l).toInt + 1)) : y = sm b ws l2 := by
  subst e
  unfold sm
  rw [hb, hy, h]
  simp
theorem sm_full {b : Nat → Bool} {ws : Nat → Int32} {x : Int} {l : Int32} (h : x = sm b ws l.toNatClampNeg) (e : l.toInt = 3100) : x = sm b ws 3100 := by
  have e2 : l.toNatClampNeg = 3100 := by rw [tn_eq]; omega
  rw [e2] at h
  exact h

/-! from 94.476 -/
/-! the reference (written by wip/tools/gen94m.py) -/
set_option maxRecDepth 100000 in
theorem hm_215 : ma_md 215 = some (12, yX12_isOldFull, cX12_isOldFull, 3, (some (FieldType.boolean))) := rfl
theorem f_12_213_12 : ma_fld 12 213 12 = some 15 := by decide +kernel
theorem dX12_isOldFull_0 : decode cX12_isOldFull 0 = .ok (.iconst 0, 1) := by decide +kernel
theorem dX12_isOldFull_1 : decode cX12_isOldFull 1 = .ok (.istore_n 1, 1) := by decide +kernel
theorem dX12_isOldFull_2 : decode cX12_isOldFull 2 = .ok (.iconst 0, 1) := by decide +kernel
theorem dX12_isOldFull_3 : decode cX12_isOldFull 3 = .ok (.istore_n 2, 1) := by decide +kernel
theorem dX12_isOldFull_4 : decode cX12_isOldFull 4 = .ok (.iload_n 2, 1) := by decide +kernel
theorem dX12_isOldFull_5 : decode cX12_isOldFull 5 = .ok (.sipush 3100, 3) := by decide +kernel
theorem dX12_isOldFull_57 : decode cX12_isOldFull 57 = .ok (.aload_n 0, 1) := by decide +kernel
theorem dX12_isOldFull_61 : decode cX12_isOldFull 61 = .ok (.aload_n 0, 1) := by decide +kernel
theorem dX12_isOldFull_65 : decode cX12_isOldFull 65 = .ok (.isub, 1) := by decide +kernel
theorem dX12_isOldFull_66 : decode cX12_isOldFull 66 = .ok (.iload_n 1, 1) := by decide +kernel
theorem dX12_isOldFull_74 : decode cX12_isOldFull 74 = .ok (.iconst 0, 1) := by decide +kernel
theorem dX12_isOldFull_75 : decode cX12_isOldFull 75 = .ok (.ireturn, 1) := by decide +kernel
theorem dX12_isOldFull_70 : decode cX12_isOldFull 70 = .ok (.iconst 1, 1) := by decide +kernel
theorem dX12_isOldFull_71 : decode cX12_isOldFull 71 = .ok (.goto 4, 3) := by decide +kernel
theorem dX12_isOldFull_67 : decode cX12_isOldFull 67 = .ok (.if_icmp .ge 7, 3) := by decide +kernel
theorem dX12_isOldFull_62 : decode cX12_isOldFull 62 = .ok (.getfield 279, 3) := by decide +kernel
theorem dX12_isOldFull_58 : decode cX12_isOldFull 58 = .ok (.getfield 210, 3) := by decide +kernel
theorem dX12_isOldFull_11 : decode cX12_isOldFull 11 = .ok (.aload_n 0, 1) := by decide +kernel
theorem dX12_isOldFull_15 : decode cX12_isOldFull 15 = .ok (.iload_n 2, 1) := by decide +kernel
theorem dX12_isOldFull_51 : decode cX12_isOldFull 51 = .ok (.iinc 2 1, 3) := by decide +kernel
theorem dX12_isOldFull_54 : decode cX12_isOldFull 54 = .ok (.goto (-50), 3) := by decide +kernel
theorem dX12_isOldFull_20 : decode cX12_isOldFull 20 = .ok (.aload_n 0, 1) := by decide +kernel
theorem dX12_isOldFull_21 : decode cX12_isOldFull 21 = .ok (.iload_n 2, 1) := by decide +kernel
theorem dX12_isOldFull_22 : decode cX12_isOldFull 22 = .ok (.invokevirtual 314, 3) := by decide +kernel
theorem dX12_isOldFull_25 : decode cX12_isOldFull 25 = .ok (.ifCond .ne 26, 3) := by decide +kernel
theorem dX12_isOldFull_28 : decode cX12_isOldFull 28 = .ok (.aload_n 0, 1) := by decide +kernel
theorem dX12_isOldFull_32 : decode cX12_isOldFull 32 = .ok (.iload_n 2, 1) := by decide +kernel
theorem dX12_isOldFull_34 : decode cX12_isOldFull 34 = .ok (.iconst 1, 1) := by decide +kernel
theorem dX12_isOldFull_35 : decode cX12_isOldFull 35 = .ok (.iadd, 1) := by decide +kernel
theorem dX12_isOldFull_36 : decode cX12_isOldFull 36 = .ok (.aload_n 0, 1) := by decide +kernel
theorem dX12_isOldFull_43 : decode cX12_isOldFull 43 = .ok (.iload_n 1, 1) := by decide +kernel
theorem dX12_isOldFull_44 : decode cX12_isOldFull 44 = .ok (.aload_n 0, 1) := by decide +kernel
theorem dX12_isOldFull_45 : decode cX12_isOldFull 45 = .ok (.iload_n 2, 1) := by decide +kernel
theorem dX12_isOldFull_46 : decode cX12_isOldFull 46 = .ok (.invokevirtual 327, 3) := by decide +kernel
theorem dX12_isOldFull_49 : decode cX12_isOldFull 49 = .ok (.iadd, 1) := by decide +kernel
theorem dX12_isOldFull_50 : decode cX12_isOldFull 50 = .ok (.istore_n 1, 1) := by decide +kernel
theorem dX12_isOldFull_40 : decode cX12_isOldFull 40 = .ok (.if_icmp .ne 11, 3) := by decide +kernel
theorem dX12_isOldFull_37 : decode cX12_isOldFull 37 = .ok (.getfield 213, 3) := by decide +kernel
theorem dX12_isOldFull_33 : decode cX12_isOldFull 33 = .ok (.iaload, 1) := by decide +kernel
theorem dX12_isOldFull_29 : decode cX12_isOldFull 29 = .ok (.getfield 43, 3) := by decide +kernel
theorem dX12_isOldFull_17 : decode cX12_isOldFull 17 = .ok (.ifCond .eq 34, 3) := by decide +kernel
theorem dX12_isOldFull_16 : decode cX12_isOldFull 16 = .ok (.baload, 1) := by decide +kernel
theorem dX12_isOldFull_12 : decode cX12_isOldFull 12 = .ok (.getfield 27, 3) := by decide +kernel
theorem dX12_isOldFull_8 : decode cX12_isOldFull 8 = .ok (.if_icmp .ge 49, 3) := by decide +kernel
def wr_215 (_ _ : Nat) : Bool := false
theorem g_215_0 {X : Nat × (Nat → Int32)} {m : Nat → Nat → Int32} {P : Option ma_V → (Nat → Nat → Int32) → Prop}  (h : zm X 1 21 215 4 [(0, .inr (.inr (some 94))), (1, .inl (0 : Int32)), (2, .inl (0 : Int32))] m P) : zm X 1 21 215 0 [(0, .inr (.inr (some 94)))] m P := by
  intro d w S Q hd hw hS hm HQ
  subst hm
  refine zw_push hm_215 dX12_isOldFull_0 (v := .inl (0 : Int32)) rfl ?_
  refine zw_sto hm_215 dX12_isOldFull_1 [(1, .inl (0 : Int32)), (0, .inr (.inr (some 94)))] rfl rfl rfl ?_
  refine zw_push hm_215 dX12_isOldFull_2 (v := .inl (0 : Int32)) rfl ?_
  refine zw_sto hm_215 dX12_isOldFull_3 [(2, .inl (0 : Int32)), (1, .inl (0 : Int32)), (0, .inr (.inr (some 94)))] rfl rfl rfl ?_
  exact zw_sub (ma_nd_of (ks := [0, 1, 2]) rfl (by decide)) (ma_nd_of (ks := [2, 1, 0]) rfl (by decide)) (ma_le_cons rfl (ma_le_cons rfl (ma_le_cons rfl (ma_le_nil _)))) (h d w _ Q (by omega) (by omega) hS rfl HQ)
theorem g_215_4 {X : Nat × (Nat → Int32)} {m : Nat → Nat → Int32} {P : Option ma_V → (Nat → Nat → Int32) → Prop} (l1 : Int32) (l2 : Int32) (h : if (3100 : Int32) ≤ l2 then (if l1 ≤ ((m 94 14) - (m 94 60)) then (P (some (.inl (0 : Int32))) m) else (P (some (.inl (1 : Int32))) m)) else ((0 ≤ l2 ∧ l2.toNatClampNeg < 3100) ∧ (if (m 99 l2.toNatClampNeg) = 0 then (zm X 1 21 215 4 [(0, .inr (.inr (some 94))), (1, .inl l1), (2, .inl (l2 + (1 : Int32)))] m P) else ((0 ≤ l2 ∧ l2.toNatClampNeg < 3100) ∧ (if (m 94 14) ≤ (m 103 l2.toNatClampNeg) then ((0 ≤ l2 ∧ l2.toNatClampNeg < 3100) ∧ (if ((m 104 l2.toNatClampNeg) + (1 : Int32)) = (m 94 15) then ((0 ≤ l2 ∧ l2.toNatClampNeg < 3100) ∧ (zm X 1 21 215 4 [(0, .inr (.inr (some 94))), (1, .inl (l1 + ((m 102 l2.toNatClampNeg) + (1 : Int32)))), (2, .inl (l2 + (1 : Int32)))] m P)) else (zm X 1 21 215 4 [(0, .inr (.inr (some 94))), (1, .inl l1), (2, .inl (l2 + (1 : Int32)))] m P))) else (zm X 1 21 215 4 [(0, .inr (.inr (some 94))), (1, .inl l1), (2, .inl (l2 + (1 : Int32)))] m P)))))) : zm X 1 21 215 4 [(0, .inr (.inr (some 94))), (1, .inl l1), (2, .inl l2)] m P := by
  intro d w S Q hd hw hS hm HQ
  subst hm
  refine zw_push hm_215 dX12_isOldFull_4 (v := .inl l2) rfl ?_
  refine zw_push hm_215 dX12_isOldFull_5 (v := .inl (3100 : Int32)) rfl ?_
  refine zw_if2 hm_215 dX12_isOldFull_8 (t := 57) rfl zc2_ge ?_ ?_
  · intro hc
    rw [if_pos hc] at h
    refine zw_push hm_215 dX12_isOldFull_57 (v := .inr (.inr (some 94))) rfl ?_
    refine zw_gf hm_215 dX12_isOldFull_58 (v := .inl ((mI S) 94 14)) (zT_is hS s_94) (zT_t hS s_94) rfl f_12_210_12 rfl ?_
    refine zw_push hm_215 dX12_isOldFull_61 (v := .inr (.inr (some 94))) rfl ?_
    refine zw_gf hm_215 dX12_isOldFull_62 (v := .inl ((mI S) 94 60)) (zT_is hS s_94) (zT_t hS s_94) rfl f_12_279_12 rfl ?_
    refine zw_stk hm_215 dX12_isOldFull_65 (st₉ := [.inl (((mI S) 94 14) - ((mI S) 94 60))]) rfl rfl ?_
    refine zw_push hm_215 dX12_isOldFull_66 (v := .inl l1) rfl ?_
    refine zw_if2 hm_215 dX12_isOldFull_67 (t := 74) rfl zc2_ge ?_ ?_
    · intro hc
      rw [if_pos hc] at h
      refine zw_push hm_215 dX12_isOldFull_74 (v := .inl (0 : Int32)) rfl ?_
      exact zw_bret hm_215 dX12_isOldFull_75 (by decide) (HQ _ _ h)
    · intro hc
      rw [if_neg hc] at h
      refine zw_push hm_215 dX12_isOldFull_70 (v := .inl (1 : Int32)) rfl ?_
      refine zw_goto hm_215 dX12_isOldFull_71 (t := 75) rfl ?_
      exact zw_bret hm_215 dX12_isOldFull_75 (by decide) (HQ _ _ h)
  · intro hc
    rw [if_neg hc] at h
    refine zw_push hm_215 dX12_isOldFull_11 (v := .inr (.inr (some 94))) rfl ?_
    refine zw_gf hm_215 dX12_isOldFull_12 (v := .inr (.inr (some 99))) (zT_is hS s_94) (zT_t hS s_94) rfl f_12_27_12 (zT_f hS r_94_31) ?_
    refine zw_push hm_215 dX12_isOldFull_15 (v := .inl l2) rfl ?_
    obtain ⟨hg, h⟩ := h
    refine zw_ba hm_215 dX12_isOldFull_16 (zT_is hS s_99) (zT_h hS s_99) rfl rfl hg ?_
    show ma_wp X d w 215 17 [(0, .inr (.inr (some 94))), (1, .inl l1), (2, .inl l2)] [.inl ((mI S) 99 l2.toNatClampNeg)] S _
    refine zw_if0 hm_215 dX12_isOldFull_17 (t := 51) rfl zc0_eq ?_ ?_
    · intro hc
      rw [if_pos hc] at h
      refine zw_sto hm_215 dX12_isOldFull_51 [(2, .inl (l2 + (1 : Int32))), (0, .inr (.inr (some 94))), (1, .inl l1)] rfl rfl rfl ?_
      refine zw_goto hm_215 dX12_isOldFull_54 (t := 4) rfl ?_
      exact zw_sub (ma_nd_of (ks := [0, 1, 2]) rfl (by decide)) (ma_nd_of (ks := [2, 0, 1]) rfl (by decide)) (ma_le_cons rfl (ma_le_cons rfl (ma_le_cons rfl (ma_le_nil _)))) (h d w _ Q (by omega) (by omega) hS rfl HQ)
    · intro hc
      rw [if_neg hc] at h
      refine zw_push hm_215 dX12_isOldFull_20 (v := .inr (.inr (some 94))) rfl ?_
      refine zw_push hm_215 dX12_isOldFull_21 (v := .inl l2) rfl ?_
      refine zw_cv hm_215 dX12_isOldFull_22 v_12_314_12 hm_196 [.inl l2] [] rfl (zT_rt hS s_94 rfl) ⟨by omega, by omega⟩ rfl ?_
      show ma_wp X (d - 1) (w - 21) 196 0 [(0, .inr (.inr (some 94))), (1, .inl l2)] [] S _
      refine zw_push hm_196 dX12_isOld_0 (v := .inr (.inr (some 94))) rfl ?_
      refine zw_gf hm_196 dX12_isOld_1 (v := .inr (.inr (some 103))) (zT_is hS s_94) (zT_t hS s_94) rfl f_12_40_12 (zT_f hS r_94_35) ?_
      refine zw_push hm_196 dX12_isOld_4 (v := .inl l2) rfl ?_
      obtain ⟨hg, h⟩ := h
      refine zw_ia hm_196 dX12_isOld_5 (zT_is hS s_103) (zT_h hS s_103) rfl hg ?_
      show ma_wp X (d - 1) (w - 21) 196 6 [(0, .inr (.inr (some 94))), (1, .inl l2)] [.inl ((mI S) 103 l2.toNatClampNeg)] S _
      refine zw_push hm_196 dX12_isOld_6 (v := .inr (.inr (some 94))) rfl ?_
      refine zw_gf hm_196 dX12_isOld_7 (v := .inl ((mI S) 94 14)) (zT_is hS s_94) (zT_t hS s_94) rfl f_12_210_12 rfl ?_
      refine zw_if2 hm_196 dX12_isOld_10 (t := 17) rfl zc2_ge ?_ ?_
      · intro hc
        rw [if_pos hc] at h
        refine zw_push hm_196 dX12_isOld_17 (v := .inl (0 : Int32)) rfl ?_
        refine zw_bret hm_196 dX12_isOld_18 (by decide) ?_
        show ma_wp X d w 215 25 [(0, .inr (.inr (some 94))), (1, .inl l1), (2, .inl l2)] [.inl (0 : Int32)] S _
        refine zw_if0 hm_215 dX12_isOldFull_25 (t := 51) rfl zc0_ne (fun hc => absurd hc (by decide)) (fun _ => ?_)
        refine zw_push hm_215 dX12_isOldFull_28 (v := .inr (.inr (some 94))) rfl ?_
        refine zw_gf hm_215 dX12_isOldFull_29 (v := .inr (.inr (some 104))) (zT_is hS s_94) (zT_t hS s_94) rfl f_12_43_12 (zT_f hS r_94_36) ?_
        refine zw_push hm_215 dX12_isOldFull_32 (v := .inl l2) rfl ?_
        obtain ⟨hg, h⟩ := h
        refine zw_ia hm_215 dX12_isOldFull_33 (zT_is hS s_104) (zT_h hS s_104) rfl hg ?_
        show ma_wp X d w 215 34 [(0, .inr (.inr (some 94))), (1, .inl l1), (2, .inl l2)] [.inl ((mI S) 104 l2.toNatClampNeg)] S _
        refine zw_push hm_215 dX12_isOldFull_34 (v := .inl (1 : Int32)) rfl ?_
        refine zw_stk hm_215 dX12_isOldFull_35 (st₉ := [.inl (((mI S) 104 l2.toNatClampNeg) + (1 : Int32))]) rfl rfl ?_
        refine zw_push hm_215 dX12_isOldFull_36 (v := .inr (.inr (some 94))) rfl ?_
        refine zw_gf hm_215 dX12_isOldFull_37 (v := .inl ((mI S) 94 15)) (zT_is hS s_94) (zT_t hS s_94) rfl f_12_213_12 rfl ?_
        refine zw_if2 hm_215 dX12_isOldFull_40 (t := 51) rfl zc2_ne ?_ ?_
        · intro hc
          rw [if_neg hc] at h
          refine zw_sto hm_215 dX12_isOldFull_51 [(2, .inl (l2 + (1 : Int32))), (0, .inr (.inr (some 94))), (1, .inl l1)] rfl rfl rfl ?_
          refine zw_goto hm_215 dX12_isOldFull_54 (t := 4) rfl ?_
          exact zw_sub (ma_nd_of (ks := [0, 1, 2]) rfl (by decide)) (ma_nd_of (ks := [2, 0, 1]) rfl (by decide)) (ma_le_cons rfl (ma_le_cons rfl (ma_le_cons rfl (ma_le_nil _)))) (h d w _ Q (by omega) (by omega) hS rfl HQ)
        · intro hc
          rw [if_pos (Classical.not_not.mp hc)] at h
          refine zw_push hm_215 dX12_isOldFull_43 (v := .inl l1) rfl ?_
          refine zw_push hm_215 dX12_isOldFull_44 (v := .inr (.inr (some 94))) rfl ?_
          refine zw_push hm_215 dX12_isOldFull_45 (v := .inl l2) rfl ?_
          refine zw_cv hm_215 dX12_isOldFull_46 v_12_327_12 hm_201 [.inl l2] [.inl l1] rfl (zT_rt hS s_94 rfl) ⟨by omega, by omega⟩ rfl ?_
          show ma_wp X (d - 1) (w - 21) 201 0 [(0, .inr (.inr (some 94))), (1, .inl l2)] [] S _
          refine zw_push hm_201 dX12_sizeOf_0 (v := .inr (.inr (some 94))) rfl ?_
          refine zw_gf hm_201 dX12_sizeOf_1 (v := .inr (.inr (some 102))) (zT_is hS s_94) (zT_t hS s_94) rfl f_12_37_12 (zT_f hS r_94_34) ?_
          refine zw_push hm_201 dX12_sizeOf_4 (v := .inl l2) rfl ?_
          obtain ⟨hg, h⟩ := h
          refine zw_ia hm_201 dX12_sizeOf_5 (zT_is hS s_102) (zT_h hS s_102) rfl hg ?_
          show ma_wp X (d - 1) (w - 21) 201 6 [(0, .inr (.inr (some 94))), (1, .inl l2)] [.inl ((mI S) 102 l2.toNatClampNeg)] S _
          refine zw_push hm_201 dX12_sizeOf_6 (v := .inl (1 : Int32)) rfl ?_
          refine zw_stk hm_201 dX12_sizeOf_7 (st₉ := [.inl (((mI S) 102 l2.toNatClampNeg) + (1 : Int32))]) rfl rfl ?_
          refine zw_iret hm_201 dX12_sizeOf_8 ?_
          show ma_wp X d w 215 49 [(0, .inr (.inr (some 94))), (1, .inl l1), (2, .inl l2)] [.inl (((mI S) 102 l2.toNatClampNeg) + (1 : Int32)), .inl l1] S _
          refine zw_stk hm_215 dX12_isOldFull_49 (st₉ := [.inl (l1 + (((mI S) 102 l2.toNatClampNeg) + (1 : Int32)))]) rfl rfl ?_
          refine zw_sto hm_215 dX12_isOldFull_50 [(1, .inl (l1 + (((mI S) 102 l2.toNatClampNeg) + (1 : Int32)))), (0, .inr (.inr (some 94))), (2, .inl l2)] rfl rfl rfl ?_
          refine zw_sto hm_215 dX12_isOldFull_51 [(2, .inl (l2 + (1 : Int32))), (1, .inl (l1 + (((mI S) 102 l2.toNatClampNeg) + (1 : Int32)))), (0, .inr (.inr (some 94)))] rfl rfl rfl ?_
          refine zw_goto hm_215 dX12_isOldFull_54 (t := 4) rfl ?_
          exact zw_sub (ma_nd_of (ks := [0, 1, 2]) rfl (by decide)) (ma_nd_of (ks := [2, 1, 0]) rfl (by decide)) (ma_le_cons rfl (ma_le_cons rfl (ma_le_cons rfl (ma_le_nil _)))) (h d w _ Q (by omega) (by omega) hS rfl HQ)
      · intro hc
        rw [if_neg hc] at h
        refine zw_push hm_196 dX12_isOld_13 (v := .inl (1 : Int32)) rfl ?_
        refine zw_goto hm_196 dX12_isOld_14 (t := 18) rfl ?_
        refine zw_bret hm_196 dX12_isOld_18 (by decide) ?_
        show ma_wp X d w 215 25 [(0, .inr (.inr (some 94))), (1, .inl l1), (2, .inl l2)] [.inl (1 : Int32)] S _
        refine zw_if0 hm_215 dX12_isOldFull_25 (t := 51) rfl zc0_ne (fun _ => ?_) (fun hc => absurd (by decide) hc)
        refine zw_sto hm_215 dX12_isOldFull_51 [(2, .inl (l2 + (1 : Int32))), (0, .inr (.inr (some 94))), (1, .inl l1)] rfl rfl rfl ?_
        refine zw_goto hm_215 dX12_isOldFull_54 (t := 4) rfl ?_
        exact zw_sub (ma_nd_of (ks := [0, 1, 2]) rfl (by decide)) (ma_nd_of (ks := [2, 0, 1]) rfl (by decide)) (ma_le_cons rfl (ma_le_cons rfl (ma_le_cons rfl (ma_le_nil _)))) (h d w _ Q (by omega) (by omega) hS rfl HQ)
theorem lp_215_4 {X : Nat × (Nat → Int32)} {P : Option ma_V → (Nat → Nat → Int32) → Prop} {m0 : Nat → Nat → Int32} (h0 : zV m0) (K : ∀ v m₉, zF wr_215 m0 m₉ → zV m₉ → (v = 0 ∨ v = 1) → (v.toInt = 1 ∨ (m₉ 94 60).toInt + sm (zbG (m₉ 99) (m₉ 103) (m₉ 94 14) (m₉ 104) (m₉ 94 15)) (m₉ 102) 3100 ≤ (m₉ 94 14).toInt) → P (some (.inl v)) m₉) : ∀ (n : Nat) (m : Nat → Nat → Int32) (l1 : Int32) (l2 : Int32), (3100 - l2.toInt).toNat = n → zF wr_215 m0 m → zV m → (0 ≤ l2.toInt) → (l2.toInt ≤ 3100) → (0 ≤ l1.toInt) → (l1.toInt ≤ 61 * l2.toInt) → (l1.toInt = sm (zbG (m 99) (m 103) (m 94 14) (m 104) (m 94 15)) (m 102) l2.toNatClampNeg) → zm X 1 21 215 4 [(0, .inr (.inr (some 94))), (1, .inl l1), (2, .inl l2)] m P := by
  intro n
  induction n using Nat.strongRecOn with
  | _ n IH =>
    intro m l1 l2 hmu hF hV hi0 hi1 hi2 hi3 r_SG
    refine g_215_4 l1 l2 ?_
    have li1 : (3100 : Int32).toInt = 3100 := rfl
    have b2 := i_bd l2
    refine zd (fun (h3 : (3100 : Int32) ≤ l2) => ?_) (fun (h3 : ¬ (3100 : Int32) ≤ l2) => ?_)
    · skip
      have g4 := i_le h3
      have b5 := i_bd l1
      have f6 : 0 ≤ (m 94 14).toInt ∧ (m 94 14).toInt ≤ 1500 := rs_94_14 (m := m) hV
      have f7 : 0 ≤ (m 94 60).toInt ∧ (m 94 60).toInt ≤ 1600 := rs_94_60 (m := m) hV
      first | have e8 : ((m 94 14) - (m 94 60)).toInt = (m 94 14).toInt - (m 94 60).toInt := i_sub (by omega) (by omega) | have b9 := i_bd ((m 94 14) - (m 94 60))
      refine zd (fun (h10 : l1 ≤ ((m 94 14) - (m 94 60))) => ?_) (fun (h10 : ¬ l1 ≤ ((m 94 14) - (m 94 60))) => ?_)
      · skip
        have g11 := i_le h10
        have li12 : (0 : Int32).toInt = 0 := rfl
        exact K ((0 : Int32)) _ hF hV (by decide) (show (0 : Int32).toInt = 1 ∨ (m 94 60).toInt + sm (zbG (m 99) (m 103) (m 94 14) (m 104) (m 94 15)) (m 102) 3100 ≤ (m 94 14).toInt from by first | (exact Or.inl (by decide)) | (exact Or.inr (by have z := sm_full r_SG (by omega); omega)) | (exfalso; omega; done) | (exfalso; contradiction; done))
      · skip
        have g13 := i_nle h10
        have li14 : (1 : Int32).toInt = 1 := rfl
        exact K ((1 : Int32)) _ hF hV (by decide) (show (1 : Int32).toInt = 1 ∨ (m 94 60).toInt + sm (zbG (m 99) (m 103) (m 94 14) (m 104) (m 94 15)) (m 102) 3100 ≤ (m 94 14).toInt from by first | (exact Or.inl (by decide)) | (exact Or.inr (by have z := sm_full r_SG (by omega); omega)) | (exfalso; omega; done) | (exfalso; contradiction; done))
    · skip
      have g15 := i_nle h3
      have hg16 : (0 ≤ l2 ∧ l2.toNatClampNeg < 3100) := i_ix (by omega) (by omega)
      refine ⟨hg16, ?_⟩
      first | have f17 : 0 ≤ (m 99 l2.toNatClampNeg).toInt ∧ (m 99 l2.toNatClampNeg).toInt ≤ 1 := ra_99 (m := m) hV (k := l2.toNatClampNeg) (i_ix (n := 3100) (by omega) (by omega)).2 | have b18 := i_bd (m 99 l2.toNatClampNeg)
      have li19 : (0 : Int32).toInt = 0 := rfl
      refine zd (fun (h20 : (m 99 l2.toNatClampNeg) = (0 : Int32)) => ?_) (fun (h20 : ¬ (m 99 l2.toNatClampNeg) = (0 : Int32)) => ?_)
      · skip
        have g21 := i_eq h20
        have b22 := i_bd l1
        first | have e23 : (l2 + (1 : Int32)).toInt = l2.toInt + (1) := i_addk rfl (by omega) (by omega) | have b24 := i_bd (l2 + (1 : Int32))
        exact IH (3100 - (l2 + (1 : Int32)).toInt).toNat (by omega) _ (l1) ((l2 + (1 : Int32))) rfl hF hV (by omega) (by omega) (by omega) (by omega) (show l1.toInt = sm (zbG (m 99) (m 103) (m 94 14) (m 104) (m 94 15)) (m 102) (l2 + (1 : Int32)).toNatClampNeg from by first | (exact sm_add r_SG (decide_eq_true ⟨by assumption, by omega, by assumption⟩) (tn_succ (by omega) (by omega)) (by omega)) | (exact sm_skip r_SG (decide_eq_false (fun z => by obtain ⟨z1, z2, z3⟩ := z; first | exact z1 (by assumption) | (exfalso; omega) | exact absurd z3 (by assumption))) (tn_succ (by omega) (by omega))) | (exact rfl) | (exfalso; omega; done) | (exfalso; contradiction; done))
      · skip
        have g25 := i_ne h20
        have hg26 : (0 ≤ l2 ∧ l2.toNatClampNeg < 3100) := i_ix (by omega) (by omega)
        refine ⟨hg26, ?_⟩
        have f27 : 0 ≤ (m 94 14).toInt ∧ (m 94 14).toInt ≤ 1500 := rs_94_14 (m := m) hV
        first | have f28 : 0 ≤ (m 103 l2.toNatClampNeg).toInt ∧ (m 103 l2.toNatClampNeg).toInt ≤ 4599 := ra_103 (m := m) hV (k := l2.toNatClampNeg) (i_ix (n := 3100) (by omega) (by omega)).2 | have b29 := i_bd (m 103 l2.toNatClampNeg)
        refine zd (fun (h30 : (m 94 14) ≤ (m 103 l2.toNatClampNeg)) => ?_) (fun (h30 : ¬ (m 94 14) ≤ (m 103 l2.toNatClampNeg)) => ?_)
        · skip
          have g31 := i_le h30
          have hg32 : (0 ≤ l2 ∧ l2.toNatClampNeg < 3100) := i_ix (by omega) (by omega)
          refine ⟨hg32, ?_⟩
          have b33 := i_bd (m 104 l2.toNatClampNeg)
          first | have e34 : ((m 104 l2.toNatClampNeg) + (1 : Int32)).toInt = (m 104 l2.toNatClampNeg).toInt + (1) := i_addk rfl (by omega) (by omega) | have b35 := i_bd ((m 104 l2.toNatClampNeg) + (1 : Int32))
          have b36 := i_bd (m 94 15)
          refine zd (fun (h37 : ((m 104 l2.toNatClampNeg) + (1 : Int32)) = (m 94 15)) => ?_) (fun (h37 : ¬ ((m 104 l2.toNatClampNeg) + (1 : Int32)) = (m 94 15)) => ?_)
          · skip
            have g38 := i_eq h37
            have hg39 : (0 ≤ l2 ∧ l2.toNatClampNeg < 3100) := i_ix (by omega) (by omega)
            refine ⟨hg39, ?_⟩
            have b40 := i_bd l1
            first | have f41 : 0 ≤ (m 102 l2.toNatClampNeg).toInt ∧ (m 102 l2.toNatClampNeg).toInt ≤ 60 := ra_102 (m := m) hV (k := l2.toNatClampNeg) (i_ix (n := 3100) (by omega) (by omega)).2 | have b42 := i_bd (m 102 l2.toNatClampNeg)
            first | have e43 : ((m 102 l2.toNatClampNeg) + (1 : Int32)).toInt = (m 102 l2.toNatClampNeg).toInt + (1) := i_addk rfl (by omega) (by omega) | have b44 := i_bd ((m 102 l2.toNatClampNeg) + (1 : Int32))
            first | have e45 : (l1 + ((m 102 l2.toNatClampNeg) + (1 : Int32))).toInt = l1.toInt + ((m 102 l2.toNatClampNeg) + (1 : Int32)).toInt := i_add (by omega) (by omega) | have b46 := i_bd (l1 + ((m 102 l2.toNatClampNeg) + (1 : Int32)))
            first | have e47 : (l2 + (1 : Int32)).toInt = l2.toInt + (1) := i_addk rfl (by omega) (by omega) | have b48 := i_bd (l2 + (1 : Int32))
            exact IH (3100 - (l2 + (1 : Int32)).toInt).toNat (by omega) _ ((l1 + ((m 102 l2.toNatClampNeg) + (1 : Int32)))) ((l2 + (1 : Int32))) rfl hF hV (by omega) (by omega) (by omega) (by omega) (show (l1 + ((m 102 l2.toNatClampNeg) + (1 : Int32))).toInt = sm (zbG (m 99) (m 103) (m 94 14) (m 104) (m 94 15)) (m 102) (l2 + (1 : Int32)).toNatClampNeg from by first | (exact sm_add r_SG (decide_eq_true ⟨by assumption, by omega, by assumption⟩) (tn_succ (by omega) (by omega)) (by omega)) | (exact sm_skip r_SG (decide_eq_false (fun z => by obtain ⟨z1, z2, z3⟩ := z; first | exact z1 (by assumption) | (exfalso; omega) | exact absurd z3 (by assumption))) (tn_succ (by omega) (by omega))) | (exact rfl) | (exfalso; omega; done) | (exfalso; contradiction; done))
          · skip
            have g49 := i_ne h37
            have b50 := i_bd l1
            first | have e51 : (l2 + (1 : Int32)).toInt = l2.toInt + (1) := i_addk rfl (by omega) (by omega) | have b52 := i_bd (l2 + (1 : Int32))
            exact IH (3100 - (l2 + (1 : Int32)).toInt).toNat (by omega) _ (l1) ((l2 + (1 : Int32))) rfl hF hV (by omega) (by omega) (by omega) (by omega) (show l1.toInt = sm (zbG (m 99) (m 103) (m 94 14) (m 104) (m 94 15)) (m 102) (l2 + (1 : Int32)).toNatClampNeg from by first | (exact sm_add r_SG (decide_eq_true ⟨by assumption, by omega, by assumption⟩) (tn_succ (by omega) (by omega)) (by omega)) | (exact sm_skip r_SG (decide_eq_false (fun z => by obtain ⟨z1, z2, z3⟩ := z; first | exact z1 (by assumption) | (exfalso; omega) | exact absurd z3 (by assumption))) (tn_succ (by omega) (by omega))) | (exact rfl) | (exfalso; omega; done) | (exfalso; contradiction; done))
        · skip
          have g53 := i_nle h30
          have b54 := i_bd l1
          first | have e55 : (l2 + (1 : Int32)).toInt = l2.toInt + (1) := i_addk rfl (by omega) (by omega) | have b56 := i_bd (l2 + (1 : Int32))
          exact IH (3100 - (l2 + (1 : Int32)).toInt).toNat (by omega) _ (l1) ((l2 + (1 : Int32))) rfl hF hV (by omega) (by omega) (by omega) (by omega) (show l1.toInt = sm (zbG (m 99) (m 103) (m 94 14) (m 104) (m 94 15)) (m 102) (l2 + (1 : Int32)).toNatClampNeg from by first | (exact sm_add r_SG (decide_eq_true ⟨by assumption, by omega, by assumption⟩) (tn_succ (by omega) (by omega)) (by omega)) | (exact sm_skip r_SG (decide_eq_false (fun z => by obtain ⟨z1, z2, z3⟩ := z; first | exact z1 (by assumption) | (exfalso; omega) | exact absurd z3 (by assumption))) (tn_succ (by omega) (by omega))) | (exact rfl) | (exfalso; omega; done) | (exfalso; contradiction; done))
theorem sp_215 {X : Nat × (Nat → Int32)} {P : Option ma_V → (Nat → Nat → Int32) → Prop} {m : Nat → Nat → Int32}  (hV : zV m)  (KZ : ∀ v m₉, zV (zov wr_215 m m₉) → (v = 0 ∨ v = 1) → (v.toInt = 1 ∨ (m 94 60).toInt + sm (zbG (m 99) (m 103) (m 94 14) (m 104) (m 94 15)) (m 102) 3100 ≤ (m 94 14).toInt) → P (some (.inl v)) (zov wr_215 m m₉)) : zm X 1 21 215 0 [(0, .inr (.inr (some 94)))] m P := by
  have K : ∀ v m₉, zF wr_215 m m₉ → zV m₉ → (v = 0 ∨ v = 1) → (v.toInt = 1 ∨ (m₉ 94 60).toInt + sm (zbG (m₉ 99) (m₉ 103) (m₉ 94 14) (m₉ 104) (m₉ 94 15)) (m₉ 102) 3100 ≤ (m₉ 94 14).toInt) → P (some (.inl v)) m₉ := by
    intro v m₉ hf z q0 q1
    have e := zov_eq hf
    rw [e] at z ⊢
    try rw [e] at q0
    try rw [e] at q1
    exact KZ v m₉ z q0 q1
  refine g_215_0  ?_
  have li1 : (0 : Int32).toInt = 0 := rfl
  exact lp_215_4 hV K _ _ ((0 : Int32)) ((0 : Int32)) rfl zF_rfl hV (by omega) (by omega) (by omega) (by omega) (show (0 : Int32).toInt = sm (zbG (m 99) (m 103) (m 94 14) (m 104) (m 94 15)) (m 102) (0 : Int32).toNatClampNeg from by first | (exact rfl) | (exfalso; omega; done) | (exfalso; contradiction; done))

/-! from 94.477 -/
/-! one comes to OLD, or moves above it -/
section PK2
variable {ol e f : Int} {us ws at₉ at2 ow ow2 : Nat → Int32} {s to : Int32}
theorem PK_add (h : zPK ol e us ws at₉ ow) (hm : zmov s to at₉ ow at2 ow2) (hto : to.toInt = e) (h0 : 0 ≤ e) (hs0 : 0 ≤ s.toInt) (ha : ol ≤ (at₉ s.toNatClampNeg).toInt) (hb : ∀ t, t < 3100 → 0 ≤ (at₉ t).toInt) (hw : ∀ t, t < 3100 → 0 ≤ (ws t).toInt) (hws : 0 ≤ (ws s.toNatClampNeg).toInt) (he : e + (ws s.toNatClampNeg).toInt + 1 ≤ ol) (e2 : f = e + (ws s.toNatClampNeg).toInt + 1) : zPK ol f us ws at2 ow2 := by
  rcases hm with ⟨_, _, m3⟩ | ⟨m1, m2, m3⟩
  · omega
  · have at_s : at2 s.toNatClampNeg = to := by rw [m1, if_pos rfl]
    have at_o : ∀ t, t ≠ s.toNatClampNeg → at2 t = at₉ t := fun t z => by rw [m1, if_neg z]
    intro t t1 t2 t3
    by_cases z : t = s.toNatClampNeg
    · subst z
      rw [at_s, m2]
      refine ⟨rfl, hs0, by omega, fun t₉ u1 u2 u3 u4 => ?_⟩
      by_cases y : t₉ = s.toNatClampNeg
      · rw [y, at_s] at u3; omega
      · rw [at_o t₉ y] at u3 u4 ⊢
        have a := (h t₉ u1 u2 u4).2.2.1
        have b := hw t₉ u1
        omega
    · rw [at_o t z] at t3 ⊢
      obtain ⟨c1, c2, c3, c4⟩ := h t t1 t2 t3
      have hwt := hw t t1
      have hbt := hb t t1
      have ne1 : (at₉ t).toNatClampNeg ≠ to.toNatClampNeg := by rw [tn_eq, tn_eq]; omega
      have eq1 : ow2 (at₉ t).toNatClampNeg = ow (at₉ t).toNatClampNeg := by
        rcases m3 _ ne1 with q | ⟨q, _, _⟩
        · exact q
        · rw [tn_cast hbt] at q; omega
      rw [eq1]
      refine ⟨c1, c2, by omega, fun t₉ u1 u2 u3 u4 => ?_⟩
      by_cases y : t₉ = s.toNatClampNeg
      · rw [y, at_s] at u3 u4 ⊢; omega
      · rw [at_o t₉ y] at u3 u4 ⊢
        exact c4 t₉ u1 u2 u3 u4
theorem PK_hi (h : zPK ol e us ws at₉ ow) (hm : zmov s to at₉ ow at2 ow2) (hto : ol ≤ to.toInt) (ha : ol ≤ (at₉ s.toNatClampNeg).toInt) (hb : ∀ t, t < 3100 → 0 ≤ (at₉ t).toInt) : zPK ol e us ws at2 ow2 := by
  rcases hm with ⟨m1, m2, _⟩ | ⟨m1, m2, m3⟩
  · rw [m1, m2]; exact h
  · have at_s : at2 s.toNatClampNeg = to := by rw [m1, if_pos rfl]
    have at_o : ∀ t, t ≠ s.toNatClampNeg → at2 t = at₉ t := fun t z => by rw [m1, if_neg z]
    intro t t1 t2 t3
    by_cases z : t = s.toNatClampNeg
    · rw [z, at_s] at t3; omega
    · rw [at_o t z] at t3 ⊢
      obtain ⟨c1, c2, c3, c4⟩ := h t t1 t2 t3
      have hbt := hb t t1
      have ne1 : (at₉ t).toNatClampNeg ≠ to.toNatClampNeg := by rw [tn_eq, tn_eq]; omega
      have eq1 : ow2 (at₉ t).toNatClampNeg = ow (at₉ t).toNatClampNeg := by
        rcases m3 _ ne1 with q | ⟨q, _, _⟩
        · exact q
        · rw [tn_cast hbt] at q; omega
      rw [eq1]
      refine ⟨c1, c2, c3, fun t₉ u1 u2 u3 u4 => ?_⟩
      by_cases y : t₉ = s.toNatClampNeg
      · rw [y, at_s] at u4; omega
      · rw [at_o t₉ y] at u3 u4 ⊢
        exact c4 t₉ u1 u2 u3 u4
end PK2

/-! from 94.478 -/
/-! by ages: those not kept yet, that grow old or not; those kept that are YOUNG -/
def zbN0 (us kp ag : Nat → Int32) (a : Int32) : Nat → Bool := fun s => decide (us s ≠ 0 ∧ kp s = 0 ∧ ¬ ag s + (1 : Int32) = a)
def zbN1 (us kp ag : Nat → Int32) (a : Int32) : Nat → Bool := fun s => decide (us s ≠ 0 ∧ kp s = 0 ∧ ag s + (1 : Int32) = a)
def zbKY (us kp at₉ : Nat → Int32) (ol : Int) : Nat → Bool := fun s => decide (us s ≠ 0 ∧ kp s ≠ 0 ∧ ol ≤ (at₉ s).toInt)
section SM3
variable {m ma : Nat → Nat → Int32} {c ca k : Nat} {us ws at₉ at2 ow ow2 : Nat → Int32} {x y a s to : Int32} {ol : Int}
/-- one is kept, and its age goes on: it is no more among those to come -/
theorem smN0_keep (hk : k < 3100) (hu : us k ≠ 0) (h0 : m c k = 0) (hx : x ≠ 0) (hg : ¬ ma ca k + (1 : Int32) = a) : sm (zbN0 us (ma_u m c k x c) (ma_u ma ca k y ca) a) ws 3100 + ((ws k).toInt + 1) = sm (zbN0 us (m c) (ma ca) a) ws 3100 := by
  refine sm_out hk ?_ ?_ (fun t _ hn => ?_)
  · unfold zbN0; exact decide_eq_true ⟨hu, h0, hg⟩
  · unfold zbN0; exact decide_eq_false (fun z => hx (by rw [mu_self] at z; exact z.2.1))
  · unfold zbN0; rw [mu_ne hn, mu_ne hn]
theorem smN0_same (hx : x ≠ 0) (hg : ma ca k + (1 : Int32) = a) : sm (zbN0 us (ma_u m c k x c) (ma_u ma ca k y ca) a) ws 3100 = sm (zbN0 us (m c) (ma ca) a) ws 3100 := by
  refine sm_congr (fun t _ => ?_)
  unfold zbN0
  by_cases z : t = k
  · rw [z, mu_self]
    rw [decide_eq_false (fun w => hx w.2.1), decide_eq_false (fun w => w.2.2 hg)]
  · rw [mu_ne z, mu_ne z]
theorem smN1_keep (hk : k < 3100) (hu : us k ≠ 0) (h0 : m c k = 0) (hx : x ≠ 0) (hg : ma ca k + (1 : Int32) = a) : sm (zbN1 us (ma_u m c k x c) (ma_u ma ca k y ca) a) ws 3100 + ((ws k).toInt + 1) = sm (zbN1 us (m c) (ma ca) a) ws 3100 := by
  refine sm_out hk ?_ ?_ (fun t _ hn => ?_)
  · unfold zbN1; exact decide_eq_true ⟨hu, h0, hg⟩
  · unfold zbN1; exact decide_eq_false (fun z => hx (by rw [mu_self] at z; exact z.2.1))
  · unfold zbN1; rw [mu_ne hn, mu_ne hn]
theorem smN1_same (hx : x ≠ 0) (hg : ¬ ma ca k + (1 : Int32) = a) : sm (zbN1 us (ma_u m c k x c) (ma_u ma ca k y ca) a) ws 3100 = sm (zbN1 us (m c) (ma ca) a) ws 3100 := by
  refine sm_congr (fun t _ => ?_)
  unfold zbN1
  by_cases z : t = k
  · rw [z, mu_self]
    rw [decide_eq_false (fun w => hx w.2.1), decide_eq_false (fun w => hg w.2.2)]
  · rw [mu_ne z, mu_ne z]
/-- it comes to YOUNG's other half -/
theorem smKY_young (hk : s.toNatClampNeg < 3100) (hu : us s.toNatClampNeg ≠ 0) (h0 : m c s.toNatClampNeg = 0) (hx : x ≠ 0) (hm : zmov s to at₉ ow at2 ow2) (hto : ol ≤ to.toInt) : sm (zbKY us (m c) at₉ ol) ws 3100 + ((ws s.toNatClampNeg).toInt + 1) = sm (zbKY us (ma_u m c s.toNatClampNeg x c) at2 ol) ws 3100 := by
  refine sm_out hk ?_ ?_ (fun t _ hn => ?_)
  · unfold zbKY; exact decide_eq_true ⟨hu, by rw [mu_self]; exact hx, by rw [mv_s hm]; exact hto⟩
  · unfold zbKY; exact decide_eq_false (fun z => z.2.1 h0)
  · unfold zbKY
    rw [mu_ne hn]
    rcases hm with ⟨e, _, _⟩ | ⟨e, _, _⟩
    · rw [e]
    · rw [e, if_neg hn]
/-- it comes to OLD -/
theorem smKY_old (h0 : m c s.toNatClampNeg = 0) (hm : zmov s to at₉ ow at2 ow2) (hto : to.toInt < ol) : sm (zbKY us (ma_u m c s.toNatClampNeg x c) at2 ol) ws 3100 = sm (zbKY us (m c) at₉ ol) ws 3100 := by
  refine sm_congr (fun t _ => ?_)
  unfold zbKY
  by_cases z : t = s.toNatClampNeg
  · rw [z]
    rw [decide_eq_false (fun w => by have := w.2.2; rw [mv_s hm] at this; omega), decide_eq_false (fun w => w.2.1 h0)]
  · rw [mu_ne z]
    rcases hm with ⟨e, _, _⟩ | ⟨e, _, _⟩
    · rw [e]
    · rw [e, if_neg z]
end SM3

/-! from 94.479 -/
/-! a queue of those that came: each kept one is still in it, or done, or at work, or of those that x tells -/
def zCQ (kp kr kd ws wd ca : Nat → Int32) (qa qm : Int32) (x : Nat → Prop) (cur i : Nat) : Prop :=
  (∀ j : Nat, (j : Int) < qm.toInt → kp (ca j).toNatClampNeg ≠ 0) ∧ (cur < 3100 → kp cur ≠ 0) ∧
  ∀ s, s < 3100 → kp s ≠ 0 → (∃ j : Nat, qa.toInt ≤ (j : Int) ∧ (j : Int) < qm.toInt ∧ (ca j).toNatClampNeg = s) ∨ (∀ i₉ : Nat, (i₉ : Int) < (ws s).toInt → zcl kp kr kd wd s i₉) ∨ (s = cur ∧ ∀ i₉, i₉ < i → zcl kp kr kd wd s i₉) ∨ x s
section CQ1
variable {m ms : Nat → Nat → Int32} {c d k cur i i2 : Nat} {kp kr kd ws wd ca : Nat → Int32} {qa qa₉ qm qm₉ x v : Int32} {xx : Nat → Prop}
theorem CQ_push (h : zCQ (m c) kr kd ws wd (ms d) qa qm xx cur i) (hx : x ≠ 0) (h0 : 0 ≤ qm.toInt) (hq : qa.toInt ≤ qm.toInt) (hv : v.toNatClampNeg = k) (hy : qm₉.toInt = qm.toInt + 1) : zCQ (ma_u m c k x c) kr kd ws wd (ma_u ms d qm.toNatClampNeg v d) qa qm₉ xx cur i := by
  obtain ⟨h1, h2, h3⟩ := h
  have hzn : qm.toNatClampNeg = qm.toInt.toNat := rfl
  refine ⟨fun j hj => ?_, fun hc => mu_mono hx (h2 hc), fun s hs hk => ?_⟩
  · by_cases e : j = qm.toNatClampNeg
    · rw [e, mu_self, hv, mu_self]; exact hx
    · rw [mu_ne e]; exact mu_mono hx (h1 j (by omega))
  · by_cases e : s = k
    · exact Or.inl ⟨qm.toNatClampNeg, by omega, by omega, by rw [mu_self, hv, e]⟩
    · rcases h3 s hs (mu_back e hk) with ⟨j, hj, hj2, hs2⟩ | q | ⟨q1, q2⟩ | q
      · exact Or.inl ⟨j, hj, by omega, by rw [mu_ne (by omega)]; exact hs2⟩
      · exact Or.inr (Or.inl (fun i₉ hi => zcl_mono hx (q i₉ hi)))
      · exact Or.inr (Or.inr (Or.inl ⟨q1, fun i₉ hi => zcl_mono hx (q2 i₉ hi)⟩))
      · exact Or.inr (Or.inr (Or.inr q))
theorem CQ_adv (h : zCQ kp kr kd ws wd ca qa qm xx cur i) (hr : zcl kp kr kd wd cur i) (e : i2 = i + 1) : zCQ kp kr kd ws wd ca qa qm xx cur i2 := by
  subst e
  refine ⟨h.1, h.2.1, fun s hs hk => ?_⟩
  rcases h.2.2 s hs hk with q | q | ⟨q1, q2⟩ | q
  · exact Or.inl q
  · exact Or.inr (Or.inl q)
  · refine Or.inr (Or.inr (Or.inl ⟨q1, fun i₉ hi => ?_⟩))
    by_cases e : i₉ = i
    · rw [e, q1]; exact hr
    · exact q2 i₉ (by omega)
  · exact Or.inr (Or.inr (Or.inr q))
theorem CQ_done (h : zCQ kp kr kd ws wd ca qa qm xx cur i) (hi : (ws cur).toInt ≤ (i : Int)) : zCQ kp kr kd ws wd ca qa qm xx 3100 0 := by
  refine ⟨h.1, fun e => absurd e (by decide), fun s hs hk => ?_⟩
  rcases h.2.2 s hs hk with q | q | ⟨q1, q2⟩ | q
  · exact Or.inl q
  · exact Or.inr (Or.inl q)
  · refine Or.inr (Or.inl (fun i₉ hi₉ => q2 i₉ ?_))
    rw [q1] at hi₉
    omega
  · exact Or.inr (Or.inr (Or.inr q))
theorem CQ_take (h : zCQ kp kr kd ws wd ca qa qm xx 3100 i) (h0 : 0 ≤ qa.toInt) (hq : qa.toInt < qm.toInt) (hy : qa₉.toInt = qa.toInt + 1) (hc : cur = (ca qa.toNatClampNeg).toNatClampNeg) : zCQ kp kr kd ws wd ca qa₉ qm xx cur 0 := by
  have hqn : qa.toNatClampNeg = qa.toInt.toNat := rfl
  refine ⟨h.1, fun _ => by rw [hc]; exact h.1 _ (by omega), fun s hs hk => ?_⟩
  rcases h.2.2 s hs hk with ⟨j, hj, hj2, hs2⟩ | q | ⟨q1, q2⟩ | q
  · by_cases e : j = qa.toNatClampNeg
    · refine Or.inr (Or.inr (Or.inl ⟨?_, fun i₉ hi => absurd hi (Nat.not_lt_zero _)⟩))
      rw [hc, ← e, hs2]
    · exact Or.inl ⟨j, by omega, hj2, hs2⟩
  · exact Or.inr (Or.inl q)
  · omega
  · exact Or.inr (Or.inr (Or.inr q))
end CQ1

/-! from 94.480 -/
/-! the reference (written by wip/tools/gen94m.py) -/
set_option maxRecDepth 100000 in
theorem hm_164 : ma_md 164 = some (12, yX12_thrown, cX12_thrown, 1, (some (FieldType.int))) := rfl
theorem f_12_1_12 : ma_fld 12 1 12 = some 0 := by decide +kernel
theorem dX12_thrown_0 : decode cX12_thrown 0 = .ok (.aload_n 0, 1) := by decide +kernel
theorem dX12_thrown_4 : decode cX12_thrown 4 = .ok (.ireturn, 1) := by decide +kernel
theorem dX12_thrown_1 : decode cX12_thrown 1 = .ok (.getfield 1, 3) := by decide +kernel
def wr_164 (_ _ : Nat) : Bool := false
theorem g_164_0 {X : Nat × (Nat → Int32)} {m : Nat → Nat → Int32} {P : Option ma_V → (Nat → Nat → Int32) → Prop}  (h : P (some (.inl (m 94 0))) m) : zm X 0 0 164 0 [(0, .inr (.inr (some 94)))] m P := by
  intro d w S Q hd hw hS hm HQ
  subst hm
  refine zw_push hm_164 dX12_thrown_0 (v := .inr (.inr (some 94))) rfl ?_
  refine zw_gf hm_164 dX12_thrown_1 (v := .inl ((mI S) 94 0)) (zT_is hS s_94) (zT_t hS s_94) rfl f_12_1_12 rfl ?_
  exact zw_iret hm_164 dX12_thrown_4 (HQ _ _ h)
theorem sp_164 {X : Nat × (Nat → Int32)} {P : Option ma_V → (Nat → Nat → Int32) → Prop} {m : Nat → Nat → Int32}  (hV : zV m)  (KZ : ∀ v m₉, zV (zov wr_164 m m₉) → (v.toInt = (m 94 0).toInt) → P (some (.inl v)) (zov wr_164 m m₉)) : zm X 0 0 164 0 [(0, .inr (.inr (some 94)))] m P := by
  have K : ∀ v m₉, zF wr_164 m m₉ → zV m₉ → (v.toInt = (m₉ 94 0).toInt) → P (some (.inl v)) m₉ := by
    intro v m₉ hf z q0
    have e := zov_eq hf
    rw [e] at z ⊢
    try rw [e] at q0
    exact KZ v m₉ z q0
  refine g_164_0  ?_
  have b1 := i_bd (m 94 0)
  exact K ((m 94 0)) _ zF_rfl hV (show (m 94 0).toInt = (m 94 0).toInt from by omega)

/-! from 94.481 -/
theorem zB2_le {hf ro : Int32} (h : 0 ≤ ro.toInt) : 0 ≤ zB2 hf ro ∧ zB2 hf ro ≤ ro.toInt := by
  unfold zB2
  split <;> omega
theorem zB3_le {hf ol yo : Int32} (h : 0 ≤ yo.toInt) : ol.toInt ≤ zB3 hf ol yo ∧ zB3 hf ol yo ≤ ol.toInt + yo.toInt := by
  unfold zB3
  split <;> omega
theorem H3_rest {m : Nat → Nat → Int32} {c : Nat} {us at₉ ow at2 ow2 : Nat → Int32} {s to x : Int32} {ol : Int} (h : ∀ t, t < 3100 → us t ≠ 0 → m c t = 0 → ol ≤ (at₉ t).toInt) (hm : zmov s to at₉ ow at2 ow2) (hx : x ≠ 0) : ∀ t, t < 3100 → us t ≠ 0 → ma_u m c s.toNatClampNeg x c t = 0 → ol ≤ (at2 t).toInt := by
  intro t t1 t2 t3
  by_cases z : t = s.toNatClampNeg
  · rw [z, mu_self] at t3; exact absurd t3 hx
  · rw [mu_ne z] at t3
    rcases hm with ⟨e, _, _⟩ | ⟨e, _, _⟩
    · rw [e]; exact h t t1 t2 t3
    · rw [e, if_neg z]; exact h t t1 t2 t3

/-! from 94.482 -/
/-! those that come: halves and ages -/
/-- by halves, while they come -/
def zH2 (po ro hf to : Int32) (us kp ws : Nat → Int32) : Prop := po.toInt = 2 → to.toInt + sm (zbN us kp) ws 3100 ≤ zB2 hf ro + ro.toInt ∧ zB2 hf ro + sm (zbK us kp) ws 3100 ≤ to.toInt
/-- by ages, while they come -/
def zH3 (po yo ol a hf to ot : Int32) (us kp ag ws at₉ ow : Nat → Int32) : Prop := po.toInt = 3 → to.toInt + sm (zbN0 us kp ag a) ws 3100 ≤ zB3 hf ol yo + yo.toInt ∧ ot.toInt + sm (zbN1 us kp ag a) ws 3100 ≤ ol.toInt ∧ zB3 hf ol yo + sm (zbKY us kp at₉ ol.toInt) ws 3100 ≤ to.toInt ∧ zPK ol.toInt ot.toInt us ws at₉ ow ∧ ∀ t, t < 3100 → us t ≠ 0 → kp t = 0 → ol.toInt ≤ (at₉ t).toInt
theorem i_mul01 {x y : Int32} (h1 : 0 ≤ x.toInt) (h2 : x.toInt ≤ 2) (h3 : 0 ≤ y.toInt) (h4 : y.toInt ≤ 3000) : (x.toInt = 0 ∧ (x * y).toInt = 0) ∨ (x.toInt = 1 ∧ (x * y).toInt = y.toInt) ∨ (x.toInt = 2 ∧ (x * y).toInt = 2 * y.toInt) := by
  have e := (i_muln (x := x) (y := y) h1 (by omega) h3 h4).2.2
  have h : x.toInt = 0 ∨ x.toInt = 1 ∨ x.toInt = 2 := by omega
  rcases h with h | h | h <;> rw [h] at e ⊢
  · exact Or.inl ⟨rfl, by omega⟩
  · exact Or.inr (Or.inl ⟨rfl, by omega⟩)
  · exact Or.inr (Or.inr ⟨rfl, by omega⟩)
theorem mul_B2 {x y : Int32} (h1 : 0 ≤ x.toInt) (h2 : x.toInt ≤ 1) (h3 : 0 ≤ y.toInt) (h4 : y.toInt ≤ 3000) : (x * y).toInt = zB2 x y := by
  unfold zB2
  rcases i_mul01 h1 (by omega) h3 h4 with h | h | h
  · rw [if_pos h.1]; exact h.2
  · rw [if_neg (by omega)]; exact h.2
  · omega
theorem mul_B3 {x y o : Int32} (h1 : 0 ≤ x.toInt) (h2 : x.toInt ≤ 1) (h3 : 0 ≤ y.toInt) (h4 : y.toInt ≤ 3000) : o.toInt + (x * y).toInt = zB3 x o y := by
  unfold zB3
  rcases i_mul01 h1 (by omega) h3 h4 with h | h | h
  · rw [if_pos h.1]; omega
  · rw [if_neg (by omega)]; omega
  · omega
/-- where they are: as it was, or from e on before and after -/
def zax (at₉ at2 : Nat → Int32) (e : Int) : Prop := ∀ t, t < 3100 → at2 t = at₉ t ∨ (e ≤ (at₉ t).toInt ∧ e ≤ (at2 t).toInt)
/-- OLD ones from p on, below e -/
def zXX (us at₉ : Nat → Int32) (p e : Int) (t : Nat) : Prop := us t ≠ 0 ∧ p ≤ (at₉ t).toInt ∧ (at₉ t).toInt < e
/-- an OLD one's word refers to nothing, or to one kept, or lies in a dirty card -/
def zDK (e ca : Int) (kp us at₉ ws kr kd wd di : Nat → Int32) : Prop := ∀ s, s < 3100 → us s ≠ 0 → (at₉ s).toInt < e → ∀ i : Nat, (i : Int) < (ws s).toInt → zcl kp kr kd wd s i ∨ di (((at₉ s).toInt + 1 + i) / ca).toNat ≠ 0
section CD1
variable {m : Nat → Nat → Int32} {c k cur i : Nat} {kp kp₉ kr kd ws wd us us₉ rt wk wi at₉ at2 ow ow2 ca di ag : Nat → Int32} {qa qm x y po wm s to ro hf hf₉ yo ol tp ot cc a : Int32} {xx xx₉ : Nat → Prop} {p p2 e e2 : Int}
theorem zax_rfl : zax at₉ at₉ e := fun _ _ => Or.inl rfl
theorem zax_mv (h : zmov s to at₉ ow at2 ow2) (h1 : e ≤ (at₉ s.toNatClampNeg).toInt) (h2 : e ≤ to.toInt) : zax at₉ at2 e := by
  intro t _
  rcases h with ⟨q, _, _⟩ | ⟨q, _, _⟩
  · rw [q]; exact Or.inl rfl
  · rw [q]
    split
    · next z => rw [z]; exact Or.inr ⟨h1, h2⟩
    · exact Or.inl rfl
theorem CQ_weak (h : zCQ kp kr kd ws wd ca qa qm xx cur i) (hx : ∀ t, t < 3100 → kp t ≠ 0 → xx t → xx₉ t ∨ (∀ i₉ : Nat, (i₉ : Int) < (ws t).toInt → zcl kp kr kd wd t i₉)) : zCQ kp kr kd ws wd ca qa qm xx₉ cur i := by
  refine ⟨h.1, h.2.1, fun s hs hk => ?_⟩
  rcases h.2.2 s hs hk with q | q | q | q
  · exact Or.inl q
  · exact Or.inr (Or.inl q)
  · exact Or.inr (Or.inr (Or.inl q))
  · rcases hx s hs hk q with z | z
    · exact Or.inr (Or.inr (Or.inr z))
    · exact Or.inr (Or.inl z)
theorem CQ_ax (h : zCQ kp kr kd ws wd ca qa qm (zXX us at₉ p e) cur i) (hx : zax at₉ at2 e2) (he : e ≤ e2) : zCQ kp kr kd ws wd ca qa qm (zXX us at2 p e) cur i := by
  refine CQ_weak h (fun t ht _ q => Or.inl ?_)
  rcases hx t ht with z | z
  · unfold zXX at q ⊢; rw [z]; exact q
  · exfalso; have := q.2.2; omega
theorem DK_ax (h : zDK e p kp us at₉ ws kr kd wd di) (hk : zle kp kp₉) (hx : zax at₉ at2 e2) (he : e ≤ e2) (hb : ∀ s, s < 3100 → ∀ i : Nat, (i : Int) < (ws s).toInt → (zrf kr kd wd s i).toInt ≤ 3099) : zDK e p kp₉ us at2 ws kr kd wd di := by
  intro s hs hu ha i hi
  rcases hx s hs with z | z
  · rw [z] at ha ⊢
    rcases h s hs hu ha i hi with q | q
    · refine Or.inl ?_
      rcases q with q | q
      · exact Or.inl q
      · exact Or.inr (hk _ (by have := hb s hs i hi; rw [tn_eq]; omega) q)
    · exact Or.inr q
  · omega
/-- by halves: none has come yet -/
theorem H2_0 {x2 : Int32} (h : zHA po ro yo ol cc hf tp ot us ws at₉ ow di kr kd wd) (hp : po.toInt = 2) (hk : ∀ s : Nat, s < 3100 → m c s = 0) (hto : to.toInt = zB2 x2 ro) (hw : ∀ s, s < 3100 → 0 ≤ (ws s).toInt) : to.toInt + sm (zbN us (m c)) ws 3100 ≤ zB2 x2 ro + ro.toInt ∧ zB2 x2 ro + sm (zbK us (m c)) ws 3100 ≤ to.toInt := by
  have a := h.1 hp
  rw [smN_none hk]
  have z : sm (zbK us (m c)) ws 3100 = 0 := sm_zero (fun s hs => by unfold zbK; exact decide_eq_false (fun q => q.2 (hk s hs)))
  omega
theorem CQ_none (h : ∀ s, s < 3100 → kp s = 0) (hz : qm.toInt = 0) : zCQ kp kr kd ws wd ca qa qm xx 3100 0 :=
  ⟨fun j hj => by omega, fun e => absurd e (by decide), fun s hs hk => absurd (h s hs) hk⟩
theorem DX_come (hC : zCQ kp kr kd ws wd ca qa qm (fun _ => False) 3100 0) (hz : qm.toInt ≤ qa.toInt) (hr : zcov kp rt 16) (hw : zcov kp wi wm.toInt) (hk : zcov kp wk 16) (hu : zKU po us kp) (hm : zrm us us₉ kp 3100) (br : ∀ j : Nat, (j : Int) < 16 → (rt j).toInt ≤ 3099) (bw : ∀ j : Nat, (j : Int) < wm.toInt → (wi j).toInt ≤ 3099) (bk : ∀ j : Nat, (j : Int) < 16 → (wk j).toInt ≤ 3099) (bf : ∀ s, s < 3100 → ∀ i : Nat, (i : Int) < (ws s).toInt → (zrf kr kd wd s i).toInt ≤ 3099) : zDX po us₉ rt wk wi wm kr kd ws wd := by
  intro hp
  have key : ∀ j : Int32, j.toInt ≤ 3099 → (j.toInt < 0 ∨ kp j.toNatClampNeg ≠ 0) → (j.toInt < 0 ∨ us₉ j.toNatClampNeg ≠ 0) := by
    intro j hj hq
    rcases hq with q | q
    · exact Or.inl q
    · have hl : j.toNatClampNeg < 3100 := by rw [tn_eq]; omega
      exact Or.inr (((hm _ hl).1 hl).mpr ⟨hu hp _ hl q, q⟩)
  refine ⟨fun j hj => key _ (br j hj) (hr j hj), fun j hj => key _ (bk j hj) (hk j hj), fun j hj => key _ (bw j hj) (hw j hj), fun s hs hus i hi => ?_⟩
  have hks := (((hm s hs).1 hs).mp hus).2
  rcases hC.2.2 s hs hks with ⟨j, hj, hj2, _⟩ | q | ⟨q, _⟩ | q
  · omega
  · exact key _ (bf s hs i hi) (q i hi)
  · omega
  · exact q.elim
theorem HA_halves (h : po.toInt = 2) (h2 : tp.toInt + sm (zbN us kp) ws 3100 ≤ zB2 hf ro + ro.toInt ∧ zB2 hf ro + sm (zbK us kp) ws 3100 ≤ tp.toInt) (hm : zrm us us₉ kp 3100) (hw : ∀ s, s < 3100 → 0 ≤ (ws s).toInt) : zHA po ro yo ol cc hf tp ot us₉ ws at₉ ow di kr kd wd := by
  refine ⟨fun _ => ?_, fun e => by omega⟩
  have n0 := sm_nn (b := zbN us kp) (ws := ws) (n := 3100) hw
  have n1 := sm_nn (b := zbK us kp) (ws := ws) (n := 3100) hw
  have e1 : sm (zbU us₉) ws 3100 = sm (zbK us kp) ws 3100 := sm_congr (fun t ht => by
    unfold zbU zbK
    exact decide_eq_decide.mpr ((hm t ht).1 ht))
  omega
theorem KO_step {b : Int} {j l : Int32} (h : ∀ s : Nat, (s : Int) < l.toInt → (m c s ≠ 0 ↔ us s ≠ 0 ∧ (at₉ s).toInt < b)) (h0 : 0 ≤ l.toInt) (hj : j.toInt = l.toInt + 1) (hx : x ≠ 0 ↔ us l.toNatClampNeg ≠ 0 ∧ (at₉ l.toNatClampNeg).toInt < b) : ∀ s : Nat, (s : Int) < j.toInt → (ma_u m c l.toNatClampNeg x c s ≠ 0 ↔ us s ≠ 0 ∧ (at₉ s).toInt < b) := by
  intro s hs
  rw [mu_at]
  split
  · next z => rw [z]; exact hx
  · next q => exact h s (by rw [tn_eq] at q; omega)
/-- by ages: none has come yet -/
theorem H3_0 {x2 : Int32} (h : zHA po ro yo ol cc hf tp ot us ws at₉ ow di kr kd wd) (hp : po.toInt = 3) (hk : ∀ s : Nat, s < 3100 → (kp s ≠ 0 ↔ us s ≠ 0 ∧ (at₉ s).toInt < ol.toInt)) (hf : ot.toInt + sm (zbG us at₉ ol ag a) ws 3100 ≤ ol.toInt) (hto : to.toInt = zB3 x2 ol yo) (hw : ∀ s, s < 3100 → 0 ≤ (ws s).toInt) : to.toInt + sm (zbN0 us kp ag a) ws 3100 ≤ zB3 x2 ol yo + yo.toInt ∧ ot.toInt + sm (zbN1 us kp ag a) ws 3100 ≤ ol.toInt ∧ zB3 x2 ol yo + sm (zbKY us kp at₉ ol.toInt) ws 3100 ≤ to.toInt ∧ zPK ol.toInt ot.toInt us ws at₉ ow ∧ ∀ t, t < 3100 → us t ≠ 0 → kp t = 0 → ol.toInt ≤ (at₉ t).toInt := by
  obtain ⟨a1, a2, a3, a4, a5⟩ := h.2 hp
  have hn : ∀ t, t < 3100 → us t ≠ 0 → kp t = 0 → ol.toInt ≤ (at₉ t).toInt := fun t ht hu h0 => by
    refine Classical.byContradiction (fun z => ?_)
    exact ((hk t ht).mpr ⟨hu, by omega⟩) h0
  have s1 : sm (zbN0 us kp ag a) ws 3100 ≤ sm (zbY ol.toInt us at₉) ws 3100 := sm_mono (fun t ht hb => by
    unfold zbN0 at hb; unfold zbY
    rw [decide_eq_true_eq] at hb ⊢
    exact ⟨hb.1, hn t ht hb.1 hb.2.1⟩) hw
  have s2 : sm (zbN1 us kp ag a) ws 3100 ≤ sm (zbG us at₉ ol ag a) ws 3100 := sm_mono (fun t ht hb => by
    unfold zbN1 at hb; unfold zbG
    rw [decide_eq_true_eq] at hb ⊢
    exact ⟨hb.1, hn t ht hb.1 hb.2.1, hb.2.2⟩) hw
  have s3 : sm (zbKY us kp at₉ ol.toInt) ws 3100 = 0 := sm_zero (fun t ht => by
    unfold zbKY
    refine decide_eq_false (fun q => ?_)
    have := ((hk t ht).mp q.2.1).2
    have := q.2.2
    omega)
  exact ⟨by omega, by omega, by omega, a4, hn⟩
theorem KU_ko {b : Int} (hk : ∀ s : Nat, s < 3100 → (kp s ≠ 0 ↔ us s ≠ 0 ∧ (at₉ s).toInt < b)) : zKU po us kp := fun _ s hs h => ((hk s hs).mp h).1
theorem CQ_ko (h : zHA po ro yo ol cc hf tp ot us ws at₉ ow di kr kd wd) (hp : po.toInt = 3) (hk : ∀ s : Nat, s < 3100 → (kp s ≠ 0 ↔ us s ≠ 0 ∧ (at₉ s).toInt < ol.toInt)) (hz : qm.toInt = 0) (hb : ∀ s, s < 3100 → 0 ≤ (at₉ s).toInt) (hw : ∀ s, s < 3100 → 0 ≤ (ws s).toInt) : zCQ kp kr kd ws wd ca qa qm (zXX us at₉ 0 ot.toInt) 3100 0 := by
  refine ⟨fun j hj => by omega, fun e => absurd e (by decide), fun s hs hks => Or.inr (Or.inr (Or.inr ?_))⟩
  have q := (hk s hs).mp hks
  have := ((h.2 hp).2.2.2.1 s hs q.1 q.2).2.2.1
  have := hw s hs
  exact ⟨q.1, hb s hs, by omega⟩
theorem DK_ko (h : zHA po ro yo ol cc hf tp ot us ws at₉ ow di kr kd wd) (hp : po.toInt = 3) (hD : zDX po us rt wk wi wm kr kd ws wd) (hk : ∀ s : Nat, s < 3100 → (kp s ≠ 0 ↔ us s ≠ 0 ∧ (at₉ s).toInt < ol.toInt)) (hb : ∀ s, s < 3100 → ∀ i : Nat, (i : Int) < (ws s).toInt → (zrf kr kd wd s i).toInt ≤ 3099) : zDK ot.toInt cc.toInt kp us at₉ ws kr kd wd di := by
  obtain ⟨a1, a2, a3, a4, a5⟩ := h.2 hp
  intro s hs hu ha i hi
  rcases a5 s hs hu (by omega) i hi with q | q | q
  · exact Or.inl (Or.inl q)
  · rcases (hD (Or.inr hp)).2.2.2 s hs hu i hi with z | z
    · exact Or.inl (Or.inl z)
    · exact Or.inl (Or.inr ((hk _ (by have := hb s hs i hi; rw [tn_eq]; omega)).mpr ⟨z, q⟩))
  · exact Or.inr q
/-- no one begins at p -/
theorem CQ_skip (h : zCQ kp kr kd ws wd ca qa qm (zXX us at₉ p e) 3100 i) (hk : zPK ol.toInt e2 us ws at₉ ow) (he : e ≤ ol.toInt) (hp : (ow p.toNat).toInt < 0) (h0 : 0 ≤ p) (e3 : p2 = p + 1) : zCQ kp kr kd ws wd ca qa qm (zXX us at₉ p2 e) 3100 i := by
  subst e3
  refine CQ_weak h (fun t ht _ q => Or.inl ⟨q.1, ?_, q.2.2⟩)
  have a := (hk t ht q.1 (by have := q.2.2; omega)).2.1
  have b := q.2.1
  refine Classical.byContradiction (fun z => ?_)
  have e5 : (at₉ t).toNatClampNeg = p.toNat := by rw [tn_eq]; omega
  rw [e5] at a
  omega
/-- the one at p is done -/
theorem CQ_over {s : Nat} (h : zCQ kp kr kd ws wd ca qa qm (zXX us at₉ p e) 3100 i) (hk : zPK ol.toInt e2 us ws at₉ ow) (he : e ≤ ol.toInt) (hs : s < 3100) (hu : us s ≠ 0) (ha : (at₉ s).toInt = p) (hpe : p < e) (hd : ∀ i₉ : Nat, (i₉ : Int) < (ws s).toInt → zcl kp kr kd wd s i₉) (h0 : 0 ≤ p) (e3 : p2 = p + (ws s).toInt + 1) : zCQ kp kr kd ws wd ca qa qm (zXX us at₉ p2 e) 3100 i := by
  refine CQ_weak h (fun t ht _ q => ?_)
  have b := q.2.1
  have d := q.2.2
  by_cases z : (at₉ t).toInt = p
  · refine Or.inr ?_
    have a1 := (hk t ht q.1 (by omega)).1
    have a2 := (hk s hs hu (by omega)).1
    have e4 : at₉ t = at₉ s := Int32.toInt_inj.mp (by omega)
    rw [e4, a2] at a1
    rw [← a1]
    exact hd
  · have a3 := (hk s hs hu (by omega)).2.2.2 t ht q.1 (by omega) (by omega)
    exact Or.inl ⟨q.1, by omega, d⟩
theorem CQ_no (h : zCQ kp kr kd ws wd ca qa qm (zXX us at₉ p e) 3100 i) (hp : e ≤ p) : zCQ kp kr kd ws wd ca qa qm (fun _ => False) 3100 i := CQ_weak h (fun t _ _ q => by have := q.2.1; have := q.2.2; omega)
/-- up to i the words of s are done -/
def zUP (kp kr kd wd : Nat → Int32) (s i : Nat) : Prop := ∀ i₉, i₉ < i → zcl kp kr kd wd s i₉
theorem UP_adv {s i2 : Nat} (h : zUP kp kr kd wd s i) (hk : zle kp kp₉) (hr : zcl kp₉ kr kd wd s i) (e3 : i2 = i + 1) (hb : ∀ i₉ : Nat, i₉ < i → (zrf kr kd wd s i₉).toInt ≤ 3099) : zUP kp₉ kr kd wd s i2 := by
  subst e3
  intro i₉ hi
  by_cases z : i₉ = i
  · rw [z]; exact hr
  · rcases h i₉ (by omega) with q | q
    · exact Or.inl q
    · exact Or.inr (hk _ (by have := hb i₉ (by omega); rw [tn_eq]; omega) q)
theorem ax_at {s : Nat} (h : zax at₉ at2 e2) (hs : s < 3100) (ha : (at₉ s).toInt = p) (hp : p < e2) : (at2 s).toInt = p := by
  rcases h s hs with z | z
  · rw [z]; exact ha
  · omega
theorem HA_minor (h : po.toInt = 3) (h4 : 4 ≤ cc.toInt) (h3 : tp.toInt + sm (zbN0 us kp ag a) ws 3100 ≤ zB3 hf ol yo + yo.toInt ∧ ot.toInt + sm (zbN1 us kp ag a) ws 3100 ≤ ol.toInt ∧ zB3 hf ol yo + sm (zbKY us kp at₉ ol.toInt) ws 3100 ≤ tp.toInt ∧ zPK ol.toInt ot.toInt us ws at₉ ow ∧ ∀ t, t < 3100 → us t ≠ 0 → kp t = 0 → ol.toInt ≤ (at₉ t).toInt) (hm : zrm us us₉ kp 3100) (ho : zowr ow ow2 us kp at₉) (hD : zDC ol.toInt cc.toInt us₉ at₉ ws kr kd wd di) (hb : ∀ s, s < 3100 → 0 ≤ (at₉ s).toInt ∧ (at₉ s).toInt < 4600) (hw : ∀ s, s < 3100 → 0 ≤ (ws s).toInt) : zHA po ro yo ol cc hf tp ot us₉ ws at₉ ow2 di kr kd wd := by
  refine ⟨fun e => by omega, fun _ => ?_⟩
  obtain ⟨a1, a2, a3, a4, a5⟩ := h3
  have n0 := sm_nn (b := zbN0 us kp ag a) (ws := ws) (n := 3100) hw
  have n1 := sm_nn (b := zbN1 us kp ag a) (ws := ws) (n := 3100) hw
  have n2 := sm_nn (b := zbKY us kp at₉ ol.toInt) (ws := ws) (n := 3100) hw
  have e1 : sm (zbY ol.toInt us₉ at₉) ws 3100 = sm (zbKY us kp at₉ ol.toInt) ws 3100 := sm_congr (fun t ht => by
    unfold zbY zbKY
    refine decide_eq_decide.mpr ?_
    rw [(hm t ht).1 ht]
    exact ⟨fun q => ⟨q.1.1, q.1.2, q.2⟩, fun q => ⟨⟨q.1, q.2.1⟩, q.2.2⟩⟩)
  exact ⟨h4, ⟨by omega, by omega, by omega⟩, by omega, PK_sub a4 (sw_of hm ho) hb, hD⟩
end CD1

/-! from 94.483 -/
/-! the reference (written by wip/tools/gen94m.py) -/
set_option maxRecDepth 100000 in
theorem hm_207 : ma_md 207 = some (12, yX12_come, cX12_come, 2, none) := rfl
theorem s_119 : zs 119 = some (20, 3100) := rfl
theorem r_94_74 : zfi 94 74 = some 119 := rfl
theorem f_12_89_12 : ma_fld 12 89 12 = some 74 := by decide +kernel
theorem f_12_356_12 : ma_fld 12 356 12 = some 75 := by decide +kernel
theorem f_12_359_12 : ma_fld 12 359 12 = some 77 := by decide +kernel
theorem p_12_356_12 : ma_pk 12 356 12 75 = true := by decide +kernel
theorem p_12_359_12 : ma_pk 12 359 12 77 = true := by decide +kernel
theorem dX12_come_0 : decode cX12_come 0 = .ok (.iload_n 1, 1) := by decide +kernel
theorem dX12_come_13 : decode cX12_come 13 = .ok (.return_, 1) := by decide +kernel
theorem dX12_come_4 : decode cX12_come 4 = .ok (.aload_n 0, 1) := by decide +kernel
theorem dX12_come_8 : decode cX12_come 8 = .ok (.iload_n 1, 1) := by decide +kernel
theorem dX12_come_14 : decode cX12_come 14 = .ok (.aload_n 0, 1) := by decide +kernel
theorem dX12_come_18 : decode cX12_come 18 = .ok (.iload_n 1, 1) := by decide +kernel
theorem dX12_come_19 : decode cX12_come 19 = .ok (.iconst 1, 1) := by decide +kernel
theorem dX12_come_21 : decode cX12_come 21 = .ok (.aload_n 0, 1) := by decide +kernel
theorem dX12_come_25 : decode cX12_come 25 = .ok (.aload_n 0, 1) := by decide +kernel
theorem dX12_come_29 : decode cX12_come 29 = .ok (.iload_n 1, 1) := by decide +kernel
theorem dX12_come_31 : decode cX12_come 31 = .ok (.aload_n 0, 1) := by decide +kernel
theorem dX12_come_32 : decode cX12_come 32 = .ok (.dup, 1) := by decide +kernel
theorem dX12_come_36 : decode cX12_come 36 = .ok (.iconst 1, 1) := by decide +kernel
theorem dX12_come_37 : decode cX12_come 37 = .ok (.iadd, 1) := by decide +kernel
theorem dX12_come_41 : decode cX12_come 41 = .ok (.aload_n 0, 1) := by decide +kernel
theorem dX12_come_45 : decode cX12_come 45 = .ok (.iconst 3, 1) := by decide +kernel
theorem dX12_come_96 : decode cX12_come 96 = .ok (.aload_n 0, 1) := by decide +kernel
theorem dX12_come_97 : decode cX12_come 97 = .ok (.iload_n 1, 1) := by decide +kernel
theorem dX12_come_98 : decode cX12_come 98 = .ok (.aload_n 0, 1) := by decide +kernel
theorem dX12_come_102 : decode cX12_come 102 = .ok (.invokevirtual 352, 3) := by decide +kernel
theorem dX12_come_105 : decode cX12_come 105 = .ok (.aload_n 0, 1) := by decide +kernel
theorem dX12_come_106 : decode cX12_come 106 = .ok (.dup, 1) := by decide +kernel
theorem dX12_come_110 : decode cX12_come 110 = .ok (.aload_n 0, 1) := by decide +kernel
theorem dX12_come_111 : decode cX12_come 111 = .ok (.iload_n 1, 1) := by decide +kernel
theorem dX12_come_112 : decode cX12_come 112 = .ok (.invokevirtual 327, 3) := by decide +kernel
theorem dX12_come_115 : decode cX12_come 115 = .ok (.iadd, 1) := by decide +kernel
theorem dX12_come_119 : decode cX12_come 119 = .ok (.return_, 1) := by decide +kernel
theorem dX12_come_116 : decode cX12_come 116 = .ok (.putfield 359, 3) := by decide +kernel
theorem dX12_come_107 : decode cX12_come 107 = .ok (.getfield 359, 3) := by decide +kernel
theorem dX12_come_99 : decode cX12_come 99 = .ok (.getfield 359, 3) := by decide +kernel
theorem dX12_come_49 : decode cX12_come 49 = .ok (.aload_n 0, 1) := by decide +kernel
theorem dX12_come_53 : decode cX12_come 53 = .ok (.iload_n 1, 1) := by decide +kernel
theorem dX12_come_54 : decode cX12_come 54 = .ok (.dup2, 1) := by decide +kernel
theorem dX12_come_56 : decode cX12_come 56 = .ok (.iconst 1, 1) := by decide +kernel
theorem dX12_come_57 : decode cX12_come 57 = .ok (.iadd, 1) := by decide +kernel
theorem dX12_come_59 : decode cX12_come 59 = .ok (.aload_n 0, 1) := by decide +kernel
theorem dX12_come_63 : decode cX12_come 63 = .ok (.iload_n 1, 1) := by decide +kernel
theorem dX12_come_65 : decode cX12_come 65 = .ok (.aload_n 0, 1) := by decide +kernel
theorem dX12_come_72 : decode cX12_come 72 = .ok (.aload_n 0, 1) := by decide +kernel
theorem dX12_come_73 : decode cX12_come 73 = .ok (.iload_n 1, 1) := by decide +kernel
theorem dX12_come_74 : decode cX12_come 74 = .ok (.aload_n 0, 1) := by decide +kernel
theorem dX12_come_78 : decode cX12_come 78 = .ok (.invokevirtual 352, 3) := by decide +kernel
theorem dX12_come_81 : decode cX12_come 81 = .ok (.aload_n 0, 1) := by decide +kernel
theorem dX12_come_82 : decode cX12_come 82 = .ok (.dup, 1) := by decide +kernel
theorem dX12_come_86 : decode cX12_come 86 = .ok (.aload_n 0, 1) := by decide +kernel
theorem dX12_come_87 : decode cX12_come 87 = .ok (.iload_n 1, 1) := by decide +kernel
theorem dX12_come_88 : decode cX12_come 88 = .ok (.invokevirtual 327, 3) := by decide +kernel
theorem dX12_come_91 : decode cX12_come 91 = .ok (.iadd, 1) := by decide +kernel
theorem dX12_come_95 : decode cX12_come 95 = .ok (.return_, 1) := by decide +kernel
theorem dX12_come_92 : decode cX12_come 92 = .ok (.putfield 279, 3) := by decide +kernel
theorem dX12_come_83 : decode cX12_come 83 = .ok (.getfield 279, 3) := by decide +kernel
theorem dX12_come_75 : decode cX12_come 75 = .ok (.getfield 279, 3) := by decide +kernel
theorem dX12_come_69 : decode cX12_come 69 = .ok (.if_icmp .ne 27, 3) := by decide +kernel
theorem dX12_come_66 : decode cX12_come 66 = .ok (.getfield 213, 3) := by decide +kernel
theorem dX12_come_64 : decode cX12_come 64 = .ok (.iaload, 1) := by decide +kernel
theorem dX12_come_60 : decode cX12_come 60 = .ok (.getfield 43, 3) := by decide +kernel
theorem dX12_come_58 : decode cX12_come 58 = .ok (.iastore, 1) := by decide +kernel
theorem dX12_come_55 : decode cX12_come 55 = .ok (.iaload, 1) := by decide +kernel
theorem dX12_come_50 : decode cX12_come 50 = .ok (.getfield 43, 3) := by decide +kernel
theorem dX12_come_46 : decode cX12_come 46 = .ok (.if_icmp .ne 50, 3) := by decide +kernel
theorem dX12_come_42 : decode cX12_come 42 = .ok (.getfield 199, 3) := by decide +kernel
theorem dX12_come_38 : decode cX12_come 38 = .ok (.putfield 356, 3) := by decide +kernel
theorem dX12_come_33 : decode cX12_come 33 = .ok (.getfield 356, 3) := by decide +kernel
theorem dX12_come_30 : decode cX12_come 30 = .ok (.iastore, 1) := by decide +kernel
theorem dX12_come_26 : decode cX12_come 26 = .ok (.getfield 356, 3) := by decide +kernel
theorem dX12_come_22 : decode cX12_come 22 = .ok (.getfield 89, 3) := by decide +kernel
theorem dX12_come_20 : decode cX12_come 20 = .ok (.bastore, 1) := by decide +kernel
theorem dX12_come_15 : decode cX12_come 15 = .ok (.getfield 62, 3) := by decide +kernel
theorem dX12_come_10 : decode cX12_come 10 = .ok (.ifCond .eq 4, 3) := by decide +kernel
theorem dX12_come_9 : decode cX12_come 9 = .ok (.baload, 1) := by decide +kernel
theorem dX12_come_5 : decode cX12_come 5 = .ok (.getfield 62, 3) := by decide +kernel
theorem dX12_come_1 : decode cX12_come 1 = .ok (.ifCond .lt 12, 3) := by decide +kernel
def wr_207 (c k : Nat) : Bool := Nat.beq c 103 || Nat.beq c 104 || Nat.beq c 110 || Nat.beq c 111 || Nat.beq c 119 || (Nat.beq c 94 && (Nat.beq k 48 || Nat.beq k 60 || Nat.beq k 75 || Nat.beq k 77))
theorem ws_205_207 : ∀ c k, wr_205 c k = true → wr_207 c k = true := by
  intro c k h
  simp only [wr_205, Bool.or_eq_true, Bool.and_eq_true, Nat.beq_eq] at h
  rcases h with (rfl | rfl) | ⟨rfl, rfl⟩ <;> rfl
theorem g_207_0 {X : Nat × (Nat → Int32)} {m : Nat → Nat → Int32} {P : Option ma_V → (Nat → Nat → Int32) → Prop} (s : Int32) (h : if s < 0 then (P none m) else ((0 ≤ s ∧ s.toNatClampNeg < 3100) ∧ (if (m 110 s.toNatClampNeg) = 0 then ((0 ≤ s ∧ s.toNatClampNeg < 3100) ∧ ((0 ≤ (m 94 75) ∧ (m 94 75).toNatClampNeg < 3100) ∧ (if (m 94 10) = (3 : Int32) then ((0 ≤ s ∧ s.toNatClampNeg < 3100) ∧ ((0 ≤ s ∧ s.toNatClampNeg < 3100) ∧ ((0 ≤ s ∧ s.toNatClampNeg < 3100) ∧ (if ((ma_u (ma_u (ma_u (ma_u m 110 s.toNatClampNeg (1 : Int32)) 119 (m 94 75).toNatClampNeg s) 94 75 ((m 94 75) + (1 : Int32))) 104 s.toNatClampNeg ((m 104 s.toNatClampNeg) + (1 : Int32))) 104 s.toNatClampNeg) = (m 94 15) then (zm X 1 21 205 0 [(0, .inr (.inr (some 94))), (1, .inl s), (2, .inl (m 94 60))] (ma_u (ma_u (ma_u (ma_u m 110 s.toNatClampNeg (1 : Int32)) 119 (m 94 75).toNatClampNeg s) 94 75 ((m 94 75) + (1 : Int32))) 104 s.toNatClampNeg ((m 104 s.toNatClampNeg) + (1 : Int32))) (zmv (fun m5 => (0 ≤ s ∧ s.toNatClampNeg < 3100) ∧ (P none (ma_u m5 94 60 ((m5 94 60) + ((m5 102 s.toNatClampNeg) + (1 : Int32)))))))) else (zm X 1 21 205 0 [(0, .inr (.inr (some 94))), (1, .inl s), (2, .inl (m 94 77))] (ma_u (ma_u (ma_u (ma_u m 110 s.toNatClampNeg (1 : Int32)) 119 (m 94 75).toNatClampNeg s) 94 75 ((m 94 75) + (1 : Int32))) 104 s.toNatClampNeg ((m 104 s.toNatClampNeg) + (1 : Int32))) (zmv (fun m3 => (0 ≤ s ∧ s.toNatClampNeg < 3100) ∧ (P none (ma_u m3 94 77 ((m3 94 77) + ((m3 102 s.toNatClampNeg) + (1 : Int32)))))))))))) else (zm X 1 21 205 0 [(0, .inr (.inr (some 94))), (1, .inl s), (2, .inl (m 94 77))] (ma_u (ma_u (ma_u m 110 s.toNatClampNeg (1 : Int32)) 119 (m 94 75).toNatClampNeg s) 94 75 ((m 94 75) + (1 : Int32))) (zmv (fun m1 => (0 ≤ s ∧ s.toNatClampNeg < 3100) ∧ (P none (ma_u m1 94 77 ((m1 94 77) + ((m1 102 s.toNatClampNeg) + (1 : Int32))))))))))) else (P none m)))) : zm X 2 43 207 0 [(0, .inr (.inr (some 94))), (1, .inl s)] m P := by
  intro d w S Q hd hw hS hm HQ
  subst hm
  refine zw_push hm_207 dX12_come_0 (v := .inl s) rfl ?_
  refine zw_if0 hm_207 dX12_come_1 (t := 13) rfl zc0_lt ?_ ?_
  · intro hc
    rw [if_pos hc] at h
    exact zw_vret hm_207 dX12_come_13 (HQ _ _ h)
  · intro hc
    rw [if_neg hc] at h
    refine zw_push hm_207 dX12_come_4 (v := .inr (.inr (some 94))) rfl ?_
    refine zw_gf hm_207 dX12_come_5 (v := .inr (.inr (some 110))) (zT_is hS s_94) (zT_t hS s_94) rfl f_12_62_12 (zT_f hS r_94_42) ?_
    refine zw_push hm_207 dX12_come_8 (v := .inl s) rfl ?_
    obtain ⟨hg, h⟩ := h
    refine zw_ba hm_207 dX12_come_9 (zT_is hS s_110) (zT_h hS s_110) rfl rfl hg ?_
    show ma_wp X d w 207 10 [(0, .inr (.inr (some 94))), (1, .inl s)] [.inl ((mI S) 110 s.toNatClampNeg)] S _
    refine zw_if0 hm_207 dX12_come_10 (t := 14) rfl zc0_eq ?_ ?_
    · intro hc
      rw [if_pos hc] at h
      refine zw_push hm_207 dX12_come_14 (v := .inr (.inr (some 94))) rfl ?_
      refine zw_gf hm_207 dX12_come_15 (v := .inr (.inr (some 110))) (zT_is hS s_94) (zT_t hS s_94) rfl f_12_62_12 (zT_f hS r_94_42) ?_
      refine zw_push hm_207 dX12_come_18 (v := .inl s) rfl ?_
      refine zw_push hm_207 dX12_come_19 (v := .inl (1 : Int32)) rfl ?_
      obtain ⟨hg, h⟩ := h
      refine zw_bas22l hm_207 dX12_come_20 (hx := by decide) (yv := (1 : Int32)) (zT_is hS s_110) (zT_h hS s_110) rfl hg ?_
      refine zw_push hm_207 dX12_come_21 (v := .inr (.inr (some 94))) rfl ?_
      refine zw_gf hm_207 dX12_come_22 (v := .inr (.inr (some 119))) (zT_is (zT_pi hS) s_94) (zT_t (zT_pi hS) s_94) rfl f_12_89_12 (zT_f (zT_pi hS) r_94_74) ?_
      refine zw_push hm_207 dX12_come_25 (v := .inr (.inr (some 94))) rfl ?_
      refine zw_gf hm_207 dX12_come_26 (v := .inl ((mI S) 94 75)) (zT_is (zT_pi hS) s_94) (zT_t (zT_pi hS) s_94) rfl f_12_356_12 rfl ?_
      refine zw_push hm_207 dX12_come_29 (v := .inl s) rfl ?_
      obtain ⟨hg, h⟩ := h
      refine zw_ias hm_207 dX12_come_30 (zT_is (zT_pi hS) s_119) (zT_h (zT_pi hS) s_119) rfl hg ?_
      refine zw_push hm_207 dX12_come_31 (v := .inr (.inr (some 94))) rfl ?_
      refine zw_stk hm_207 dX12_come_32 (st₉ := [.inr (.inr (some 94)), .inr (.inr (some 94))]) rfl rfl ?_
      refine zw_gf hm_207 dX12_come_33 (v := .inl ((mI S) 94 75)) (zT_is (zT_pi (zT_pi hS)) s_94) (zT_t (zT_pi (zT_pi hS)) s_94) rfl f_12_356_12 rfl ?_
      refine zw_push hm_207 dX12_come_36 (v := .inl (1 : Int32)) rfl ?_
      refine zw_stk hm_207 dX12_come_37 (st₉ := [.inl (((mI S) 94 75) + (1 : Int32)), .inr (.inr (some 94))]) rfl rfl ?_
      refine zw_pf hm_207 dX12_come_38 (zT_is (zT_pi (zT_pi hS)) s_94) (zT_t (zT_pi (zT_pi hS)) s_94) p_12_356_12 zk_int ?_
      refine zw_push hm_207 dX12_come_41 (v := .inr (.inr (some 94))) rfl ?_
      refine zw_gf hm_207 dX12_come_42 (v := .inl ((mI S) 94 10)) (zT_is (zT_pi (zT_pi (zT_pi hS))) s_94) (zT_t (zT_pi (zT_pi (zT_pi hS))) s_94) rfl f_12_199_12 rfl ?_
      refine zw_push hm_207 dX12_come_45 (v := .inl (3 : Int32)) rfl ?_
      refine zw_if2 hm_207 dX12_come_46 (t := 96) rfl zc2_ne ?_ ?_
      · intro hc
        rw [if_neg hc] at h
        refine zw_push hm_207 dX12_come_96 (v := .inr (.inr (some 94))) rfl ?_
        refine zw_push hm_207 dX12_come_97 (v := .inl s) rfl ?_
        refine zw_push hm_207 dX12_come_98 (v := .inr (.inr (some 94))) rfl ?_
        refine zw_gf hm_207 dX12_come_99 (v := .inl ((mI S) 94 77)) (zT_is (zT_pi (zT_pi (zT_pi hS))) s_94) (zT_t (zT_pi (zT_pi (zT_pi hS))) s_94) rfl f_12_359_12 rfl ?_
        refine zw_cv hm_207 dX12_come_102 v_12_352_12 hm_205 [.inl ((mI S) 94 77), .inl s] [] rfl (zT_rt (zT_pi (zT_pi (zT_pi hS))) s_94 rfl) ⟨by omega, by omega⟩ rfl (h _ _ (ma_put (ma_put (ma_put S 110 s.toNatClampNeg (.inl (1 : Int32))) 119 ((mI S) 94 75).toNatClampNeg (.inl s)) 94 75 (.inl (((mI S) 94 75) + (1 : Int32)))) _ (by omega) (by omega) (zT_pi (zT_pi (zT_pi hS))) rfl (fun o9 m1 hv => ?_))
        obtain ⟨rfl, h⟩ := zmv_of hv
        show ma_wp X d w 207 105 [(0, .inr (.inr (some 94))), (1, .inl s)] [] (zst S m1) _
        refine zw_push hm_207 dX12_come_105 (v := .inr (.inr (some 94))) rfl ?_
        refine zw_stk hm_207 dX12_come_106 (st₉ := [.inr (.inr (some 94)), .inr (.inr (some 94))]) rfl rfl ?_
        refine zw_gf hm_207 dX12_come_107 (v := .inl (m1 94 77)) (zT_is (zT_zst hS m1) s_94) (zT_t (zT_zst hS m1) s_94) rfl f_12_359_12 rfl ?_
        refine zw_push hm_207 dX12_come_110 (v := .inr (.inr (some 94))) rfl ?_
        refine zw_push hm_207 dX12_come_111 (v := .inl s) rfl ?_
        refine zw_cv hm_207 dX12_come_112 v_12_327_12 hm_201 [.inl s] [.inl (m1 94 77), .inr (.inr (some 94))] rfl (zT_rt (zT_zst hS m1) s_94 rfl) ⟨by omega, by omega⟩ rfl ?_
        show ma_wp X (d - 1) (w - 21) 201 0 [(0, .inr (.inr (some 94))), (1, .inl s)] [] (zst S m1) _
        refine zw_push hm_201 dX12_sizeOf_0 (v := .inr (.inr (some 94))) rfl ?_
        refine zw_gf hm_201 dX12_sizeOf_1 (v := .inr (.inr (some 102))) (zT_is (zT_zst hS m1) s_94) (zT_t (zT_zst hS m1) s_94) rfl f_12_37_12 (zT_f (zT_zst hS m1) r_94_34) ?_
        refine zw_push hm_201 dX12_sizeOf_4 (v := .inl s) rfl ?_
        obtain ⟨hg, h⟩ := h
        refine zw_ia hm_201 dX12_sizeOf_5 (zT_is (zT_zst hS m1) s_102) (zT_h (zT_zst hS m1) s_102) rfl hg ?_
        show ma_wp X (d - 1) (w - 21) 201 6 [(0, .inr (.inr (some 94))), (1, .inl s)] [.inl (m1 102 s.toNatClampNeg)] (zst S m1) _
        refine zw_push hm_201 dX12_sizeOf_6 (v := .inl (1 : Int32)) rfl ?_
        refine zw_stk hm_201 dX12_sizeOf_7 (st₉ := [.inl ((m1 102 s.toNatClampNeg) + (1 : Int32))]) rfl rfl ?_
        refine zw_iret hm_201 dX12_sizeOf_8 ?_
        show ma_wp X d w 207 115 [(0, .inr (.inr (some 94))), (1, .inl s)] [.inl ((m1 102 s.toNatClampNeg) + (1 : Int32)), .inl (m1 94 77), .inr (.inr (some 94))] (zst S m1) _
        refine zw_stk hm_207 dX12_come_115 (st₉ := [.inl ((m1 94 77) + ((m1 102 s.toNatClampNeg) + (1 : Int32))), .inr (.inr (some 94))]) rfl rfl ?_
        refine zw_pf hm_207 dX12_come_116 (zT_is (zT_zst hS m1) s_94) (zT_t (zT_zst hS m1) s_94) p_12_359_12 zk_int ?_
        exact zw_vret hm_207 dX12_come_119 (HQ _ _ h)
      · intro hc
        rw [if_pos (Classical.not_not.mp hc)] at h
        refine zw_push hm_207 dX12_come_49 (v := .inr (.inr (some 94))) rfl ?_
        refine zw_gf hm_207 dX12_come_50 (v := .inr (.inr (some 104))) (zT_is (zT_pi (zT_pi (zT_pi hS))) s_94) (zT_t (zT_pi (zT_pi (zT_pi hS))) s_94) rfl f_12_43_12 (zT_f (zT_pi (zT_pi (zT_pi hS))) r_94_36) ?_
        refine zw_push hm_207 dX12_come_53 (v := .inl s) rfl ?_
        refine zw_stk hm_207 dX12_come_54 (st₉ := [.inl s, .inr (.inr (some 104)), .inl s, .inr (.inr (some 104))]) rfl rfl ?_
        obtain ⟨hg, h⟩ := h
        refine zw_ia hm_207 dX12_come_55 (zT_is (zT_pi (zT_pi (zT_pi hS))) s_104) (zT_h (zT_pi (zT_pi (zT_pi hS))) s_104) rfl hg ?_
        show ma_wp X d w 207 56 [(0, .inr (.inr (some 94))), (1, .inl s)] [.inl ((mI S) 104 s.toNatClampNeg), .inl s, .inr (.inr (some 104))] (ma_put (ma_put (ma_put S 110 s.toNatClampNeg (.inl (1 : Int32))) 119 ((mI S) 94 75).toNatClampNeg (.inl s)) 94 75 (.inl (((mI S) 94 75) + (1 : Int32)))) _
        refine zw_push hm_207 dX12_come_56 (v := .inl (1 : Int32)) rfl ?_
        refine zw_stk hm_207 dX12_come_57 (st₉ := [.inl (((mI S) 104 s.toNatClampNeg) + (1 : Int32)), .inl s, .inr (.inr (some 104))]) rfl rfl ?_
        obtain ⟨hg, h⟩ := h
        refine zw_ias hm_207 dX12_come_58 (zT_is (zT_pi (zT_pi (zT_pi hS))) s_104) (zT_h (zT_pi (zT_pi (zT_pi hS))) s_104) rfl hg ?_
        refine zw_push hm_207 dX12_come_59 (v := .inr (.inr (some 94))) rfl ?_
        refine zw_gf hm_207 dX12_come_60 (v := .inr (.inr (some 104))) (zT_is (zT_pi (zT_pi (zT_pi (zT_pi hS)))) s_94) (zT_t (zT_pi (zT_pi (zT_pi (zT_pi hS)))) s_94) rfl f_12_43_12 (zT_f (zT_pi (zT_pi (zT_pi (zT_pi hS)))) r_94_36) ?_
        refine zw_push hm_207 dX12_come_63 (v := .inl s) rfl ?_
        obtain ⟨hg, h⟩ := h
        refine zw_ia hm_207 dX12_come_64 (zT_is (zT_pi (zT_pi (zT_pi (zT_pi hS)))) s_104) (zT_h (zT_pi (zT_pi (zT_pi (zT_pi hS)))) s_104) rfl hg ?_
        show ma_wp X d w 207 65 [(0, .inr (.inr (some 94))), (1, .inl s)] [.inl ((ma_u (ma_u (ma_u (ma_u (mI S) 110 s.toNatClampNeg (1 : Int32)) 119 ((mI S) 94 75).toNatClampNeg s) 94 75 (((mI S) 94 75) + (1 : Int32))) 104 s.toNatClampNeg (((mI S) 104 s.toNatClampNeg) + (1 : Int32))) 104 s.toNatClampNeg)] (ma_put (ma_put (ma_put (ma_put S 110 s.toNatClampNeg (.inl (1 : Int32))) 119 ((mI S) 94 75).toNatClampNeg (.inl s)) 94 75 (.inl (((mI S) 94 75) + (1 : Int32)))) 104 s.toNatClampNeg (.inl (((mI S) 104 s.toNatClampNeg) + (1 : Int32)))) _
        refine zw_push hm_207 dX12_come_65 (v := .inr (.inr (some 94))) rfl ?_
        refine zw_gf hm_207 dX12_come_66 (v := .inl ((mI S) 94 15)) (zT_is (zT_pi (zT_pi (zT_pi (zT_pi hS)))) s_94) (zT_t (zT_pi (zT_pi (zT_pi (zT_pi hS)))) s_94) rfl f_12_213_12 rfl ?_
        refine zw_if2 hm_207 dX12_come_69 (t := 96) rfl zc2_ne ?_ ?_
        · intro hc
          rw [if_neg hc] at h
          refine zw_push hm_207 dX12_come_96 (v := .inr (.inr (some 94))) rfl ?_
          refine zw_push hm_207 dX12_come_97 (v := .inl s) rfl ?_
          refine zw_push hm_207 dX12_come_98 (v := .inr (.inr (some 94))) rfl ?_
          refine zw_gf hm_207 dX12_come_99 (v := .inl ((mI S) 94 77)) (zT_is (zT_pi (zT_pi (zT_pi (zT_pi hS)))) s_94) (zT_t (zT_pi (zT_pi (zT_pi (zT_pi hS)))) s_94) rfl f_12_359_12 rfl ?_
          refine zw_cv hm_207 dX12_come_102 v_12_352_12 hm_205 [.inl ((mI S) 94 77), .inl s] [] rfl (zT_rt (zT_pi (zT_pi (zT_pi (zT_pi hS)))) s_94 rfl) ⟨by omega, by omega⟩ rfl (h _ _ (ma_put (ma_put (ma_put (ma_put S 110 s.toNatClampNeg (.inl (1 : Int32))) 119 ((mI S) 94 75).toNatClampNeg (.inl s)) 94 75 (.inl (((mI S) 94 75) + (1 : Int32)))) 104 s.toNatClampNeg (.inl (((mI S) 104 s.toNatClampNeg) + (1 : Int32)))) _ (by omega) (by omega) (zT_pi (zT_pi (zT_pi (zT_pi hS)))) rfl (fun o9 m3 hv => ?_))
          obtain ⟨rfl, h⟩ := zmv_of hv
          show ma_wp X d w 207 105 [(0, .inr (.inr (some 94))), (1, .inl s)] [] (zst S m3) _
          refine zw_push hm_207 dX12_come_105 (v := .inr (.inr (some 94))) rfl ?_
          refine zw_stk hm_207 dX12_come_106 (st₉ := [.inr (.inr (some 94)), .inr (.inr (some 94))]) rfl rfl ?_
          refine zw_gf hm_207 dX12_come_107 (v := .inl (m3 94 77)) (zT_is (zT_zst hS m3) s_94) (zT_t (zT_zst hS m3) s_94) rfl f_12_359_12 rfl ?_
          refine zw_push hm_207 dX12_come_110 (v := .inr (.inr (some 94))) rfl ?_
          refine zw_push hm_207 dX12_come_111 (v := .inl s) rfl ?_
          refine zw_cv hm_207 dX12_come_112 v_12_327_12 hm_201 [.inl s] [.inl (m3 94 77), .inr (.inr (some 94))] rfl (zT_rt (zT_zst hS m3) s_94 rfl) ⟨by omega, by omega⟩ rfl ?_
          show ma_wp X (d - 1) (w - 21) 201 0 [(0, .inr (.inr (some 94))), (1, .inl s)] [] (zst S m3) _
          refine zw_push hm_201 dX12_sizeOf_0 (v := .inr (.inr (some 94))) rfl ?_
          refine zw_gf hm_201 dX12_sizeOf_1 (v := .inr (.inr (some 102))) (zT_is (zT_zst hS m3) s_94) (zT_t (zT_zst hS m3) s_94) rfl f_12_37_12 (zT_f (zT_zst hS m3) r_94_34) ?_
          refine zw_push hm_201 dX12_sizeOf_4 (v := .inl s) rfl ?_
          obtain ⟨hg, h⟩ := h
          refine zw_ia hm_201 dX12_sizeOf_5 (zT_is (zT_zst hS m3) s_102) (zT_h (zT_zst hS m3) s_102) rfl hg ?_
          show ma_wp X (d - 1) (w - 21) 201 6 [(0, .inr (.inr (some 94))), (1, .inl s)] [.inl (m3 102 s.toNatClampNeg)] (zst S m3) _
          refine zw_push hm_201 dX12_sizeOf_6 (v := .inl (1 : Int32)) rfl ?_
          refine zw_stk hm_201 dX12_sizeOf_7 (st₉ := [.inl ((m3 102 s.toNatClampNeg) + (1 : Int32))]) rfl rfl ?_
          refine zw_iret hm_201 dX12_sizeOf_8 ?_
          show ma_wp X d w 207 115 [(0, .inr (.inr (some 94))), (1, .inl s)] [.inl ((m3 102 s.toNatClampNeg) + (1 : Int32)), .inl (m3 94 77), .inr (.inr (some 94))] (zst S m3) _
          refine zw_stk hm_207 dX12_come_115 (st₉ := [.inl ((m3 94 77) + ((m3 102 s.toNatClampNeg) + (1 : Int32))), .inr (.inr (some 94))]) rfl rfl ?_
          refine zw_pf hm_207 dX12_come_116 (zT_is (zT_zst hS m3) s_94) (zT_t (zT_zst hS m3) s_94) p_12_359_12 zk_int ?_
          exact zw_vret hm_207 dX12_come_119 (HQ _ _ h)
        · intro hc
          rw [if_pos (Classical.not_not.mp hc)] at h
          refine zw_push hm_207 dX12_come_72 (v := .inr (.inr (some 94))) rfl ?_
          refine zw_push hm_207 dX12_come_73 (v := .inl s) rfl ?_
          refine zw_push hm_207 dX12_come_74 (v := .inr (.inr (some 94))) rfl ?_
          refine zw_gf hm_207 dX12_come_75 (v := .inl ((mI S) 94 60)) (zT_is (zT_pi (zT_pi (zT_pi (zT_pi hS)))) s_94) (zT_t (zT_pi (zT_pi (zT_pi (zT_pi hS)))) s_94) rfl f_12_279_12 rfl ?_
          refine zw_cv hm_207 dX12_come_78 v_12_352_12 hm_205 [.inl ((mI S) 94 60), .inl s] [] rfl (zT_rt (zT_pi (zT_pi (zT_pi (zT_pi hS)))) s_94 rfl) ⟨by omega, by omega⟩ rfl (h _ _ (ma_put (ma_put (ma_put (ma_put S 110 s.toNatClampNeg (.inl (1 : Int32))) 119 ((mI S) 94 75).toNatClampNeg (.inl s)) 94 75 (.inl (((mI S) 94 75) + (1 : Int32)))) 104 s.toNatClampNeg (.inl (((mI S) 104 s.toNatClampNeg) + (1 : Int32)))) _ (by omega) (by omega) (zT_pi (zT_pi (zT_pi (zT_pi hS)))) rfl (fun o9 m5 hv => ?_))
          obtain ⟨rfl, h⟩ := zmv_of hv
          show ma_wp X d w 207 81 [(0, .inr (.inr (some 94))), (1, .inl s)] [] (zst S m5) _
          refine zw_push hm_207 dX12_come_81 (v := .inr (.inr (some 94))) rfl ?_
          refine zw_stk hm_207 dX12_come_82 (st₉ := [.inr (.inr (some 94)), .inr (.inr (some 94))]) rfl rfl ?_
          refine zw_gf hm_207 dX12_come_83 (v := .inl (m5 94 60)) (zT_is (zT_zst hS m5) s_94) (zT_t (zT_zst hS m5) s_94) rfl f_12_279_12 rfl ?_
          refine zw_push hm_207 dX12_come_86 (v := .inr (.inr (some 94))) rfl ?_
          refine zw_push hm_207 dX12_come_87 (v := .inl s) rfl ?_
          refine zw_cv hm_207 dX12_come_88 v_12_327_12 hm_201 [.inl s] [.inl (m5 94 60), .inr (.inr (some 94))] rfl (zT_rt (zT_zst hS m5) s_94 rfl) ⟨by omega, by omega⟩ rfl ?_
          show ma_wp X (d - 1) (w - 21) 201 0 [(0, .inr (.inr (some 94))), (1, .inl s)] [] (zst S m5) _
          refine zw_push hm_201 dX12_sizeOf_0 (v := .inr (.inr (some 94))) rfl ?_
          refine zw_gf hm_201 dX12_sizeOf_1 (v := .inr (.inr (some 102))) (zT_is (zT_zst hS m5) s_94) (zT_t (zT_zst hS m5) s_94) rfl f_12_37_12 (zT_f (zT_zst hS m5) r_94_34) ?_
          refine zw_push hm_201 dX12_sizeOf_4 (v := .inl s) rfl ?_
          obtain ⟨hg, h⟩ := h
          refine zw_ia hm_201 dX12_sizeOf_5 (zT_is (zT_zst hS m5) s_102) (zT_h (zT_zst hS m5) s_102) rfl hg ?_
          show ma_wp X (d - 1) (w - 21) 201 6 [(0, .inr (.inr (some 94))), (1, .inl s)] [.inl (m5 102 s.toNatClampNeg)] (zst S m5) _
          refine zw_push hm_201 dX12_sizeOf_6 (v := .inl (1 : Int32)) rfl ?_
          refine zw_stk hm_201 dX12_sizeOf_7 (st₉ := [.inl ((m5 102 s.toNatClampNeg) + (1 : Int32))]) rfl rfl ?_
          refine zw_iret hm_201 dX12_sizeOf_8 ?_
          show ma_wp X d w 207 91 [(0, .inr (.inr (some 94))), (1, .inl s)] [.inl ((m5 102 s.toNatClampNeg) + (1 : Int32)), .inl (m5 94 60), .inr (.inr (some 94))] (zst S m5) _
          refine zw_stk hm_207 dX12_come_91 (st₉ := [.inl ((m5 94 60) + ((m5 102 s.toNatClampNeg) + (1 : Int32))), .inr (.inr (some 94))]) rfl rfl ?_
          refine zw_pf hm_207 dX12_come_92 (zT_is (zT_zst hS m5) s_94) (zT_t (zT_zst hS m5) s_94) p_12_279_12 zk_int ?_
          exact zw_vret hm_207 dX12_come_95 (HQ _ _ h)
    · intro hc
      rw [if_neg hc] at h
      exact zw_vret hm_207 dX12_come_13 (HQ _ _ h)
theorem sp_207 {X : Nat × (Nat → Int32)} {P : Option ma_V → (Nat → Nat → Int32) → Prop} {XX : Nat→Prop} {CU : Nat} {II : Nat} {m : Nat → Nat → Int32} (s : Int32) (hV : zV m) (hpre0 : -1 ≤ s.toInt) (hpre1 : s.toInt ≤ 3099) (hpre2 : (m 94 10).toInt = 2 ∨ (m 94 10).toInt = 3) (r_SU2 : s.toInt < 0 ∨ (m 99) s.toNatClampNeg ≠ 0) (r_CMK : zKS (m 110) (m 94 75)) (r_OW : zOw (m 99) (m 103) (m 111)) (r_H2 : zH2 (m 94 10) (m 94 11) (m 94 61) (m 94 77) (m 99) (m 110) (m 102)) (r_H3 : zH3 (m 94 10) (m 94 13) (m 94 14) (m 94 15) (m 94 61) (m 94 77) (m 94 60) (m 99) (m 110) (m 104) (m 102) (m 103) (m 111)) (hpre8 : (m 94 76).toInt ≤ (m 94 75).toInt) (r_CQ : zCQ (m 110) (m 98) (m 101) (m 102) (m 108) (m 119) (m 94 76) (m 94 75) XX CU II) (r_KU : zKU (m 94 10) (m 99) (m 110)) (KZ : ∀ m₉, zV (zov wr_207 m m₉) → (zKS (m₉ 110) (m₉ 94 75)) → (zOw (m 99) (m₉ 103) (m₉ 111)) → (zH2 (m 94 10) (m 94 11) (m 94 61) (m₉ 94 77) (m 99) (m₉ 110) (m 102)) → (zH3 (m 94 10) (m 94 13) (m 94 14) (m 94 15) (m 94 61) (m₉ 94 77) (m₉ 94 60) (m 99) (m₉ 110) (m₉ 104) (m 102) (m₉ 103) (m₉ 111)) → (s.toInt < 0 ∨ (m₉ 110) s.toNatClampNeg ≠ 0) → (zle (m 110) (m₉ 110)) → ((m 94 76).toInt ≤ (m₉ 94 75).toInt) → (zCQ (m₉ 110) (m 98) (m 101) (m 102) (m 108) (m₉ 119) (m 94 76) (m₉ 94 75) XX CU II) → (zKU (m 94 10) (m 99) (m₉ 110)) → ((m 94 10).toInt = 3 → zax (m 103) (m₉ 103) (m 94 60).toInt) → ((m 94 60).toInt ≤ (m₉ 94 60).toInt) → P none (zov wr_207 m m₉)) : zm X 2 43 207 0 [(0, .inr (.inr (some 94))), (1, .inl s)] m P := by
  have K : ∀ m₉, zF wr_207 m m₉ → zV m₉ → (zKS (m₉ 110) (m₉ 94 75)) → (zOw (m₉ 99) (m₉ 103) (m₉ 111)) → (zH2 (m₉ 94 10) (m₉ 94 11) (m₉ 94 61) (m₉ 94 77) (m₉ 99) (m₉ 110) (m₉ 102)) → (zH3 (m₉ 94 10) (m₉ 94 13) (m₉ 94 14) (m₉ 94 15) (m₉ 94 61) (m₉ 94 77) (m₉ 94 60) (m₉ 99) (m₉ 110) (m₉ 104) (m₉ 102) (m₉ 103) (m₉ 111)) → (s.toInt < 0 ∨ (m₉ 110) s.toNatClampNeg ≠ 0) → (zle (m 110) (m₉ 110)) → ((m₉ 94 76).toInt ≤ (m₉ 94 75).toInt) → (zCQ (m₉ 110) (m₉ 98) (m₉ 101) (m₉ 102) (m₉ 108) (m₉ 119) (m₉ 94 76) (m₉ 94 75) XX CU II) → (zKU (m₉ 94 10) (m₉ 99) (m₉ 110)) → ((m₉ 94 10).toInt = 3 → zax (m 103) (m₉ 103) (m 94 60).toInt) → ((m 94 60).toInt ≤ (m₉ 94 60).toInt) → P none m₉ := by
    intro m₉ hf z q0 q1 q2 q3 q4 q5 q6 q7 q8 q9 q10
    have e := zov_eq hf
    rw [e] at z ⊢
    try rw [e] at q0
    try rw [e] at q1
    try rw [e] at q2
    try rw [e] at q3
    try rw [e] at q4
    try rw [e] at q5
    try rw [e] at q6
    try rw [e] at q7
    try rw [e] at q8
    try rw [e] at q9
    try rw [e] at q10
    exact KZ m₉ z q0 q1 q2 q3 q4 q5 q6 q7 q8 q9 q10
  refine g_207_0 s ?_
  have f1 : 0 ≤ (m 94 10).toInt ∧ (m 94 10).toInt ≤ 6 := rs_94_10 (m := m) hV
  have f2 : 0 ≤ (m 94 76).toInt ∧ (m 94 76).toInt ≤ 3100 := rs_94_76 (m := m) hV
  have f3 : 0 ≤ (m 94 75).toInt ∧ (m 94 75).toInt ≤ 3100 := rs_94_75 (m := m) hV
  have b4 := i_bd s
  have li5 : (0 : Int32).toInt = 0 := rfl
  refine zd (fun (h6 : s < (0 : Int32)) => ?_) (fun (h6 : ¬ s < (0 : Int32)) => ?_)
  · skip
    have g7 := i_lt h6
    have f8 : 0 ≤ (m 94 60).toInt ∧ (m 94 60).toInt ≤ 1600 := rs_94_60 (m := m) hV
    exact K _ zF_rfl hV r_CMK r_OW r_H2 r_H3 (show s.toInt < 0 ∨ (m 110) s.toNatClampNeg ≠ 0 from by first | (exact Or.inl (by omega)) | (exact Or.inr (by assumption)) | (exfalso; omega; done) | (exfalso; contradiction; done)) (show zle (m 110) (m 110) from by first | (exact zle_rfl) | (exfalso; omega; done) | (exfalso; contradiction; done)) (show (m 94 76).toInt ≤ (m 94 75).toInt from by omega) r_CQ r_KU (show (m 94 10).toInt = 3 → zax (m 103) (m 103) (m 94 60).toInt from by first | (exact fun _ => zax_rfl) | (exfalso; omega; done) | (exfalso; contradiction; done)) (show (m 94 60).toInt ≤ (m 94 60).toInt from by omega)
  · skip
    have g9 := i_nlt h6
    have hg10 : (0 ≤ s ∧ s.toNatClampNeg < 3100) := i_ix (by omega) (by omega)
    refine ⟨hg10, ?_⟩
    first | have f11 : 0 ≤ (m 110 s.toNatClampNeg).toInt ∧ (m 110 s.toNatClampNeg).toInt ≤ 1 := ra_110 (m := m) hV (k := s.toNatClampNeg) (i_ix (n := 3100) (by omega) (by omega)).2 | have b12 := i_bd (m 110 s.toNatClampNeg)
    refine zd (fun (h13 : (m 110 s.toNatClampNeg) = (0 : Int32)) => ?_) (fun (h13 : ¬ (m 110 s.toNatClampNeg) = (0 : Int32)) => ?_)
    · skip
      have g14 := i_eq h13
      have hg15 : (0 ≤ s ∧ s.toNatClampNeg < 3100) := i_ix (by omega) (by omega)
      refine ⟨hg15, ?_⟩
      try have gk := KS_room r_CMK (by assumption) (by omega)
      have hg16 : (0 ≤ (m 94 75) ∧ (m 94 75).toNatClampNeg < 3100) := i_ix (by omega) (by omega)
      refine ⟨hg16, ?_⟩
      have li17 : (3 : Int32).toInt = 3 := rfl
      refine zd (fun (h18 : (m 94 10) = (3 : Int32)) => ?_) (fun (h18 : ¬ (m 94 10) = (3 : Int32)) => ?_)
      · skip
        have g19 := i_eq h18
        have hg20 : (0 ≤ s ∧ s.toNatClampNeg < 3100) := i_ix (by omega) (by omega)
        refine ⟨hg20, ?_⟩
        have hg21 : (0 ≤ s ∧ s.toNatClampNeg < 3100) := i_ix (by omega) (by omega)
        refine ⟨hg21, ?_⟩
        have hg22 : (0 ≤ s ∧ s.toNatClampNeg < 3100) := i_ix (by omega) (by omega)
        refine ⟨hg22, ?_⟩
        have b23 := i_bd (m 104 s.toNatClampNeg)
        first | have b25 := i_bd ((m 104 s.toNatClampNeg) + (1 : Int32)) | have e24 : ((m 104 s.toNatClampNeg) + (1 : Int32)).toInt = (m 104 s.toNatClampNeg).toInt + (1) := i_addk rfl (by omega) (by omega)
        have q26 : ((ma_u m 104 s.toNatClampNeg ((m 104 s.toNatClampNeg) + (1 : Int32))) 104 s.toNatClampNeg).toInt = ((m 104 s.toNatClampNeg) + (1 : Int32)).toInt := congrArg Int32.toInt mu_self
        have b27 := i_bd ((ma_u m 104 s.toNatClampNeg ((m 104 s.toNatClampNeg) + (1 : Int32))) 104 s.toNatClampNeg)
        have b28 := i_bd (m 94 15)
        refine zd (fun (h29 : ((ma_u m 104 s.toNatClampNeg ((m 104 s.toNatClampNeg) + (1 : Int32))) 104 s.toNatClampNeg) = (m 94 15)) => ?_) (fun (h29 : ¬ ((ma_u m 104 s.toNatClampNeg ((m 104 s.toNatClampNeg) + (1 : Int32))) 104 s.toNatClampNeg) = (m 94 15)) => ?_)
        · skip
          have g30 := i_eq h29
          have f31 : 0 ≤ (m 94 60).toInt ∧ (m 94 60).toInt ≤ 1600 := rs_94_60 (m := m) hV
          have li33 : (1 : Int32).toInt = 1 := rfl
          have hV32 : zV (ma_u m 110 s.toNatClampNeg (1 : Int32)) := ua_110 hV (by omega) (by omega)
          have hV34 : zV (ma_u (ma_u m 110 s.toNatClampNeg (1 : Int32)) 119 (m 94 75).toNatClampNeg s) := ua_119 hV32 (by omega) (by omega)
          first | have e36 : ((m 94 75) + (1 : Int32)).toInt = (m 94 75).toInt + (1) := i_addk rfl (by omega) (by omega) | have b37 := i_bd ((m 94 75) + (1 : Int32))
          have hV35 : zV (ma_u (ma_u (ma_u m 110 s.toNatClampNeg (1 : Int32)) 119 (m 94 75).toNatClampNeg s) 94 75 ((m 94 75) + (1 : Int32))) := us_94_75 hV34 (by omega) (by omega)
          have hV38 : zV (ma_u (ma_u (ma_u (ma_u m 110 s.toNatClampNeg (1 : Int32)) 119 (m 94 75).toNatClampNeg s) 94 75 ((m 94 75) + (1 : Int32))) 104 s.toNatClampNeg ((m 104 s.toNatClampNeg) + (1 : Int32))) := ua_104 hV35
          try have hus : m 99 s.toNatClampNeg ≠ 0 := r_SU2.elim (fun z => absurd z (by omega)) id
          try have hws := ra_102 (m := m) hV (k := s.toNatClampNeg) (by omega)
          try have h0k : m 110 s.toNatClampNeg = 0 := by assumption
          try have hg : (m 104 s.toNatClampNeg) + (1 : Int32) = (m 94 15) := (mu_self (m := m) (c := 104) (k := s.toNatClampNeg) (x := (m 104 s.toNatClampNeg) + (1 : Int32))).symm.trans (by assumption)
          skip
          try have b2 := zB2_le (hf := m 94 61) (ro := m 94 11) (rs_94_11 hV).1
          try have b2b := (rs_94_11 hV).2
          try have b3 := zB3_le (hf := m 94 61) (ol := m 94 14) (yo := m 94 13) (rs_94_13 hV).1
          try have b3b := (rs_94_13 hV).2
          try have b3c := (rs_94_14 hV).2
          skip
          try have h3a := r_H3 (by omega)
          try have g2 := sm_ge (b := zbN (m 99) (m 110)) (ws := m 102) (n := 3100) (s := s.toNatClampNeg) (by omega) (decide_eq_true ⟨hus, h0k⟩) (fun t ht => (ra_102 hV ht).1)
          skip
          try have g4 := sm_ge (b := zbN1 (m 99) (m 110) (m 104) (m 94 15)) (ws := m 102) (n := 3100) (s := s.toNatClampNeg) (by omega) (decide_eq_true ⟨hus, h0k, hg⟩) (fun t ht => (ra_102 hV ht).1)
          try have n0 := sm_nn (b := zbK (m 99) (m 110)) (ws := m 102) (n := 3100) (fun t ht => (ra_102 hV ht).1)
          try have n1 := sm_nn (b := zbKY (m 99) (m 110) (m 103) (m 94 14).toInt) (ws := m 102) (n := 3100) (fun t ht => (ra_102 hV ht).1)
          try have n2 := sm_nn (b := zbN1 (m 99) (m 110) (m 104) (m 94 15)) (ws := m 102) (n := 3100) (fun t ht => (ra_102 hV ht).1)
          try have hol := h3a.2.2.2.2 _ (by omega) hus h0k
          refine sp_205 (s) ((m 94 60)) hV38 (by omega) (by omega) (by omega) (by omega) (show (m 99) s.toNatClampNeg ≠ 0 from by first | (exact hus) | (assumption; done) | (exact ow5.1) | (exact ow3.1) | (exfalso; omega; done) | (exfalso; contradiction; done)) r_OW (fun m5 hV_m5 p0_m5 p1_m5 => zmv_n ?_)
          have p0_m5 : zOw (m 99) (m5 103) (m5 111) := p0_m5
          have p1_m5 : zmov s (m 94 60) (m 103) (m 111) (m5 103) (m5 111) := p1_m5
          try have mvs := mv_s p1_m5
          have hg39 : (0 ≤ s ∧ s.toNatClampNeg < 3100) := i_ix (by omega) (by omega)
          refine ⟨hg39, ?_⟩
          first | have f41 : 0 ≤ (m 102 s.toNatClampNeg).toInt ∧ (m 102 s.toNatClampNeg).toInt ≤ 60 := ra_102 (m := m) hV (k := s.toNatClampNeg) (i_ix (n := 3100) (by omega) (by omega)).2 | have b42 := i_bd (m 102 s.toNatClampNeg)
          first | have e43 : ((m 102 s.toNatClampNeg) + (1 : Int32)).toInt = (m 102 s.toNatClampNeg).toInt + (1) := i_addk rfl (by omega) (by omega) | have b44 := i_bd ((m 102 s.toNatClampNeg) + (1 : Int32))
          first | have e45 : ((m 94 60) + ((m 102 s.toNatClampNeg) + (1 : Int32))).toInt = (m 94 60).toInt + ((m 102 s.toNatClampNeg) + (1 : Int32)).toInt := i_add (by omega) (by omega) | have b46 := i_bd ((m 94 60) + ((m 102 s.toNatClampNeg) + (1 : Int32)))
          have hV40 : zV (ma_u (zov wr_205 (ma_u (ma_u (ma_u (ma_u m 110 s.toNatClampNeg (1 : Int32)) 119 (m 94 75).toNatClampNeg s) 94 75 ((m 94 75) + (1 : Int32))) 104 s.toNatClampNeg ((m 104 s.toNatClampNeg) + (1 : Int32))) m5) 94 60 ((m 94 60) + ((m 102 s.toNatClampNeg) + (1 : Int32)))) := us_94_60 hV_m5 (by omega) (by omega)
          exact K _ (zF_u (zF_zov (zF_u (zF_u (zF_u (zF_u zF_rfl rfl) rfl) rfl) rfl) ws_205_207) rfl) hV40 (show zKS ((ma_u m 110 s.toNatClampNeg (1 : Int32)) 110) ((m 94 75) + (1 : Int32)) from by first | (exact KS_push r_CMK (by assumption) (by omega) (by decide) (by assumption)) | (exfalso; omega; done) | (exfalso; contradiction; done)) p0_m5 (show zH2 (m 94 10) (m 94 11) (m 94 61) (m 94 77) (m 99) ((ma_u m 110 s.toNatClampNeg (1 : Int32)) 110) (m 102) from by first | (exact fun hp => absurd hp (by omega)) | (exact fun _ => by have e1 := smN_keep (m := m) (c := 110) (us := m 99) (ws := m 102) (k := s.toNatClampNeg) (x := (1 : Int32)) (by omega) hus h0k (by decide); have e2 := smK_keep (m := m) (c := 110) (us := m 99) (ws := m 102) (k := s.toNatClampNeg) (x := (1 : Int32)) (by omega) hus h0k (by decide); omega) | (exfalso; omega; done) | (exfalso; contradiction; done)) (show zH3 (m 94 10) (m 94 13) (m 94 14) (m 94 15) (m 94 61) (m 94 77) ((m 94 60) + ((m 102 s.toNatClampNeg) + (1 : Int32))) (m 99) ((ma_u m 110 s.toNatClampNeg (1 : Int32)) 110) ((ma_u m 104 s.toNatClampNeg ((m 104 s.toNatClampNeg) + (1 : Int32))) 104) (m 102) (m5 103) (m5 111) from by first | (exact fun _ => ⟨by have e1 := smN0_same (m := m) (c := 110) (ma := m) (ca := 104) (us := m 99) (ws := m 102) (a := m 94 15) (y := (m 104 s.toNatClampNeg) + (1 : Int32)) (k := s.toNatClampNeg) (x := (1 : Int32)) (by decide) hg; omega, by have e1 := smN1_keep (m := m) (c := 110) (ma := m) (ca := 104) (us := m 99) (ws := m 102) (a := m 94 15) (y := (m 104 s.toNatClampNeg) + (1 : Int32)) (k := s.toNatClampNeg) (x := (1 : Int32)) (by omega) hus h0k (by decide) hg; omega, by have e1 := smKY_old (m := m) (c := 110) (us := m 99) (ws := m 102) (ol := (m 94 14).toInt) (x := (1 : Int32)) h0k p1_m5 (by omega); omega, PK_add h3a.2.2.2.1 p1_m5 rfl (by omega) (by omega) (h3a.2.2.2.2 _ (by omega) hus h0k) (fun t ht => (ra_103 hV ht).1) (fun t ht => (ra_102 hV ht).1) (by omega) (by omega) (by omega), H3_rest h3a.2.2.2.2 p1_m5 (by decide)⟩) | (exact fun hp => absurd hp (by omega)) | (exact fun _ => ⟨by have e1 := smN0_keep (m := m) (c := 110) (ma := m) (ca := 104) (us := m 99) (ws := m 102) (a := m 94 15) (y := (m 104 s.toNatClampNeg) + (1 : Int32)) (k := s.toNatClampNeg) (x := (1 : Int32)) (by omega) hus h0k (by decide) hng; omega, by have e1 := smN1_same (m := m) (c := 110) (ma := m) (ca := 104) (us := m 99) (ws := m 102) (a := m 94 15) (y := (m 104 s.toNatClampNeg) + (1 : Int32)) (k := s.toNatClampNeg) (x := (1 : Int32)) (by decide) hng; omega, by have e1 := smKY_young (m := m) (c := 110) (us := m 99) (ws := m 102) (ol := (m 94 14).toInt) (x := (1 : Int32)) (by omega) hus h0k (by decide) p1_m5 (by omega); omega, PK_hi h3a.2.2.2.1 p1_m5 (by omega) (h3a.2.2.2.2 _ (by omega) hus h0k) (fun t ht => (ra_103 hV ht).1), H3_rest h3a.2.2.2.2 p1_m5 (by decide)⟩) | (exfalso; omega; done) | (exfalso; contradiction; done)) (show s.toInt < 0 ∨ ((ma_u m 110 s.toNatClampNeg (1 : Int32)) 110) s.toNatClampNeg ≠ 0 from by first | (exact Or.inr (by rw [mu_self]; decide)) | (exfalso; omega; done) | (exfalso; contradiction; done)) (show zle (m 110) ((ma_u m 110 s.toNatClampNeg (1 : Int32)) 110) from by first | (exact zle_push zle_rfl (by decide)) | (exfalso; omega; done) | (exfalso; contradiction; done)) (show (m 94 76).toInt ≤ ((m 94 75) + (1 : Int32)).toInt from by omega) (show zCQ ((ma_u m 110 s.toNatClampNeg (1 : Int32)) 110) (m 98) (m 101) (m 102) (m 108) ((ma_u m 119 (m 94 75).toNatClampNeg s) 119) (m 94 76) ((m 94 75) + (1 : Int32)) XX CU II from by first | (exact CQ_push r_CQ (by decide) (by omega) (by omega) rfl (by assumption)) | (exfalso; omega; done) | (exfalso; contradiction; done)) (show zKU (m 94 10) (m 99) ((ma_u m 110 s.toNatClampNeg (1 : Int32)) 110) from by first | (exact KU_push r_KU (fun _ => hus)) | (exfalso; omega; done) | (exfalso; contradiction; done)) (show (m 94 10).toInt = 3 → zax (m 103) (m5 103) (m 94 60).toInt from by first | (exact fun _ => zax_mv p1_m5 (by omega) (by omega)) | (exact fun hp => absurd hp (by omega)) | (exfalso; omega; done) | (exfalso; contradiction; done)) (show (m 94 60).toInt ≤ ((m 94 60) + ((m 102 s.toNatClampNeg) + (1 : Int32))).toInt from by omega)
        · skip
          have g47 := i_ne h29
          have f48 : 0 ≤ (m 94 77).toInt ∧ (m 94 77).toInt ≤ 4600 := rs_94_77 (m := m) hV
          have li50 : (1 : Int32).toInt = 1 := rfl
          have hV49 : zV (ma_u m 110 s.toNatClampNeg (1 : Int32)) := ua_110 hV (by omega) (by omega)
          have hV51 : zV (ma_u (ma_u m 110 s.toNatClampNeg (1 : Int32)) 119 (m 94 75).toNatClampNeg s) := ua_119 hV49 (by omega) (by omega)
          first | have e53 : ((m 94 75) + (1 : Int32)).toInt = (m 94 75).toInt + (1) := i_addk rfl (by omega) (by omega) | have b54 := i_bd ((m 94 75) + (1 : Int32))
          have hV52 : zV (ma_u (ma_u (ma_u m 110 s.toNatClampNeg (1 : Int32)) 119 (m 94 75).toNatClampNeg s) 94 75 ((m 94 75) + (1 : Int32))) := us_94_75 hV51 (by omega) (by omega)
          have hV55 : zV (ma_u (ma_u (ma_u (ma_u m 110 s.toNatClampNeg (1 : Int32)) 119 (m 94 75).toNatClampNeg s) 94 75 ((m 94 75) + (1 : Int32))) 104 s.toNatClampNeg ((m 104 s.toNatClampNeg) + (1 : Int32))) := ua_104 hV52
          try have hus : m 99 s.toNatClampNeg ≠ 0 := r_SU2.elim (fun z => absurd z (by omega)) id
          try have hws := ra_102 (m := m) hV (k := s.toNatClampNeg) (by omega)
          try have h0k : m 110 s.toNatClampNeg = 0 := by assumption
          skip
          try have hng : ¬ (m 104 s.toNatClampNeg) + (1 : Int32) = (m 94 15) := fun z => absurd ((mu_self (m := m) (c := 104) (k := s.toNatClampNeg) (x := (m 104 s.toNatClampNeg) + (1 : Int32))).trans z) (by assumption)
          try have b2 := zB2_le (hf := m 94 61) (ro := m 94 11) (rs_94_11 hV).1
          try have b2b := (rs_94_11 hV).2
          try have b3 := zB3_le (hf := m 94 61) (ol := m 94 14) (yo := m 94 13) (rs_94_13 hV).1
          try have b3b := (rs_94_13 hV).2
          try have b3c := (rs_94_14 hV).2
          skip
          try have h3a := r_H3 (by omega)
          try have g2 := sm_ge (b := zbN (m 99) (m 110)) (ws := m 102) (n := 3100) (s := s.toNatClampNeg) (by omega) (decide_eq_true ⟨hus, h0k⟩) (fun t ht => (ra_102 hV ht).1)
          try have g3 := sm_ge (b := zbN0 (m 99) (m 110) (m 104) (m 94 15)) (ws := m 102) (n := 3100) (s := s.toNatClampNeg) (by omega) (decide_eq_true ⟨hus, h0k, hng⟩) (fun t ht => (ra_102 hV ht).1)
          skip
          try have n0 := sm_nn (b := zbK (m 99) (m 110)) (ws := m 102) (n := 3100) (fun t ht => (ra_102 hV ht).1)
          try have n1 := sm_nn (b := zbKY (m 99) (m 110) (m 103) (m 94 14).toInt) (ws := m 102) (n := 3100) (fun t ht => (ra_102 hV ht).1)
          try have n2 := sm_nn (b := zbN1 (m 99) (m 110) (m 104) (m 94 15)) (ws := m 102) (n := 3100) (fun t ht => (ra_102 hV ht).1)
          try have hol := h3a.2.2.2.2 _ (by omega) hus h0k
          refine sp_205 (s) ((m 94 77)) hV55 (by omega) (by omega) (by omega) (by omega) (show (m 99) s.toNatClampNeg ≠ 0 from by first | (exact hus) | (assumption; done) | (exact ow5.1) | (exact ow3.1) | (exfalso; omega; done) | (exfalso; contradiction; done)) r_OW (fun m3 hV_m3 p0_m3 p1_m3 => zmv_n ?_)
          have p0_m3 : zOw (m 99) (m3 103) (m3 111) := p0_m3
          have p1_m3 : zmov s (m 94 77) (m 103) (m 111) (m3 103) (m3 111) := p1_m3
          try have mvs := mv_s p1_m3
          have hg56 : (0 ≤ s ∧ s.toNatClampNeg < 3100) := i_ix (by omega) (by omega)
          refine ⟨hg56, ?_⟩
          first | have f58 : 0 ≤ (m 102 s.toNatClampNeg).toInt ∧ (m 102 s.toNatClampNeg).toInt ≤ 60 := ra_102 (m := m) hV (k := s.toNatClampNeg) (i_ix (n := 3100) (by omega) (by omega)).2 | have b59 := i_bd (m 102 s.toNatClampNeg)
          first | have e60 : ((m 102 s.toNatClampNeg) + (1 : Int32)).toInt = (m 102 s.toNatClampNeg).toInt + (1) := i_addk rfl (by omega) (by omega) | have b61 := i_bd ((m 102 s.toNatClampNeg) + (1 : Int32))
          first | have e62 : ((m 94 77) + ((m 102 s.toNatClampNeg) + (1 : Int32))).toInt = (m 94 77).toInt + ((m 102 s.toNatClampNeg) + (1 : Int32)).toInt := i_add (by omega) (by omega) | have b63 := i_bd ((m 94 77) + ((m 102 s.toNatClampNeg) + (1 : Int32)))
          have hV57 : zV (ma_u (zov wr_205 (ma_u (ma_u (ma_u (ma_u m 110 s.toNatClampNeg (1 : Int32)) 119 (m 94 75).toNatClampNeg s) 94 75 ((m 94 75) + (1 : Int32))) 104 s.toNatClampNeg ((m 104 s.toNatClampNeg) + (1 : Int32))) m3) 94 77 ((m 94 77) + ((m 102 s.toNatClampNeg) + (1 : Int32)))) := us_94_77 hV_m3 (by omega) (by omega)
          have f64 : 0 ≤ (m 94 60).toInt ∧ (m 94 60).toInt ≤ 1600 := rs_94_60 (m := m) hV
          exact K _ (zF_u (zF_zov (zF_u (zF_u (zF_u (zF_u zF_rfl rfl) rfl) rfl) rfl) ws_205_207) rfl) hV57 (show zKS ((ma_u m 110 s.toNatClampNeg (1 : Int32)) 110) ((m 94 75) + (1 : Int32)) from by first | (exact KS_push r_CMK (by assumption) (by omega) (by decide) (by assumption)) | (exfalso; omega; done) | (exfalso; contradiction; done)) p0_m3 (show zH2 (m 94 10) (m 94 11) (m 94 61) ((m 94 77) + ((m 102 s.toNatClampNeg) + (1 : Int32))) (m 99) ((ma_u m 110 s.toNatClampNeg (1 : Int32)) 110) (m 102) from by first | (exact fun hp => absurd hp (by omega)) | (exact fun _ => by have e1 := smN_keep (m := m) (c := 110) (us := m 99) (ws := m 102) (k := s.toNatClampNeg) (x := (1 : Int32)) (by omega) hus h0k (by decide); have e2 := smK_keep (m := m) (c := 110) (us := m 99) (ws := m 102) (k := s.toNatClampNeg) (x := (1 : Int32)) (by omega) hus h0k (by decide); omega) | (exfalso; omega; done) | (exfalso; contradiction; done)) (show zH3 (m 94 10) (m 94 13) (m 94 14) (m 94 15) (m 94 61) ((m 94 77) + ((m 102 s.toNatClampNeg) + (1 : Int32))) (m 94 60) (m 99) ((ma_u m 110 s.toNatClampNeg (1 : Int32)) 110) ((ma_u m 104 s.toNatClampNeg ((m 104 s.toNatClampNeg) + (1 : Int32))) 104) (m 102) (m3 103) (m3 111) from by first | (exact fun _ => ⟨by have e1 := smN0_keep (m := m) (c := 110) (ma := m) (ca := 104) (us := m 99) (ws := m 102) (a := m 94 15) (y := (m 104 s.toNatClampNeg) + (1 : Int32)) (k := s.toNatClampNeg) (x := (1 : Int32)) (by omega) hus h0k (by decide) hng; omega, by have e1 := smN1_same (m := m) (c := 110) (ma := m) (ca := 104) (us := m 99) (ws := m 102) (a := m 94 15) (y := (m 104 s.toNatClampNeg) + (1 : Int32)) (k := s.toNatClampNeg) (x := (1 : Int32)) (by decide) hng; omega, by have e1 := smKY_young (m := m) (c := 110) (us := m 99) (ws := m 102) (ol := (m 94 14).toInt) (x := (1 : Int32)) (by omega) hus h0k (by decide) p1_m3 (by omega); omega, PK_hi h3a.2.2.2.1 p1_m3 (by omega) (h3a.2.2.2.2 _ (by omega) hus h0k) (fun t ht => (ra_103 hV ht).1), H3_rest h3a.2.2.2.2 p1_m3 (by decide)⟩) | (exact fun hp => absurd hp (by omega)) | (exact fun _ => ⟨by have e1 := smN0_same (m := m) (c := 110) (ma := m) (ca := 104) (us := m 99) (ws := m 102) (a := m 94 15) (y := (m 104 s.toNatClampNeg) + (1 : Int32)) (k := s.toNatClampNeg) (x := (1 : Int32)) (by decide) hg; omega, by have e1 := smN1_keep (m := m) (c := 110) (ma := m) (ca := 104) (us := m 99) (ws := m 102) (a := m 94 15) (y := (m 104 s.toNatClampNeg) + (1 : Int32)) (k := s.toNatClampNeg) (x := (1 : Int32)) (by omega) hus h0k (by decide) hg; omega, by have e1 := smKY_old (m := m) (c := 110) (us := m 99) (ws := m 102) (ol := (m 94 14).toInt) (x := (1 : Int32)) h0k p1_m3 (by omega); omega, PK_add h3a.2.2.2.1 p1_m3 rfl (by omega) (by omega) (h3a.2.2.2.2 _ (by omega) hus h0k) (fun t ht => (ra_103 hV ht).1) (fun t ht => (ra_102 hV ht).1) (by omega) (by omega) (by omega), H3_rest h3a.2.2.2.2 p1_m3 (by decide)⟩) | (exfalso; omega; done) | (exfalso; contradiction; done)) (show s.toInt < 0 ∨ ((ma_u m 110 s.toNatClampNeg (1 : Int32)) 110) s.toNatClampNeg ≠ 0 from by first | (exact Or.inr (by rw [mu_self]; decide)) | (exfalso; omega; done) | (exfalso; contradiction; done)) (show zle (m 110) ((ma_u m 110 s.toNatClampNeg (1 : Int32)) 110) from by first | (exact zle_push zle_rfl (by decide)) | (exfalso; omega; done) | (exfalso; contradiction; done)) (show (m 94 76).toInt ≤ ((m 94 75) + (1 : Int32)).toInt from by omega) (show zCQ ((ma_u m 110 s.toNatClampNeg (1 : Int32)) 110) (m 98) (m 101) (m 102) (m 108) ((ma_u m 119 (m 94 75).toNatClampNeg s) 119) (m 94 76) ((m 94 75) + (1 : Int32)) XX CU II from by first | (exact CQ_push r_CQ (by decide) (by omega) (by omega) rfl (by assumption)) | (exfalso; omega; done) | (exfalso; contradiction; done)) (show zKU (m 94 10) (m 99) ((ma_u m 110 s.toNatClampNeg (1 : Int32)) 110) from by first | (exact KU_push r_KU (fun _ => hus)) | (exfalso; omega; done) | (exfalso; contradiction; done)) (show (m 94 10).toInt = 3 → zax (m 103) (m3 103) (m 94 60).toInt from by first | (exact fun _ => zax_mv p1_m3 (by omega) (by omega)) | (exact fun hp => absurd hp (by omega)) | (exfalso; omega; done) | (exfalso; contradiction; done)) (show (m 94 60).toInt ≤ (m 94 60).toInt from by omega)
      · skip
        have g65 := i_ne h18
        have f66 : 0 ≤ (m 94 77).toInt ∧ (m 94 77).toInt ≤ 4600 := rs_94_77 (m := m) hV
        have li68 : (1 : Int32).toInt = 1 := rfl
        have hV67 : zV (ma_u m 110 s.toNatClampNeg (1 : Int32)) := ua_110 hV (by omega) (by omega)
        have hV69 : zV (ma_u (ma_u m 110 s.toNatClampNeg (1 : Int32)) 119 (m 94 75).toNatClampNeg s) := ua_119 hV67 (by omega) (by omega)
        first | have e71 : ((m 94 75) + (1 : Int32)).toInt = (m 94 75).toInt + (1) := i_addk rfl (by omega) (by omega) | have b72 := i_bd ((m 94 75) + (1 : Int32))
        have hV70 : zV (ma_u (ma_u (ma_u m 110 s.toNatClampNeg (1 : Int32)) 119 (m 94 75).toNatClampNeg s) 94 75 ((m 94 75) + (1 : Int32))) := us_94_75 hV69 (by omega) (by omega)
        try have hus : m 99 s.toNatClampNeg ≠ 0 := r_SU2.elim (fun z => absurd z (by omega)) id
        try have hws := ra_102 (m := m) hV (k := s.toNatClampNeg) (by omega)
        try have h0k : m 110 s.toNatClampNeg = 0 := by assumption
        skip
        skip
        try have b2 := zB2_le (hf := m 94 61) (ro := m 94 11) (rs_94_11 hV).1
        try have b2b := (rs_94_11 hV).2
        try have b3 := zB3_le (hf := m 94 61) (ol := m 94 14) (yo := m 94 13) (rs_94_13 hV).1
        try have b3b := (rs_94_13 hV).2
        try have b3c := (rs_94_14 hV).2
        try have h2a := r_H2 (by omega)
        skip
        try have g2 := sm_ge (b := zbN (m 99) (m 110)) (ws := m 102) (n := 3100) (s := s.toNatClampNeg) (by omega) (decide_eq_true ⟨hus, h0k⟩) (fun t ht => (ra_102 hV ht).1)
        skip
        skip
        try have n0 := sm_nn (b := zbK (m 99) (m 110)) (ws := m 102) (n := 3100) (fun t ht => (ra_102 hV ht).1)
        try have n1 := sm_nn (b := zbKY (m 99) (m 110) (m 103) (m 94 14).toInt) (ws := m 102) (n := 3100) (fun t ht => (ra_102 hV ht).1)
        try have n2 := sm_nn (b := zbN1 (m 99) (m 110) (m 104) (m 94 15)) (ws := m 102) (n := 3100) (fun t ht => (ra_102 hV ht).1)
        skip
        refine sp_205 (s) ((m 94 77)) hV70 (by omega) (by omega) (by omega) (by omega) (show (m 99) s.toNatClampNeg ≠ 0 from by first | (exact hus) | (assumption; done) | (exact ow5.1) | (exact ow3.1) | (exfalso; omega; done) | (exfalso; contradiction; done)) r_OW (fun m1 hV_m1 p0_m1 p1_m1 => zmv_n ?_)
        have p0_m1 : zOw (m 99) (m1 103) (m1 111) := p0_m1
        have p1_m1 : zmov s (m 94 77) (m 103) (m 111) (m1 103) (m1 111) := p1_m1
        try have mvs := mv_s p1_m1
        have hg73 : (0 ≤ s ∧ s.toNatClampNeg < 3100) := i_ix (by omega) (by omega)
        refine ⟨hg73, ?_⟩
        first | have f75 : 0 ≤ (m 102 s.toNatClampNeg).toInt ∧ (m 102 s.toNatClampNeg).toInt ≤ 60 := ra_102 (m := m) hV (k := s.toNatClampNeg) (i_ix (n := 3100) (by omega) (by omega)).2 | have b76 := i_bd (m 102 s.toNatClampNeg)
        first | have e77 : ((m 102 s.toNatClampNeg) + (1 : Int32)).toInt = (m 102 s.toNatClampNeg).toInt + (1) := i_addk rfl (by omega) (by omega) | have b78 := i_bd ((m 102 s.toNatClampNeg) + (1 : Int32))
        first | have e79 : ((m 94 77) + ((m 102 s.toNatClampNeg) + (1 : Int32))).toInt = (m 94 77).toInt + ((m 102 s.toNatClampNeg) + (1 : Int32)).toInt := i_add (by omega) (by omega) | have b80 := i_bd ((m 94 77) + ((m 102 s.toNatClampNeg) + (1 : Int32)))
        have hV74 : zV (ma_u (zov wr_205 (ma_u (ma_u (ma_u m 110 s.toNatClampNeg (1 : Int32)) 119 (m 94 75).toNatClampNeg s) 94 75 ((m 94 75) + (1 : Int32))) m1) 94 77 ((m 94 77) + ((m 102 s.toNatClampNeg) + (1 : Int32)))) := us_94_77 hV_m1 (by omega) (by omega)
        have f81 : 0 ≤ (m 94 60).toInt ∧ (m 94 60).toInt ≤ 1600 := rs_94_60 (m := m) hV
        exact K _ (zF_u (zF_zov (zF_u (zF_u (zF_u zF_rfl rfl) rfl) rfl) ws_205_207) rfl) hV74 (show zKS ((ma_u m 110 s.toNatClampNeg (1 : Int32)) 110) ((m 94 75) + (1 : Int32)) from by first | (exact KS_push r_CMK (by assumption) (by omega) (by decide) (by assumption)) | (exfalso; omega; done) | (exfalso; contradiction; done)) p0_m1 (show zH2 (m 94 10) (m 94 11) (m 94 61) ((m 94 77) + ((m 102 s.toNatClampNeg) + (1 : Int32))) (m 99) ((ma_u m 110 s.toNatClampNeg (1 : Int32)) 110) (m 102) from by first | (exact fun _ => by have e1 := smN_keep (m := m) (c := 110) (us := m 99) (ws := m 102) (k := s.toNatClampNeg) (x := (1 : Int32)) (by omega) hus h0k (by decide); have e2 := smK_keep (m := m) (c := 110) (us := m 99) (ws := m 102) (k := s.toNatClampNeg) (x := (1 : Int32)) (by omega) hus h0k (by decide); omega) | (exact fun hp => absurd hp (by omega)) | (exfalso; omega; done) | (exfalso; contradiction; done)) (show zH3 (m 94 10) (m 94 13) (m 94 14) (m 94 15) (m 94 61) ((m 94 77) + ((m 102 s.toNatClampNeg) + (1 : Int32))) (m 94 60) (m 99) ((ma_u m 110 s.toNatClampNeg (1 : Int32)) 110) (m 104) (m 102) (m1 103) (m1 111) from by first | (exact fun hp => absurd hp (by omega)) | (exact fun _ => ⟨by have e1 := smN0_same (m := m) (c := 110) (ma := m) (ca := 104) (us := m 99) (ws := m 102) (a := m 94 15) (y := (m 104 s.toNatClampNeg) + (1 : Int32)) (k := s.toNatClampNeg) (x := (1 : Int32)) (by decide) hg; omega, by have e1 := smN1_keep (m := m) (c := 110) (ma := m) (ca := 104) (us := m 99) (ws := m 102) (a := m 94 15) (y := (m 104 s.toNatClampNeg) + (1 : Int32)) (k := s.toNatClampNeg) (x := (1 : Int32)) (by omega) hus h0k (by decide) hg; omega, by have e1 := smKY_old (m := m) (c := 110) (us := m 99) (ws := m 102) (ol := (m 94 14).toInt) (x := (1 : Int32)) h0k p1_m1 (by omega); omega, PK_add h3a.2.2.2.1 p1_m1 rfl (by omega) (by omega) (h3a.2.2.2.2 _ (by omega) hus h0k) (fun t ht => (ra_103 hV ht).1) (fun t ht => (ra_102 hV ht).1) (by omega) (by omega) (by omega), H3_rest h3a.2.2.2.2 p1_m1 (by decide)⟩) | (exact fun _ => ⟨by have e1 := smN0_keep (m := m) (c := 110) (ma := m) (ca := 104) (us := m 99) (ws := m 102) (a := m 94 15) (y := (m 104 s.toNatClampNeg) + (1 : Int32)) (k := s.toNatClampNeg) (x := (1 : Int32)) (by omega) hus h0k (by decide) hng; omega, by have e1 := smN1_same (m := m) (c := 110) (ma := m) (ca := 104) (us := m 99) (ws := m 102) (a := m 94 15) (y := (m 104 s.toNatClampNeg) + (1 : Int32)) (k := s.toNatClampNeg) (x := (1 : Int32)) (by decide) hng; omega, by have e1 := smKY_young (m := m) (c := 110) (us := m 99) (ws := m 102) (ol := (m 94 14).toInt) (x := (1 : Int32)) (by omega) hus h0k (by decide) p1_m1 (by omega); omega, PK_hi h3a.2.2.2.1 p1_m1 (by omega) (h3a.2.2.2.2 _ (by omega) hus h0k) (fun t ht => (ra_103 hV ht).1), H3_rest h3a.2.2.2.2 p1_m1 (by decide)⟩) | (exfalso; omega; done) | (exfalso; contradiction; done)) (show s.toInt < 0 ∨ ((ma_u m 110 s.toNatClampNeg (1 : Int32)) 110) s.toNatClampNeg ≠ 0 from by first | (exact Or.inr (by rw [mu_self]; decide)) | (exfalso; omega; done) | (exfalso; contradiction; done)) (show zle (m 110) ((ma_u m 110 s.toNatClampNeg (1 : Int32)) 110) from by first | (exact zle_push zle_rfl (by decide)) | (exfalso; omega; done) | (exfalso; contradiction; done)) (show (m 94 76).toInt ≤ ((m 94 75) + (1 : Int32)).toInt from by omega) (show zCQ ((ma_u m 110 s.toNatClampNeg (1 : Int32)) 110) (m 98) (m 101) (m 102) (m 108) ((ma_u m 119 (m 94 75).toNatClampNeg s) 119) (m 94 76) ((m 94 75) + (1 : Int32)) XX CU II from by first | (exact CQ_push r_CQ (by decide) (by omega) (by omega) rfl (by assumption)) | (exfalso; omega; done) | (exfalso; contradiction; done)) (show zKU (m 94 10) (m 99) ((ma_u m 110 s.toNatClampNeg (1 : Int32)) 110) from by first | (exact KU_push r_KU (fun _ => hus)) | (exfalso; omega; done) | (exfalso; contradiction; done)) (show (m 94 10).toInt = 3 → zax (m 103) (m1 103) (m 94 60).toInt from by first | (exact fun hp => absurd hp (by omega)) | (exact fun _ => zax_mv p1_m1 (by omega) (by omega)) | (exfalso; omega; done) | (exfalso; contradiction; done)) (show (m 94 60).toInt ≤ (m 94 60).toInt from by omega)
    · skip
      have g82 := i_ne h13
      have f83 : 0 ≤ (m 94 60).toInt ∧ (m 94 60).toInt ≤ 1600 := rs_94_60 (m := m) hV
      exact K _ zF_rfl hV r_CMK r_OW r_H2 r_H3 (show s.toInt < 0 ∨ (m 110) s.toNatClampNeg ≠ 0 from by first | (exact Or.inr (by assumption)) | (exact Or.inl (by omega)) | (exfalso; omega; done) | (exfalso; contradiction; done)) (show zle (m 110) (m 110) from by first | (exact zle_rfl) | (exfalso; omega; done) | (exfalso; contradiction; done)) (show (m 94 76).toInt ≤ (m 94 75).toInt from by omega) r_CQ r_KU (show (m 94 10).toInt = 3 → zax (m 103) (m 103) (m 94 60).toInt from by first | (exact fun _ => zax_rfl) | (exfalso; omega; done) | (exfalso; contradiction; done)) (show (m 94 60).toInt ≤ (m 94 60).toInt from by omega)

/-! from 94.484 -/
/-! the reference (written by wip/tools/gen94m.py) -/
set_option maxRecDepth 100000 in
theorem hm_208 : ma_md 208 = some (12, yX12_comeAll, cX12_comeAll, 3, none) := rfl
theorem f_12_362_12 : ma_fld 12 362 12 = some 76 := by decide +kernel
theorem p_12_362_12 : ma_pk 12 362 12 76 = true := by decide +kernel
theorem v_12_365_12 : ma_vl 12 365 12 = some (1, 207, 1) := by decide +kernel
theorem dX12_comeAll_0 : decode cX12_comeAll 0 = .ok (.aload_n 0, 1) := by decide +kernel
theorem dX12_comeAll_4 : decode cX12_comeAll 4 = .ok (.aload_n 0, 1) := by decide +kernel
theorem dX12_comeAll_62 : decode cX12_comeAll 62 = .ok (.return_, 1) := by decide +kernel
theorem dX12_comeAll_11 : decode cX12_comeAll 11 = .ok (.aload_n 0, 1) := by decide +kernel
theorem dX12_comeAll_15 : decode cX12_comeAll 15 = .ok (.aload_n 0, 1) := by decide +kernel
theorem dX12_comeAll_20 : decode cX12_comeAll 20 = .ok (.istore_n 1, 1) := by decide +kernel
theorem dX12_comeAll_21 : decode cX12_comeAll 21 = .ok (.aload_n 0, 1) := by decide +kernel
theorem dX12_comeAll_22 : decode cX12_comeAll 22 = .ok (.dup, 1) := by decide +kernel
theorem dX12_comeAll_26 : decode cX12_comeAll 26 = .ok (.iconst 1, 1) := by decide +kernel
theorem dX12_comeAll_27 : decode cX12_comeAll 27 = .ok (.iadd, 1) := by decide +kernel
theorem dX12_comeAll_31 : decode cX12_comeAll 31 = .ok (.iconst 0, 1) := by decide +kernel
theorem dX12_comeAll_32 : decode cX12_comeAll 32 = .ok (.istore_n 2, 1) := by decide +kernel
theorem dX12_comeAll_28 : decode cX12_comeAll 28 = .ok (.putfield 362, 3) := by decide +kernel
theorem dX12_comeAll_23 : decode cX12_comeAll 23 = .ok (.getfield 362, 3) := by decide +kernel
theorem dX12_comeAll_19 : decode cX12_comeAll 19 = .ok (.iaload, 1) := by decide +kernel
theorem dX12_comeAll_16 : decode cX12_comeAll 16 = .ok (.getfield 362, 3) := by decide +kernel
theorem dX12_comeAll_12 : decode cX12_comeAll 12 = .ok (.getfield 89, 3) := by decide +kernel
theorem dX12_comeAll_8 : decode cX12_comeAll 8 = .ok (.if_icmp .ge 54, 3) := by decide +kernel
theorem dX12_comeAll_5 : decode cX12_comeAll 5 = .ok (.getfield 356, 3) := by decide +kernel
theorem dX12_comeAll_1 : decode cX12_comeAll 1 = .ok (.getfield 362, 3) := by decide +kernel
theorem dX12_comeAll_33 : decode cX12_comeAll 33 = .ok (.iload_n 2, 1) := by decide +kernel
theorem dX12_comeAll_34 : decode cX12_comeAll 34 = .ok (.aload_n 0, 1) := by decide +kernel
theorem dX12_comeAll_38 : decode cX12_comeAll 38 = .ok (.iload_n 1, 1) := by decide +kernel
theorem dX12_comeAll_59 : decode cX12_comeAll 59 = .ok (.goto (-59), 3) := by decide +kernel
theorem dX12_comeAll_43 : decode cX12_comeAll 43 = .ok (.aload_n 0, 1) := by decide +kernel
theorem dX12_comeAll_44 : decode cX12_comeAll 44 = .ok (.aload_n 0, 1) := by decide +kernel
theorem dX12_comeAll_45 : decode cX12_comeAll 45 = .ok (.iload_n 1, 1) := by decide +kernel
theorem dX12_comeAll_46 : decode cX12_comeAll 46 = .ok (.iload_n 2, 1) := by decide +kernel
theorem dX12_comeAll_47 : decode cX12_comeAll 47 = .ok (.invokevirtual 294, 3) := by decide +kernel
theorem dX12_comeAll_50 : decode cX12_comeAll 50 = .ok (.invokevirtual 365, 3) := by decide +kernel
theorem dX12_comeAll_53 : decode cX12_comeAll 53 = .ok (.iinc 2 1, 3) := by decide +kernel
theorem dX12_comeAll_56 : decode cX12_comeAll 56 = .ok (.goto (-23), 3) := by decide +kernel
theorem dX12_comeAll_40 : decode cX12_comeAll 40 = .ok (.if_icmp .ge 19, 3) := by decide +kernel
theorem dX12_comeAll_39 : decode cX12_comeAll 39 = .ok (.iaload, 1) := by decide +kernel
theorem dX12_comeAll_35 : decode cX12_comeAll 35 = .ok (.getfield 37, 3) := by decide +kernel
def wr_208 (c k : Nat) : Bool := Nat.beq c 103 || Nat.beq c 104 || Nat.beq c 110 || Nat.beq c 111 || Nat.beq c 119 || (Nat.beq c 94 && (Nat.beq k 48 || Nat.beq k 60 || Nat.beq k 75 || Nat.beq k 76 || Nat.beq k 77))
theorem ws_192_208 : ∀ c k, wr_192 c k = true → wr_208 c k = true := fun _ _ h => by cases h
theorem ws_207_208 : ∀ c k, wr_207 c k = true → wr_208 c k = true := by
  intro c k h
  simp only [wr_207, Bool.or_eq_true, Bool.and_eq_true, Nat.beq_eq] at h
  rcases h with ((((rfl | rfl) | rfl) | rfl) | rfl) | ⟨rfl, (((rfl | rfl) | rfl) | rfl)⟩ <;> rfl
theorem g_208_0 {X : Nat × (Nat → Int32)} {m : Nat → Nat → Int32} {P : Option ma_V → (Nat → Nat → Int32) → Prop}  (h : if (m 94 75) ≤ (m 94 76) then (P none m) else ((0 ≤ (m 94 76) ∧ (m 94 76).toNatClampNeg < 3100) ∧ (zm X 3 64 208 33 [(0, .inr (.inr (some 94))), (1, .inl (m 119 (m 94 76).toNatClampNeg)), (2, .inl (0 : Int32))] (ma_u m 94 76 ((m 94 76) + (1 : Int32))) P))) : zm X 3 64 208 0 [(0, .inr (.inr (some 94)))] m P := by
  intro d w S Q hd hw hS hm HQ
  subst hm
  refine zw_push hm_208 dX12_comeAll_0 (v := .inr (.inr (some 94))) rfl ?_
  refine zw_gf hm_208 dX12_comeAll_1 (v := .inl ((mI S) 94 76)) (zT_is hS s_94) (zT_t hS s_94) rfl f_12_362_12 rfl ?_
  refine zw_push hm_208 dX12_comeAll_4 (v := .inr (.inr (some 94))) rfl ?_
  refine zw_gf hm_208 dX12_comeAll_5 (v := .inl ((mI S) 94 75)) (zT_is hS s_94) (zT_t hS s_94) rfl f_12_356_12 rfl ?_
  refine zw_if2 hm_208 dX12_comeAll_8 (t := 62) rfl zc2_ge ?_ ?_
  · intro hc
    rw [if_pos hc] at h
    exact zw_vret hm_208 dX12_comeAll_62 (HQ _ _ h)
  · intro hc
    rw [if_neg hc] at h
    refine zw_push hm_208 dX12_comeAll_11 (v := .inr (.inr (some 94))) rfl ?_
    refine zw_gf hm_208 dX12_comeAll_12 (v := .inr (.inr (some 119))) (zT_is hS s_94) (zT_t hS s_94) rfl f_12_89_12 (zT_f hS r_94_74) ?_
    refine zw_push hm_208 dX12_comeAll_15 (v := .inr (.inr (some 94))) rfl ?_
    refine zw_gf hm_208 dX12_comeAll_16 (v := .inl ((mI S) 94 76)) (zT_is hS s_94) (zT_t hS s_94) rfl f_12_362_12 rfl ?_
    obtain ⟨hg, h⟩ := h
    refine zw_ia hm_208 dX12_comeAll_19 (zT_is hS s_119) (zT_h hS s_119) rfl hg ?_
    show ma_wp X d w 208 20 [(0, .inr (.inr (some 94)))] [.inl ((mI S) 119 ((mI S) 94 76).toNatClampNeg)] S _
    refine zw_sto hm_208 dX12_comeAll_20 [(1, .inl ((mI S) 119 ((mI S) 94 76).toNatClampNeg)), (0, .inr (.inr (some 94)))] rfl rfl rfl ?_
    refine zw_push hm_208 dX12_comeAll_21 (v := .inr (.inr (some 94))) rfl ?_
    refine zw_stk hm_208 dX12_comeAll_22 (st₉ := [.inr (.inr (some 94)), .inr (.inr (some 94))]) rfl rfl ?_
    refine zw_gf hm_208 dX12_comeAll_23 (v := .inl ((mI S) 94 76)) (zT_is hS s_94) (zT_t hS s_94) rfl f_12_362_12 rfl ?_
    refine zw_push hm_208 dX12_comeAll_26 (v := .inl (1 : Int32)) rfl ?_
    refine zw_stk hm_208 dX12_comeAll_27 (st₉ := [.inl (((mI S) 94 76) + (1 : Int32)), .inr (.inr (some 94))]) rfl rfl ?_
    refine zw_pf hm_208 dX12_comeAll_28 (zT_is hS s_94) (zT_t hS s_94) p_12_362_12 zk_int ?_
    refine zw_push hm_208 dX12_comeAll_31 (v := .inl (0 : Int32)) rfl ?_
    refine zw_sto hm_208 dX12_comeAll_32 [(2, .inl (0 : Int32)), (1, .inl ((mI S) 119 ((mI S) 94 76).toNatClampNeg)), (0, .inr (.inr (some 94)))] rfl rfl rfl ?_
    exact zw_sub (ma_nd_of (ks := [0, 1, 2]) rfl (by decide)) (ma_nd_of (ks := [2, 1, 0]) rfl (by decide)) (ma_le_cons rfl (ma_le_cons rfl (ma_le_cons rfl (ma_le_nil _)))) (h d w _ Q (by omega) (by omega) (zT_pi hS) rfl HQ)
theorem g_208_33 {X : Nat × (Nat → Int32)} {m : Nat → Nat → Int32} {P : Option ma_V → (Nat → Nat → Int32) → Prop} (l1 : Int32) (l2 : Int32) (h : (0 ≤ l1 ∧ l1.toNatClampNeg < 3100) ∧ (if (m 102 l1.toNatClampNeg) ≤ l2 then (zm X 3 64 208 0 [(0, .inr (.inr (some 94)))] m P) else (zm X 1 22 192 0 [(0, .inr (.inr (some 94))), (1, .inl l1), (2, .inl l2)] m (zmi (fun v2 m1 => zm X 2 43 207 0 [(0, .inr (.inr (some 94))), (1, .inl v2)] m1 (zmv (fun m3 => zm X 3 64 208 33 [(0, .inr (.inr (some 94))), (1, .inl l1), (2, .inl (l2 + (1 : Int32)))] m3 P))))))) : zm X 3 64 208 33 [(0, .inr (.inr (some 94))), (1, .inl l1), (2, .inl l2)] m P := by
  intro d w S Q hd hw hS hm HQ
  subst hm
  refine zw_push hm_208 dX12_comeAll_33 (v := .inl l2) rfl ?_
  refine zw_push hm_208 dX12_comeAll_34 (v := .inr (.inr (some 94))) rfl ?_
  refine zw_gf hm_208 dX12_comeAll_35 (v := .inr (.inr (some 102))) (zT_is hS s_94) (zT_t hS s_94) rfl f_12_37_12 (zT_f hS r_94_34) ?_
  refine zw_push hm_208 dX12_comeAll_38 (v := .inl l1) rfl ?_
  obtain ⟨hg, h⟩ := h
  refine zw_ia hm_208 dX12_comeAll_39 (zT_is hS s_102) (zT_h hS s_102) rfl hg ?_
  show ma_wp X d w 208 40 [(0, .inr (.inr (some 94))), (1, .inl l1), (2, .inl l2)] [.inl ((mI S) 102 l1.toNatClampNeg), .inl l2] S _
  refine zw_if2 hm_208 dX12_comeAll_40 (t := 59) rfl zc2_ge ?_ ?_
  · intro hc
    rw [if_pos hc] at h
    refine zw_goto hm_208 dX12_comeAll_59 (t := 0) rfl ?_
    exact zw_sub (ma_nd_of (ks := [0]) rfl (by decide)) (ma_nd_of (ks := [0, 1, 2]) rfl (by decide)) (ma_le_cons rfl (ma_le_nil _)) (h d w _ Q (by omega) (by omega) hS rfl HQ)
  · intro hc
    rw [if_neg hc] at h
    refine zw_push hm_208 dX12_comeAll_43 (v := .inr (.inr (some 94))) rfl ?_
    refine zw_push hm_208 dX12_comeAll_44 (v := .inr (.inr (some 94))) rfl ?_
    refine zw_push hm_208 dX12_comeAll_45 (v := .inl l1) rfl ?_
    refine zw_push hm_208 dX12_comeAll_46 (v := .inl l2) rfl ?_
    refine zw_cv hm_208 dX12_comeAll_47 v_12_294_12 hm_192 [.inl l2, .inl l1] [.inr (.inr (some 94))] rfl (zT_rt hS s_94 rfl) ⟨by omega, by omega⟩ rfl (h _ _ S _ (by omega) (by omega) hS rfl (fun o9 m1 hv => ?_))
    obtain ⟨v2, rfl, h⟩ := zmi_of hv
    show ma_wp X d w 208 50 [(0, .inr (.inr (some 94))), (1, .inl l1), (2, .inl l2)] [.inl v2, .inr (.inr (some 94))] (zst S m1) _
    refine zw_cv hm_208 dX12_comeAll_50 v_12_365_12 hm_207 [.inl v2] [] rfl (zT_rt (zT_zst hS m1) s_94 rfl) ⟨by omega, by omega⟩ rfl (h _ _ (zst S m1) _ (by omega) (by omega) (zT_zst hS m1) rfl (fun o9 m3 hv => ?_))
    obtain ⟨rfl, h⟩ := zmv_of hv
    show ma_wp X d w 208 53 [(0, .inr (.inr (some 94))), (1, .inl l1), (2, .inl l2)] [] (zst S m3) _
    refine zw_sto hm_208 dX12_comeAll_53 [(2, .inl (l2 + (1 : Int32))), (0, .inr (.inr (some 94))), (1, .inl l1)] rfl rfl rfl ?_
    refine zw_goto hm_208 dX12_comeAll_56 (t := 33) rfl ?_
    exact zw_sub (ma_nd_of (ks := [0, 1, 2]) rfl (by decide)) (ma_nd_of (ks := [2, 0, 1]) rfl (by decide)) (ma_le_cons rfl (ma_le_cons rfl (ma_le_cons rfl (ma_le_nil _)))) (h d w _ Q (by omega) (by omega) (zT_zst hS m3) rfl HQ)
theorem lp_208_33 {X : Nat × (Nat → Int32)} {P : Option ma_V → (Nat → Nat → Int32) → Prop} {XX : Nat→Prop} {m0 : Nat → Nat → Int32} (h0 : zV m0) (K : ∀ m₉, zF wr_208 m0 m₉ → zV m₉ → (zKS (m₉ 110) (m₉ 94 75)) → (zOw (m₉ 99) (m₉ 103) (m₉ 111)) → (zH2 (m₉ 94 10) (m₉ 94 11) (m₉ 94 61) (m₉ 94 77) (m₉ 99) (m₉ 110) (m₉ 102)) → (zH3 (m₉ 94 10) (m₉ 94 13) (m₉ 94 14) (m₉ 94 15) (m₉ 94 61) (m₉ 94 77) (m₉ 94 60) (m₉ 99) (m₉ 110) (m₉ 104) (m₉ 102) (m₉ 103) (m₉ 111)) → ((m₉ 94 76).toInt ≤ (m₉ 94 75).toInt) → (zKU (m₉ 94 10) (m₉ 99) (m₉ 110)) → (zle (m0 110) (m₉ 110)) → (zCQ (m₉ 110) (m₉ 98) (m₉ 101) (m₉ 102) (m₉ 108) (m₉ 119) (m₉ 94 76) (m₉ 94 75) XX 3100 0) → ((m₉ 94 75).toInt ≤ (m₉ 94 76).toInt) → P none m₉) {n0 : Nat} (OUT0 : ∀ (m₉ : Nat → Nat → Int32) , (3101 - (m₉ 94 76).toInt).toNat < n0 → zF wr_208 m0 m₉ → zV m₉ → ((m₉ 94 10).toInt = 2 ∨ (m₉ 94 10).toInt = 3) → (zKS (m₉ 110) (m₉ 94 75)) → (zOw (m₉ 99) (m₉ 103) (m₉ 111)) → (zH2 (m₉ 94 10) (m₉ 94 11) (m₉ 94 61) (m₉ 94 77) (m₉ 99) (m₉ 110) (m₉ 102)) → (zH3 (m₉ 94 10) (m₉ 94 13) (m₉ 94 14) (m₉ 94 15) (m₉ 94 61) (m₉ 94 77) (m₉ 94 60) (m₉ 99) (m₉ 110) (m₉ 104) (m₉ 102) (m₉ 103) (m₉ 111)) → ((m₉ 94 76).toInt ≤ (m₉ 94 75).toInt) → (zKU (m₉ 94 10) (m₉ 99) (m₉ 110)) → (zW (m₉ 94 7) (m₉ 98) (m₉ 101) (m₉ 102) (m₉ 108)) → (zDX (m₉ 94 10) (m₉ 99) (m₉ 112) (m₉ 113) (m₉ 114) (m₉ 94 55) (m₉ 98) (m₉ 101) (m₉ 102) (m₉ 108)) → (zCQ (m₉ 110) (m₉ 98) (m₉ 101) (m₉ 102) (m₉ 108) (m₉ 119) (m₉ 94 76) (m₉ 94 75) XX 3100 0) → (zle (m0 110) (m₉ 110)) → zm X 3 64 208 0 [(0, .inr (.inr (some 94)))] m₉ P) : ∀ (n : Nat) (m : Nat → Nat → Int32) (l1 : Int32) (l2 : Int32), (61 - l2.toInt).toNat = n → zF wr_208 m0 m → zV m → (0 ≤ l1.toInt) → (l1.toInt ≤ 3099) → (0 ≤ l2.toInt) → ((3101 - (m 94 76).toInt).toNat < n0) → ((m 94 10).toInt = 2 ∨ (m 94 10).toInt = 3) → (zKS (m 110) (m 94 75)) → (zOw (m 99) (m 103) (m 111)) → (zH2 (m 94 10) (m 94 11) (m 94 61) (m 94 77) (m 99) (m 110) (m 102)) → (zH3 (m 94 10) (m 94 13) (m 94 14) (m 94 15) (m 94 61) (m 94 77) (m 94 60) (m 99) (m 110) (m 104) (m 102) (m 103) (m 111)) → ((m 94 76).toInt ≤ (m 94 75).toInt) → (zKU (m 94 10) (m 99) (m 110)) → (zW (m 94 7) (m 98) (m 101) (m 102) (m 108)) → (zDX (m 94 10) (m 99) (m 112) (m 113) (m 114) (m 94 55) (m 98) (m 101) (m 102) (m 108)) → (zCQ (m 110) (m 98) (m 101) (m 102) (m 108) (m 119) (m 94 76) (m 94 75) XX l1.toNatClampNeg l2.toNatClampNeg) → (zle (m0 110) (m 110)) → zm X 3 64 208 33 [(0, .inr (.inr (some 94))), (1, .inl l1), (2, .inl l2)] m P := by
  intro n
  induction n using Nat.strongRecOn with
  | _ n IH =>
    intro m l1 l2 hmu hF hV hi0 hi1 hi2 hi3 hi4 r_CMK r_OW r_H2 r_H3 hi9 r_KU r_W r_DX r_CQ r_KM
    refine g_208_33 l1 l2 ?_
    have f1 : 0 ≤ (m 94 76).toInt ∧ (m 94 76).toInt ≤ 3100 := rs_94_76 (m := m) hV
    have f2 : 0 ≤ (m 94 10).toInt ∧ (m 94 10).toInt ≤ 6 := rs_94_10 (m := m) hV
    have f3 : 0 ≤ (m 94 75).toInt ∧ (m 94 75).toInt ≤ 3100 := rs_94_75 (m := m) hV
    have b4 := i_bd l1
    have hg5 : (0 ≤ l1 ∧ l1.toNatClampNeg < 3100) := i_ix (by omega) (by omega)
    refine ⟨hg5, ?_⟩
    first | have f6 : 0 ≤ (m 102 l1.toNatClampNeg).toInt ∧ (m 102 l1.toNatClampNeg).toInt ≤ 60 := ra_102 (m := m) hV (k := l1.toNatClampNeg) (i_ix (n := 3100) (by omega) (by omega)).2 | have b7 := i_bd (m 102 l1.toNatClampNeg)
    have b8 := i_bd l2
    refine zd (fun (h9 : (m 102 l1.toNatClampNeg) ≤ l2) => ?_) (fun (h9 : ¬ (m 102 l1.toNatClampNeg) ≤ l2) => ?_)
    · skip
      have g10 := i_le h9
      exact OUT0 _  (show (3101 - (m 94 76).toInt).toNat < n0 from by omega) hF hV (show (m 94 10).toInt = 2 ∨ (m 94 10).toInt = 3 from by omega) r_CMK r_OW r_H2 r_H3 (show (m 94 76).toInt ≤ (m 94 75).toInt from by omega) r_KU r_W r_DX (show zCQ (m 110) (m 98) (m 101) (m 102) (m 108) (m 119) (m 94 76) (m 94 75) XX 3100 0 from by first | (exact CQ_done r_CQ (by rw [tn_cast (x := l2) (by omega)]; omega)) | (exfalso; omega; done) | (exfalso; contradiction; done)) r_KM
    · skip
      have g11 := i_nle h9
      refine sp_192 (l1) (l2) hV (by omega) (by omega) (by omega) (show l2.toInt < (m 102 l1.toNatClampNeg).toInt from by omega) (fun v2 m1 hV_m1 p0_m1 => zmi_n ?_)
      have p0_m1 : v2 = zrf (m 98) (m 101) (m 108) l1.toNatClampNeg l2.toNatClampNeg := p0_m1
      try have := W_ref r_W (by omega) (by omega) (by omega) (by omega) p0_m1
      have b12 := i_bd v2
      refine sp_207 (XX := XX) (CU := l1.toNatClampNeg) (II := l2.toNatClampNeg) (v2) hV_m1 (by omega) (by omega) (show (m 94 10).toInt = 2 ∨ (m 94 10).toInt = 3 from by omega) (show v2.toInt < 0 ∨ (m 99) v2.toNatClampNeg ≠ 0 from by first | (by_cases z : v2.toInt < 0; exact Or.inl z; exact Or.inr (KU_ref r_KU r_DX (by omega) (r_CQ.2.1 (by omega)) (by rw [tn_cast (x := l2) (by omega)]; omega) p0_m1 (by omega) (by omega)); done) | (exfalso; omega; done) | (exfalso; contradiction; done)) r_CMK r_OW r_H2 r_H3 (show (m 94 76).toInt ≤ (m 94 75).toInt from by omega) r_CQ r_KU (fun m3 hV_m3 p0_m3 p1_m3 p2_m3 p3_m3 p4_m3 p5_m3 p6_m3 p7_m3 p8_m3 p9_m3 p10_m3 => zmv_n ?_)
      have p0_m3 : zKS (m3 110) (m3 94 75) := p0_m3
      have p1_m3 : zOw (m 99) (m3 103) (m3 111) := p1_m3
      have p2_m3 : zH2 (m 94 10) (m 94 11) (m 94 61) (m3 94 77) (m 99) (m3 110) (m 102) := p2_m3
      have p3_m3 : zH3 (m 94 10) (m 94 13) (m 94 14) (m 94 15) (m 94 61) (m3 94 77) (m3 94 60) (m 99) (m3 110) (m3 104) (m 102) (m3 103) (m3 111) := p3_m3
      have p4_m3 : v2.toInt < 0 ∨ (m3 110) v2.toNatClampNeg ≠ 0 := p4_m3
      have p5_m3 : zle (m 110) (m3 110) := p5_m3
      have p6_m3 : (m 94 76).toInt ≤ (m3 94 75).toInt := p6_m3
      have p7_m3 : zCQ (m3 110) (m 98) (m 101) (m 102) (m 108) (m3 119) (m 94 76) (m3 94 75) XX l1.toNatClampNeg l2.toNatClampNeg := p7_m3
      have p8_m3 : zKU (m 94 10) (m 99) (m3 110) := p8_m3
      have p9_m3 : (m 94 10).toInt = 3 → zax (m 103) (m3 103) (m 94 60).toInt := p9_m3
      have p10_m3 : (m 94 60).toInt ≤ (m3 94 60).toInt := p10_m3
      have f13 : 0 ≤ (m3 94 75).toInt ∧ (m3 94 75).toInt ≤ 3100 := rs_94_75 (m := (zov wr_207 (zov wr_192 m m1) m3)) hV_m3
      have f14 : 0 ≤ (m 94 60).toInt ∧ (m 94 60).toInt ≤ 1600 := rs_94_60 (m := m) hV
      have f15 : 0 ≤ (m3 94 60).toInt ∧ (m3 94 60).toInt ≤ 1600 := rs_94_60 (m := (zov wr_207 (zov wr_192 m m1) m3)) hV_m3
      first | have e16 : (l2 + (1 : Int32)).toInt = l2.toInt + (1) := i_addk rfl (by omega) (by omega) | have b17 := i_bd (l2 + (1 : Int32))
      exact IH (61 - (l2 + (1 : Int32)).toInt).toNat (by omega) _ (l1) ((l2 + (1 : Int32))) rfl (zF_zov (zF_zov hF ws_192_208) ws_207_208) hV_m3 (by omega) (by omega) (by omega) (show (3101 - (m 94 76).toInt).toNat < n0 from by omega) (show (m 94 10).toInt = 2 ∨ (m 94 10).toInt = 3 from by omega) p0_m3 p1_m3 p2_m3 p3_m3 (show (m 94 76).toInt ≤ (m3 94 75).toInt from by omega) p8_m3 r_W r_DX (show zCQ (m3 110) (m 98) (m 101) (m 102) (m 108) (m3 119) (m 94 76) (m3 94 75) XX l1.toNatClampNeg (l2 + (1 : Int32)).toNatClampNeg from by first | (exact CQ_adv p7_m3 (by unfold zcl; rw [← p0_m1]; exact p4_m3) (tn_succ (by omega) (by omega))) | (exfalso; omega; done) | (exfalso; contradiction; done)) (show zle (m0 110) (m3 110) from by first | (exact zle_tr r_KM p5_m3) | (exact zle_push r_KM (by decide)) | (exact zle_rfl) | (exfalso; omega; done) | (exfalso; contradiction; done))
theorem lp_208_0 {X : Nat × (Nat → Int32)} {P : Option ma_V → (Nat → Nat → Int32) → Prop} {XX : Nat→Prop} {m0 : Nat → Nat → Int32} (h0 : zV m0) (K : ∀ m₉, zF wr_208 m0 m₉ → zV m₉ → (zKS (m₉ 110) (m₉ 94 75)) → (zOw (m₉ 99) (m₉ 103) (m₉ 111)) → (zH2 (m₉ 94 10) (m₉ 94 11) (m₉ 94 61) (m₉ 94 77) (m₉ 99) (m₉ 110) (m₉ 102)) → (zH3 (m₉ 94 10) (m₉ 94 13) (m₉ 94 14) (m₉ 94 15) (m₉ 94 61) (m₉ 94 77) (m₉ 94 60) (m₉ 99) (m₉ 110) (m₉ 104) (m₉ 102) (m₉ 103) (m₉ 111)) → ((m₉ 94 76).toInt ≤ (m₉ 94 75).toInt) → (zKU (m₉ 94 10) (m₉ 99) (m₉ 110)) → (zle (m0 110) (m₉ 110)) → (zCQ (m₉ 110) (m₉ 98) (m₉ 101) (m₉ 102) (m₉ 108) (m₉ 119) (m₉ 94 76) (m₉ 94 75) XX 3100 0) → ((m₉ 94 75).toInt ≤ (m₉ 94 76).toInt) → P none m₉) : ∀ (n : Nat) (m : Nat → Nat → Int32) , (3101 - (m 94 76).toInt).toNat = n → zF wr_208 m0 m → zV m → ((m 94 10).toInt = 2 ∨ (m 94 10).toInt = 3) → (zKS (m 110) (m 94 75)) → (zOw (m 99) (m 103) (m 111)) → (zH2 (m 94 10) (m 94 11) (m 94 61) (m 94 77) (m 99) (m 110) (m 102)) → (zH3 (m 94 10) (m 94 13) (m 94 14) (m 94 15) (m 94 61) (m 94 77) (m 94 60) (m 99) (m 110) (m 104) (m 102) (m 103) (m 111)) → ((m 94 76).toInt ≤ (m 94 75).toInt) → (zKU (m 94 10) (m 99) (m 110)) → (zW (m 94 7) (m 98) (m 101) (m 102) (m 108)) → (zDX (m 94 10) (m 99) (m 112) (m 113) (m 114) (m 94 55) (m 98) (m 101) (m 102) (m 108)) → (zCQ (m 110) (m 98) (m 101) (m 102) (m 108) (m 119) (m 94 76) (m 94 75) XX 3100 0) → (zle (m0 110) (m 110)) → zm X 3 64 208 0 [(0, .inr (.inr (some 94)))] m P := by
  intro n
  induction n using Nat.strongRecOn with
  | _ n IH =>
    intro m  hmu hF hV hi0 r_CMK r_OW r_H2 r_H3 hi5 r_KU r_W r_DX r_CQ r_KM
    refine g_208_0  ?_
    have f1 : 0 ≤ (m 94 10).toInt ∧ (m 94 10).toInt ≤ 6 := rs_94_10 (m := m) hV
    have f2 : 0 ≤ (m 94 76).toInt ∧ (m 94 76).toInt ≤ 3100 := rs_94_76 (m := m) hV
    have f3 : 0 ≤ (m 94 75).toInt ∧ (m 94 75).toInt ≤ 3100 := rs_94_75 (m := m) hV
    refine zd (fun (h4 : (m 94 75) ≤ (m 94 76)) => ?_) (fun (h4 : ¬ (m 94 75) ≤ (m 94 76)) => ?_)
    · skip
      have g5 := i_le h4
      exact K _ hF hV r_CMK r_OW r_H2 r_H3 (show (m 94 76).toInt ≤ (m 94 75).toInt from by omega) r_KU r_KM r_CQ (show (m 94 75).toInt ≤ (m 94 76).toInt from by omega)
    · skip
      have g6 := i_nle h4
      have hg7 : (0 ≤ (m 94 76) ∧ (m 94 76).toNatClampNeg < 3100) := i_ix (by omega) (by omega)
      refine ⟨hg7, ?_⟩
      first | have e9 : ((m 94 76) + (1 : Int32)).toInt = (m 94 76).toInt + (1) := i_addk rfl (by omega) (by omega) | have b10 := i_bd ((m 94 76) + (1 : Int32))
      have hV8 : zV (ma_u m 94 76 ((m 94 76) + (1 : Int32))) := us_94_76 hV (by omega) (by omega)
      first | have f11 : 0 ≤ (m 119 (m 94 76).toNatClampNeg).toInt ∧ (m 119 (m 94 76).toNatClampNeg).toInt ≤ 3099 := ra_119 (m := m) hV (k := (m 94 76).toNatClampNeg) (i_ix (n := 3100) (by omega) (by omega)).2 | have b12 := i_bd (m 119 (m 94 76).toNatClampNeg)
      have li13 : (0 : Int32).toInt = 0 := rfl
      exact lp_208_33 h0 K (fun _  z1 z2 z3 y0 y1 y2 y3 y4 y5 y6 y7 y8 y9 y10 => IH _ z1 _  rfl z2 z3 y0 y1 y2 y3 y4 y5 y6 y7 y8 y9 y10) _ _ ((m 119 (m 94 76).toNatClampNeg)) ((0 : Int32)) rfl (zF_u hF rfl) hV8 (by omega) (by omega) (by omega) (show (3101 - ((m 94 76) + (1 : Int32)).toInt).toNat < n from by omega) (show (m 94 10).toInt = 2 ∨ (m 94 10).toInt = 3 from by omega) r_CMK r_OW r_H2 r_H3 (show ((m 94 76) + (1 : Int32)).toInt ≤ (m 94 75).toInt from by omega) r_KU r_W r_DX (show zCQ (m 110) (m 98) (m 101) (m 102) (m 108) (m 119) ((m 94 76) + (1 : Int32)) (m 94 75) XX (m 119 (m 94 76).toNatClampNeg).toNatClampNeg (0 : Int32).toNatClampNeg from by first | (exact CQ_take r_CQ (by omega) (by omega) (by omega) rfl) | (exfalso; omega; done) | (exfalso; contradiction; done)) r_KM
theorem sp_208 {X : Nat × (Nat → Int32)} {P : Option ma_V → (Nat → Nat → Int32) → Prop} {XX : Nat→Prop} {m : Nat → Nat → Int32}  (hV : zV m) (hpre0 : (m 94 10).toInt = 2 ∨ (m 94 10).toInt = 3) (r_CMK : zKS (m 110) (m 94 75)) (r_OW : zOw (m 99) (m 103) (m 111)) (r_H2 : zH2 (m 94 10) (m 94 11) (m 94 61) (m 94 77) (m 99) (m 110) (m 102)) (r_H3 : zH3 (m 94 10) (m 94 13) (m 94 14) (m 94 15) (m 94 61) (m 94 77) (m 94 60) (m 99) (m 110) (m 104) (m 102) (m 103) (m 111)) (hpre5 : (m 94 76).toInt ≤ (m 94 75).toInt) (r_KU : zKU (m 94 10) (m 99) (m 110)) (r_W : zW (m 94 7) (m 98) (m 101) (m 102) (m 108)) (r_DX : zDX (m 94 10) (m 99) (m 112) (m 113) (m 114) (m 94 55) (m 98) (m 101) (m 102) (m 108)) (r_CQ : zCQ (m 110) (m 98) (m 101) (m 102) (m 108) (m 119) (m 94 76) (m 94 75) XX 3100 0) (KZ : ∀ m₉, zV (zov wr_208 m m₉) → (zKS (m₉ 110) (m₉ 94 75)) → (zOw (m 99) (m₉ 103) (m₉ 111)) → (zH2 (m 94 10) (m 94 11) (m 94 61) (m₉ 94 77) (m 99) (m₉ 110) (m 102)) → (zH3 (m 94 10) (m 94 13) (m 94 14) (m 94 15) (m 94 61) (m₉ 94 77) (m₉ 94 60) (m 99) (m₉ 110) (m₉ 104) (m 102) (m₉ 103) (m₉ 111)) → ((m₉ 94 76).toInt ≤ (m₉ 94 75).toInt) → (zKU (m 94 10) (m 99) (m₉ 110)) → (zle (m 110) (m₉ 110)) → (zCQ (m₉ 110) (m 98) (m 101) (m 102) (m 108) (m₉ 119) (m₉ 94 76) (m₉ 94 75) XX 3100 0) → ((m₉ 94 75).toInt ≤ (m₉ 94 76).toInt) → P none (zov wr_208 m m₉)) : zm X 3 64 208 0 [(0, .inr (.inr (some 94)))] m P := by
  have K : ∀ m₉, zF wr_208 m m₉ → zV m₉ → (zKS (m₉ 110) (m₉ 94 75)) → (zOw (m₉ 99) (m₉ 103) (m₉ 111)) → (zH2 (m₉ 94 10) (m₉ 94 11) (m₉ 94 61) (m₉ 94 77) (m₉ 99) (m₉ 110) (m₉ 102)) → (zH3 (m₉ 94 10) (m₉ 94 13) (m₉ 94 14) (m₉ 94 15) (m₉ 94 61) (m₉ 94 77) (m₉ 94 60) (m₉ 99) (m₉ 110) (m₉ 104) (m₉ 102) (m₉ 103) (m₉ 111)) → ((m₉ 94 76).toInt ≤ (m₉ 94 75).toInt) → (zKU (m₉ 94 10) (m₉ 99) (m₉ 110)) → (zle (m 110) (m₉ 110)) → (zCQ (m₉ 110) (m₉ 98) (m₉ 101) (m₉ 102) (m₉ 108) (m₉ 119) (m₉ 94 76) (m₉ 94 75) XX 3100 0) → ((m₉ 94 75).toInt ≤ (m₉ 94 76).toInt) → P none m₉ := by
    intro m₉ hf z q0 q1 q2 q3 q4 q5 q6 q7 q8
    have e := zov_eq hf
    rw [e] at z ⊢
    try rw [e] at q0
    try rw [e] at q1
    try rw [e] at q2
    try rw [e] at q3
    try rw [e] at q4
    try rw [e] at q5
    try rw [e] at q6
    try rw [e] at q7
    try rw [e] at q8
    exact KZ m₉ z q0 q1 q2 q3 q4 q5 q6 q7 q8
  have f1 : 0 ≤ (m 94 10).toInt ∧ (m 94 10).toInt ≤ 6 := rs_94_10 (m := m) hV
  have f2 : 0 ≤ (m 94 76).toInt ∧ (m 94 76).toInt ≤ 3100 := rs_94_76 (m := m) hV
  have f3 : 0 ≤ (m 94 75).toInt ∧ (m 94 75).toInt ≤ 3100 := rs_94_75 (m := m) hV
  exact lp_208_0 hV K _ _  rfl zF_rfl hV (show (m 94 10).toInt = 2 ∨ (m 94 10).toInt = 3 from by omega) r_CMK r_OW r_H2 r_H3 (show (m 94 76).toInt ≤ (m 94 75).toInt from by omega) r_KU r_W r_DX r_CQ (show zle (m 110) (m 110) from by first | (exact zle_rfl) | (exact zle_rfl) | (exfalso; omega; done) | (exfalso; contradiction; done))

/-! from 94.485 -/
/-! the reference (written by wip/tools/gen94m.py) -/
set_option maxRecDepth 100000 in
theorem hm_209 : ma_md 209 = some (12, yX12_comeWishers, cX12_comeWishers, 4, none) := rfl
theorem v_12_368_12 : ma_vl 12 368 12 = some (1, 208, 0) := by decide +kernel
theorem dX12_comeWishers_0 : decode cX12_comeWishers 0 = .ok (.iconst (-1), 1) := by decide +kernel
theorem dX12_comeWishers_1 : decode cX12_comeWishers 1 = .ok (.istore_n 2, 1) := by decide +kernel
theorem dX12_comeWishers_2 : decode cX12_comeWishers 2 = .ok (.aload_n 0, 1) := by decide +kernel
theorem dX12_comeWishers_3 : decode cX12_comeWishers 3 = .ok (.iload_n 2, 1) := by decide +kernel
theorem dX12_comeWishers_4 : decode cX12_comeWishers 4 = .ok (.iload_n 1, 1) := by decide +kernel
theorem dX12_comeWishers_5 : decode cX12_comeWishers 5 = .ok (.invokevirtual 320, 3) := by decide +kernel
theorem dX12_comeWishers_8 : decode cX12_comeWishers 8 = .ok (.istore_n 3, 1) := by decide +kernel
theorem dX12_comeWishers_9 : decode cX12_comeWishers 9 = .ok (.iload_n 3, 1) := by decide +kernel
theorem dX12_comeWishers_44 : decode cX12_comeWishers 44 = .ok (.return_, 1) := by decide +kernel
theorem dX12_comeWishers_13 : decode cX12_comeWishers 13 = .ok (.aload_n 0, 1) := by decide +kernel
theorem dX12_comeWishers_17 : decode cX12_comeWishers 17 = .ok (.iload_n 3, 1) := by decide +kernel
theorem dX12_comeWishers_19 : decode cX12_comeWishers 19 = .ok (.istore_n 2, 1) := by decide +kernel
theorem dX12_comeWishers_20 : decode cX12_comeWishers 20 = .ok (.aload_n 0, 1) := by decide +kernel
theorem dX12_comeWishers_21 : decode cX12_comeWishers 21 = .ok (.iload_n 3, 1) := by decide +kernel
theorem dX12_comeWishers_22 : decode cX12_comeWishers 22 = .ok (.invokevirtual 324, 3) := by decide +kernel
theorem dX12_comeWishers_25 : decode cX12_comeWishers 25 = .ok (.aload_n 0, 1) := by decide +kernel
theorem dX12_comeWishers_26 : decode cX12_comeWishers 26 = .ok (.iload_n 3, 1) := by decide +kernel
theorem dX12_comeWishers_27 : decode cX12_comeWishers 27 = .ok (.invokevirtual 365, 3) := by decide +kernel
theorem dX12_comeWishers_30 : decode cX12_comeWishers 30 = .ok (.aload_n 0, 1) := by decide +kernel
theorem dX12_comeWishers_31 : decode cX12_comeWishers 31 = .ok (.invokevirtual 368, 3) := by decide +kernel
theorem dX12_comeWishers_34 : decode cX12_comeWishers 34 = .ok (.aload_n 0, 1) := by decide +kernel
theorem dX12_comeWishers_35 : decode cX12_comeWishers 35 = .ok (.iload_n 2, 1) := by decide +kernel
theorem dX12_comeWishers_36 : decode cX12_comeWishers 36 = .ok (.iload_n 1, 1) := by decide +kernel
theorem dX12_comeWishers_37 : decode cX12_comeWishers 37 = .ok (.invokevirtual 320, 3) := by decide +kernel
theorem dX12_comeWishers_40 : decode cX12_comeWishers 40 = .ok (.istore_n 3, 1) := by decide +kernel
theorem dX12_comeWishers_41 : decode cX12_comeWishers 41 = .ok (.goto (-32), 3) := by decide +kernel
theorem dX12_comeWishers_18 : decode cX12_comeWishers 18 = .ok (.iaload, 1) := by decide +kernel
theorem dX12_comeWishers_14 : decode cX12_comeWishers 14 = .ok (.getfield 31, 3) := by decide +kernel
theorem dX12_comeWishers_10 : decode cX12_comeWishers 10 = .ok (.ifCond .lt 34, 3) := by decide +kernel
def wr_209 (c k : Nat) : Bool := Nat.beq c 103 || Nat.beq c 104 || Nat.beq c 105 || Nat.beq c 109 || Nat.beq c 110 || Nat.beq c 111 || Nat.beq c 113 || Nat.beq c 114 || Nat.beq c 119 || (Nat.beq c 94 && (Nat.beq k 48 || Nat.beq k 55 || Nat.beq k 60 || Nat.beq k 75 || Nat.beq k 76 || Nat.beq k 77))
theorem ws_195_209 : ∀ c k, wr_195 c k = true → wr_209 c k = true := fun _ _ h => by cases h
theorem ws_197_209 : ∀ c k, wr_197 c k = true → wr_209 c k = true := by
  intro c k h
  simp only [wr_197, Bool.or_eq_true, Bool.and_eq_true, Nat.beq_eq] at h
  rcases h with (((rfl | rfl) | rfl) | rfl) | ⟨rfl, rfl⟩ <;> rfl
theorem ws_207_209 : ∀ c k, wr_207 c k = true → wr_209 c k = true := by
  intro c k h
  simp only [wr_207, Bool.or_eq_true, Bool.and_eq_true, Nat.beq_eq] at h
  rcases h with ((((rfl | rfl) | rfl) | rfl) | rfl) | ⟨rfl, (((rfl | rfl) | rfl) | rfl)⟩ <;> rfl
theorem ws_208_209 : ∀ c k, wr_208 c k = true → wr_209 c k = true := by
  intro c k h
  simp only [wr_208, Bool.or_eq_true, Bool.and_eq_true, Nat.beq_eq] at h
  rcases h with ((((rfl | rfl) | rfl) | rfl) | rfl) | ⟨rfl, ((((rfl | rfl) | rfl) | rfl) | rfl)⟩ <;> rfl
theorem g_209_0 {X : Nat × (Nat → Int32)} {m : Nat → Nat → Int32} {P : Option ma_V → (Nat → Nat → Int32) → Prop} (yo : Int32) (h : zm X 1 21 195 0 [(0, .inr (.inr (some 94))), (1, .inl (-1 : Int32)), (2, .inl yo)] m (zmi (fun v2 m1 => zm X 4 86 209 9 [(0, .inr (.inr (some 94))), (1, .inl yo), (3, .inl v2)] m1 P))) : zm X 4 86 209 0 [(0, .inr (.inr (some 94))), (1, .inl yo)] m P := by
  intro d w S Q hd hw hS hm HQ
  subst hm
  refine zw_push hm_209 dX12_comeWishers_0 (v := .inl (-1 : Int32)) rfl ?_
  refine zw_sto hm_209 dX12_comeWishers_1 [(2, .inl (-1 : Int32)), (0, .inr (.inr (some 94))), (1, .inl yo)] rfl rfl rfl ?_
  refine zw_push hm_209 dX12_comeWishers_2 (v := .inr (.inr (some 94))) rfl ?_
  refine zw_push hm_209 dX12_comeWishers_3 (v := .inl (-1 : Int32)) rfl ?_
  refine zw_push hm_209 dX12_comeWishers_4 (v := .inl yo) rfl ?_
  refine zw_cv hm_209 dX12_comeWishers_5 v_12_320_12 hm_195 [.inl yo, .inl (-1 : Int32)] [] rfl (zT_rt hS s_94 rfl) ⟨by omega, by omega⟩ rfl (h _ _ S _ (by omega) (by omega) hS rfl (fun o9 m1 hv => ?_))
  obtain ⟨v2, rfl, h⟩ := zmi_of hv
  show ma_wp X d w 209 8 [(2, .inl (-1 : Int32)), (0, .inr (.inr (some 94))), (1, .inl yo)] [.inl v2] (zst S m1) _
  refine zw_sto hm_209 dX12_comeWishers_8 [(3, .inl v2), (2, .inl (-1 : Int32)), (0, .inr (.inr (some 94))), (1, .inl yo)] rfl rfl rfl ?_
  exact zw_sub (ma_nd_of (ks := [0, 1, 3]) rfl (by decide)) (ma_nd_of (ks := [3, 2, 0, 1]) rfl (by decide)) (ma_le_cons rfl (ma_le_cons rfl (ma_le_cons rfl (ma_le_nil _)))) (h d w _ Q (by omega) (by omega) (zT_zst hS m1) rfl HQ)
theorem g_209_9 {X : Nat × (Nat → Int32)} {m : Nat → Nat → Int32} {P : Option ma_V → (Nat → Nat → Int32) → Prop} (l1 : Int32) (l3 : Int32) (h : if l3 < 0 then (P none m) else ((0 ≤ l3 ∧ l3.toNatClampNeg < 3100) ∧ (zm X 1 22 197 0 [(0, .inr (.inr (some 94))), (1, .inl l3)] m (zmv (fun m1 => zm X 2 43 207 0 [(0, .inr (.inr (some 94))), (1, .inl l3)] m1 (zmv (fun m3 => zm X 3 64 208 0 [(0, .inr (.inr (some 94)))] m3 (zmv (fun m5 => zm X 1 21 195 0 [(0, .inr (.inr (some 94))), (1, .inl (m 100 l3.toNatClampNeg)), (2, .inl l1)] m5 (zmi (fun v8 m7 => zm X 4 86 209 9 [(0, .inr (.inr (some 94))), (1, .inl l1), (3, .inl v8)] m7 P))))))))))) : zm X 4 86 209 9 [(0, .inr (.inr (some 94))), (1, .inl l1), (3, .inl l3)] m P := by
  intro d w S Q hd hw hS hm HQ
  subst hm
  refine zw_push hm_209 dX12_comeWishers_9 (v := .inl l3) rfl ?_
  refine zw_if0 hm_209 dX12_comeWishers_10 (t := 44) rfl zc0_lt ?_ ?_
  · intro hc
    rw [if_pos hc] at h
    exact zw_vret hm_209 dX12_comeWishers_44 (HQ _ _ h)
  · intro hc
    rw [if_neg hc] at h
    refine zw_push hm_209 dX12_comeWishers_13 (v := .inr (.inr (some 94))) rfl ?_
    refine zw_gf hm_209 dX12_comeWishers_14 (v := .inr (.inr (some 100))) (zT_is hS s_94) (zT_t hS s_94) rfl f_12_31_12 (zT_f hS r_94_32) ?_
    refine zw_push hm_209 dX12_comeWishers_17 (v := .inl l3) rfl ?_
    obtain ⟨hg, h⟩ := h
    refine zw_ia hm_209 dX12_comeWishers_18 (zT_is hS s_100) (zT_h hS s_100) rfl hg ?_
    show ma_wp X d w 209 19 [(0, .inr (.inr (some 94))), (1, .inl l1), (3, .inl l3)] [.inl ((mI S) 100 l3.toNatClampNeg)] S _
    refine zw_sto hm_209 dX12_comeWishers_19 [(2, .inl ((mI S) 100 l3.toNatClampNeg)), (0, .inr (.inr (some 94))), (1, .inl l1), (3, .inl l3)] rfl rfl rfl ?_
    refine zw_push hm_209 dX12_comeWishers_20 (v := .inr (.inr (some 94))) rfl ?_
    refine zw_push hm_209 dX12_comeWishers_21 (v := .inl l3) rfl ?_
    refine zw_cv hm_209 dX12_comeWishers_22 v_12_324_12 hm_197 [.inl l3] [] rfl (zT_rt hS s_94 rfl) ⟨by omega, by omega⟩ rfl (h _ _ S _ (by omega) (by omega) hS rfl (fun o9 m1 hv => ?_))
    obtain ⟨rfl, h⟩ := zmv_of hv
    show ma_wp X d w 209 25 [(2, .inl ((mI S) 100 l3.toNatClampNeg)), (0, .inr (.inr (some 94))), (1, .inl l1), (3, .inl l3)] [] (zst S m1) _
    refine zw_push hm_209 dX12_comeWishers_25 (v := .inr (.inr (some 94))) rfl ?_
    refine zw_push hm_209 dX12_comeWishers_26 (v := .inl l3) rfl ?_
    refine zw_cv hm_209 dX12_comeWishers_27 v_12_365_12 hm_207 [.inl l3] [] rfl (zT_rt (zT_zst hS m1) s_94 rfl) ⟨by omega, by omega⟩ rfl (h _ _ (zst S m1) _ (by omega) (by omega) (zT_zst hS m1) rfl (fun o9 m3 hv => ?_))
    obtain ⟨rfl, h⟩ := zmv_of hv
    show ma_wp X d w 209 30 [(2, .inl ((mI S) 100 l3.toNatClampNeg)), (0, .inr (.inr (some 94))), (1, .inl l1), (3, .inl l3)] [] (zst S m3) _
    refine zw_push hm_209 dX12_comeWishers_30 (v := .inr (.inr (some 94))) rfl ?_
    refine zw_cv hm_209 dX12_comeWishers_31 v_12_368_12 hm_208 [] [] rfl (zT_rt (zT_zst hS m3) s_94 rfl) ⟨by omega, by omega⟩ rfl (h _ _ (zst S m3) _ (by omega) (by omega) (zT_zst hS m3) rfl (fun o9 m5 hv => ?_))
    obtain ⟨rfl, h⟩ := zmv_of hv
    show ma_wp X d w 209 34 [(2, .inl ((mI S) 100 l3.toNatClampNeg)), (0, .inr (.inr (some 94))), (1, .inl l1), (3, .inl l3)] [] (zst S m5) _
    refine zw_push hm_209 dX12_comeWishers_34 (v := .inr (.inr (some 94))) rfl ?_
    refine zw_push hm_209 dX12_comeWishers_35 (v := .inl ((mI S) 100 l3.toNatClampNeg)) rfl ?_
    refine zw_push hm_209 dX12_comeWishers_36 (v := .inl l1) rfl ?_
    refine zw_cv hm_209 dX12_comeWishers_37 v_12_320_12 hm_195 [.inl l1, .inl ((mI S) 100 l3.toNatClampNeg)] [] rfl (zT_rt (zT_zst hS m5) s_94 rfl) ⟨by omega, by omega⟩ rfl (h _ _ (zst S m5) _ (by omega) (by omega) (zT_zst hS m5) rfl (fun o9 m7 hv => ?_))
    obtain ⟨v8, rfl, h⟩ := zmi_of hv
    show ma_wp X d w 209 40 [(2, .inl ((mI S) 100 l3.toNatClampNeg)), (0, .inr (.inr (some 94))), (1, .inl l1), (3, .inl l3)] [.inl v8] (zst S m7) _
    refine zw_sto hm_209 dX12_comeWishers_40 [(3, .inl v8), (2, .inl ((mI S) 100 l3.toNatClampNeg)), (0, .inr (.inr (some 94))), (1, .inl l1)] rfl rfl rfl ?_
    refine zw_goto hm_209 dX12_comeWishers_41 (t := 9) rfl ?_
    exact zw_sub (ma_nd_of (ks := [0, 1, 3]) rfl (by decide)) (ma_nd_of (ks := [3, 2, 0, 1]) rfl (by decide)) (ma_le_cons rfl (ma_le_cons rfl (ma_le_cons rfl (ma_le_nil _)))) (h d w _ Q (by omega) (by omega) (zT_zst hS m7) rfl HQ)
set_option maxHeartbeats 8000000 in
theorem lp_209_9 {X : Nat × (Nat → Int32)} {P : Option ma_V → (Nat → Nat → Int32) → Prop} {T : Nat} {XX : Nat→Prop} {yo : Int32} {m0 : Nat → Nat → Int32} (h0 : zV m0) (K : ∀ m₉, zF wr_209 m0 m₉ → zV m₉ → (zKS (m₉ 110) (m₉ 94 75)) → (zOw (m₉ 99) (m₉ 103) (m₉ 111)) → (zH2 (m₉ 94 10) (m₉ 94 11) (m₉ 94 61) (m₉ 94 77) (m₉ 99) (m₉ 110) (m₉ 102)) → (zH3 (m₉ 94 10) (m₉ 94 13) (m₉ 94 14) (m₉ 94 15) (m₉ 94 61) (m₉ 94 77) (m₉ 94 60) (m₉ 99) (m₉ 110) (m₉ 104) (m₉ 102) (m₉ 103) (m₉ 111)) → ((m₉ 94 76).toInt ≤ (m₉ 94 75).toInt) → (zKU (m₉ 94 10) (m₉ 99) (m₉ 110)) → (zDX (m₉ 94 10) (m₉ 99) (m₉ 112) (m₉ 113) (m₉ 114) (m₉ 94 55) (m₉ 98) (m₉ 101) (m₉ 102) (m₉ 108)) → ((m₉ 94 75).toInt ≤ (m₉ 94 76).toInt) → (zCQ (m₉ 110) (m₉ 98) (m₉ 101) (m₉ 102) (m₉ 108) (m₉ 119) (m₉ 94 76) (m₉ 94 75) XX 3100 0) → (zGW T (m₉ 94 55) (m₉ 109)) → (((m₉ 94 10).toInt = 2 ∨ (m₉ 94 10).toInt = 3) → zcov (m₉ 110) (m₉ 112) 16) → (((m₉ 94 10).toInt = 2 ∨ (m₉ 94 10).toInt = 3) → zcov (m₉ 110) (m₉ 114) (m₉ 94 55).toInt) → (zuw (m0 113) (m₉ 113)) → P none m₉) : ∀ (n : Nat) (m : Nat → Nat → Int32) (l1 : Int32) (l3 : Int32), ((zmg (m 100) l3 : Int)).toNat = n → zF wr_209 m0 m → zV m → (zWS (m 100) (m 99) (m 110) (m 109) (-1 : Int32) l3) → ((m 94 10).toInt = 2 ∨ (m 94 10).toInt = 3) → (zKS (m 110) (m 94 75)) → (zOw (m 99) (m 103) (m 111)) → (zH2 (m 94 10) (m 94 11) (m 94 61) (m 94 77) (m 99) (m 110) (m 102)) → (zH3 (m 94 10) (m 94 13) (m 94 14) (m 94 15) (m 94 61) (m 94 77) (m 94 60) (m 99) (m 110) (m 104) (m 102) (m 103) (m 111)) → ((m 94 76).toInt ≤ (m 94 75).toInt) → (zKU (m 94 10) (m 99) (m 110)) → (zW (m 94 7) (m 98) (m 101) (m 102) (m 108)) → (zDX (m 94 10) (m 99) (m 112) (m 113) (m 114) (m 94 55) (m 98) (m 101) (m 102) (m 108)) → ((m 94 75).toInt ≤ (m 94 76).toInt) → (zCQ (m 110) (m 98) (m 101) (m 102) (m 108) (m 119) (m 94 76) (m 94 75) XX 3100 0) → (zGW T (m 94 55) (m 109)) → (((m 94 10).toInt = 2 ∨ (m 94 10).toInt = 3) → zcov (m 110) (m 112) 16) → (((m 94 10).toInt = 2 ∨ (m 94 10).toInt = 3) → zcov (m 110) (m 114) (m 94 55).toInt) → (zuw (m0 113) (m 113)) → zm X 4 86 209 9 [(0, .inr (.inr (some 94))), (1, .inl l1), (3, .inl l3)] m P := by
  intro n
  induction n using Nat.strongRecOn with
  | _ n IH =>
    intro m l1 l3 hmu hF hV r_WS hi1 r_CMK r_OW r_H2 r_H3 hi6 r_KU r_W r_DX hi10 r_CQ r_GW r_COVR r_COVW r_UW
    refine g_209_9 l1 l3 ?_
    have f1 : 0 ≤ (m 94 10).toInt ∧ (m 94 10).toInt ≤ 6 := rs_94_10 (m := m) hV
    have f2 : 0 ≤ (m 94 76).toInt ∧ (m 94 76).toInt ≤ 3100 := rs_94_76 (m := m) hV
    have f3 : 0 ≤ (m 94 75).toInt ∧ (m 94 75).toInt ≤ 3100 := rs_94_75 (m := m) hV
    have b4 := i_bd l3
    have li5 : (0 : Int32).toInt = 0 := rfl
    refine zd (fun (h6 : l3 < (0 : Int32)) => ?_) (fun (h6 : ¬ l3 < (0 : Int32)) => ?_)
    · skip
      have g7 := i_lt h6
      try have gw := GW_room r_GW
      exact K _ hF hV r_CMK r_OW r_H2 r_H3 (show (m 94 76).toInt ≤ (m 94 75).toInt from by omega) r_KU r_DX (show (m 94 75).toInt ≤ (m 94 76).toInt from by omega) r_CQ r_GW r_COVR r_COVW r_UW
    · skip
      have g8 := i_nlt h6
      try obtain ⟨ws1, ws2, ws3, ws4, ws5, ws6⟩ := WS_ge r_WS (by omega)
      have hg9 : (0 ≤ l3 ∧ l3.toNatClampNeg < 3100) := i_ix (by omega) (by omega)
      refine ⟨hg9, ?_⟩
      refine sp_197 (l3) hV (by omega) (by omega) (show (m 109) l3.toNatClampNeg ≠ 0 from by first | (assumption; done) | (exfalso; omega; done) | (exfalso; contradiction; done)) r_GW (fun m1 hV_m1 p0_m1 p1_m1 p2_m1 p3_m1 => zmv_n ?_)
      have p0_m1 : zGW T (m1 94 55) (m1 109) := p0_m1
      have p1_m1 : zuw (m 113) (m1 113) := p1_m1
      have p2_m1 : zwx (m 114) (m1 114) (m 94 55) l3 := p2_m1
      have p3_m1 : (m1 94 55).toInt = (m 94 55).toInt + 1 := p3_m1
      have f10 : 0 ≤ (m1 94 55).toInt ∧ (m1 94 55).toInt ≤ 3100 := rs_94_55 (m := (zov wr_197 m m1)) hV_m1
      have f11 : 0 ≤ (m 94 55).toInt ∧ (m 94 55).toInt ≤ 3100 := rs_94_55 (m := m) hV
      refine sp_207 (XX := XX) (CU := 3100) (II := 0) (l3) hV_m1 (by omega) (by omega) (show (m 94 10).toInt = 2 ∨ (m 94 10).toInt = 3 from by omega) (show l3.toInt < 0 ∨ (m 99) l3.toNatClampNeg ≠ 0 from by first | (exact Or.inr ws3) | (exfalso; omega; done) | (exfalso; contradiction; done)) r_CMK r_OW r_H2 r_H3 (show (m 94 76).toInt ≤ (m 94 75).toInt from by omega) r_CQ r_KU (fun m3 hV_m3 p0_m3 p1_m3 p2_m3 p3_m3 p4_m3 p5_m3 p6_m3 p7_m3 p8_m3 p9_m3 p10_m3 => zmv_n ?_)
      have p0_m3 : zKS (m3 110) (m3 94 75) := p0_m3
      have p1_m3 : zOw (m 99) (m3 103) (m3 111) := p1_m3
      have p2_m3 : zH2 (m 94 10) (m 94 11) (m 94 61) (m3 94 77) (m 99) (m3 110) (m 102) := p2_m3
      have p3_m3 : zH3 (m 94 10) (m 94 13) (m 94 14) (m 94 15) (m 94 61) (m3 94 77) (m3 94 60) (m 99) (m3 110) (m3 104) (m 102) (m3 103) (m3 111) := p3_m3
      have p4_m3 : l3.toInt < 0 ∨ (m3 110) l3.toNatClampNeg ≠ 0 := p4_m3
      have p5_m3 : zle (m 110) (m3 110) := p5_m3
      have p6_m3 : (m 94 76).toInt ≤ (m3 94 75).toInt := p6_m3
      have p7_m3 : zCQ (m3 110) (m 98) (m 101) (m 102) (m 108) (m3 119) (m 94 76) (m3 94 75) XX 3100 0 := p7_m3
      have p8_m3 : zKU (m 94 10) (m 99) (m3 110) := p8_m3
      have p9_m3 : (m 94 10).toInt = 3 → zax (m 103) (m3 103) (m 94 60).toInt := p9_m3
      have p10_m3 : (m 94 60).toInt ≤ (m3 94 60).toInt := p10_m3
      have f12 : 0 ≤ (m3 94 75).toInt ∧ (m3 94 75).toInt ≤ 3100 := rs_94_75 (m := (zov wr_207 (zov wr_197 m m1) m3)) hV_m3
      have f13 : 0 ≤ (m 94 60).toInt ∧ (m 94 60).toInt ≤ 1600 := rs_94_60 (m := m) hV
      have f14 : 0 ≤ (m3 94 60).toInt ∧ (m3 94 60).toInt ≤ 1600 := rs_94_60 (m := (zov wr_207 (zov wr_197 m m1) m3)) hV_m3
      refine sp_208 (XX := XX)  hV_m3 (show (m 94 10).toInt = 2 ∨ (m 94 10).toInt = 3 from by omega) p0_m3 p1_m3 p2_m3 p3_m3 (show (m 94 76).toInt ≤ (m3 94 75).toInt from by omega) p8_m3 r_W (show zDX (m 94 10) (m 99) (m 112) (m1 113) (m1 114) (m1 94 55) (m 98) (m 101) (m 102) (m 108) from by first | (exact DX_wish r_DX p1_m1 p2_m1 ws3 (by omega) (by omega)) | (exfalso; omega; done) | (exfalso; contradiction; done)) p7_m3 (fun m5 hV_m5 p0_m5 p1_m5 p2_m5 p3_m5 p4_m5 p5_m5 p6_m5 p7_m5 p8_m5 => zmv_n ?_)
      have p0_m5 : zKS (m5 110) (m5 94 75) := p0_m5
      have p1_m5 : zOw (m 99) (m5 103) (m5 111) := p1_m5
      have p2_m5 : zH2 (m 94 10) (m 94 11) (m 94 61) (m5 94 77) (m 99) (m5 110) (m 102) := p2_m5
      have p3_m5 : zH3 (m 94 10) (m 94 13) (m 94 14) (m 94 15) (m 94 61) (m5 94 77) (m5 94 60) (m 99) (m5 110) (m5 104) (m 102) (m5 103) (m5 111) := p3_m5
      have p4_m5 : (m5 94 76).toInt ≤ (m5 94 75).toInt := p4_m5
      have p5_m5 : zKU (m 94 10) (m 99) (m5 110) := p5_m5
      have p6_m5 : zle (m3 110) (m5 110) := p6_m5
      have p7_m5 : zCQ (m5 110) (m 98) (m 101) (m 102) (m 108) (m5 119) (m5 94 76) (m5 94 75) XX 3100 0 := p7_m5
      have p8_m5 : (m5 94 75).toInt ≤ (m5 94 76).toInt := p8_m5
      have f15 : 0 ≤ (m5 94 76).toInt ∧ (m5 94 76).toInt ≤ 3100 := rs_94_76 (m := (zov wr_208 (zov wr_207 (zov wr_197 m m1) m3) m5)) hV_m5
      have f16 : 0 ≤ (m5 94 75).toInt ∧ (m5 94 75).toInt ≤ 3100 := rs_94_75 (m := (zov wr_208 (zov wr_207 (zov wr_197 m m1) m3) m5)) hV_m5
      first | have f17 : 0 ≤ (m 100 l3.toNatClampNeg).toInt ∧ (m 100 l3.toNatClampNeg).toInt ≤ 100000 := ra_100 (m := m) hV (k := l3.toNatClampNeg) (i_ix (n := 3100) (by omega) (by omega)).2 | have b18 := i_bd (m 100 l3.toNatClampNeg)
      have b19 := i_bd l1
      refine sp_195 ((m 100 l3.toNatClampNeg)) (l1) hV_m5  (fun v8 m7 hV_m7 p0_m7 => zmi_n ?_)
      have p0_m7 : zWS (m 100) (m 99) (m5 110) (m1 109) (m 100 l3.toNatClampNeg) v8 := p0_m7
      try have gw := GW_room p0_m1
      have b20 := i_bd v8
      exact IH ((zmg (m 100) v8 : Int)).toNat (by have zq := zmg_lt (s := l3) (by omega) p0_m7 rfl (by omega) (by omega); omega) _ (l1) (v8) rfl (zF_zov (zF_zov (zF_zov (zF_zov hF ws_197_209) ws_207_209) ws_208_209) ws_195_209) hV_m7 (show zWS (m 100) (m 99) (m5 110) (m1 109) (-1 : Int32) v8 from by first | (exact WS_weak p0_m7 (by omega)) | (exact p0_m7) | (exact Or.inl (by decide)) | (exact Or.inr ⟨by omega, by omega, by assumption, by assumption, by assumption, by omega⟩) | (exfalso; omega; done) | (exfalso; contradiction; done)) (show (m 94 10).toInt = 2 ∨ (m 94 10).toInt = 3 from by omega) p0_m5 p1_m5 p2_m5 p3_m5 (show (m5 94 76).toInt ≤ (m5 94 75).toInt from by omega) p5_m5 r_W (show zDX (m 94 10) (m 99) (m 112) (m1 113) (m1 114) (m1 94 55) (m 98) (m 101) (m 102) (m 108) from by first | (exact DX_wish r_DX p1_m1 p2_m1 ws3 (by omega) (by omega)) | (exfalso; omega; done) | (exfalso; contradiction; done)) (show (m5 94 75).toInt ≤ (m5 94 76).toInt from by omega) p7_m5 p0_m1 (show ((m 94 10).toInt = 2 ∨ (m 94 10).toInt = 3) → zcov (m5 110) (m 112) 16 from by first | (exact fun hp => cov_le (cov_le (r_COVR hp) p5_m3 (fun k hk => (ra_112 hV (by omega)).2)) p6_m5 (fun k hk => (ra_112 hV (by omega)).2)) | (exact fun hp => cov_0 (by decide)) | (exact fun hp => cov_one (r_COVR hp) rfl (by omega) (by omega) (Or.inl (by omega))) | (exact fun hp => cov_one (r_COVR hp) rfl (by omega) (by omega) (Or.inr (by assumption))) | (exact fun hp => cov_cut (r_COVR hp) (by omega)) | (exact fun hp => cov_le (r_COVR hp) p6_m5 (fun k hk => (ra_112 hV_m7 (by omega)).2)) | (exact fun hp => cov_le (r_COVR hp) p6_m5 (fun k hk => (ra_114 hV_m7 (by have := rs_94_55 hV; omega)).2)) | (exfalso; omega; done) | (exfalso; contradiction; done)) (show ((m 94 10).toInt = 2 ∨ (m 94 10).toInt = 3) → zcov (m5 110) (m1 114) (m1 94 55).toInt from by first | (exact fun hp => cov_le (cov_wx (cov_le (r_COVW hp) p5_m3 (fun k hk => (ra_114 hV (by have := GW_room r_GW; omega)).2)) p2_m1 (p4_m3.elim (fun z => absurd z (by omega)) id) (by omega) (by omega)) p6_m5 (fun k hk => (ra_114 hV_m7 (by have := GW_room p0_m1; omega)).2)) | (exact fun hp => cov_0 (by decide)) | (exact fun hp => cov_one (r_COVW hp) rfl (by omega) (by omega) (Or.inl (by omega))) | (exact fun hp => cov_one (r_COVW hp) rfl (by omega) (by omega) (Or.inr (by assumption))) | (exact fun hp => cov_cut (r_COVW hp) (by omega)) | (exact fun hp => cov_le (r_COVW hp) p6_m5 (fun k hk => (ra_112 hV_m7 (by omega)).2)) | (exact fun hp => cov_le (r_COVW hp) p6_m5 (fun k hk => (ra_114 hV_m7 (by have := rs_94_55 hV; omega)).2)) | (exfalso; omega; done) | (exfalso; contradiction; done)) (show zuw (m0 113) (m1 113) from by first | (exact zuw_tr r_UW p1_m1) | (exact zuw_rfl) | (exfalso; omega; done) | (exfalso; contradiction; done))
set_option maxHeartbeats 8000000 in
theorem sp_209 {X : Nat × (Nat → Int32)} {P : Option ma_V → (Nat → Nat → Int32) → Prop} {T : Nat} {XX : Nat→Prop} {m : Nat → Nat → Int32} (yo : Int32) (hV : zV m) (hpre0 : (m 94 10).toInt = 2 ∨ (m 94 10).toInt = 3) (r_CMK : zKS (m 110) (m 94 75)) (r_OW : zOw (m 99) (m 103) (m 111)) (r_H2 : zH2 (m 94 10) (m 94 11) (m 94 61) (m 94 77) (m 99) (m 110) (m 102)) (r_H3 : zH3 (m 94 10) (m 94 13) (m 94 14) (m 94 15) (m 94 61) (m 94 77) (m 94 60) (m 99) (m 110) (m 104) (m 102) (m 103) (m 111)) (hpre5 : (m 94 76).toInt ≤ (m 94 75).toInt) (r_KU : zKU (m 94 10) (m 99) (m 110)) (r_W : zW (m 94 7) (m 98) (m 101) (m 102) (m 108)) (r_DX : zDX (m 94 10) (m 99) (m 112) (m 113) (m 114) (m 94 55) (m 98) (m 101) (m 102) (m 108)) (hpre9 : (m 94 75).toInt ≤ (m 94 76).toInt) (r_CQ : zCQ (m 110) (m 98) (m 101) (m 102) (m 108) (m 119) (m 94 76) (m 94 75) XX 3100 0) (r_GW : zGW T (m 94 55) (m 109)) (r_COVR : ((m 94 10).toInt = 2 ∨ (m 94 10).toInt = 3) → zcov (m 110) (m 112) 16) (r_COVW : ((m 94 10).toInt = 2 ∨ (m 94 10).toInt = 3) → zcov (m 110) (m 114) (m 94 55).toInt) (KZ : ∀ m₉, zV (zov wr_209 m m₉) → (zKS (m₉ 110) (m₉ 94 75)) → (zOw (m 99) (m₉ 103) (m₉ 111)) → (zH2 (m 94 10) (m 94 11) (m 94 61) (m₉ 94 77) (m 99) (m₉ 110) (m 102)) → (zH3 (m 94 10) (m 94 13) (m 94 14) (m 94 15) (m 94 61) (m₉ 94 77) (m₉ 94 60) (m 99) (m₉ 110) (m₉ 104) (m 102) (m₉ 103) (m₉ 111)) → ((m₉ 94 76).toInt ≤ (m₉ 94 75).toInt) → (zKU (m 94 10) (m 99) (m₉ 110)) → (zDX (m 94 10) (m 99) (m 112) (m₉ 113) (m₉ 114) (m₉ 94 55) (m 98) (m 101) (m 102) (m 108)) → ((m₉ 94 75).toInt ≤ (m₉ 94 76).toInt) → (zCQ (m₉ 110) (m 98) (m 101) (m 102) (m 108) (m₉ 119) (m₉ 94 76) (m₉ 94 75) XX 3100 0) → (zGW T (m₉ 94 55) (m₉ 109)) → (((m 94 10).toInt = 2 ∨ (m 94 10).toInt = 3) → zcov (m₉ 110) (m 112) 16) → (((m 94 10).toInt = 2 ∨ (m 94 10).toInt = 3) → zcov (m₉ 110) (m₉ 114) (m₉ 94 55).toInt) → (zuw (m 113) (m₉ 113)) → P none (zov wr_209 m m₉)) : zm X 4 86 209 0 [(0, .inr (.inr (some 94))), (1, .inl yo)] m P := by
  have K : ∀ m₉, zF wr_209 m m₉ → zV m₉ → (zKS (m₉ 110) (m₉ 94 75)) → (zOw (m₉ 99) (m₉ 103) (m₉ 111)) → (zH2 (m₉ 94 10) (m₉ 94 11) (m₉ 94 61) (m₉ 94 77) (m₉ 99) (m₉ 110) (m₉ 102)) → (zH3 (m₉ 94 10) (m₉ 94 13) (m₉ 94 14) (m₉ 94 15) (m₉ 94 61) (m₉ 94 77) (m₉ 94 60) (m₉ 99) (m₉ 110) (m₉ 104) (m₉ 102) (m₉ 103) (m₉ 111)) → ((m₉ 94 76).toInt ≤ (m₉ 94 75).toInt) → (zKU (m₉ 94 10) (m₉ 99) (m₉ 110)) → (zDX (m₉ 94 10) (m₉ 99) (m₉ 112) (m₉ 113) (m₉ 114) (m₉ 94 55) (m₉ 98) (m₉ 101) (m₉ 102) (m₉ 108)) → ((m₉ 94 75).toInt ≤ (m₉ 94 76).toInt) → (zCQ (m₉ 110) (m₉ 98) (m₉ 101) (m₉ 102) (m₉ 108) (m₉ 119) (m₉ 94 76) (m₉ 94 75) XX 3100 0) → (zGW T (m₉ 94 55) (m₉ 109)) → (((m₉ 94 10).toInt = 2 ∨ (m₉ 94 10).toInt = 3) → zcov (m₉ 110) (m₉ 112) 16) → (((m₉ 94 10).toInt = 2 ∨ (m₉ 94 10).toInt = 3) → zcov (m₉ 110) (m₉ 114) (m₉ 94 55).toInt) → (zuw (m 113) (m₉ 113)) → P none m₉ := by
    intro m₉ hf z q0 q1 q2 q3 q4 q5 q6 q7 q8 q9 q10 q11 q12
    have e := zov_eq hf
    rw [e] at z ⊢
    try rw [e] at q0
    try rw [e] at q1
    try rw [e] at q2
    try rw [e] at q3
    try rw [e] at q4
    try rw [e] at q5
    try rw [e] at q6
    try rw [e] at q7
    try rw [e] at q8
    try rw [e] at q9
    try rw [e] at q10
    try rw [e] at q11
    try rw [e] at q12
    exact KZ m₉ z q0 q1 q2 q3 q4 q5 q6 q7 q8 q9 q10 q11 q12
  refine g_209_0 yo ?_
  have f1 : 0 ≤ (m 94 10).toInt ∧ (m 94 10).toInt ≤ 6 := rs_94_10 (m := m) hV
  have f2 : 0 ≤ (m 94 76).toInt ∧ (m 94 76).toInt ≤ 3100 := rs_94_76 (m := m) hV
  have f3 : 0 ≤ (m 94 75).toInt ∧ (m 94 75).toInt ≤ 3100 := rs_94_75 (m := m) hV
  have li4 : (-1 : Int32).toInt = -1 := rfl
  have b5 := i_bd yo
  refine sp_195 ((-1 : Int32)) (yo) hV  (fun v2 m1 hV_m1 p0_m1 => zmi_n ?_)
  have p0_m1 : zWS (m 100) (m 99) (m 110) (m 109) (-1 : Int32) v2 := p0_m1
  try have gw := GW_room r_GW
  have b6 := i_bd v2
  exact lp_209_9 (yo := yo) hV K _ _ (yo) (v2) rfl (zF_zov zF_rfl ws_195_209) hV_m1 p0_m1 (show (m 94 10).toInt = 2 ∨ (m 94 10).toInt = 3 from by omega) r_CMK r_OW r_H2 r_H3 (show (m 94 76).toInt ≤ (m 94 75).toInt from by omega) r_KU r_W r_DX (show (m 94 75).toInt ≤ (m 94 76).toInt from by omega) r_CQ r_GW r_COVR r_COVW (show zuw (m 113) (m 113) from by first | (exact zuw_rfl) | (exact zuw_rfl) | (exfalso; omega; done) | (exfalso; contradiction; done))

/-! from 94.486 -/
/-! the reference (written by wip/tools/gen94m.py) -/
set_option maxRecDepth 100000 in
theorem hm_206 : ma_md 206 = some (12, yX12_cleanHalves, cX12_cleanHalves, 2, (some (FieldType.int))) := rfl
theorem f_12_273_12 : ma_fld 12 273 12 = some 61 := by decide +kernel
theorem v_12_371_12 : ma_vl 12 371 12 = some (1, 209, 1) := by decide +kernel
theorem dX12_cleanHalves_0 : decode cX12_cleanHalves 0 = .ok (.aload_n 0, 1) := by decide +kernel
theorem dX12_cleanHalves_1 : decode cX12_cleanHalves 1 = .ok (.dup, 1) := by decide +kernel
theorem dX12_cleanHalves_5 : decode cX12_cleanHalves 5 = .ok (.iconst 1, 1) := by decide +kernel
theorem dX12_cleanHalves_6 : decode cX12_cleanHalves 6 = .ok (.iadd, 1) := by decide +kernel
theorem dX12_cleanHalves_10 : decode cX12_cleanHalves 10 = .ok (.aload_n 0, 1) := by decide +kernel
theorem dX12_cleanHalves_11 : decode cX12_cleanHalves 11 = .ok (.invokevirtual 301, 3) := by decide +kernel
theorem dX12_cleanHalves_14 : decode cX12_cleanHalves 14 = .ok (.aload_n 0, 1) := by decide +kernel
theorem dX12_cleanHalves_15 : decode cX12_cleanHalves 15 = .ok (.iconst 0, 1) := by decide +kernel
theorem dX12_cleanHalves_19 : decode cX12_cleanHalves 19 = .ok (.aload_n 0, 1) := by decide +kernel
theorem dX12_cleanHalves_20 : decode cX12_cleanHalves 20 = .ok (.iconst 0, 1) := by decide +kernel
theorem dX12_cleanHalves_24 : decode cX12_cleanHalves 24 = .ok (.aload_n 0, 1) := by decide +kernel
theorem dX12_cleanHalves_25 : decode cX12_cleanHalves 25 = .ok (.iconst 1, 1) := by decide +kernel
theorem dX12_cleanHalves_26 : decode cX12_cleanHalves 26 = .ok (.aload_n 0, 1) := by decide +kernel
theorem dX12_cleanHalves_30 : decode cX12_cleanHalves 30 = .ok (.isub, 1) := by decide +kernel
theorem dX12_cleanHalves_34 : decode cX12_cleanHalves 34 = .ok (.aload_n 0, 1) := by decide +kernel
theorem dX12_cleanHalves_35 : decode cX12_cleanHalves 35 = .ok (.aload_n 0, 1) := by decide +kernel
theorem dX12_cleanHalves_39 : decode cX12_cleanHalves 39 = .ok (.aload_n 0, 1) := by decide +kernel
theorem dX12_cleanHalves_43 : decode cX12_cleanHalves 43 = .ok (.imul, 1) := by decide +kernel
theorem dX12_cleanHalves_47 : decode cX12_cleanHalves 47 = .ok (.iconst 0, 1) := by decide +kernel
theorem dX12_cleanHalves_48 : decode cX12_cleanHalves 48 = .ok (.istore_n 1, 1) := by decide +kernel
theorem dX12_cleanHalves_44 : decode cX12_cleanHalves 44 = .ok (.putfield 359, 3) := by decide +kernel
theorem dX12_cleanHalves_40 : decode cX12_cleanHalves 40 = .ok (.getfield 202, 3) := by decide +kernel
theorem dX12_cleanHalves_36 : decode cX12_cleanHalves 36 = .ok (.getfield 273, 3) := by decide +kernel
theorem dX12_cleanHalves_31 : decode cX12_cleanHalves 31 = .ok (.putfield 273, 3) := by decide +kernel
theorem dX12_cleanHalves_27 : decode cX12_cleanHalves 27 = .ok (.getfield 273, 3) := by decide +kernel
theorem dX12_cleanHalves_21 : decode cX12_cleanHalves 21 = .ok (.putfield 362, 3) := by decide +kernel
theorem dX12_cleanHalves_16 : decode cX12_cleanHalves 16 = .ok (.putfield 356, 3) := by decide +kernel
theorem dX12_cleanHalves_7 : decode cX12_cleanHalves 7 = .ok (.putfield 249, 3) := by decide +kernel
theorem dX12_cleanHalves_2 : decode cX12_cleanHalves 2 = .ok (.getfield 249, 3) := by decide +kernel
theorem dX12_cleanHalves_49 : decode cX12_cleanHalves 49 = .ok (.iload_n 1, 1) := by decide +kernel
theorem dX12_cleanHalves_50 : decode cX12_cleanHalves 50 = .ok (.bipush 16, 2) := by decide +kernel
theorem dX12_cleanHalves_71 : decode cX12_cleanHalves 71 = .ok (.iconst 0, 1) := by decide +kernel
theorem dX12_cleanHalves_72 : decode cX12_cleanHalves 72 = .ok (.istore_n 1, 1) := by decide +kernel
theorem dX12_cleanHalves_55 : decode cX12_cleanHalves 55 = .ok (.aload_n 0, 1) := by decide +kernel
theorem dX12_cleanHalves_56 : decode cX12_cleanHalves 56 = .ok (.aload_n 0, 1) := by decide +kernel
theorem dX12_cleanHalves_60 : decode cX12_cleanHalves 60 = .ok (.iload_n 1, 1) := by decide +kernel
theorem dX12_cleanHalves_62 : decode cX12_cleanHalves 62 = .ok (.invokevirtual 365, 3) := by decide +kernel
theorem dX12_cleanHalves_65 : decode cX12_cleanHalves 65 = .ok (.iinc 1 1, 3) := by decide +kernel
theorem dX12_cleanHalves_68 : decode cX12_cleanHalves 68 = .ok (.goto (-19), 3) := by decide +kernel
theorem dX12_cleanHalves_61 : decode cX12_cleanHalves 61 = .ok (.iaload, 1) := by decide +kernel
theorem dX12_cleanHalves_57 : decode cX12_cleanHalves 57 = .ok (.getfield 68, 3) := by decide +kernel
theorem dX12_cleanHalves_52 : decode cX12_cleanHalves 52 = .ok (.if_icmp .ge 19, 3) := by decide +kernel
theorem dX12_cleanHalves_73 : decode cX12_cleanHalves 73 = .ok (.iload_n 1, 1) := by decide +kernel
theorem dX12_cleanHalves_74 : decode cX12_cleanHalves 74 = .ok (.aload_n 0, 1) := by decide +kernel
theorem dX12_cleanHalves_97 : decode cX12_cleanHalves 97 = .ok (.aload_n 0, 1) := by decide +kernel
theorem dX12_cleanHalves_98 : decode cX12_cleanHalves 98 = .ok (.invokevirtual 368, 3) := by decide +kernel
theorem dX12_cleanHalves_101 : decode cX12_cleanHalves 101 = .ok (.aload_n 0, 1) := by decide +kernel
theorem dX12_cleanHalves_102 : decode cX12_cleanHalves 102 = .ok (.iconst 0, 1) := by decide +kernel
theorem dX12_cleanHalves_103 : decode cX12_cleanHalves 103 = .ok (.invokevirtual 371, 3) := by decide +kernel
theorem dX12_cleanHalves_106 : decode cX12_cleanHalves 106 = .ok (.aload_n 0, 1) := by decide +kernel
theorem dX12_cleanHalves_107 : decode cX12_cleanHalves 107 = .ok (.invokevirtual 339, 3) := by decide +kernel
theorem dX12_cleanHalves_110 : decode cX12_cleanHalves 110 = .ok (.aload_n 0, 1) := by decide +kernel
theorem dX12_cleanHalves_111 : decode cX12_cleanHalves 111 = .ok (.aload_n 0, 1) := by decide +kernel
theorem dX12_cleanHalves_118 : decode cX12_cleanHalves 118 = .ok (.aload_n 0, 1) := by decide +kernel
theorem dX12_cleanHalves_119 : decode cX12_cleanHalves 119 = .ok (.invokevirtual 342, 3) := by decide +kernel
theorem dX12_cleanHalves_122 : decode cX12_cleanHalves 122 = .ok (.ireturn, 1) := by decide +kernel
theorem dX12_cleanHalves_115 : decode cX12_cleanHalves 115 = .ok (.putfield 276, 3) := by decide +kernel
theorem dX12_cleanHalves_112 : decode cX12_cleanHalves 112 = .ok (.getfield 359, 3) := by decide +kernel
theorem dX12_cleanHalves_81 : decode cX12_cleanHalves 81 = .ok (.aload_n 0, 1) := by decide +kernel
theorem dX12_cleanHalves_82 : decode cX12_cleanHalves 82 = .ok (.aload_n 0, 1) := by decide +kernel
theorem dX12_cleanHalves_86 : decode cX12_cleanHalves 86 = .ok (.iload_n 1, 1) := by decide +kernel
theorem dX12_cleanHalves_88 : decode cX12_cleanHalves 88 = .ok (.invokevirtual 365, 3) := by decide +kernel
theorem dX12_cleanHalves_91 : decode cX12_cleanHalves 91 = .ok (.iinc 1 1, 3) := by decide +kernel
theorem dX12_cleanHalves_94 : decode cX12_cleanHalves 94 = .ok (.goto (-21), 3) := by decide +kernel
theorem dX12_cleanHalves_87 : decode cX12_cleanHalves 87 = .ok (.iaload, 1) := by decide +kernel
theorem dX12_cleanHalves_83 : decode cX12_cleanHalves 83 = .ok (.getfield 74, 3) := by decide +kernel
theorem dX12_cleanHalves_78 : decode cX12_cleanHalves 78 = .ok (.if_icmp .ge 19, 3) := by decide +kernel
theorem dX12_cleanHalves_75 : decode cX12_cleanHalves 75 = .ok (.getfield 261, 3) := by decide +kernel
def wr_206 (c k : Nat) : Bool := Nat.beq c 99 || Nat.beq c 103 || Nat.beq c 104 || Nat.beq c 105 || Nat.beq c 109 || Nat.beq c 110 || Nat.beq c 111 || Nat.beq c 113 || Nat.beq c 114 || Nat.beq c 119 || (Nat.beq c 94 && (Nat.beq k 44 || Nat.beq k 45 || Nat.beq k 47 || Nat.beq k 48 || Nat.beq k 49 || Nat.beq k 55 || Nat.beq k 59 || Nat.beq k 60 || Nat.beq k 61 || Nat.beq k 75 || Nat.beq k 76 || Nat.beq k 77))
theorem ws_189_206 : ∀ c k, wr_189 c k = true → wr_206 c k = true := by
  intro c k h
  simp only [wr_189, wr_206, Bool.or_eq_true, Bool.and_eq_true, Nat.beq_eq] at h ⊢
  omega
theorem ws_199_206 : ∀ c k, wr_199 c k = true → wr_206 c k = true := by
  intro c k h
  simp only [wr_199, wr_206, Bool.or_eq_true, Bool.and_eq_true, Nat.beq_eq] at h ⊢
  omega
theorem ws_200_206 : ∀ c k, wr_200 c k = true → wr_206 c k = true := by
  intro c k h
  simp only [wr_200, Bool.or_eq_true, Bool.and_eq_true, Nat.beq_eq] at h
  rcases h with ((rfl | rfl) | rfl) | ⟨rfl, ((rfl | rfl) | rfl)⟩ <;> rfl
theorem ws_207_206 : ∀ c k, wr_207 c k = true → wr_206 c k = true := by
  intro c k h
  simp only [wr_207, Bool.or_eq_true, Bool.and_eq_true, Nat.beq_eq] at h
  rcases h with ((((rfl | rfl) | rfl) | rfl) | rfl) | ⟨rfl, (((rfl | rfl) | rfl) | rfl)⟩ <;> rfl
theorem ws_208_206 : ∀ c k, wr_208 c k = true → wr_206 c k = true := by
  intro c k h
  simp only [wr_208, Bool.or_eq_true, Bool.and_eq_true, Nat.beq_eq] at h
  rcases h with ((((rfl | rfl) | rfl) | rfl) | rfl) | ⟨rfl, ((((rfl | rfl) | rfl) | rfl) | rfl)⟩ <;> rfl
theorem ws_209_206 : ∀ c k, wr_209 c k = true → wr_206 c k = true := by
  intro c k h
  simp only [wr_209, Bool.or_eq_true, Bool.and_eq_true, Nat.beq_eq] at h
  rcases h with ((((((((rfl | rfl) | rfl) | rfl) | rfl) | rfl) | rfl) | rfl) | rfl) | ⟨rfl, (((((rfl | rfl) | rfl) | rfl) | rfl) | rfl)⟩ <;> rfl
theorem g_206_0 {X : Nat × (Nat → Int32)} {m : Nat → Nat → Int32} {P : Option ma_V → (Nat → Nat → Int32) → Prop}  (h : zm X 0 0 189 0 [(0, .inr (.inr (some 94)))] (ma_u m 94 47 ((m 94 47) + (1 : Int32))) (zmv (fun m1 => zm X 5 109 206 49 [(0, .inr (.inr (some 94))), (1, .inl (0 : Int32))] (ma_u (ma_u (ma_u (ma_u m1 94 75 (0 : Int32)) 94 76 (0 : Int32)) 94 61 ((1 : Int32) - (m1 94 61))) 94 77 (((1 : Int32) - (m1 94 61)) * (m1 94 11))) P))) : zm X 5 109 206 0 [(0, .inr (.inr (some 94)))] m P := by
  intro d w S Q hd hw hS hm HQ
  subst hm
  refine zw_push hm_206 dX12_cleanHalves_0 (v := .inr (.inr (some 94))) rfl ?_
  refine zw_stk hm_206 dX12_cleanHalves_1 (st₉ := [.inr (.inr (some 94)), .inr (.inr (some 94))]) rfl rfl ?_
  refine zw_gf hm_206 dX12_cleanHalves_2 (v := .inl ((mI S) 94 47)) (zT_is hS s_94) (zT_t hS s_94) rfl f_12_249_12 rfl ?_
  refine zw_push hm_206 dX12_cleanHalves_5 (v := .inl (1 : Int32)) rfl ?_
  refine zw_stk hm_206 dX12_cleanHalves_6 (st₉ := [.inl (((mI S) 94 47) + (1 : Int32)), .inr (.inr (some 94))]) rfl rfl ?_
  refine zw_pf hm_206 dX12_cleanHalves_7 (zT_is hS s_94) (zT_t hS s_94) p_12_249_12 zk_int ?_
  refine zw_push hm_206 dX12_cleanHalves_10 (v := .inr (.inr (some 94))) rfl ?_
  refine zw_cv hm_206 dX12_cleanHalves_11 v_12_301_12 hm_189 [] [] rfl (zT_rt (zT_pi hS) s_94 rfl) ⟨by omega, by omega⟩ rfl (h _ _ (ma_put S 94 47 (.inl (((mI S) 94 47) + (1 : Int32)))) _ (by omega) (by omega) (zT_pi hS) rfl (fun o9 m1 hv => ?_))
  obtain ⟨rfl, h⟩ := zmv_of hv
  show ma_wp X d w 206 14 [(0, .inr (.inr (some 94)))] [] (zst S m1) _
  refine zw_push hm_206 dX12_cleanHalves_14 (v := .inr (.inr (some 94))) rfl ?_
  refine zw_push hm_206 dX12_cleanHalves_15 (v := .inl (0 : Int32)) rfl ?_
  refine zw_pf hm_206 dX12_cleanHalves_16 (zT_is (zT_zst hS m1) s_94) (zT_t (zT_zst hS m1) s_94) p_12_356_12 zk_int ?_
  refine zw_push hm_206 dX12_cleanHalves_19 (v := .inr (.inr (some 94))) rfl ?_
  refine zw_push hm_206 dX12_cleanHalves_20 (v := .inl (0 : Int32)) rfl ?_
  refine zw_pf hm_206 dX12_cleanHalves_21 (zT_is (zT_pi (zT_zst hS m1)) s_94) (zT_t (zT_pi (zT_zst hS m1)) s_94) p_12_362_12 zk_int ?_
  refine zw_push hm_206 dX12_cleanHalves_24 (v := .inr (.inr (some 94))) rfl ?_
  refine zw_push hm_206 dX12_cleanHalves_25 (v := .inl (1 : Int32)) rfl ?_
  refine zw_push hm_206 dX12_cleanHalves_26 (v := .inr (.inr (some 94))) rfl ?_
  refine zw_gf hm_206 dX12_cleanHalves_27 (v := .inl (m1 94 61)) (zT_is (zT_pi (zT_pi (zT_zst hS m1))) s_94) (zT_t (zT_pi (zT_pi (zT_zst hS m1))) s_94) rfl f_12_273_12 rfl ?_
  refine zw_stk hm_206 dX12_cleanHalves_30 (st₉ := [.inl ((1 : Int32) - (m1 94 61)), .inr (.inr (some 94))]) rfl rfl ?_
  refine zw_pf hm_206 dX12_cleanHalves_31 (zT_is (zT_pi (zT_pi (zT_zst hS m1))) s_94) (zT_t (zT_pi (zT_pi (zT_zst hS m1))) s_94) p_12_273_12 zk_int ?_
  refine zw_push hm_206 dX12_cleanHalves_34 (v := .inr (.inr (some 94))) rfl ?_
  refine zw_push hm_206 dX12_cleanHalves_35 (v := .inr (.inr (some 94))) rfl ?_
  refine zw_gf hm_206 dX12_cleanHalves_36 (v := .inl ((1 : Int32) - (m1 94 61))) (zT_is (zT_pi (zT_pi (zT_pi (zT_zst hS m1)))) s_94) (zT_t (zT_pi (zT_pi (zT_pi (zT_zst hS m1)))) s_94) rfl f_12_273_12 rfl ?_
  refine zw_push hm_206 dX12_cleanHalves_39 (v := .inr (.inr (some 94))) rfl ?_
  refine zw_gf hm_206 dX12_cleanHalves_40 (v := .inl (m1 94 11)) (zT_is (zT_pi (zT_pi (zT_pi (zT_zst hS m1)))) s_94) (zT_t (zT_pi (zT_pi (zT_pi (zT_zst hS m1)))) s_94) rfl f_12_202_12 rfl ?_
  refine zw_stk hm_206 dX12_cleanHalves_43 (st₉ := [.inl (((1 : Int32) - (m1 94 61)) * (m1 94 11)), .inr (.inr (some 94))]) rfl rfl ?_
  refine zw_pf hm_206 dX12_cleanHalves_44 (zT_is (zT_pi (zT_pi (zT_pi (zT_zst hS m1)))) s_94) (zT_t (zT_pi (zT_pi (zT_pi (zT_zst hS m1)))) s_94) p_12_359_12 zk_int ?_
  refine zw_push hm_206 dX12_cleanHalves_47 (v := .inl (0 : Int32)) rfl ?_
  refine zw_sto hm_206 dX12_cleanHalves_48 [(1, .inl (0 : Int32)), (0, .inr (.inr (some 94)))] rfl rfl rfl ?_
  exact zw_sub (ma_nd_of (ks := [0, 1]) rfl (by decide)) (ma_nd_of (ks := [1, 0]) rfl (by decide)) (ma_le_cons rfl (ma_le_cons rfl (ma_le_nil _))) (h d w _ Q (by omega) (by omega) (zT_pi (zT_pi (zT_pi (zT_pi (zT_zst hS m1))))) rfl HQ)
theorem g_206_49 {X : Nat × (Nat → Int32)} {m : Nat → Nat → Int32} {P : Option ma_V → (Nat → Nat → Int32) → Prop} (l1 : Int32) (h : if (16 : Int32) ≤ l1 then (zm X 5 109 206 73 [(0, .inr (.inr (some 94))), (1, .inl (0 : Int32))] m P) else ((0 ≤ l1 ∧ l1.toNatClampNeg < 16) ∧ (zm X 2 43 207 0 [(0, .inr (.inr (some 94))), (1, .inl (m 112 l1.toNatClampNeg))] m (zmv (fun m1 => zm X 5 109 206 49 [(0, .inr (.inr (some 94))), (1, .inl (l1 + (1 : Int32)))] m1 P))))) : zm X 5 109 206 49 [(0, .inr (.inr (some 94))), (1, .inl l1)] m P := by
  intro d w S Q hd hw hS hm HQ
  subst hm
  refine zw_push hm_206 dX12_cleanHalves_49 (v := .inl l1) rfl ?_
  refine zw_push hm_206 dX12_cleanHalves_50 (v := .inl (16 : Int32)) rfl ?_
  refine zw_if2 hm_206 dX12_cleanHalves_52 (t := 71) rfl zc2_ge ?_ ?_
  · intro hc
    rw [if_pos hc] at h
    refine zw_push hm_206 dX12_cleanHalves_71 (v := .inl (0 : Int32)) rfl ?_
    refine zw_sto hm_206 dX12_cleanHalves_72 [(1, .inl (0 : Int32)), (0, .inr (.inr (some 94)))] rfl rfl rfl ?_
    exact zw_sub (ma_nd_of (ks := [0, 1]) rfl (by decide)) (ma_nd_of (ks := [1, 0]) rfl (by decide)) (ma_le_cons rfl (ma_le_cons rfl (ma_le_nil _))) (h d w _ Q (by omega) (by omega) hS rfl HQ)
  · intro hc
    rw [if_neg hc] at h
    refine zw_push hm_206 dX12_cleanHalves_55 (v := .inr (.inr (some 94))) rfl ?_
    refine zw_push hm_206 dX12_cleanHalves_56 (v := .inr (.inr (some 94))) rfl ?_
    refine zw_gf hm_206 dX12_cleanHalves_57 (v := .inr (.inr (some 112))) (zT_is hS s_94) (zT_t hS s_94) rfl f_12_68_12 (zT_f hS r_94_51) ?_
    refine zw_push hm_206 dX12_cleanHalves_60 (v := .inl l1) rfl ?_
    obtain ⟨hg, h⟩ := h
    refine zw_ia hm_206 dX12_cleanHalves_61 (zT_is hS s_112) (zT_h hS s_112) rfl hg ?_
    show ma_wp X d w 206 62 [(0, .inr (.inr (some 94))), (1, .inl l1)] [.inl ((mI S) 112 l1.toNatClampNeg), .inr (.inr (some 94))] S _
    refine zw_cv hm_206 dX12_cleanHalves_62 v_12_365_12 hm_207 [.inl ((mI S) 112 l1.toNatClampNeg)] [] rfl (zT_rt hS s_94 rfl) ⟨by omega, by omega⟩ rfl (h _ _ S _ (by omega) (by omega) hS rfl (fun o9 m1 hv => ?_))
    obtain ⟨rfl, h⟩ := zmv_of hv
    show ma_wp X d w 206 65 [(0, .inr (.inr (some 94))), (1, .inl l1)] [] (zst S m1) _
    refine zw_sto hm_206 dX12_cleanHalves_65 [(1, .inl (l1 + (1 : Int32))), (0, .inr (.inr (some 94)))] rfl rfl rfl ?_
    refine zw_goto hm_206 dX12_cleanHalves_68 (t := 49) rfl ?_
    exact zw_sub (ma_nd_of (ks := [0, 1]) rfl (by decide)) (ma_nd_of (ks := [1, 0]) rfl (by decide)) (ma_le_cons rfl (ma_le_cons rfl (ma_le_nil _))) (h d w _ Q (by omega) (by omega) (zT_zst hS m1) rfl HQ)
theorem g_206_73 {X : Nat × (Nat → Int32)} {m : Nat → Nat → Int32} {P : Option ma_V → (Nat → Nat → Int32) → Prop} (l1 : Int32) (h : if (m 94 55) ≤ l1 then (zm X 3 64 208 0 [(0, .inr (.inr (some 94)))] m (zmv (fun m1 => zm X 4 86 209 0 [(0, .inr (.inr (some 94))), (1, .inl (0 : Int32))] m1 (zmv (fun m3 => zm X 0 0 199 0 [(0, .inr (.inr (some 94)))] m3 (zmv (fun m5 => zm X 2 44 200 0 [(0, .inr (.inr (some 94)))] (ma_u m5 94 59 (m5 94 77)) (zmi (fun v8 m7 => P (some (.inl v8)) m7))))))))) else ((0 ≤ l1 ∧ l1.toNatClampNeg < 3100) ∧ (zm X 2 43 207 0 [(0, .inr (.inr (some 94))), (1, .inl (m 114 l1.toNatClampNeg))] m (zmv (fun m9 => zm X 5 109 206 73 [(0, .inr (.inr (some 94))), (1, .inl (l1 + (1 : Int32)))] m9 P))))) : zm X 5 109 206 73 [(0, .inr (.inr (some 94))), (1, .inl l1)] m P := by
  intro d w S Q hd hw hS hm HQ
  subst hm
  refine zw_push hm_206 dX12_cleanHalves_73 (v := .inl l1) rfl ?_
  refine zw_push hm_206 dX12_cleanHalves_74 (v := .inr (.inr (some 94))) rfl ?_
  refine zw_gf hm_206 dX12_cleanHalves_75 (v := .inl ((mI S) 94 55)) (zT_is hS s_94) (zT_t hS s_94) rfl f_12_261_12 rfl ?_
  refine zw_if2 hm_206 dX12_cleanHalves_78 (t := 97) rfl zc2_ge ?_ ?_
  · intro hc
    rw [if_pos hc] at h
    refine zw_push hm_206 dX12_cleanHalves_97 (v := .inr (.inr (some 94))) rfl ?_
    refine zw_cv hm_206 dX12_cleanHalves_98 v_12_368_12 hm_208 [] [] rfl (zT_rt hS s_94 rfl) ⟨by omega, by omega⟩ rfl (h _ _ S _ (by omega) (by omega) hS rfl (fun o9 m1 hv => ?_))
    obtain ⟨rfl, h⟩ := zmv_of hv
    show ma_wp X d w 206 101 [(0, .inr (.inr (some 94))), (1, .inl l1)] [] (zst S m1) _
    refine zw_push hm_206 dX12_cleanHalves_101 (v := .inr (.inr (some 94))) rfl ?_
    refine zw_push hm_206 dX12_cleanHalves_102 (v := .inl (0 : Int32)) rfl ?_
    refine zw_cv hm_206 dX12_cleanHalves_103 v_12_371_12 hm_209 [.inl (0 : Int32)] [] rfl (zT_rt (zT_zst hS m1) s_94 rfl) ⟨by omega, by omega⟩ rfl (h _ _ (zst S m1) _ (by omega) (by omega) (zT_zst hS m1) rfl (fun o9 m3 hv => ?_))
    obtain ⟨rfl, h⟩ := zmv_of hv
    show ma_wp X d w 206 106 [(0, .inr (.inr (some 94))), (1, .inl l1)] [] (zst S m3) _
    refine zw_push hm_206 dX12_cleanHalves_106 (v := .inr (.inr (some 94))) rfl ?_
    refine zw_cv hm_206 dX12_cleanHalves_107 v_12_339_12 hm_199 [] [] rfl (zT_rt (zT_zst hS m3) s_94 rfl) ⟨by omega, by omega⟩ rfl (h _ _ (zst S m3) _ (by omega) (by omega) (zT_zst hS m3) rfl (fun o9 m5 hv => ?_))
    obtain ⟨rfl, h⟩ := zmv_of hv
    show ma_wp X d w 206 110 [(0, .inr (.inr (some 94))), (1, .inl l1)] [] (zst S m5) _
    refine zw_push hm_206 dX12_cleanHalves_110 (v := .inr (.inr (some 94))) rfl ?_
    refine zw_push hm_206 dX12_cleanHalves_111 (v := .inr (.inr (some 94))) rfl ?_
    refine zw_gf hm_206 dX12_cleanHalves_112 (v := .inl (m5 94 77)) (zT_is (zT_zst hS m5) s_94) (zT_t (zT_zst hS m5) s_94) rfl f_12_359_12 rfl ?_
    refine zw_pf hm_206 dX12_cleanHalves_115 (zT_is (zT_zst hS m5) s_94) (zT_t (zT_zst hS m5) s_94) p_12_276_12 zk_int ?_
    refine zw_push hm_206 dX12_cleanHalves_118 (v := .inr (.inr (some 94))) rfl ?_
    refine zw_cv hm_206 dX12_cleanHalves_119 v_12_342_12 hm_200 [] [] rfl (zT_rt (zT_pi (zT_zst hS m5)) s_94 rfl) ⟨by omega, by omega⟩ rfl (h _ _ (ma_put (zst S m5) 94 59 (.inl (m5 94 77))) _ (by omega) (by omega) (zT_pi (zT_zst hS m5)) rfl (fun o9 m7 hv => ?_))
    obtain ⟨v8, rfl, h⟩ := zmi_of hv
    show ma_wp X d w 206 122 [(0, .inr (.inr (some 94))), (1, .inl l1)] [.inl v8] (zst S m7) _
    exact zw_iret hm_206 dX12_cleanHalves_122 (HQ _ _ h)
  · intro hc
    rw [if_neg hc] at h
    refine zw_push hm_206 dX12_cleanHalves_81 (v := .inr (.inr (some 94))) rfl ?_
    refine zw_push hm_206 dX12_cleanHalves_82 (v := .inr (.inr (some 94))) rfl ?_
    refine zw_gf hm_206 dX12_cleanHalves_83 (v := .inr (.inr (some 114))) (zT_is hS s_94) (zT_t hS s_94) rfl f_12_74_12 (zT_f hS r_94_53) ?_
    refine zw_push hm_206 dX12_cleanHalves_86 (v := .inl l1) rfl ?_
    obtain ⟨hg, h⟩ := h
    refine zw_ia hm_206 dX12_cleanHalves_87 (zT_is hS s_114) (zT_h hS s_114) rfl hg ?_
    show ma_wp X d w 206 88 [(0, .inr (.inr (some 94))), (1, .inl l1)] [.inl ((mI S) 114 l1.toNatClampNeg), .inr (.inr (some 94))] S _
    refine zw_cv hm_206 dX12_cleanHalves_88 v_12_365_12 hm_207 [.inl ((mI S) 114 l1.toNatClampNeg)] [] rfl (zT_rt hS s_94 rfl) ⟨by omega, by omega⟩ rfl (h _ _ S _ (by omega) (by omega) hS rfl (fun o9 m9 hv => ?_))
    obtain ⟨rfl, h⟩ := zmv_of hv
    show ma_wp X d w 206 91 [(0, .inr (.inr (some 94))), (1, .inl l1)] [] (zst S m9) _
    refine zw_sto hm_206 dX12_cleanHalves_91 [(1, .inl (l1 + (1 : Int32))), (0, .inr (.inr (some 94)))] rfl rfl rfl ?_
    refine zw_goto hm_206 dX12_cleanHalves_94 (t := 73) rfl ?_
    exact zw_sub (ma_nd_of (ks := [0, 1]) rfl (by decide)) (ma_nd_of (ks := [1, 0]) rfl (by decide)) (ma_le_cons rfl (ma_le_cons rfl (ma_le_nil _))) (h d w _ Q (by omega) (by omega) (zT_zst hS m9) rfl HQ)
set_option maxHeartbeats 8000000 in
theorem lp_206_73 {X : Nat × (Nat → Int32)} {P : Option ma_V → (Nat → Nat → Int32) → Prop} {T : Nat} {m0 : Nat → Nat → Int32} (h0 : zV m0) (K : ∀ v m₉, zF wr_206 m0 m₉ → zV m₉ → (zGW T (m₉ 94 55) (m₉ 109)) → (zGU T (m₉ 94 46) (m₉ 99)) → (zOw (m₉ 99) (m₉ 103) (m₉ 111)) → (zDX (m₉ 94 10) (m₉ 99) (m₉ 112) (m₉ 113) (m₉ 114) (m₉ 94 55) (m₉ 98) (m₉ 101) (m₉ 102) (m₉ 108)) → (zHA (m₉ 94 10) (m₉ 94 11) (m₉ 94 13) (m₉ 94 14) (m₉ 94 16) (m₉ 94 61) (m₉ 94 59) (m₉ 94 60) (m₉ 99) (m₉ 102) (m₉ 103) (m₉ 111) (m₉ 117) (m₉ 98) (m₉ 101) (m₉ 108)) → P (some (.inl v)) m₉) : ∀ (n : Nat) (m : Nat → Nat → Int32) (l1 : Int32), (3100 - l1.toInt).toNat = n → zF wr_206 m0 m → zV m → (0 ≤ l1.toInt) → ((m 94 10).toInt = 2) → (zKS (m 110) (m 94 75)) → (zOw (m 99) (m 103) (m 111)) → (zH2 (m 94 10) (m 94 11) (m 94 61) (m 94 77) (m 99) (m 110) (m 102)) → (zH3 (m 94 10) (m 94 13) (m 94 14) (m 94 15) (m 94 61) (m 94 77) (m 94 60) (m 99) (m 110) (m 104) (m 102) (m 103) (m 111)) → ((m 94 76).toInt ≤ (m 94 75).toInt) → (zKU (m 94 10) (m 99) (m 110)) → (zW (m 94 7) (m 98) (m 101) (m 102) (m 108)) → (zDX (m 94 10) (m 99) (m 112) (m 113) (m 114) (m 94 55) (m 98) (m 101) (m 102) (m 108)) → (zCQ (m 110) (m 98) (m 101) (m 102) (m 108) (m 119) (m 94 76) (m 94 75) (fun _ => False) 3100 0) → (zGW T (m 94 55) (m 109)) → (zGU T (m 94 46) (m 99)) → (((m 94 10).toInt = 2 ∨ (m 94 10).toInt = 3) → zcov (m 110) (m 112) 16) → (((m 94 10).toInt = 2 ∨ (m 94 10).toInt = 3) → zcov (m 110) (m 114) l1.toInt) → zm X 5 109 206 73 [(0, .inr (.inr (some 94))), (1, .inl l1)] m P := by
  intro n
  induction n using Nat.strongRecOn with
  | _ n IH =>
    intro m l1 hmu hF hV hi0 hi1 r_CMK r_OW r_H2 r_H3 hi6 r_KU r_W r_DX r_CQ r_GW r_GU r_COVR r_COVW
    refine g_206_73 l1 ?_
    have f1 : 0 ≤ (m 94 10).toInt ∧ (m 94 10).toInt ≤ 6 := rs_94_10 (m := m) hV
    have f2 : 0 ≤ (m 94 76).toInt ∧ (m 94 76).toInt ≤ 3100 := rs_94_76 (m := m) hV
    have f3 : 0 ≤ (m 94 75).toInt ∧ (m 94 75).toInt ≤ 3100 := rs_94_75 (m := m) hV
    have f4 : 0 ≤ (m 94 55).toInt ∧ (m 94 55).toInt ≤ 3100 := rs_94_55 (m := m) hV
    have b5 := i_bd l1
    refine zd (fun (h6 : (m 94 55) ≤ l1) => ?_) (fun (h6 : ¬ (m 94 55) ≤ l1) => ?_)
    · skip
      have g7 := i_le h6
      refine sp_208 (XX := (fun _ => False))  hV (show (m 94 10).toInt = 2 ∨ (m 94 10).toInt = 3 from by omega) r_CMK r_OW r_H2 r_H3 (show (m 94 76).toInt ≤ (m 94 75).toInt from by omega) r_KU r_W r_DX r_CQ (fun m1 hV_m1 p0_m1 p1_m1 p2_m1 p3_m1 p4_m1 p5_m1 p6_m1 p7_m1 p8_m1 => zmv_n ?_)
      have p0_m1 : zKS (m1 110) (m1 94 75) := p0_m1
      have p1_m1 : zOw (m 99) (m1 103) (m1 111) := p1_m1
      have p2_m1 : zH2 (m 94 10) (m 94 11) (m 94 61) (m1 94 77) (m 99) (m1 110) (m 102) := p2_m1
      have p3_m1 : zH3 (m 94 10) (m 94 13) (m 94 14) (m 94 15) (m 94 61) (m1 94 77) (m1 94 60) (m 99) (m1 110) (m1 104) (m 102) (m1 103) (m1 111) := p3_m1
      have p4_m1 : (m1 94 76).toInt ≤ (m1 94 75).toInt := p4_m1
      have p5_m1 : zKU (m 94 10) (m 99) (m1 110) := p5_m1
      have p6_m1 : zle (m 110) (m1 110) := p6_m1
      have p7_m1 : zCQ (m1 110) (m 98) (m 101) (m 102) (m 108) (m1 119) (m1 94 76) (m1 94 75) (fun _ => False) 3100 0 := p7_m1
      have p8_m1 : (m1 94 75).toInt ≤ (m1 94 76).toInt := p8_m1
      have f8 : 0 ≤ (m1 94 76).toInt ∧ (m1 94 76).toInt ≤ 3100 := rs_94_76 (m := (zov wr_208 m m1)) hV_m1
      have f9 : 0 ≤ (m1 94 75).toInt ∧ (m1 94 75).toInt ≤ 3100 := rs_94_75 (m := (zov wr_208 m m1)) hV_m1
      have li10 : (0 : Int32).toInt = 0 := rfl
      refine sp_209 (XX := (fun _ => False)) ((0 : Int32)) hV_m1 (show (m 94 10).toInt = 2 ∨ (m 94 10).toInt = 3 from by omega) p0_m1 p1_m1 p2_m1 p3_m1 (show (m1 94 76).toInt ≤ (m1 94 75).toInt from by omega) p5_m1 r_W r_DX (show (m1 94 75).toInt ≤ (m1 94 76).toInt from by omega) p7_m1 r_GW (show ((m 94 10).toInt = 2 ∨ (m 94 10).toInt = 3) → zcov (m1 110) (m 112) 16 from by first | (exact fun hp => cov_le (r_COVR hp) p6_m1 (fun k hk => (ra_112 hV (by omega)).2)) | (exact fun hp => cov_cut (r_COVR hp) (by omega)) | (exact fun hp => cov_le (cov_cut (r_COVR hp) (by omega)) p6_m1 (fun k hk => (ra_112 hV (by omega)).2)) | (exact fun hp => cov_0 (by decide)) | (exact fun hp => cov_one (r_COVR hp) rfl (by omega) (by omega) (Or.inl (by omega))) | (exact fun hp => cov_one (r_COVR hp) rfl (by omega) (by omega) (Or.inr (by assumption))) | (exact fun hp => cov_cut (r_COVR hp) (by omega)) | (exact fun hp => cov_le (r_COVR hp) p6_m1 (fun k hk => (ra_112 hV_m1 (by omega)).2)) | (exact fun hp => cov_le (r_COVR hp) p6_m1 (fun k hk => (ra_114 hV_m1 (by have := rs_94_55 hV; omega)).2)) | (exfalso; omega; done) | (exfalso; contradiction; done)) (show ((m 94 10).toInt = 2 ∨ (m 94 10).toInt = 3) → zcov (m1 110) (m 114) (m 94 55).toInt from by first | (exact fun hp => cov_le (cov_cut (r_COVW hp) (by omega)) p6_m1 (fun k hk => (ra_114 hV (by have := GW_room r_GW; omega)).2)) | (exact fun hp => cov_cut (r_COVW hp) (by omega)) | (exact fun hp => cov_le (r_COVW hp) p6_m1 (fun k hk => (ra_114 hV (by have := GW_room r_GW; omega)).2)) | (exact fun hp => cov_0 (by decide)) | (exact fun hp => cov_one (r_COVW hp) rfl (by omega) (by omega) (Or.inl (by omega))) | (exact fun hp => cov_one (r_COVW hp) rfl (by omega) (by omega) (Or.inr (by assumption))) | (exact fun hp => cov_cut (r_COVW hp) (by omega)) | (exact fun hp => cov_le (r_COVW hp) p6_m1 (fun k hk => (ra_112 hV_m1 (by omega)).2)) | (exact fun hp => cov_le (r_COVW hp) p6_m1 (fun k hk => (ra_114 hV_m1 (by have := rs_94_55 hV; omega)).2)) | (exfalso; omega; done) | (exfalso; contradiction; done)) (fun m3 hV_m3 p0_m3 p1_m3 p2_m3 p3_m3 p4_m3 p5_m3 p6_m3 p7_m3 p8_m3 p9_m3 p10_m3 p11_m3 p12_m3 => zmv_n ?_)
      have p0_m3 : zKS (m3 110) (m3 94 75) := p0_m3
      have p1_m3 : zOw (m 99) (m3 103) (m3 111) := p1_m3
      have p2_m3 : zH2 (m 94 10) (m 94 11) (m 94 61) (m3 94 77) (m 99) (m3 110) (m 102) := p2_m3
      have p3_m3 : zH3 (m 94 10) (m 94 13) (m 94 14) (m 94 15) (m 94 61) (m3 94 77) (m3 94 60) (m 99) (m3 110) (m3 104) (m 102) (m3 103) (m3 111) := p3_m3
      have p4_m3 : (m3 94 76).toInt ≤ (m3 94 75).toInt := p4_m3
      have p5_m3 : zKU (m 94 10) (m 99) (m3 110) := p5_m3
      have p6_m3 : zDX (m 94 10) (m 99) (m 112) (m3 113) (m3 114) (m3 94 55) (m 98) (m 101) (m 102) (m 108) := p6_m3
      have p7_m3 : (m3 94 75).toInt ≤ (m3 94 76).toInt := p7_m3
      have p8_m3 : zCQ (m3 110) (m 98) (m 101) (m 102) (m 108) (m3 119) (m3 94 76) (m3 94 75) (fun _ => False) 3100 0 := p8_m3
      have p9_m3 : zGW T (m3 94 55) (m3 109) := p9_m3
      have p10_m3 : ((m 94 10).toInt = 2 ∨ (m 94 10).toInt = 3) → zcov (m3 110) (m 112) 16 := p10_m3
      have p11_m3 : ((m 94 10).toInt = 2 ∨ (m 94 10).toInt = 3) → zcov (m3 110) (m3 114) (m3 94 55).toInt := p11_m3
      have p12_m3 : zuw (m 113) (m3 113) := p12_m3
      have f11 : 0 ≤ (m3 94 76).toInt ∧ (m3 94 76).toInt ≤ 3100 := rs_94_76 (m := (zov wr_209 (zov wr_208 m m1) m3)) hV_m3
      have f12 : 0 ≤ (m3 94 75).toInt ∧ (m3 94 75).toInt ≤ 3100 := rs_94_75 (m := (zov wr_209 (zov wr_208 m m1) m3)) hV_m3
      refine sp_199  hV_m3  (fun m5 hV_m5 p0_m5 p1_m5 => zmv_n ?_)
      have p0_m5 : zuw (m3 113) (m5 113) := p0_m5
      have p1_m5 : zcov (m3 110) (m5 113) 16 := p1_m5
      have f14 : 0 ≤ (m3 94 77).toInt ∧ (m3 94 77).toInt ≤ 4600 := rs_94_77 (m := (zov wr_209 (zov wr_208 m m1) m3)) hV_m3
      have hV13 : zV (ma_u (zov wr_199 (zov wr_209 (zov wr_208 m m1) m3) m5) 94 59 (m3 94 77)) := us_94_59 hV_m5 (by omega) (by omega)
      refine sp_200  hV13 r_W r_GU p1_m3 (fun v8 m7 hV_m7 p0_m7 p1_m7 p2_m7 p3_m7 => zmi_n ?_)
      have p0_m7 : zrm (m 99) (m7 99) (m3 110) 3100 := p0_m7
      have p1_m7 : zowr (m3 111) (m7 111) (m 99) (m3 110) (m3 103) := p1_m7
      have p2_m7 : zGU T (m 94 46) (m7 99) := p2_m7
      have p3_m7 : zOw (m7 99) (m3 103) (m7 111) := p3_m7
      try have gw := GW_room p9_m3
      have b15 := i_bd v8
      exact K (v8) _ (zF_zov (zF_u (zF_zov (zF_zov (zF_zov hF ws_208_206) ws_209_206) ws_199_206) rfl) ws_200_206) hV_m7 p9_m3 p2_m7 p3_m7 (show zDX (m 94 10) (m7 99) (m 112) (m5 113) (m3 114) (m3 94 55) (m 98) (m 101) (m 102) (m 108) from by first | (exact DX_come p8_m3 (by omega) (p10_m3 (by omega)) (p11_m3 (by omega)) p1_m5 p5_m3 p0_m7 (fun k hk => (ra_112 hV_m7 (by omega)).2) (fun k hk => (ra_114 hV_m7 (by have := GW_room p9_m3; omega)).2) (fun k hk => (ra_113 hV_m7 (by omega)).2) (W_hi r_W)) | (exfalso; omega; done) | (exfalso; contradiction; done)) (show zHA (m 94 10) (m 94 11) (m 94 13) (m 94 14) (m 94 16) (m 94 61) (m3 94 77) (m3 94 60) (m7 99) (m 102) (m3 103) (m7 111) (m 117) (m 98) (m 101) (m 108) from by first | (exact HA_halves (by omega) (p2_m3 (by omega)) p0_m7 (fun t ht => (ra_102 hV_m7 ht).1)) | (exfalso; omega; done) | (exfalso; contradiction; done))
    · skip
      have g16 := i_nle h6
      have hg17 : (0 ≤ l1 ∧ l1.toNatClampNeg < 3100) := i_ix (by omega) (by omega)
      refine ⟨hg17, ?_⟩
      first | have f18 : 0 ≤ (m 114 l1.toNatClampNeg).toInt ∧ (m 114 l1.toNatClampNeg).toInt ≤ 3099 := ra_114 (m := m) hV (k := l1.toNatClampNeg) (i_ix (n := 3100) (by omega) (by omega)).2 | have b19 := i_bd (m 114 l1.toNatClampNeg)
      refine sp_207 (XX := (fun _ => False)) (CU := 3100) (II := 0) ((m 114 l1.toNatClampNeg)) hV (by omega) (by omega) (show (m 94 10).toInt = 2 ∨ (m 94 10).toInt = 3 from by omega) (show (m 114 l1.toNatClampNeg).toInt < 0 ∨ (m 99) (m 114 l1.toNatClampNeg).toNatClampNeg ≠ 0 from by first | (exact ((r_DX (by omega)).2.2.1 l1.toNatClampNeg (by rw [tn_cast (by omega)]; omega))) | (exfalso; omega; done) | (exfalso; contradiction; done)) r_CMK r_OW r_H2 r_H3 (show (m 94 76).toInt ≤ (m 94 75).toInt from by omega) r_CQ r_KU (fun m9 hV_m9 p0_m9 p1_m9 p2_m9 p3_m9 p4_m9 p5_m9 p6_m9 p7_m9 p8_m9 p9_m9 p10_m9 => zmv_n ?_)
      have p0_m9 : zKS (m9 110) (m9 94 75) := p0_m9
      have p1_m9 : zOw (m 99) (m9 103) (m9 111) := p1_m9
      have p2_m9 : zH2 (m 94 10) (m 94 11) (m 94 61) (m9 94 77) (m 99) (m9 110) (m 102) := p2_m9
      have p3_m9 : zH3 (m 94 10) (m 94 13) (m 94 14) (m 94 15) (m 94 61) (m9 94 77) (m9 94 60) (m 99) (m9 110) (m9 104) (m 102) (m9 103) (m9 111) := p3_m9
      have p4_m9 : (m 114 l1.toNatClampNeg).toInt < 0 ∨ (m9 110) (m 114 l1.toNatClampNeg).toNatClampNeg ≠ 0 := p4_m9
      have p5_m9 : zle (m 110) (m9 110) := p5_m9
      have p6_m9 : (m 94 76).toInt ≤ (m9 94 75).toInt := p6_m9
      have p7_m9 : zCQ (m9 110) (m 98) (m 101) (m 102) (m 108) (m9 119) (m 94 76) (m9 94 75) (fun _ => False) 3100 0 := p7_m9
      have p8_m9 : zKU (m 94 10) (m 99) (m9 110) := p8_m9
      have p9_m9 : (m 94 10).toInt = 3 → zax (m 103) (m9 103) (m 94 60).toInt := p9_m9
      have p10_m9 : (m 94 60).toInt ≤ (m9 94 60).toInt := p10_m9
      have f20 : 0 ≤ (m9 94 75).toInt ∧ (m9 94 75).toInt ≤ 3100 := rs_94_75 (m := (zov wr_207 m m9)) hV_m9
      have f21 : 0 ≤ (m 94 60).toInt ∧ (m 94 60).toInt ≤ 1600 := rs_94_60 (m := m) hV
      have f22 : 0 ≤ (m9 94 60).toInt ∧ (m9 94 60).toInt ≤ 1600 := rs_94_60 (m := (zov wr_207 m m9)) hV_m9
      try have gw := GW_room r_GW
      first | have e23 : (l1 + (1 : Int32)).toInt = l1.toInt + (1) := i_addk rfl (by omega) (by omega) | have b24 := i_bd (l1 + (1 : Int32))
      exact IH (3100 - (l1 + (1 : Int32)).toInt).toNat (by omega) _ ((l1 + (1 : Int32))) rfl (zF_zov hF ws_207_206) hV_m9 (by omega) (show (m 94 10).toInt = 2 from by omega) p0_m9 p1_m9 p2_m9 p3_m9 (show (m 94 76).toInt ≤ (m9 94 75).toInt from by omega) p8_m9 r_W r_DX p7_m9 r_GW r_GU (show ((m 94 10).toInt = 2 ∨ (m 94 10).toInt = 3) → zcov (m9 110) (m 112) 16 from by first | (exact fun hp => cov_le (r_COVR hp) p5_m9 (fun k hk => (ra_112 hV (by omega)).2)) | (exact fun hp => cov_one (cov_le (r_COVR hp) p5_m9 (fun k hk => (ra_112 hV (by omega)).2)) rfl (by omega) (by omega) p4_m9) | (exact fun hp => cov_cut (r_COVR hp) (by omega)) | (exact fun hp => cov_0 (by decide)) | (exact fun hp => cov_one (r_COVR hp) rfl (by omega) (by omega) (Or.inl (by omega))) | (exact fun hp => cov_one (r_COVR hp) rfl (by omega) (by omega) (Or.inr (by assumption))) | (exact fun hp => cov_cut (r_COVR hp) (by omega)) | (exfalso; omega; done) | (exfalso; contradiction; done)) (show ((m 94 10).toInt = 2 ∨ (m 94 10).toInt = 3) → zcov (m9 110) (m 114) (l1 + (1 : Int32)).toInt from by first | (exact fun hp => cov_one (cov_le (r_COVW hp) p5_m9 (fun k hk => (ra_114 hV (by have := GW_room r_GW; omega)).2)) rfl (by omega) (by omega) p4_m9) | (exact fun hp => cov_le (r_COVW hp) p5_m9 (fun k hk => (ra_114 hV (by have := GW_room r_GW; omega)).2)) | (exact fun hp => cov_cut (r_COVW hp) (by omega)) | (exact fun hp => cov_0 (by decide)) | (exact fun hp => cov_one (r_COVW hp) rfl (by omega) (by omega) (Or.inl (by omega))) | (exact fun hp => cov_one (r_COVW hp) rfl (by omega) (by omega) (Or.inr (by assumption))) | (exact fun hp => cov_cut (r_COVW hp) (by omega)) | (exfalso; omega; done) | (exfalso; contradiction; done))
set_option maxHeartbeats 8000000 in
theorem lp_206_49 {X : Nat × (Nat → Int32)} {P : Option ma_V → (Nat → Nat → Int32) → Prop} {T : Nat} {m0 : Nat → Nat → Int32} (h0 : zV m0) (K : ∀ v m₉, zF wr_206 m0 m₉ → zV m₉ → (zGW T (m₉ 94 55) (m₉ 109)) → (zGU T (m₉ 94 46) (m₉ 99)) → (zOw (m₉ 99) (m₉ 103) (m₉ 111)) → (zDX (m₉ 94 10) (m₉ 99) (m₉ 112) (m₉ 113) (m₉ 114) (m₉ 94 55) (m₉ 98) (m₉ 101) (m₉ 102) (m₉ 108)) → (zHA (m₉ 94 10) (m₉ 94 11) (m₉ 94 13) (m₉ 94 14) (m₉ 94 16) (m₉ 94 61) (m₉ 94 59) (m₉ 94 60) (m₉ 99) (m₉ 102) (m₉ 103) (m₉ 111) (m₉ 117) (m₉ 98) (m₉ 101) (m₉ 108)) → P (some (.inl v)) m₉) : ∀ (n : Nat) (m : Nat → Nat → Int32) (l1 : Int32), (16 - l1.toInt).toNat = n → zF wr_206 m0 m → zV m → (0 ≤ l1.toInt) → ((m 94 10).toInt = 2) → (zKS (m 110) (m 94 75)) → (zOw (m 99) (m 103) (m 111)) → (zH2 (m 94 10) (m 94 11) (m 94 61) (m 94 77) (m 99) (m 110) (m 102)) → (zH3 (m 94 10) (m 94 13) (m 94 14) (m 94 15) (m 94 61) (m 94 77) (m 94 60) (m 99) (m 110) (m 104) (m 102) (m 103) (m 111)) → ((m 94 76).toInt ≤ (m 94 75).toInt) → (zKU (m 94 10) (m 99) (m 110)) → (zW (m 94 7) (m 98) (m 101) (m 102) (m 108)) → (zDX (m 94 10) (m 99) (m 112) (m 113) (m 114) (m 94 55) (m 98) (m 101) (m 102) (m 108)) → (zCQ (m 110) (m 98) (m 101) (m 102) (m 108) (m 119) (m 94 76) (m 94 75) (fun _ => False) 3100 0) → (zGW T (m 94 55) (m 109)) → (zGU T (m 94 46) (m 99)) → (((m 94 10).toInt = 2 ∨ (m 94 10).toInt = 3) → zcov (m 110) (m 112) l1.toInt) → zm X 5 109 206 49 [(0, .inr (.inr (some 94))), (1, .inl l1)] m P := by
  intro n
  induction n using Nat.strongRecOn with
  | _ n IH =>
    intro m l1 hmu hF hV hi0 hi1 r_CMK r_OW r_H2 r_H3 hi6 r_KU r_W r_DX r_CQ r_GW r_GU r_COVR
    refine g_206_49 l1 ?_
    have f1 : 0 ≤ (m 94 10).toInt ∧ (m 94 10).toInt ≤ 6 := rs_94_10 (m := m) hV
    have f2 : 0 ≤ (m 94 76).toInt ∧ (m 94 76).toInt ≤ 3100 := rs_94_76 (m := m) hV
    have f3 : 0 ≤ (m 94 75).toInt ∧ (m 94 75).toInt ≤ 3100 := rs_94_75 (m := m) hV
    have li4 : (16 : Int32).toInt = 16 := rfl
    have b5 := i_bd l1
    refine zd (fun (h6 : (16 : Int32) ≤ l1) => ?_) (fun (h6 : ¬ (16 : Int32) ≤ l1) => ?_)
    · skip
      have g7 := i_le h6
      try have gw := GW_room r_GW
      have li8 : (0 : Int32).toInt = 0 := rfl
      exact lp_206_73 h0 K _ _ ((0 : Int32)) rfl hF hV (by omega) (show (m 94 10).toInt = 2 from by omega) r_CMK r_OW r_H2 r_H3 (show (m 94 76).toInt ≤ (m 94 75).toInt from by omega) r_KU r_W r_DX r_CQ r_GW r_GU (show ((m 94 10).toInt = 2 ∨ (m 94 10).toInt = 3) → zcov (m 110) (m 112) 16 from by first | (exact fun hp => cov_cut (r_COVR hp) (by omega)) | (exact fun hp => cov_0 (by decide)) | (exact fun hp => cov_one (r_COVR hp) rfl (by omega) (by omega) (Or.inl (by omega))) | (exact fun hp => cov_one (r_COVR hp) rfl (by omega) (by omega) (Or.inr (by assumption))) | (exact fun hp => cov_cut (r_COVR hp) (by omega)) | (exfalso; omega; done) | (exfalso; contradiction; done)) (show ((m 94 10).toInt = 2 ∨ (m 94 10).toInt = 3) → zcov (m 110) (m 114) (0 : Int32).toInt from by first | (exact fun hp => cov_0 (by decide)) | (exact fun hp => cov_0 (by decide)) | (exfalso; omega; done) | (exfalso; contradiction; done))
    · skip
      have g9 := i_nle h6
      have hg10 : (0 ≤ l1 ∧ l1.toNatClampNeg < 16) := i_ix (by omega) (by omega)
      refine ⟨hg10, ?_⟩
      first | have f11 : -1 ≤ (m 112 l1.toNatClampNeg).toInt ∧ (m 112 l1.toNatClampNeg).toInt ≤ 3099 := ra_112 (m := m) hV (k := l1.toNatClampNeg) (i_ix (n := 16) (by omega) (by omega)).2 | have b12 := i_bd (m 112 l1.toNatClampNeg)
      refine sp_207 (XX := (fun _ => False)) (CU := 3100) (II := 0) ((m 112 l1.toNatClampNeg)) hV (by omega) (by omega) (show (m 94 10).toInt = 2 ∨ (m 94 10).toInt = 3 from by omega) (show (m 112 l1.toNatClampNeg).toInt < 0 ∨ (m 99) (m 112 l1.toNatClampNeg).toNatClampNeg ≠ 0 from by first | (exact ((r_DX (by omega)).1 l1.toNatClampNeg (by rw [tn_cast (by omega)]; omega))) | (exfalso; omega; done) | (exfalso; contradiction; done)) r_CMK r_OW r_H2 r_H3 (show (m 94 76).toInt ≤ (m 94 75).toInt from by omega) r_CQ r_KU (fun m1 hV_m1 p0_m1 p1_m1 p2_m1 p3_m1 p4_m1 p5_m1 p6_m1 p7_m1 p8_m1 p9_m1 p10_m1 => zmv_n ?_)
      have p0_m1 : zKS (m1 110) (m1 94 75) := p0_m1
      have p1_m1 : zOw (m 99) (m1 103) (m1 111) := p1_m1
      have p2_m1 : zH2 (m 94 10) (m 94 11) (m 94 61) (m1 94 77) (m 99) (m1 110) (m 102) := p2_m1
      have p3_m1 : zH3 (m 94 10) (m 94 13) (m 94 14) (m 94 15) (m 94 61) (m1 94 77) (m1 94 60) (m 99) (m1 110) (m1 104) (m 102) (m1 103) (m1 111) := p3_m1
      have p4_m1 : (m 112 l1.toNatClampNeg).toInt < 0 ∨ (m1 110) (m 112 l1.toNatClampNeg).toNatClampNeg ≠ 0 := p4_m1
      have p5_m1 : zle (m 110) (m1 110) := p5_m1
      have p6_m1 : (m 94 76).toInt ≤ (m1 94 75).toInt := p6_m1
      have p7_m1 : zCQ (m1 110) (m 98) (m 101) (m 102) (m 108) (m1 119) (m 94 76) (m1 94 75) (fun _ => False) 3100 0 := p7_m1
      have p8_m1 : zKU (m 94 10) (m 99) (m1 110) := p8_m1
      have p9_m1 : (m 94 10).toInt = 3 → zax (m 103) (m1 103) (m 94 60).toInt := p9_m1
      have p10_m1 : (m 94 60).toInt ≤ (m1 94 60).toInt := p10_m1
      have f13 : 0 ≤ (m1 94 75).toInt ∧ (m1 94 75).toInt ≤ 3100 := rs_94_75 (m := (zov wr_207 m m1)) hV_m1
      have f14 : 0 ≤ (m 94 60).toInt ∧ (m 94 60).toInt ≤ 1600 := rs_94_60 (m := m) hV
      have f15 : 0 ≤ (m1 94 60).toInt ∧ (m1 94 60).toInt ≤ 1600 := rs_94_60 (m := (zov wr_207 m m1)) hV_m1
      try have gw := GW_room r_GW
      first | have e16 : (l1 + (1 : Int32)).toInt = l1.toInt + (1) := i_addk rfl (by omega) (by omega) | have b17 := i_bd (l1 + (1 : Int32))
      exact IH (16 - (l1 + (1 : Int32)).toInt).toNat (by omega) _ ((l1 + (1 : Int32))) rfl (zF_zov hF ws_207_206) hV_m1 (by omega) (show (m 94 10).toInt = 2 from by omega) p0_m1 p1_m1 p2_m1 p3_m1 (show (m 94 76).toInt ≤ (m1 94 75).toInt from by omega) p8_m1 r_W r_DX p7_m1 r_GW r_GU (show ((m 94 10).toInt = 2 ∨ (m 94 10).toInt = 3) → zcov (m1 110) (m 112) (l1 + (1 : Int32)).toInt from by first | (exact fun hp => cov_one (cov_le (r_COVR hp) p5_m1 (fun k hk => (ra_112 hV (by omega)).2)) rfl (by omega) (by omega) p4_m1) | (exact fun hp => cov_le (r_COVR hp) p5_m1 (fun k hk => (ra_112 hV (by omega)).2)) | (exact fun hp => cov_cut (r_COVR hp) (by omega)) | (exact fun hp => cov_0 (by decide)) | (exact fun hp => cov_one (r_COVR hp) rfl (by omega) (by omega) (Or.inl (by omega))) | (exact fun hp => cov_one (r_COVR hp) rfl (by omega) (by omega) (Or.inr (by assumption))) | (exact fun hp => cov_cut (r_COVR hp) (by omega)) | (exfalso; omega; done) | (exfalso; contradiction; done))
set_option maxHeartbeats 8000000 in
theorem sp_206 {X : Nat × (Nat → Int32)} {P : Option ma_V → (Nat → Nat → Int32) → Prop} {T : Nat} {m : Nat → Nat → Int32}  (hV : zV m) (r_W : zW (m 94 7) (m 98) (m 101) (m 102) (m 108)) (r_GW : zGW T (m 94 55) (m 109)) (r_GU : zGU T (m 94 46) (m 99)) (r_OW : zOw (m 99) (m 103) (m 111)) (r_DX : zDX (m 94 10) (m 99) (m 112) (m 113) (m 114) (m 94 55) (m 98) (m 101) (m 102) (m 108)) (r_HA : zHA (m 94 10) (m 94 11) (m 94 13) (m 94 14) (m 94 16) (m 94 61) (m 94 59) (m 94 60) (m 99) (m 102) (m 103) (m 111) (m 117) (m 98) (m 101) (m 108)) (hpre6 : (m 94 10).toInt = 2) (KZ : ∀ v m₉, zV (zov wr_206 m m₉) → (zGW T (m₉ 94 55) (m₉ 109)) → (zGU T (m 94 46) (m₉ 99)) → (zOw (m₉ 99) (m₉ 103) (m₉ 111)) → (zDX (m 94 10) (m₉ 99) (m 112) (m₉ 113) (m₉ 114) (m₉ 94 55) (m 98) (m 101) (m 102) (m 108)) → (zHA (m 94 10) (m 94 11) (m 94 13) (m 94 14) (m 94 16) (m₉ 94 61) (m₉ 94 59) (m₉ 94 60) (m₉ 99) (m 102) (m₉ 103) (m₉ 111) (m 117) (m 98) (m 101) (m 108)) → P (some (.inl v)) (zov wr_206 m m₉)) : zm X 5 109 206 0 [(0, .inr (.inr (some 94)))] m P := by
  have K : ∀ v m₉, zF wr_206 m m₉ → zV m₉ → (zGW T (m₉ 94 55) (m₉ 109)) → (zGU T (m₉ 94 46) (m₉ 99)) → (zOw (m₉ 99) (m₉ 103) (m₉ 111)) → (zDX (m₉ 94 10) (m₉ 99) (m₉ 112) (m₉ 113) (m₉ 114) (m₉ 94 55) (m₉ 98) (m₉ 101) (m₉ 102) (m₉ 108)) → (zHA (m₉ 94 10) (m₉ 94 11) (m₉ 94 13) (m₉ 94 14) (m₉ 94 16) (m₉ 94 61) (m₉ 94 59) (m₉ 94 60) (m₉ 99) (m₉ 102) (m₉ 103) (m₉ 111) (m₉ 117) (m₉ 98) (m₉ 101) (m₉ 108)) → P (some (.inl v)) m₉ := by
    intro v m₉ hf z q0 q1 q2 q3 q4
    have e := zov_eq hf
    rw [e] at z ⊢
    try rw [e] at q0
    try rw [e] at q1
    try rw [e] at q2
    try rw [e] at q3
    try rw [e] at q4
    exact KZ v m₉ z q0 q1 q2 q3 q4
  refine g_206_0  ?_
  have f1 : 0 ≤ (m 94 10).toInt ∧ (m 94 10).toInt ≤ 6 := rs_94_10 (m := m) hV
  have hV2 : zV (ma_u m 94 47 ((m 94 47) + (1 : Int32))) := uf_94_47 hV
  refine sp_189  hV2  (fun m1 hV_m1 p0_m1 => zmv_n ?_)
  have p0_m1 : ∀ s : Nat, s < 3100 → (m1 110) s = 0 := p0_m1
  try have gw := GW_room r_GW
  have li4 : (0 : Int32).toInt = 0 := rfl
  have hV3 : zV (ma_u (zov wr_189 (ma_u m 94 47 ((m 94 47) + (1 : Int32))) m1) 94 75 (0 : Int32)) := us_94_75 hV_m1 (by omega) (by omega)
  have hV5 : zV (ma_u (ma_u (zov wr_189 (ma_u m 94 47 ((m 94 47) + (1 : Int32))) m1) 94 75 (0 : Int32)) 94 76 (0 : Int32)) := us_94_76 hV3 (by omega) (by omega)
  have li7 : (1 : Int32).toInt = 1 := rfl
  have f8 : 0 ≤ (m 94 61).toInt ∧ (m 94 61).toInt ≤ 1 := rs_94_61 (m := m) hV
  first | have e9 : ((1 : Int32) - (m 94 61)).toInt = (1 : Int32).toInt - (m 94 61).toInt := i_sub (by omega) (by omega) | have b10 := i_bd ((1 : Int32) - (m 94 61))
  have hV6 : zV (ma_u (ma_u (ma_u (zov wr_189 (ma_u m 94 47 ((m 94 47) + (1 : Int32))) m1) 94 75 (0 : Int32)) 94 76 (0 : Int32)) 94 61 ((1 : Int32) - (m 94 61))) := us_94_61 hV5 (by omega) (by omega)
  have f12 : 0 ≤ (m 94 11).toInt ∧ (m 94 11).toInt ≤ 1500 := rs_94_11 (m := m) hV
  first | have f13 := i_mul01 (x := ((1 : Int32) - (m 94 61))) (y := (m 94 11)) (by omega) (by omega) (by omega) (by omega) | have b14 := i_bd (((1 : Int32) - (m 94 61)) * (m 94 11))
  have hV11 : zV (ma_u (ma_u (ma_u (ma_u (zov wr_189 (ma_u m 94 47 ((m 94 47) + (1 : Int32))) m1) 94 75 (0 : Int32)) 94 76 (0 : Int32)) 94 61 ((1 : Int32) - (m 94 61))) 94 77 (((1 : Int32) - (m 94 61)) * (m 94 11))) := us_94_77 hV6 (by omega) (by omega)
  exact lp_206_49 hV K _ _ ((0 : Int32)) rfl (zF_u (zF_u (zF_u (zF_u (zF_zov (zF_u zF_rfl rfl) ws_189_206) rfl) rfl) rfl) rfl) hV11 (by omega) (show (m 94 10).toInt = 2 from by omega) (show zKS (m1 110) (0 : Int32) from by first | (exact KS_0 (by omega)) | (exfalso; omega; done) | (exfalso; contradiction; done)) r_OW (show zH2 (m 94 10) (m 94 11) ((1 : Int32) - (m 94 61)) (((1 : Int32) - (m 94 61)) * (m 94 11)) (m 99) (m1 110) (m 102) from by first | (exact fun _ => H2_0 r_HA (by omega) p0_m1 (mul_B2 (by omega) (by omega) (by omega) (by omega)) (fun t ht => (ra_102 hV ht).1)) | (exfalso; omega; done) | (exfalso; contradiction; done)) (show zH3 (m 94 10) (m 94 13) (m 94 14) (m 94 15) ((1 : Int32) - (m 94 61)) (((1 : Int32) - (m 94 61)) * (m 94 11)) (m 94 60) (m 99) (m1 110) (m 104) (m 102) (m 103) (m 111) from by first | (exact fun hp => absurd hp (by omega)) | (exfalso; omega; done) | (exfalso; contradiction; done)) (show (0 : Int32).toInt ≤ (0 : Int32).toInt from by omega) (show zKU (m 94 10) (m 99) (m1 110) from by first | (exact KU_none p0_m1) | (exfalso; omega; done) | (exfalso; contradiction; done)) r_W r_DX (show zCQ (m1 110) (m 98) (m 101) (m 102) (m 108) (m 119) (0 : Int32) (0 : Int32) (fun _ => False) 3100 0 from by first | (exact CQ_none p0_m1 (by omega)) | (exfalso; omega; done) | (exfalso; contradiction; done)) r_GW r_GU (show ((m 94 10).toInt = 2 ∨ (m 94 10).toInt = 3) → zcov (m1 110) (m 112) (0 : Int32).toInt from by first | (exact fun hp => cov_0 (by decide)) | (exact fun hp => cov_0 (by decide)) | (exfalso; omega; done) | (exfalso; contradiction; done))

/-! from 94.487 -/
/-! the reference (written by wip/tools/gen94m.py) -/
set_option maxRecDepth 100000 in
theorem hm_216 : ma_md 216 = some (12, yX12_comeDirty, cX12_comeDirty, 5, none) := rfl
theorem dX12_comeDirty_0 : decode cX12_comeDirty 0 = .ok (.iconst 0, 1) := by decide +kernel
theorem dX12_comeDirty_1 : decode cX12_comeDirty 1 = .ok (.istore_n 2, 1) := by decide +kernel
theorem dX12_comeDirty_2 : decode cX12_comeDirty 2 = .ok (.iload_n 2, 1) := by decide +kernel
theorem dX12_comeDirty_3 : decode cX12_comeDirty 3 = .ok (.iload_n 1, 1) := by decide +kernel
theorem dX12_comeDirty_81 : decode cX12_comeDirty 81 = .ok (.return_, 1) := by decide +kernel
theorem dX12_comeDirty_7 : decode cX12_comeDirty 7 = .ok (.aload_n 0, 1) := by decide +kernel
theorem dX12_comeDirty_11 : decode cX12_comeDirty 11 = .ok (.iload_n 2, 1) := by decide +kernel
theorem dX12_comeDirty_13 : decode cX12_comeDirty 13 = .ok (.istore_n 3, 1) := by decide +kernel
theorem dX12_comeDirty_14 : decode cX12_comeDirty 14 = .ok (.iload_n 3, 1) := by decide +kernel
theorem dX12_comeDirty_24 : decode cX12_comeDirty 24 = .ok (.iconst 0, 1) := by decide +kernel
theorem dX12_comeDirty_25 : decode cX12_comeDirty 25 = .ok (.istore 4, 2) := by decide +kernel
theorem dX12_comeDirty_18 : decode cX12_comeDirty 18 = .ok (.iinc 2 1, 3) := by decide +kernel
theorem dX12_comeDirty_21 : decode cX12_comeDirty 21 = .ok (.goto (-19), 3) := by decide +kernel
theorem dX12_comeDirty_15 : decode cX12_comeDirty 15 = .ok (.ifCond .ge 9, 3) := by decide +kernel
theorem dX12_comeDirty_12 : decode cX12_comeDirty 12 = .ok (.iaload, 1) := by decide +kernel
theorem dX12_comeDirty_8 : decode cX12_comeDirty 8 = .ok (.getfield 65, 3) := by decide +kernel
theorem dX12_comeDirty_4 : decode cX12_comeDirty 4 = .ok (.if_icmp .ge 77, 3) := by decide +kernel
theorem dX12_comeDirty_27 : decode cX12_comeDirty 27 = .ok (.iload 4, 2) := by decide +kernel
theorem dX12_comeDirty_29 : decode cX12_comeDirty 29 = .ok (.aload_n 0, 1) := by decide +kernel
theorem dX12_comeDirty_33 : decode cX12_comeDirty 33 = .ok (.iload_n 3, 1) := by decide +kernel
theorem dX12_comeDirty_70 : decode cX12_comeDirty 70 = .ok (.iload_n 2, 1) := by decide +kernel
theorem dX12_comeDirty_71 : decode cX12_comeDirty 71 = .ok (.aload_n 0, 1) := by decide +kernel
theorem dX12_comeDirty_72 : decode cX12_comeDirty 72 = .ok (.iload_n 3, 1) := by decide +kernel
theorem dX12_comeDirty_73 : decode cX12_comeDirty 73 = .ok (.invokevirtual 327, 3) := by decide +kernel
theorem dX12_comeDirty_76 : decode cX12_comeDirty 76 = .ok (.iadd, 1) := by decide +kernel
theorem dX12_comeDirty_77 : decode cX12_comeDirty 77 = .ok (.istore_n 2, 1) := by decide +kernel
theorem dX12_comeDirty_78 : decode cX12_comeDirty 78 = .ok (.goto (-76), 3) := by decide +kernel
theorem dX12_comeDirty_38 : decode cX12_comeDirty 38 = .ok (.aload_n 0, 1) := by decide +kernel
theorem dX12_comeDirty_42 : decode cX12_comeDirty 42 = .ok (.aload_n 0, 1) := by decide +kernel
theorem dX12_comeDirty_43 : decode cX12_comeDirty 43 = .ok (.iload_n 3, 1) := by decide +kernel
theorem dX12_comeDirty_44 : decode cX12_comeDirty 44 = .ok (.iload 4, 2) := by decide +kernel
theorem dX12_comeDirty_46 : decode cX12_comeDirty 46 = .ok (.invokevirtual 375, 3) := by decide +kernel
theorem dX12_comeDirty_64 : decode cX12_comeDirty 64 = .ok (.iinc 4 1, 3) := by decide +kernel
theorem dX12_comeDirty_67 : decode cX12_comeDirty 67 = .ok (.goto (-40), 3) := by decide +kernel
theorem dX12_comeDirty_53 : decode cX12_comeDirty 53 = .ok (.aload_n 0, 1) := by decide +kernel
theorem dX12_comeDirty_54 : decode cX12_comeDirty 54 = .ok (.aload_n 0, 1) := by decide +kernel
theorem dX12_comeDirty_55 : decode cX12_comeDirty 55 = .ok (.iload_n 3, 1) := by decide +kernel
theorem dX12_comeDirty_56 : decode cX12_comeDirty 56 = .ok (.iload 4, 2) := by decide +kernel
theorem dX12_comeDirty_58 : decode cX12_comeDirty 58 = .ok (.invokevirtual 294, 3) := by decide +kernel
theorem dX12_comeDirty_61 : decode cX12_comeDirty 61 = .ok (.invokevirtual 365, 3) := by decide +kernel
theorem dX12_comeDirty_50 : decode cX12_comeDirty 50 = .ok (.ifCond .eq 14, 3) := by decide +kernel
theorem dX12_comeDirty_49 : decode cX12_comeDirty 49 = .ok (.baload, 1) := by decide +kernel
theorem dX12_comeDirty_39 : decode cX12_comeDirty 39 = .ok (.getfield 83, 3) := by decide +kernel
theorem dX12_comeDirty_35 : decode cX12_comeDirty 35 = .ok (.if_icmp .ge 35, 3) := by decide +kernel
theorem dX12_comeDirty_34 : decode cX12_comeDirty 34 = .ok (.iaload, 1) := by decide +kernel
theorem dX12_comeDirty_30 : decode cX12_comeDirty 30 = .ok (.getfield 37, 3) := by decide +kernel
def wr_216 (c k : Nat) : Bool := Nat.beq c 103 || Nat.beq c 104 || Nat.beq c 110 || Nat.beq c 111 || Nat.beq c 119 || (Nat.beq c 94 && (Nat.beq k 48 || Nat.beq k 60 || Nat.beq k 75 || Nat.beq k 77))
theorem ws_192_216 : ∀ c k, wr_192 c k = true → wr_216 c k = true := fun _ _ h => by cases h
theorem ws_207_216 : ∀ c k, wr_207 c k = true → wr_216 c k = true := by
  intro c k h
  simp only [wr_207, Bool.or_eq_true, Bool.and_eq_true, Nat.beq_eq] at h
  rcases h with ((((rfl | rfl) | rfl) | rfl) | rfl) | ⟨rfl, (((rfl | rfl) | rfl) | rfl)⟩ <;> rfl
theorem g_216_0 {X : Nat × (Nat → Int32)} {m : Nat → Nat → Int32} {P : Option ma_V → (Nat → Nat → Int32) → Prop} (en : Int32) (h : zm X 3 64 216 2 [(0, .inr (.inr (some 94))), (1, .inl en), (2, .inl (0 : Int32))] m P) : zm X 3 64 216 0 [(0, .inr (.inr (some 94))), (1, .inl en)] m P := by
  intro d w S Q hd hw hS hm HQ
  subst hm
  refine zw_push hm_216 dX12_comeDirty_0 (v := .inl (0 : Int32)) rfl ?_
  refine zw_sto hm_216 dX12_comeDirty_1 [(2, .inl (0 : Int32)), (0, .inr (.inr (some 94))), (1, .inl en)] rfl rfl rfl ?_
  exact zw_sub (ma_nd_of (ks := [0, 1, 2]) rfl (by decide)) (ma_nd_of (ks := [2, 0, 1]) rfl (by decide)) (ma_le_cons rfl (ma_le_cons rfl (ma_le_cons rfl (ma_le_nil _)))) (h d w _ Q (by omega) (by omega) hS rfl HQ)
theorem g_216_2 {X : Nat × (Nat → Int32)} {m : Nat → Nat → Int32} {P : Option ma_V → (Nat → Nat → Int32) → Prop} (l1 : Int32) (l2 : Int32) (h : if l1 ≤ l2 then (P none m) else ((0 ≤ l2 ∧ l2.toNatClampNeg < 4600) ∧ (if 0 ≤ (m 111 l2.toNatClampNeg) then (zm X 3 64 216 27 [(0, .inr (.inr (some 94))), (1, .inl l1), (2, .inl l2), (3, .inl (m 111 l2.toNatClampNeg)), (4, .inl (0 : Int32))] m P) else (zm X 3 64 216 2 [(0, .inr (.inr (some 94))), (1, .inl l1), (2, .inl (l2 + (1 : Int32)))] m P)))) : zm X 3 64 216 2 [(0, .inr (.inr (some 94))), (1, .inl l1), (2, .inl l2)] m P := by
  intro d w S Q hd hw hS hm HQ
  subst hm
  refine zw_push hm_216 dX12_comeDirty_2 (v := .inl l2) rfl ?_
  refine zw_push hm_216 dX12_comeDirty_3 (v := .inl l1) rfl ?_
  refine zw_if2 hm_216 dX12_comeDirty_4 (t := 81) rfl zc2_ge ?_ ?_
  · intro hc
    rw [if_pos hc] at h
    exact zw_vret hm_216 dX12_comeDirty_81 (HQ _ _ h)
  · intro hc
    rw [if_neg hc] at h
    refine zw_push hm_216 dX12_comeDirty_7 (v := .inr (.inr (some 94))) rfl ?_
    refine zw_gf hm_216 dX12_comeDirty_8 (v := .inr (.inr (some 111))) (zT_is hS s_94) (zT_t hS s_94) rfl f_12_65_12 (zT_f hS r_94_43) ?_
    refine zw_push hm_216 dX12_comeDirty_11 (v := .inl l2) rfl ?_
    obtain ⟨hg, h⟩ := h
    refine zw_ia hm_216 dX12_comeDirty_12 (zT_is hS s_111) (zT_h hS s_111) rfl hg ?_
    show ma_wp X d w 216 13 [(0, .inr (.inr (some 94))), (1, .inl l1), (2, .inl l2)] [.inl ((mI S) 111 l2.toNatClampNeg)] S _
    refine zw_sto hm_216 dX12_comeDirty_13 [(3, .inl ((mI S) 111 l2.toNatClampNeg)), (0, .inr (.inr (some 94))), (1, .inl l1), (2, .inl l2)] rfl rfl rfl ?_
    refine zw_push hm_216 dX12_comeDirty_14 (v := .inl ((mI S) 111 l2.toNatClampNeg)) rfl ?_
    refine zw_if0 hm_216 dX12_comeDirty_15 (t := 24) rfl zc0_ge ?_ ?_
    · intro hc
      rw [if_pos hc] at h
      refine zw_push hm_216 dX12_comeDirty_24 (v := .inl (0 : Int32)) rfl ?_
      refine zw_sto hm_216 dX12_comeDirty_25 [(4, .inl (0 : Int32)), (3, .inl ((mI S) 111 l2.toNatClampNeg)), (0, .inr (.inr (some 94))), (1, .inl l1), (2, .inl l2)] rfl rfl rfl ?_
      exact zw_sub (ma_nd_of (ks := [0, 1, 2, 3, 4]) rfl (by decide)) (ma_nd_of (ks := [4, 3, 0, 1, 2]) rfl (by decide)) (ma_le_cons rfl (ma_le_cons rfl (ma_le_cons rfl (ma_le_cons rfl (ma_le_cons rfl (ma_le_nil _)))))) (h d w _ Q (by omega) (by omega) hS rfl HQ)
    · intro hc
      rw [if_neg hc] at h
      refine zw_sto hm_216 dX12_comeDirty_18 [(2, .inl (l2 + (1 : Int32))), (3, .inl ((mI S) 111 l2.toNatClampNeg)), (0, .inr (.inr (some 94))), (1, .inl l1)] rfl rfl rfl ?_
      refine zw_goto hm_216 dX12_comeDirty_21 (t := 2) rfl ?_
      exact zw_sub (ma_nd_of (ks := [0, 1, 2]) rfl (by decide)) (ma_nd_of (ks := [2, 3, 0, 1]) rfl (by decide)) (ma_le_cons rfl (ma_le_cons rfl (ma_le_cons rfl (ma_le_nil _)))) (h d w _ Q (by omega) (by omega) hS rfl HQ)
theorem g_216_27 {X : Nat × (Nat → Int32)} {m : Nat → Nat → Int32} {P : Option ma_V → (Nat → Nat → Int32) → Prop} (l1 : Int32) (l2 : Int32) (l3 : Int32) (l4 : Int32) (h : (0 ≤ l3 ∧ l3.toNatClampNeg < 3100) ∧ (if (m 102 l3.toNatClampNeg) ≤ l4 then ((0 ≤ l3 ∧ l3.toNatClampNeg < 3100) ∧ (zm X 3 64 216 2 [(0, .inr (.inr (some 94))), (1, .inl l1), (2, .inl (l2 + ((m 102 l3.toNatClampNeg) + (1 : Int32))))] m P)) else ((0 ≤ l3 ∧ l3.toNatClampNeg < 3100) ∧ ((m 94 16) ≠ 0 ∧ ((0 ≤ ((((m 103 l3.toNatClampNeg) + (1 : Int32)) + l4) / (m 94 16)) ∧ ((((m 103 l3.toNatClampNeg) + (1 : Int32)) + l4) / (m 94 16)).toNatClampNeg < 512) ∧ (if (m 117 ((((m 103 l3.toNatClampNeg) + (1 : Int32)) + l4) / (m 94 16)).toNatClampNeg) = 0 then (zm X 3 64 216 27 [(0, .inr (.inr (some 94))), (1, .inl l1), (2, .inl l2), (3, .inl l3), (4, .inl (l4 + (1 : Int32)))] m P) else (zm X 1 22 192 0 [(0, .inr (.inr (some 94))), (1, .inl l3), (2, .inl l4)] m (zmi (fun v2 m1 => zm X 2 43 207 0 [(0, .inr (.inr (some 94))), (1, .inl v2)] m1 (zmv (fun m3 => zm X 3 64 216 27 [(0, .inr (.inr (some 94))), (1, .inl l1), (2, .inl l2), (3, .inl l3), (4, .inl (l4 + (1 : Int32)))] m3 P))))))))))) : zm X 3 64 216 27 [(0, .inr (.inr (some 94))), (1, .inl l1), (2, .inl l2), (3, .inl l3), (4, .inl l4)] m P := by
  intro d w S Q hd hw hS hm HQ
  subst hm
  refine zw_push hm_216 dX12_comeDirty_27 (v := .inl l4) rfl ?_
  refine zw_push hm_216 dX12_comeDirty_29 (v := .inr (.inr (some 94))) rfl ?_
  refine zw_gf hm_216 dX12_comeDirty_30 (v := .inr (.inr (some 102))) (zT_is hS s_94) (zT_t hS s_94) rfl f_12_37_12 (zT_f hS r_94_34) ?_
  refine zw_push hm_216 dX12_comeDirty_33 (v := .inl l3) rfl ?_
  obtain ⟨hg, h⟩ := h
  refine zw_ia hm_216 dX12_comeDirty_34 (zT_is hS s_102) (zT_h hS s_102) rfl hg ?_
  show ma_wp X d w 216 35 [(0, .inr (.inr (some 94))), (1, .inl l1), (2, .inl l2), (3, .inl l3), (4, .inl l4)] [.inl ((mI S) 102 l3.toNatClampNeg), .inl l4] S _
  refine zw_if2 hm_216 dX12_comeDirty_35 (t := 70) rfl zc2_ge ?_ ?_
  · intro hc
    rw [if_pos hc] at h
    refine zw_push hm_216 dX12_comeDirty_70 (v := .inl l2) rfl ?_
    refine zw_push hm_216 dX12_comeDirty_71 (v := .inr (.inr (some 94))) rfl ?_
    refine zw_push hm_216 dX12_comeDirty_72 (v := .inl l3) rfl ?_
    refine zw_cv hm_216 dX12_comeDirty_73 v_12_327_12 hm_201 [.inl l3] [.inl l2] rfl (zT_rt hS s_94 rfl) ⟨by omega, by omega⟩ rfl ?_
    show ma_wp X (d - 1) (w - 21) 201 0 [(0, .inr (.inr (some 94))), (1, .inl l3)] [] S _
    refine zw_push hm_201 dX12_sizeOf_0 (v := .inr (.inr (some 94))) rfl ?_
    refine zw_gf hm_201 dX12_sizeOf_1 (v := .inr (.inr (some 102))) (zT_is hS s_94) (zT_t hS s_94) rfl f_12_37_12 (zT_f hS r_94_34) ?_
    refine zw_push hm_201 dX12_sizeOf_4 (v := .inl l3) rfl ?_
    obtain ⟨hg, h⟩ := h
    refine zw_ia hm_201 dX12_sizeOf_5 (zT_is hS s_102) (zT_h hS s_102) rfl hg ?_
    show ma_wp X (d - 1) (w - 21) 201 6 [(0, .inr (.inr (some 94))), (1, .inl l3)] [.inl ((mI S) 102 l3.toNatClampNeg)] S _
    refine zw_push hm_201 dX12_sizeOf_6 (v := .inl (1 : Int32)) rfl ?_
    refine zw_stk hm_201 dX12_sizeOf_7 (st₉ := [.inl (((mI S) 102 l3.toNatClampNeg) + (1 : Int32))]) rfl rfl ?_
    refine zw_iret hm_201 dX12_sizeOf_8 ?_
    show ma_wp X d w 216 76 [(0, .inr (.inr (some 94))), (1, .inl l1), (2, .inl l2), (3, .inl l3), (4, .inl l4)] [.inl (((mI S) 102 l3.toNatClampNeg) + (1 : Int32)), .inl l2] S _
    refine zw_stk hm_216 dX12_comeDirty_76 (st₉ := [.inl (l2 + (((mI S) 102 l3.toNatClampNeg) + (1 : Int32)))]) rfl rfl ?_
    refine zw_sto hm_216 dX12_comeDirty_77 [(2, .inl (l2 + (((mI S) 102 l3.toNatClampNeg) + (1 : Int32)))), (0, .inr (.inr (some 94))), (1, .inl l1), (3, .inl l3), (4, .inl l4)] rfl rfl rfl ?_
    refine zw_goto hm_216 dX12_comeDirty_78 (t := 2) rfl ?_
    exact zw_sub (ma_nd_of (ks := [0, 1, 2]) rfl (by decide)) (ma_nd_of (ks := [2, 0, 1, 3, 4]) rfl (by decide)) (ma_le_cons rfl (ma_le_cons rfl (ma_le_cons rfl (ma_le_nil _)))) (h d w _ Q (by omega) (by omega) hS rfl HQ)
  · intro hc
    rw [if_neg hc] at h
    refine zw_push hm_216 dX12_comeDirty_38 (v := .inr (.inr (some 94))) rfl ?_
    refine zw_gf hm_216 dX12_comeDirty_39 (v := .inr (.inr (some 117))) (zT_is hS s_94) (zT_t hS s_94) rfl f_12_83_12 (zT_f hS r_94_66) ?_
    refine zw_push hm_216 dX12_comeDirty_42 (v := .inr (.inr (some 94))) rfl ?_
    refine zw_push hm_216 dX12_comeDirty_43 (v := .inl l3) rfl ?_
    refine zw_push hm_216 dX12_comeDirty_44 (v := .inl l4) rfl ?_
    refine zw_cv hm_216 dX12_comeDirty_46 v_12_375_12 hm_213 [.inl l4, .inl l3] [.inr (.inr (some 117))] rfl (zT_rt hS s_94 rfl) ⟨by omega, by omega⟩ rfl ?_
    show ma_wp X (d - 1) (w - 22) 213 0 [(0, .inr (.inr (some 94))), (1, .inl l3), (2, .inl l4)] [] S _
    refine zw_push hm_213 dX12_cardOf_0 (v := .inr (.inr (some 94))) rfl ?_
    refine zw_gf hm_213 dX12_cardOf_1 (v := .inr (.inr (some 103))) (zT_is hS s_94) (zT_t hS s_94) rfl f_12_40_12 (zT_f hS r_94_35) ?_
    refine zw_push hm_213 dX12_cardOf_4 (v := .inl l3) rfl ?_
    obtain ⟨hg, h⟩ := h
    refine zw_ia hm_213 dX12_cardOf_5 (zT_is hS s_103) (zT_h hS s_103) rfl hg ?_
    show ma_wp X (d - 1) (w - 22) 213 6 [(0, .inr (.inr (some 94))), (1, .inl l3), (2, .inl l4)] [.inl ((mI S) 103 l3.toNatClampNeg)] S _
    refine zw_push hm_213 dX12_cardOf_6 (v := .inl (1 : Int32)) rfl ?_
    refine zw_stk hm_213 dX12_cardOf_7 (st₉ := [.inl (((mI S) 103 l3.toNatClampNeg) + (1 : Int32))]) rfl rfl ?_
    refine zw_push hm_213 dX12_cardOf_8 (v := .inl l4) rfl ?_
    refine zw_stk hm_213 dX12_cardOf_9 (st₉ := [.inl ((((mI S) 103 l3.toNatClampNeg) + (1 : Int32)) + l4)]) rfl rfl ?_
    refine zw_push hm_213 dX12_cardOf_10 (v := .inr (.inr (some 94))) rfl ?_
    refine zw_gf hm_213 dX12_cardOf_11 (v := .inl ((mI S) 94 16)) (zT_is hS s_94) (zT_t hS s_94) rfl f_12_216_12 rfl ?_
    obtain ⟨hg, h⟩ := h
    refine zw_stk hm_213 dX12_cardOf_14 (st₉ := [.inl (((((mI S) 103 l3.toNatClampNeg) + (1 : Int32)) + l4) / ((mI S) 94 16))]) rfl (if_neg hg) ?_
    refine zw_iret hm_213 dX12_cardOf_15 ?_
    show ma_wp X d w 216 49 [(0, .inr (.inr (some 94))), (1, .inl l1), (2, .inl l2), (3, .inl l3), (4, .inl l4)] [.inl (((((mI S) 103 l3.toNatClampNeg) + (1 : Int32)) + l4) / ((mI S) 94 16)), .inr (.inr (some 117))] S _
    obtain ⟨hg, h⟩ := h
    refine zw_ba hm_216 dX12_comeDirty_49 (zT_is hS s_117) (zT_h hS s_117) rfl rfl hg ?_
    show ma_wp X d w 216 50 [(0, .inr (.inr (some 94))), (1, .inl l1), (2, .inl l2), (3, .inl l3), (4, .inl l4)] [.inl ((mI S) 117 (((((mI S) 103 l3.toNatClampNeg) + (1 : Int32)) + l4) / ((mI S) 94 16)).toNatClampNeg)] S _
    refine zw_if0 hm_216 dX12_comeDirty_50 (t := 64) rfl zc0_eq ?_ ?_
    · intro hc
      rw [if_pos hc] at h
      refine zw_sto hm_216 dX12_comeDirty_64 [(4, .inl (l4 + (1 : Int32))), (0, .inr (.inr (some 94))), (1, .inl l1), (2, .inl l2), (3, .inl l3)] rfl rfl rfl ?_
      refine zw_goto hm_216 dX12_comeDirty_67 (t := 27) rfl ?_
      exact zw_sub (ma_nd_of (ks := [0, 1, 2, 3, 4]) rfl (by decide)) (ma_nd_of (ks := [4, 0, 1, 2, 3]) rfl (by decide)) (ma_le_cons rfl (ma_le_cons rfl (ma_le_cons rfl (ma_le_cons rfl (ma_le_cons rfl (ma_le_nil _)))))) (h d w _ Q (by omega) (by omega) hS rfl HQ)
    · intro hc
      rw [if_neg hc] at h
      refine zw_push hm_216 dX12_comeDirty_53 (v := .inr (.inr (some 94))) rfl ?_
      refine zw_push hm_216 dX12_comeDirty_54 (v := .inr (.inr (some 94))) rfl ?_
      refine zw_push hm_216 dX12_comeDirty_55 (v := .inl l3) rfl ?_
      refine zw_push hm_216 dX12_comeDirty_56 (v := .inl l4) rfl ?_
      refine zw_cv hm_216 dX12_comeDirty_58 v_12_294_12 hm_192 [.inl l4, .inl l3] [.inr (.inr (some 94))] rfl (zT_rt hS s_94 rfl) ⟨by omega, by omega⟩ rfl (h _ _ S _ (by omega) (by omega) hS rfl (fun o9 m1 hv => ?_))
      obtain ⟨v2, rfl, h⟩ := zmi_of hv
      show ma_wp X d w 216 61 [(0, .inr (.inr (some 94))), (1, .inl l1), (2, .inl l2), (3, .inl l3), (4, .inl l4)] [.inl v2, .inr (.inr (some 94))] (zst S m1) _
      refine zw_cv hm_216 dX12_comeDirty_61 v_12_365_12 hm_207 [.inl v2] [] rfl (zT_rt (zT_zst hS m1) s_94 rfl) ⟨by omega, by omega⟩ rfl (h _ _ (zst S m1) _ (by omega) (by omega) (zT_zst hS m1) rfl (fun o9 m3 hv => ?_))
      obtain ⟨rfl, h⟩ := zmv_of hv
      show ma_wp X d w 216 64 [(0, .inr (.inr (some 94))), (1, .inl l1), (2, .inl l2), (3, .inl l3), (4, .inl l4)] [] (zst S m3) _
      refine zw_sto hm_216 dX12_comeDirty_64 [(4, .inl (l4 + (1 : Int32))), (0, .inr (.inr (some 94))), (1, .inl l1), (2, .inl l2), (3, .inl l3)] rfl rfl rfl ?_
      refine zw_goto hm_216 dX12_comeDirty_67 (t := 27) rfl ?_
      exact zw_sub (ma_nd_of (ks := [0, 1, 2, 3, 4]) rfl (by decide)) (ma_nd_of (ks := [4, 0, 1, 2, 3]) rfl (by decide)) (ma_le_cons rfl (ma_le_cons rfl (ma_le_cons rfl (ma_le_cons rfl (ma_le_cons rfl (ma_le_nil _)))))) (h d w _ Q (by omega) (by omega) (zT_zst hS m3) rfl HQ)
set_option maxHeartbeats 8000000 in
theorem lp_216_27 {X : Nat × (Nat → Int32)} {P : Option ma_V → (Nat → Nat → Int32) → Prop} {en : Int32} {m0 : Nat → Nat → Int32} (h0 : zV m0) (K : ∀ m₉, zF wr_216 m0 m₉ → zV m₉ → (zKS (m₉ 110) (m₉ 94 75)) → (zOw (m₉ 99) (m₉ 103) (m₉ 111)) → (zH2 (m₉ 94 10) (m₉ 94 11) (m₉ 94 61) (m₉ 94 77) (m₉ 99) (m₉ 110) (m₉ 102)) → (zH3 (m₉ 94 10) (m₉ 94 13) (m₉ 94 14) (m₉ 94 15) (m₉ 94 61) (m₉ 94 77) (m₉ 94 60) (m₉ 99) (m₉ 110) (m₉ 104) (m₉ 102) (m₉ 103) (m₉ 111)) → ((m₉ 94 76).toInt ≤ (m₉ 94 75).toInt) → (zKU (m₉ 94 10) (m₉ 99) (m₉ 110)) → (zle (m0 110) (m₉ 110)) → (zCQ (m₉ 110) (m₉ 98) (m₉ 101) (m₉ 102) (m₉ 108) (m₉ 119) (m₉ 94 76) (m₉ 94 75) (fun _ => False) 3100 0) → P none m₉) {n2 : Nat} (OUT2 : ∀ (m₉ : Nat → Nat → Int32) (l1 : Int32) (l2 : Int32), (l1.toInt - l2.toInt).toNat < n2 → zF wr_216 m0 m₉ → zV m₉ → (0 ≤ l2.toInt) → (l1.toInt = en.toInt) → ((m₉ 94 10).toInt = 3) → (zKS (m₉ 110) (m₉ 94 75)) → (zOw (m₉ 99) (m₉ 103) (m₉ 111)) → (zH2 (m₉ 94 10) (m₉ 94 11) (m₉ 94 61) (m₉ 94 77) (m₉ 99) (m₉ 110) (m₉ 102)) → (zH3 (m₉ 94 10) (m₉ 94 13) (m₉ 94 14) (m₉ 94 15) (m₉ 94 61) (m₉ 94 77) (m₉ 94 60) (m₉ 99) (m₉ 110) (m₉ 104) (m₉ 102) (m₉ 103) (m₉ 111)) → ((m₉ 94 76).toInt ≤ (m₉ 94 75).toInt) → (zKU (m₉ 94 10) (m₉ 99) (m₉ 110)) → (zW (m₉ 94 7) (m₉ 98) (m₉ 101) (m₉ 102) (m₉ 108)) → (zDX (m₉ 94 10) (m₉ 99) (m₉ 112) (m₉ 113) (m₉ 114) (m₉ 94 55) (m₉ 98) (m₉ 101) (m₉ 102) (m₉ 108)) → (4 ≤ (m₉ 94 16).toInt) → (l1.toInt ≤ (m₉ 94 60).toInt) → (zDK l1.toInt (m₉ 94 16).toInt (m₉ 110) (m₉ 99) (m₉ 103) (m₉ 102) (m₉ 98) (m₉ 101) (m₉ 108) (m₉ 117)) → (zCQ (m₉ 110) (m₉ 98) (m₉ 101) (m₉ 102) (m₉ 108) (m₉ 119) (m₉ 94 76) (m₉ 94 75) (zXX (m₉ 99) (m₉ 103) l2.toInt l1.toInt) 3100 0) → (zle (m0 110) (m₉ 110)) → zm X 3 64 216 2 [(0, .inr (.inr (some 94))), (1, .inl l1), (2, .inl l2)] m₉ P) : ∀ (n : Nat) (m : Nat → Nat → Int32) (l1 : Int32) (l2 : Int32) (l3 : Int32) (l4 : Int32), (61 - l4.toInt).toNat = n → zF wr_216 m0 m → zV m → (0 ≤ l2.toInt) → (l1.toInt = en.toInt) → (l2.toInt < l1.toInt) → (0 ≤ l3.toInt) → (l3.toInt ≤ 3099) → (0 ≤ l4.toInt) → ((l1.toInt - l2.toInt).toNat = n2) → ((m 94 10).toInt = 3) → (zKS (m 110) (m 94 75)) → (zOw (m 99) (m 103) (m 111)) → (zH2 (m 94 10) (m 94 11) (m 94 61) (m 94 77) (m 99) (m 110) (m 102)) → (zH3 (m 94 10) (m 94 13) (m 94 14) (m 94 15) (m 94 61) (m 94 77) (m 94 60) (m 99) (m 110) (m 104) (m 102) (m 103) (m 111)) → ((m 94 76).toInt ≤ (m 94 75).toInt) → (zKU (m 94 10) (m 99) (m 110)) → (zW (m 94 7) (m 98) (m 101) (m 102) (m 108)) → (zDX (m 94 10) (m 99) (m 112) (m 113) (m 114) (m 94 55) (m 98) (m 101) (m 102) (m 108)) → (4 ≤ (m 94 16).toInt) → (l1.toInt ≤ (m 94 60).toInt) → (zDK l1.toInt (m 94 16).toInt (m 110) (m 99) (m 103) (m 102) (m 98) (m 101) (m 108) (m 117)) → (zCQ (m 110) (m 98) (m 101) (m 102) (m 108) (m 119) (m 94 76) (m 94 75) (zXX (m 99) (m 103) l2.toInt l1.toInt) 3100 0) → (zle (m0 110) (m 110)) → ((m 99) l3.toNatClampNeg ≠ 0) → ((m 103 l3.toNatClampNeg).toInt = l2.toInt) → (zUP (m 110) (m 98) (m 101) (m 108) l3.toNatClampNeg l4.toNatClampNeg) → zm X 3 64 216 27 [(0, .inr (.inr (some 94))), (1, .inl l1), (2, .inl l2), (3, .inl l3), (4, .inl l4)] m P := by
  intro n
  induction n using Nat.strongRecOn with
  | _ n IH =>
    intro m l1 l2 l3 l4 hmu hF hV hi0 hi1 hi2 hi3 hi4 hi5 hi6 hi7 r_CMK r_OW r_H2 r_H3 hi12 r_KU r_W r_DX hi16 hi17 r_DK r_CQ r_KMd r_USd hi22 r_UP
    refine g_216_27 l1 l2 l3 l4 ?_
    have f1 : 0 ≤ (m 94 10).toInt ∧ (m 94 10).toInt ≤ 6 := rs_94_10 (m := m) hV
    have f2 : 0 ≤ (m 94 76).toInt ∧ (m 94 76).toInt ≤ 3100 := rs_94_76 (m := m) hV
    have f3 : 0 ≤ (m 94 75).toInt ∧ (m 94 75).toInt ≤ 3100 := rs_94_75 (m := m) hV
    have f4 : 0 ≤ (m 94 16).toInt ∧ (m 94 16).toInt ≤ 64 := rs_94_16 (m := m) hV
    have f5 : 0 ≤ (m 94 60).toInt ∧ (m 94 60).toInt ≤ 1600 := rs_94_60 (m := m) hV
    have b6 := i_bd l3
    first | have f7 : 0 ≤ (m 103 l3.toNatClampNeg).toInt ∧ (m 103 l3.toNatClampNeg).toInt ≤ 4599 := ra_103 (m := m) hV (k := l3.toNatClampNeg) (i_ix (n := 3100) (by omega) (by omega)).2 | have b8 := i_bd (m 103 l3.toNatClampNeg)
    have hg9 : (0 ≤ l3 ∧ l3.toNatClampNeg < 3100) := i_ix (by omega) (by omega)
    refine ⟨hg9, ?_⟩
    first | have f10 : 0 ≤ (m 102 l3.toNatClampNeg).toInt ∧ (m 102 l3.toNatClampNeg).toInt ≤ 60 := ra_102 (m := m) hV (k := l3.toNatClampNeg) (i_ix (n := 3100) (by omega) (by omega)).2 | have b11 := i_bd (m 102 l3.toNatClampNeg)
    have b12 := i_bd l4
    refine zd (fun (h13 : (m 102 l3.toNatClampNeg) ≤ l4) => ?_) (fun (h13 : ¬ (m 102 l3.toNatClampNeg) ≤ l4) => ?_)
    · skip
      have g14 := i_le h13
      have hg15 : (0 ≤ l3 ∧ l3.toNatClampNeg < 3100) := i_ix (by omega) (by omega)
      refine ⟨hg15, ?_⟩
      try have tc2 := tn_cast (x := l2) (by omega)
      try have ow2 := r_OW l2.toNatClampNeg (by omega) (by omega)
      try have hsn := sm_nn (b := zbN1 (m 99) (m 110) (m 104) (m 94 15)) (ws := m 102) (n := 3100) (fun t ht => (ra_102 hV ht).1)
      try have h3a := (r_H3 (by omega)).2.1
      have b16 := i_bd l1
      have b17 := i_bd l2
      first | have e18 : ((m 102 l3.toNatClampNeg) + (1 : Int32)).toInt = (m 102 l3.toNatClampNeg).toInt + (1) := i_addk rfl (by omega) (by omega) | have b19 := i_bd ((m 102 l3.toNatClampNeg) + (1 : Int32))
      first | have e20 : (l2 + ((m 102 l3.toNatClampNeg) + (1 : Int32))).toInt = l2.toInt + ((m 102 l3.toNatClampNeg) + (1 : Int32)).toInt := i_add (by omega) (by omega) | have b21 := i_bd (l2 + ((m 102 l3.toNatClampNeg) + (1 : Int32)))
      exact OUT2 _ (l1) ((l2 + ((m 102 l3.toNatClampNeg) + (1 : Int32)))) (show (l1.toInt - (l2 + ((m 102 l3.toNatClampNeg) + (1 : Int32))).toInt).toNat < n2 from by omega) hF hV (by omega) (by omega) (show (m 94 10).toInt = 3 from by omega) r_CMK r_OW r_H2 r_H3 (show (m 94 76).toInt ≤ (m 94 75).toInt from by omega) r_KU r_W r_DX (show 4 ≤ (m 94 16).toInt from by omega) (show l1.toInt ≤ (m 94 60).toInt from by omega) r_DK (show zCQ (m 110) (m 98) (m 101) (m 102) (m 108) (m 119) (m 94 76) (m 94 75) (zXX (m 99) (m 103) (l2 + ((m 102 l3.toNatClampNeg) + (1 : Int32))).toInt l1.toInt) 3100 0 from by first | (exact CQ_over (s := l3.toNatClampNeg) r_CQ (r_H3 (by omega)).2.2.2.1 (by omega) (by omega) r_USd (by omega) (by omega) (fun i2 hi2 => r_UP i2 (by have := tn_cast (x := l4) (by omega); omega)) (by omega) (by omega)) | (exfalso; omega; done) | (exfalso; contradiction; done)) r_KMd
    · skip
      have g22 := i_nle h13
      have hg23 : (0 ≤ l3 ∧ l3.toNatClampNeg < 3100) := i_ix (by omega) (by omega)
      refine ⟨hg23, ?_⟩
      have hg24 : (m 94 16) ≠ 0 := i_nz (by omega)
      refine ⟨hg24, ?_⟩
      first | have e25 : ((m 103 l3.toNatClampNeg) + (1 : Int32)).toInt = (m 103 l3.toNatClampNeg).toInt + (1) := i_addk rfl (by omega) (by omega) | have b26 := i_bd ((m 103 l3.toNatClampNeg) + (1 : Int32))
      first | have e27 : (((m 103 l3.toNatClampNeg) + (1 : Int32)) + l4).toInt = ((m 103 l3.toNatClampNeg) + (1 : Int32)).toInt + l4.toInt := i_add (by omega) (by omega) | have b28 := i_bd (((m 103 l3.toNatClampNeg) + (1 : Int32)) + l4)
      first | have f29 := i_div (x := (((m 103 l3.toNatClampNeg) + (1 : Int32)) + l4)) (y := (m 94 16)) (by omega) (by omega) | have b30 := i_bd ((((m 103 l3.toNatClampNeg) + (1 : Int32)) + l4) / (m 94 16))
      try have dv : 0 ≤ (((((m 103 l3.toNatClampNeg) + (1 : Int32)) + l4) / (m 94 16))).toInt ∧ (((((m 103 l3.toNatClampNeg) + (1 : Int32)) + l4) / (m 94 16))).toInt ≤ 499 := i_div4 (by omega) (by omega) (by omega)
      have hg31 : (0 ≤ ((((m 103 l3.toNatClampNeg) + (1 : Int32)) + l4) / (m 94 16)) ∧ ((((m 103 l3.toNatClampNeg) + (1 : Int32)) + l4) / (m 94 16)).toNatClampNeg < 512) := i_ix (by omega) (by omega)
      refine ⟨hg31, ?_⟩
      first | have f32 : 0 ≤ (m 117 ((((m 103 l3.toNatClampNeg) + (1 : Int32)) + l4) / (m 94 16)).toNatClampNeg).toInt ∧ (m 117 ((((m 103 l3.toNatClampNeg) + (1 : Int32)) + l4) / (m 94 16)).toNatClampNeg).toInt ≤ 1 := ra_117 (m := m) hV (k := ((((m 103 l3.toNatClampNeg) + (1 : Int32)) + l4) / (m 94 16)).toNatClampNeg) (i_ix (n := 512) (by omega) (by omega)).2 | have b33 := i_bd (m 117 ((((m 103 l3.toNatClampNeg) + (1 : Int32)) + l4) / (m 94 16)).toNatClampNeg)
      have li34 : (0 : Int32).toInt = 0 := rfl
      refine zd (fun (h35 : (m 117 ((((m 103 l3.toNatClampNeg) + (1 : Int32)) + l4) / (m 94 16)).toNatClampNeg) = (0 : Int32)) => ?_) (fun (h35 : ¬ (m 117 ((((m 103 l3.toNatClampNeg) + (1 : Int32)) + l4) / (m 94 16)).toNatClampNeg) = (0 : Int32)) => ?_)
      · skip
        have g36 := i_eq h35
        try have tc2 := tn_cast (x := l2) (by omega)
        try have ow2 := r_OW l2.toNatClampNeg (by omega) (by omega)
        try have hsn := sm_nn (b := zbN1 (m 99) (m 110) (m 104) (m 94 15)) (ws := m 102) (n := 3100) (fun t ht => (ra_102 hV ht).1)
        try have h3a := (r_H3 (by omega)).2.1
        have b37 := i_bd l1
        have b38 := i_bd l2
        first | have e39 : (l4 + (1 : Int32)).toInt = l4.toInt + (1) := i_addk rfl (by omega) (by omega) | have b40 := i_bd (l4 + (1 : Int32))
        exact IH (61 - (l4 + (1 : Int32)).toInt).toNat (by omega) _ (l1) (l2) (l3) ((l4 + (1 : Int32))) rfl hF hV (by omega) (by omega) (by omega) (by omega) (by omega) (by omega) (by omega) (show (m 94 10).toInt = 3 from by omega) r_CMK r_OW r_H2 r_H3 (show (m 94 76).toInt ≤ (m 94 75).toInt from by omega) r_KU r_W r_DX (show 4 ≤ (m 94 16).toInt from by omega) (show l1.toInt ≤ (m 94 60).toInt from by omega) r_DK r_CQ r_KMd r_USd (show (m 103 l3.toNatClampNeg).toInt = l2.toInt from by omega) (show zUP (m 110) (m 98) (m 101) (m 108) l3.toNatClampNeg (l4 + (1 : Int32)).toNatClampNeg from by first | (exact UP_adv r_UP zle_rfl ((r_DK _ (by omega) r_USd (by omega) l4.toNatClampNeg (by have := tn_cast (x := l4) (by omega); omega)).elim id (fun z => absurd (by rw [← (card_ix (by omega) (by omega) (by omega) (by omega) (by omega))]; assumption) z)) (tn_succ (by omega) (by omega)) (fun i2 hi2 => W_hi r_W _ (by omega) i2 (by have := tn_cast (x := l4) (by omega); omega))) | (exfalso; omega; done) | (exfalso; contradiction; done))
      · skip
        have g41 := i_ne h35
        refine sp_192 (l3) (l4) hV (by omega) (by omega) (by omega) (show l4.toInt < (m 102 l3.toNatClampNeg).toInt from by omega) (fun v2 m1 hV_m1 p0_m1 => zmi_n ?_)
        have p0_m1 : v2 = zrf (m 98) (m 101) (m 108) l3.toNatClampNeg l4.toNatClampNeg := p0_m1
        try have := W_ref r_W (by omega) (by omega) (by omega) (by omega) p0_m1
        have b42 := i_bd v2
        refine sp_207 (XX := (zXX (m 99) (m 103) l2.toInt l1.toInt)) (CU := 3100) (II := 0) (v2) hV_m1 (by omega) (by omega) (show (m 94 10).toInt = 2 ∨ (m 94 10).toInt = 3 from by omega) (show v2.toInt < 0 ∨ (m 99) v2.toNatClampNeg ≠ 0 from by first | (rw [p0_m1]; exact ((r_DX (by omega)).2.2.2 l3.toNatClampNeg (by omega) r_USd l4.toNatClampNeg (by have := tn_cast (x := l4) (by omega); omega)); done) | (exfalso; omega; done) | (exfalso; contradiction; done)) r_CMK r_OW r_H2 r_H3 (show (m 94 76).toInt ≤ (m 94 75).toInt from by omega) r_CQ r_KU (fun m3 hV_m3 p0_m3 p1_m3 p2_m3 p3_m3 p4_m3 p5_m3 p6_m3 p7_m3 p8_m3 p9_m3 p10_m3 => zmv_n ?_)
        have p0_m3 : zKS (m3 110) (m3 94 75) := p0_m3
        have p1_m3 : zOw (m 99) (m3 103) (m3 111) := p1_m3
        have p2_m3 : zH2 (m 94 10) (m 94 11) (m 94 61) (m3 94 77) (m 99) (m3 110) (m 102) := p2_m3
        have p3_m3 : zH3 (m 94 10) (m 94 13) (m 94 14) (m 94 15) (m 94 61) (m3 94 77) (m3 94 60) (m 99) (m3 110) (m3 104) (m 102) (m3 103) (m3 111) := p3_m3
        have p4_m3 : v2.toInt < 0 ∨ (m3 110) v2.toNatClampNeg ≠ 0 := p4_m3
        have p5_m3 : zle (m 110) (m3 110) := p5_m3
        have p6_m3 : (m 94 76).toInt ≤ (m3 94 75).toInt := p6_m3
        have p7_m3 : zCQ (m3 110) (m 98) (m 101) (m 102) (m 108) (m3 119) (m 94 76) (m3 94 75) (zXX (m 99) (m 103) l2.toInt l1.toInt) 3100 0 := p7_m3
        have p8_m3 : zKU (m 94 10) (m 99) (m3 110) := p8_m3
        have p9_m3 : (m 94 10).toInt = 3 → zax (m 103) (m3 103) (m 94 60).toInt := p9_m3
        have p10_m3 : (m 94 60).toInt ≤ (m3 94 60).toInt := p10_m3
        have f43 : 0 ≤ (m3 94 75).toInt ∧ (m3 94 75).toInt ≤ 3100 := rs_94_75 (m := (zov wr_207 (zov wr_192 m m1) m3)) hV_m3
        have f44 : 0 ≤ (m3 94 60).toInt ∧ (m3 94 60).toInt ≤ 1600 := rs_94_60 (m := (zov wr_207 (zov wr_192 m m1) m3)) hV_m3
        try have axs := ax_at (p9_m3 (by omega)) (s := l3.toNatClampNeg) (p := l2.toInt) (by omega) (by omega) (by omega)
        try have tc2 := tn_cast (x := l2) (by omega)
        try have ow2 := p1_m3 l2.toNatClampNeg (by omega) (by omega)
        try have hsn := sm_nn (b := zbN1 (m 99) (m 110) (m 104) (m 94 15)) (ws := m 102) (n := 3100) (fun t ht => (ra_102 hV ht).1)
        try have h3a := (r_H3 (by omega)).2.1
        have b45 := i_bd l1
        have b46 := i_bd l2
        first | have e47 : (l4 + (1 : Int32)).toInt = l4.toInt + (1) := i_addk rfl (by omega) (by omega) | have b48 := i_bd (l4 + (1 : Int32))
        first | have f49 : 0 ≤ (m3 103 l3.toNatClampNeg).toInt ∧ (m3 103 l3.toNatClampNeg).toInt ≤ 4599 := ra_103 (m := (zov wr_207 (zov wr_192 m m1) m3)) hV_m3 (k := l3.toNatClampNeg) (i_ix (n := 3100) (by omega) (by omega)).2 | have b50 := i_bd (m3 103 l3.toNatClampNeg)
        exact IH (61 - (l4 + (1 : Int32)).toInt).toNat (by omega) _ (l1) (l2) (l3) ((l4 + (1 : Int32))) rfl (zF_zov (zF_zov hF ws_192_216) ws_207_216) hV_m3 (by omega) (by omega) (by omega) (by omega) (by omega) (by omega) (by omega) (show (m 94 10).toInt = 3 from by omega) p0_m3 p1_m3 p2_m3 p3_m3 (show (m 94 76).toInt ≤ (m3 94 75).toInt from by omega) p8_m3 r_W r_DX (show 4 ≤ (m 94 16).toInt from by omega) (show l1.toInt ≤ (m3 94 60).toInt from by omega) (show zDK l1.toInt (m 94 16).toInt (m3 110) (m 99) (m3 103) (m 102) (m 98) (m 101) (m 108) (m 117) from by first | (exact DK_ax r_DK p5_m3 (p9_m3 (by omega)) (by omega) (W_hi r_W)) | (exfalso; omega; done) | (exfalso; contradiction; done)) (show zCQ (m3 110) (m 98) (m 101) (m 102) (m 108) (m3 119) (m 94 76) (m3 94 75) (zXX (m 99) (m3 103) l2.toInt l1.toInt) 3100 0 from by first | (exact CQ_ax p7_m3 (p9_m3 (by omega)) (by omega)) | (exfalso; omega; done) | (exfalso; contradiction; done)) (show zle (m0 110) (m3 110) from by first | (exact zle_tr r_KMd p5_m3) | (exfalso; omega; done) | (exfalso; contradiction; done)) r_USd (show (m3 103 l3.toNatClampNeg).toInt = l2.toInt from by omega) (show zUP (m3 110) (m 98) (m 101) (m 108) l3.toNatClampNeg (l4 + (1 : Int32)).toNatClampNeg from by first | (exact UP_adv r_UP p5_m3 (by unfold zcl; rw [← p0_m1]; exact p4_m3) (tn_succ (by omega) (by omega)) (fun i2 hi2 => W_hi r_W _ (by omega) i2 (by have := tn_cast (x := l4) (by omega); omega))) | (exact UP_adv r_UP zle_rfl ((r_DK _ (by omega) r_USd (by omega) l4.toNatClampNeg (by have := tn_cast (x := l4) (by omega); omega)).elim id (fun z => absurd (by rw [← (card_ix (by omega) (by omega) (by omega) (by omega) (by omega))]; assumption) z)) (tn_succ (by omega) (by omega)) (fun i2 hi2 => W_hi r_W _ (by omega) i2 (by have := tn_cast (x := l4) (by omega); omega))) | (exfalso; omega; done) | (exfalso; contradiction; done))
set_option maxHeartbeats 8000000 in
theorem lp_216_2 {X : Nat × (Nat → Int32)} {P : Option ma_V → (Nat → Nat → Int32) → Prop} {en : Int32} {m0 : Nat → Nat → Int32} (h0 : zV m0) (K : ∀ m₉, zF wr_216 m0 m₉ → zV m₉ → (zKS (m₉ 110) (m₉ 94 75)) → (zOw (m₉ 99) (m₉ 103) (m₉ 111)) → (zH2 (m₉ 94 10) (m₉ 94 11) (m₉ 94 61) (m₉ 94 77) (m₉ 99) (m₉ 110) (m₉ 102)) → (zH3 (m₉ 94 10) (m₉ 94 13) (m₉ 94 14) (m₉ 94 15) (m₉ 94 61) (m₉ 94 77) (m₉ 94 60) (m₉ 99) (m₉ 110) (m₉ 104) (m₉ 102) (m₉ 103) (m₉ 111)) → ((m₉ 94 76).toInt ≤ (m₉ 94 75).toInt) → (zKU (m₉ 94 10) (m₉ 99) (m₉ 110)) → (zle (m0 110) (m₉ 110)) → (zCQ (m₉ 110) (m₉ 98) (m₉ 101) (m₉ 102) (m₉ 108) (m₉ 119) (m₉ 94 76) (m₉ 94 75) (fun _ => False) 3100 0) → P none m₉) : ∀ (n : Nat) (m : Nat → Nat → Int32) (l1 : Int32) (l2 : Int32), (l1.toInt - l2.toInt).toNat = n → zF wr_216 m0 m → zV m → (0 ≤ l2.toInt) → (l1.toInt = en.toInt) → ((m 94 10).toInt = 3) → (zKS (m 110) (m 94 75)) → (zOw (m 99) (m 103) (m 111)) → (zH2 (m 94 10) (m 94 11) (m 94 61) (m 94 77) (m 99) (m 110) (m 102)) → (zH3 (m 94 10) (m 94 13) (m 94 14) (m 94 15) (m 94 61) (m 94 77) (m 94 60) (m 99) (m 110) (m 104) (m 102) (m 103) (m 111)) → ((m 94 76).toInt ≤ (m 94 75).toInt) → (zKU (m 94 10) (m 99) (m 110)) → (zW (m 94 7) (m 98) (m 101) (m 102) (m 108)) → (zDX (m 94 10) (m 99) (m 112) (m 113) (m 114) (m 94 55) (m 98) (m 101) (m 102) (m 108)) → (4 ≤ (m 94 16).toInt) → (l1.toInt ≤ (m 94 60).toInt) → (zDK l1.toInt (m 94 16).toInt (m 110) (m 99) (m 103) (m 102) (m 98) (m 101) (m 108) (m 117)) → (zCQ (m 110) (m 98) (m 101) (m 102) (m 108) (m 119) (m 94 76) (m 94 75) (zXX (m 99) (m 103) l2.toInt l1.toInt) 3100 0) → (zle (m0 110) (m 110)) → zm X 3 64 216 2 [(0, .inr (.inr (some 94))), (1, .inl l1), (2, .inl l2)] m P := by
  intro n
  induction n using Nat.strongRecOn with
  | _ n IH =>
    intro m l1 l2 hmu hF hV hi0 hi1 hi2 r_CMK r_OW r_H2 r_H3 hi7 r_KU r_W r_DX hi11 hi12 r_DK r_CQ r_KMd
    refine g_216_2 l1 l2 ?_
    have f1 : 0 ≤ (m 94 10).toInt ∧ (m 94 10).toInt ≤ 6 := rs_94_10 (m := m) hV
    have f2 : 0 ≤ (m 94 76).toInt ∧ (m 94 76).toInt ≤ 3100 := rs_94_76 (m := m) hV
    have f3 : 0 ≤ (m 94 75).toInt ∧ (m 94 75).toInt ≤ 3100 := rs_94_75 (m := m) hV
    have f4 : 0 ≤ (m 94 16).toInt ∧ (m 94 16).toInt ≤ 64 := rs_94_16 (m := m) hV
    have f5 : 0 ≤ (m 94 60).toInt ∧ (m 94 60).toInt ≤ 1600 := rs_94_60 (m := m) hV
    have b6 := i_bd l1
    have b7 := i_bd l2
    refine zd (fun (h8 : l1 ≤ l2) => ?_) (fun (h8 : ¬ l1 ≤ l2) => ?_)
    · skip
      have g9 := i_le h8
      try have tc2 := tn_cast (x := l2) (by omega)
      try have ow2 := r_OW l2.toNatClampNeg (by omega) (by omega)
      try have hsn := sm_nn (b := zbN1 (m 99) (m 110) (m 104) (m 94 15)) (ws := m 102) (n := 3100) (fun t ht => (ra_102 hV ht).1)
      try have h3a := (r_H3 (by omega)).2.1
      exact K _ hF hV r_CMK r_OW r_H2 r_H3 (show (m 94 76).toInt ≤ (m 94 75).toInt from by omega) r_KU r_KMd (show zCQ (m 110) (m 98) (m 101) (m 102) (m 108) (m 119) (m 94 76) (m 94 75) (fun _ => False) 3100 0 from by first | (exact CQ_no r_CQ (by omega)) | (exfalso; omega; done) | (exfalso; contradiction; done))
    · skip
      have g10 := i_nle h8
      have hg11 : (0 ≤ l2 ∧ l2.toNatClampNeg < 4600) := i_ix (by omega) (by omega)
      refine ⟨hg11, ?_⟩
      have li12 : (0 : Int32).toInt = 0 := rfl
      first | have f13 : -1 ≤ (m 111 l2.toNatClampNeg).toInt ∧ (m 111 l2.toNatClampNeg).toInt ≤ 3099 := ra_111 (m := m) hV (k := l2.toNatClampNeg) (i_ix (n := 4600) (by omega) (by omega)).2 | have b14 := i_bd (m 111 l2.toNatClampNeg)
      refine zd (fun (h15 : (0 : Int32) ≤ (m 111 l2.toNatClampNeg)) => ?_) (fun (h15 : ¬ (0 : Int32) ≤ (m 111 l2.toNatClampNeg)) => ?_)
      · skip
        have g16 := i_le h15
        try have tc2 := tn_cast (x := l2) (by omega)
        try have ow2 := r_OW l2.toNatClampNeg (by omega) (by omega)
        try have hsn := sm_nn (b := zbN1 (m 99) (m 110) (m 104) (m 94 15)) (ws := m 102) (n := 3100) (fun t ht => (ra_102 hV ht).1)
        try have h3a := (r_H3 (by omega)).2.1
        first | have f17 : 0 ≤ (m 103 (m 111 l2.toNatClampNeg).toNatClampNeg).toInt ∧ (m 103 (m 111 l2.toNatClampNeg).toNatClampNeg).toInt ≤ 4599 := ra_103 (m := m) hV (k := (m 111 l2.toNatClampNeg).toNatClampNeg) (i_ix (n := 3100) (by omega) (by omega)).2 | have b18 := i_bd (m 103 (m 111 l2.toNatClampNeg).toNatClampNeg)
        exact lp_216_27 (en := en) h0 K (fun _ _ _ z1 z2 z3 y0 y1 y2 y3 y4 y5 y6 y7 y8 y9 y10 y11 y12 y13 y14 y15 => IH _ z1 _ _ _ rfl z2 z3 y0 y1 y2 y3 y4 y5 y6 y7 y8 y9 y10 y11 y12 y13 y14 y15) _ _ (l1) (l2) ((m 111 l2.toNatClampNeg)) ((0 : Int32)) rfl hF hV (by omega) (by omega) (by omega) (by omega) (by omega) (by omega) (by omega) (show (m 94 10).toInt = 3 from by omega) r_CMK r_OW r_H2 r_H3 (show (m 94 76).toInt ≤ (m 94 75).toInt from by omega) r_KU r_W r_DX (show 4 ≤ (m 94 16).toInt from by omega) (show l1.toInt ≤ (m 94 60).toInt from by omega) r_DK r_CQ r_KMd (show (m 99) (m 111 l2.toNatClampNeg).toNatClampNeg ≠ 0 from by first | (exact (r_OW l2.toNatClampNeg (by omega) (by omega)).1) | (exfalso; omega; done) | (exfalso; contradiction; done)) (show (m 103 (m 111 l2.toNatClampNeg).toNatClampNeg).toInt = l2.toInt from by omega) (show zUP (m 110) (m 98) (m 101) (m 108) (m 111 l2.toNatClampNeg).toNatClampNeg (0 : Int32).toNatClampNeg from by first | (exact fun i2 hi2 => absurd hi2 (Nat.not_lt_zero _)) | (exfalso; omega; done) | (exfalso; contradiction; done))
      · skip
        have g19 := i_nle h15
        try have tc2 := tn_cast (x := l2) (by omega)
        try have ow2 := r_OW l2.toNatClampNeg (by omega) (by omega)
        try have hsn := sm_nn (b := zbN1 (m 99) (m 110) (m 104) (m 94 15)) (ws := m 102) (n := 3100) (fun t ht => (ra_102 hV ht).1)
        try have h3a := (r_H3 (by omega)).2.1
        first | have e20 : (l2 + (1 : Int32)).toInt = l2.toInt + (1) := i_addk rfl (by omega) (by omega) | have b21 := i_bd (l2 + (1 : Int32))
        exact IH (l1.toInt - (l2 + (1 : Int32)).toInt).toNat (by omega) _ (l1) ((l2 + (1 : Int32))) rfl hF hV (by omega) (by omega) (show (m 94 10).toInt = 3 from by omega) r_CMK r_OW r_H2 r_H3 (show (m 94 76).toInt ≤ (m 94 75).toInt from by omega) r_KU r_W r_DX (show 4 ≤ (m 94 16).toInt from by omega) (show l1.toInt ≤ (m 94 60).toInt from by omega) r_DK (show zCQ (m 110) (m 98) (m 101) (m 102) (m 108) (m 119) (m 94 76) (m 94 75) (zXX (m 99) (m 103) (l2 + (1 : Int32)).toInt l1.toInt) 3100 0 from by first | (exact CQ_skip r_CQ (r_H3 (by omega)).2.2.2.1 (by omega) (show (m 111 l2.toNatClampNeg).toInt < 0 by omega) (by omega) (by omega)) | (exfalso; omega; done) | (exfalso; contradiction; done)) r_KMd
set_option maxHeartbeats 8000000 in
theorem sp_216 {X : Nat × (Nat → Int32)} {P : Option ma_V → (Nat → Nat → Int32) → Prop} {m : Nat → Nat → Int32} (en : Int32) (hV : zV m) (hpre0 : 0 ≤ en.toInt) (hpre1 : (m 94 10).toInt = 3) (r_CMK : zKS (m 110) (m 94 75)) (r_OW : zOw (m 99) (m 103) (m 111)) (r_H2 : zH2 (m 94 10) (m 94 11) (m 94 61) (m 94 77) (m 99) (m 110) (m 102)) (r_H3 : zH3 (m 94 10) (m 94 13) (m 94 14) (m 94 15) (m 94 61) (m 94 77) (m 94 60) (m 99) (m 110) (m 104) (m 102) (m 103) (m 111)) (hpre6 : (m 94 76).toInt ≤ (m 94 75).toInt) (r_KU : zKU (m 94 10) (m 99) (m 110)) (r_W : zW (m 94 7) (m 98) (m 101) (m 102) (m 108)) (r_DX : zDX (m 94 10) (m 99) (m 112) (m 113) (m 114) (m 94 55) (m 98) (m 101) (m 102) (m 108)) (hpre10 : 4 ≤ (m 94 16).toInt) (hpre11 : en.toInt ≤ (m 94 60).toInt) (r_DK : zDK en.toInt (m 94 16).toInt (m 110) (m 99) (m 103) (m 102) (m 98) (m 101) (m 108) (m 117)) (r_CQ : zCQ (m 110) (m 98) (m 101) (m 102) (m 108) (m 119) (m 94 76) (m 94 75) (zXX (m 99) (m 103) (0 : Int32).toInt en.toInt) 3100 0) (KZ : ∀ m₉, zV (zov wr_216 m m₉) → (zKS (m₉ 110) (m₉ 94 75)) → (zOw (m 99) (m₉ 103) (m₉ 111)) → (zH2 (m 94 10) (m 94 11) (m 94 61) (m₉ 94 77) (m 99) (m₉ 110) (m 102)) → (zH3 (m 94 10) (m 94 13) (m 94 14) (m 94 15) (m 94 61) (m₉ 94 77) (m₉ 94 60) (m 99) (m₉ 110) (m₉ 104) (m 102) (m₉ 103) (m₉ 111)) → ((m 94 76).toInt ≤ (m₉ 94 75).toInt) → (zKU (m 94 10) (m 99) (m₉ 110)) → (zle (m 110) (m₉ 110)) → (zCQ (m₉ 110) (m 98) (m 101) (m 102) (m 108) (m₉ 119) (m 94 76) (m₉ 94 75) (fun _ => False) 3100 0) → P none (zov wr_216 m m₉)) : zm X 3 64 216 0 [(0, .inr (.inr (some 94))), (1, .inl en)] m P := by
  have K : ∀ m₉, zF wr_216 m m₉ → zV m₉ → (zKS (m₉ 110) (m₉ 94 75)) → (zOw (m₉ 99) (m₉ 103) (m₉ 111)) → (zH2 (m₉ 94 10) (m₉ 94 11) (m₉ 94 61) (m₉ 94 77) (m₉ 99) (m₉ 110) (m₉ 102)) → (zH3 (m₉ 94 10) (m₉ 94 13) (m₉ 94 14) (m₉ 94 15) (m₉ 94 61) (m₉ 94 77) (m₉ 94 60) (m₉ 99) (m₉ 110) (m₉ 104) (m₉ 102) (m₉ 103) (m₉ 111)) → ((m₉ 94 76).toInt ≤ (m₉ 94 75).toInt) → (zKU (m₉ 94 10) (m₉ 99) (m₉ 110)) → (zle (m 110) (m₉ 110)) → (zCQ (m₉ 110) (m₉ 98) (m₉ 101) (m₉ 102) (m₉ 108) (m₉ 119) (m₉ 94 76) (m₉ 94 75) (fun _ => False) 3100 0) → P none m₉ := by
    intro m₉ hf z q0 q1 q2 q3 q4 q5 q6 q7
    have e := zov_eq hf
    rw [e] at z ⊢
    try rw [e] at q0
    try rw [e] at q1
    try rw [e] at q2
    try rw [e] at q3
    try rw [e] at q4
    try rw [e] at q5
    try rw [e] at q6
    try rw [e] at q7
    exact KZ m₉ z q0 q1 q2 q3 q4 q5 q6 q7
  refine g_216_0 en ?_
  have f1 : 0 ≤ (m 94 10).toInt ∧ (m 94 10).toInt ≤ 6 := rs_94_10 (m := m) hV
  have f2 : 0 ≤ (m 94 76).toInt ∧ (m 94 76).toInt ≤ 3100 := rs_94_76 (m := m) hV
  have f3 : 0 ≤ (m 94 75).toInt ∧ (m 94 75).toInt ≤ 3100 := rs_94_75 (m := m) hV
  have f4 : 0 ≤ (m 94 16).toInt ∧ (m 94 16).toInt ≤ 64 := rs_94_16 (m := m) hV
  have f5 : 0 ≤ (m 94 60).toInt ∧ (m 94 60).toInt ≤ 1600 := rs_94_60 (m := m) hV
  try have tc2 := tn_cast (x := l2) (by omega)
  try have ow2 := r_OW l2.toNatClampNeg (by omega) (by omega)
  try have hsn := sm_nn (b := zbN1 (m 99) (m 110) (m 104) (m 94 15)) (ws := m 102) (n := 3100) (fun t ht => (ra_102 hV ht).1)
  try have h3a := (r_H3 (by omega)).2.1
  have b6 := i_bd en
  have li7 : (0 : Int32).toInt = 0 := rfl
  exact lp_216_2 (en := en) hV K _ _ (en) ((0 : Int32)) rfl zF_rfl hV (by omega) (by omega) (show (m 94 10).toInt = 3 from by omega) r_CMK r_OW r_H2 r_H3 (show (m 94 76).toInt ≤ (m 94 75).toInt from by omega) r_KU r_W r_DX (show 4 ≤ (m 94 16).toInt from by omega) (show en.toInt ≤ (m 94 60).toInt from by omega) r_DK r_CQ (show zle (m 110) (m 110) from by first | (exact zle_rfl) | (exfalso; omega; done) | (exfalso; contradiction; done))

