/-! from 94.472 -/
/-! the reference (written by wip/tools/gen94m.py) -/
set_option maxRecDepth 100000 in
theorem hm_212 : ma_md 212 = some (12, yX12_findDirty, cX12_findDirty, 4, none) := rfl
theorem dX12_findDirty_0 : decode cX12_findDirty 0 = .ok (.iconst 0, 1) := by decide +kernel
theorem dX12_findDirty_1 : decode cX12_findDirty 1 = .ok (.istore_n 1, 1) := by decide +kernel
theorem dX12_findDirty_2 : decode cX12_findDirty 2 = .ok (.iload_n 1, 1) := by decide +kernel
theorem dX12_findDirty_3 : decode cX12_findDirty 3 = .ok (.aload_n 0, 1) := by decide +kernel
theorem dX12_findDirty_7 : decode cX12_findDirty 7 = .ok (.arraylength, 1) := by decide +kernel
theorem dX12_findDirty_24 : decode cX12_findDirty 24 = .ok (.iconst 0, 1) := by decide +kernel
theorem dX12_findDirty_25 : decode cX12_findDirty 25 = .ok (.istore_n 1, 1) := by decide +kernel
theorem dX12_findDirty_11 : decode cX12_findDirty 11 = .ok (.aload_n 0, 1) := by decide +kernel
theorem dX12_findDirty_15 : decode cX12_findDirty 15 = .ok (.iload_n 1, 1) := by decide +kernel
theorem dX12_findDirty_16 : decode cX12_findDirty 16 = .ok (.iconst 0, 1) := by decide +kernel
theorem dX12_findDirty_18 : decode cX12_findDirty 18 = .ok (.iinc 1 1, 3) := by decide +kernel
theorem dX12_findDirty_21 : decode cX12_findDirty 21 = .ok (.goto (-19), 3) := by decide +kernel
theorem dX12_findDirty_17 : decode cX12_findDirty 17 = .ok (.bastore, 1) := by decide +kernel
theorem dX12_findDirty_12 : decode cX12_findDirty 12 = .ok (.getfield 83, 3) := by decide +kernel
theorem dX12_findDirty_8 : decode cX12_findDirty 8 = .ok (.if_icmp .ge 16, 3) := by decide +kernel
theorem dX12_findDirty_4 : decode cX12_findDirty 4 = .ok (.getfield 83, 3) := by decide +kernel
theorem dX12_findDirty_26 : decode cX12_findDirty 26 = .ok (.iload_n 1, 1) := by decide +kernel
theorem dX12_findDirty_27 : decode cX12_findDirty 27 = .ok (.sipush 3100, 3) := by decide +kernel
theorem dX12_findDirty_108 : decode cX12_findDirty 108 = .ok (.return_, 1) := by decide +kernel
theorem dX12_findDirty_33 : decode cX12_findDirty 33 = .ok (.aload_n 0, 1) := by decide +kernel
theorem dX12_findDirty_37 : decode cX12_findDirty 37 = .ok (.iload_n 1, 1) := by decide +kernel
theorem dX12_findDirty_102 : decode cX12_findDirty 102 = .ok (.iinc 1 1, 3) := by decide +kernel
theorem dX12_findDirty_105 : decode cX12_findDirty 105 = .ok (.goto (-79), 3) := by decide +kernel
theorem dX12_findDirty_42 : decode cX12_findDirty 42 = .ok (.aload_n 0, 1) := by decide +kernel
theorem dX12_findDirty_43 : decode cX12_findDirty 43 = .ok (.iload_n 1, 1) := by decide +kernel
theorem dX12_findDirty_44 : decode cX12_findDirty 44 = .ok (.invokevirtual 314, 3) := by decide +kernel
theorem dX12_findDirty_47 : decode cX12_findDirty 47 = .ok (.ifCond .ne 6, 3) := by decide +kernel
theorem dX12_findDirty_50 : decode cX12_findDirty 50 = .ok (.goto 52, 3) := by decide +kernel
theorem dX12_findDirty_53 : decode cX12_findDirty 53 = .ok (.iconst 0, 1) := by decide +kernel
theorem dX12_findDirty_54 : decode cX12_findDirty 54 = .ok (.istore_n 2, 1) := by decide +kernel
theorem dX12_findDirty_39 : decode cX12_findDirty 39 = .ok (.ifCond .eq 63, 3) := by decide +kernel
theorem dX12_findDirty_38 : decode cX12_findDirty 38 = .ok (.baload, 1) := by decide +kernel
theorem dX12_findDirty_34 : decode cX12_findDirty 34 = .ok (.getfield 27, 3) := by decide +kernel
theorem dX12_findDirty_30 : decode cX12_findDirty 30 = .ok (.if_icmp .ge 78, 3) := by decide +kernel
theorem dX12_findDirty_55 : decode cX12_findDirty 55 = .ok (.iload_n 2, 1) := by decide +kernel
theorem dX12_findDirty_56 : decode cX12_findDirty 56 = .ok (.aload_n 0, 1) := by decide +kernel
theorem dX12_findDirty_60 : decode cX12_findDirty 60 = .ok (.iload_n 1, 1) := by decide +kernel
theorem dX12_findDirty_65 : decode cX12_findDirty 65 = .ok (.aload_n 0, 1) := by decide +kernel
theorem dX12_findDirty_66 : decode cX12_findDirty 66 = .ok (.iload_n 1, 1) := by decide +kernel
theorem dX12_findDirty_67 : decode cX12_findDirty 67 = .ok (.iload_n 2, 1) := by decide +kernel
theorem dX12_findDirty_68 : decode cX12_findDirty 68 = .ok (.invokevirtual 294, 3) := by decide +kernel
theorem dX12_findDirty_71 : decode cX12_findDirty 71 = .ok (.istore_n 3, 1) := by decide +kernel
theorem dX12_findDirty_72 : decode cX12_findDirty 72 = .ok (.iload_n 3, 1) := by decide +kernel
theorem dX12_findDirty_96 : decode cX12_findDirty 96 = .ok (.iinc 2 1, 3) := by decide +kernel
theorem dX12_findDirty_99 : decode cX12_findDirty 99 = .ok (.goto (-44), 3) := by decide +kernel
theorem dX12_findDirty_76 : decode cX12_findDirty 76 = .ok (.aload_n 0, 1) := by decide +kernel
theorem dX12_findDirty_77 : decode cX12_findDirty 77 = .ok (.iload_n 3, 1) := by decide +kernel
theorem dX12_findDirty_78 : decode cX12_findDirty 78 = .ok (.invokevirtual 314, 3) := by decide +kernel
theorem dX12_findDirty_81 : decode cX12_findDirty 81 = .ok (.ifCond .ne 15, 3) := by decide +kernel
theorem dX12_findDirty_84 : decode cX12_findDirty 84 = .ok (.aload_n 0, 1) := by decide +kernel
theorem dX12_findDirty_88 : decode cX12_findDirty 88 = .ok (.aload_n 0, 1) := by decide +kernel
theorem dX12_findDirty_89 : decode cX12_findDirty 89 = .ok (.iload_n 1, 1) := by decide +kernel
theorem dX12_findDirty_90 : decode cX12_findDirty 90 = .ok (.iload_n 2, 1) := by decide +kernel
theorem dX12_findDirty_91 : decode cX12_findDirty 91 = .ok (.invokevirtual 375, 3) := by decide +kernel
theorem dX12_findDirty_94 : decode cX12_findDirty 94 = .ok (.iconst 1, 1) := by decide +kernel
theorem dX12_findDirty_95 : decode cX12_findDirty 95 = .ok (.bastore, 1) := by decide +kernel
theorem dX12_findDirty_85 : decode cX12_findDirty 85 = .ok (.getfield 83, 3) := by decide +kernel
theorem dX12_findDirty_73 : decode cX12_findDirty 73 = .ok (.ifCond .lt 23, 3) := by decide +kernel
theorem dX12_findDirty_62 : decode cX12_findDirty 62 = .ok (.if_icmp .ge 40, 3) := by decide +kernel
theorem dX12_findDirty_61 : decode cX12_findDirty 61 = .ok (.iaload, 1) := by decide +kernel
theorem dX12_findDirty_57 : decode cX12_findDirty 57 = .ok (.getfield 37, 3) := by decide +kernel
def wr_212 (c _ : Nat) : Bool := Nat.beq c 117
theorem ws_192_212 : ∀ c k, wr_192 c k = true → wr_212 c k = true := fun _ _ h => by cases h
theorem g_212_0 {X : Nat × (Nat → Int32)} {m : Nat → Nat → Int32} {P : Option ma_V → (Nat → Nat → Int32) → Prop}  (h : zm X 2 44 212 2 [(0, .inr (.inr (some 94))), (1, .inl (0 : Int32))] m P) : zm X 2 44 212 0 [(0, .inr (.inr (some 94)))] m P := by
  intro d w S Q hd hw hS hm HQ
  subst hm
  refine zw_push hm_212 dX12_findDirty_0 (v := .inl (0 : Int32)) rfl ?_
  refine zw_sto hm_212 dX12_findDirty_1 [(1, .inl (0 : Int32)), (0, .inr (.inr (some 94)))] rfl rfl rfl ?_
  exact zw_sub (ma_nd_of (ks := [0, 1]) rfl (by decide)) (ma_nd_of (ks := [1, 0]) rfl (by decide)) (ma_le_cons rfl (ma_le_cons rfl (ma_le_nil _))) (h d w _ Q (by omega) (by omega) hS rfl HQ)
theorem g_212_2 {X : Nat × (Nat → Int32)} {m : Nat → Nat → Int32} {P : Option ma_V → (Nat → Nat → Int32) → Prop} (l1 : Int32) (h : if (512 : Int32) ≤ l1 then (zm X 2 44 212 26 [(0, .inr (.inr (some 94))), (1, .inl (0 : Int32))] m P) else ((0 ≤ l1 ∧ l1.toNatClampNeg < 512) ∧ (zm X 2 44 212 2 [(0, .inr (.inr (some 94))), (1, .inl (l1 + (1 : Int32)))] (ma_u m 117 l1.toNatClampNeg (0 : Int32)) P))) : zm X 2 44 212 2 [(0, .inr (.inr (some 94))), (1, .inl l1)] m P := by
  intro d w S Q hd hw hS hm HQ
  subst hm
  refine zw_push hm_212 dX12_findDirty_2 (v := .inl l1) rfl ?_
  refine zw_push hm_212 dX12_findDirty_3 (v := .inr (.inr (some 94))) rfl ?_
  refine zw_gf hm_212 dX12_findDirty_4 (v := .inr (.inr (some 117))) (zT_is hS s_94) (zT_t hS s_94) rfl f_12_83_12 (zT_f hS r_94_66) ?_
  refine zw_len hm_212 dX12_findDirty_7 (v := (512 : Int32)) (zT_is hS s_117) (zT_h hS s_117) rfl rfl ?_
  refine zw_if2 hm_212 dX12_findDirty_8 (t := 24) rfl zc2_ge ?_ ?_
  · intro hc
    rw [if_pos hc] at h
    refine zw_push hm_212 dX12_findDirty_24 (v := .inl (0 : Int32)) rfl ?_
    refine zw_sto hm_212 dX12_findDirty_25 [(1, .inl (0 : Int32)), (0, .inr (.inr (some 94)))] rfl rfl rfl ?_
    exact zw_sub (ma_nd_of (ks := [0, 1]) rfl (by decide)) (ma_nd_of (ks := [1, 0]) rfl (by decide)) (ma_le_cons rfl (ma_le_cons rfl (ma_le_nil _))) (h d w _ Q (by omega) (by omega) hS rfl HQ)
  · intro hc
    rw [if_neg hc] at h
    refine zw_push hm_212 dX12_findDirty_11 (v := .inr (.inr (some 94))) rfl ?_
    refine zw_gf hm_212 dX12_findDirty_12 (v := .inr (.inr (some 117))) (zT_is hS s_94) (zT_t hS s_94) rfl f_12_83_12 (zT_f hS r_94_66) ?_
    refine zw_push hm_212 dX12_findDirty_15 (v := .inl l1) rfl ?_
    refine zw_push hm_212 dX12_findDirty_16 (v := .inl (0 : Int32)) rfl ?_
    obtain ⟨hg, h⟩ := h
    refine zw_bas22l hm_212 dX12_findDirty_17 (hx := by decide) (yv := (0 : Int32)) (zT_is hS s_117) (zT_h hS s_117) rfl hg ?_
    refine zw_sto hm_212 dX12_findDirty_18 [(1, .inl (l1 + (1 : Int32))), (0, .inr (.inr (some 94)))] rfl rfl rfl ?_
    refine zw_goto hm_212 dX12_findDirty_21 (t := 2) rfl ?_
    exact zw_sub (ma_nd_of (ks := [0, 1]) rfl (by decide)) (ma_nd_of (ks := [1, 0]) rfl (by decide)) (ma_le_cons rfl (ma_le_cons rfl (ma_le_nil _))) (h d w _ Q (by omega) (by omega) (zT_pi hS) rfl HQ)
theorem g_212_26 {X : Nat × (Nat → Int32)} {m : Nat → Nat → Int32} {P : Option ma_V → (Nat → Nat → Int32) → Prop} (l1 : Int32) (h : if (3100 : Int32) ≤ l1 then (P none m) else ((0 ≤ l1 ∧ l1.toNatClampNeg < 3100) ∧ (if (m 99 l1.toNatClampNeg) = 0 then (zm X 2 44 212 26 [(0, .inr (.inr (some 94))), (1, .inl (l1 + (1 : Int32)))] m P) else ((0 ≤ l1 ∧ l1.toNatClampNeg < 3100) ∧ (if (m 94 14) ≤ (m 103 l1.toNatClampNeg) then (zm X 2 44 212 26 [(0, .inr (.inr (some 94))), (1, .inl (l1 + (1 : Int32)))] m P) else (zm X 2 44 212 55 [(0, .inr (.inr (some 94))), (1, .inl l1), (2, .inl (0 : Int32))] m P)))))) : zm X 2 44 212 26 [(0, .inr (.inr (some 94))), (1, .inl l1)] m P := by
  intro d w S Q hd hw hS hm HQ
  subst hm
  refine zw_push hm_212 dX12_findDirty_26 (v := .inl l1) rfl ?_
  refine zw_push hm_212 dX12_findDirty_27 (v := .inl (3100 : Int32)) rfl ?_
  refine zw_if2 hm_212 dX12_findDirty_30 (t := 108) rfl zc2_ge ?_ ?_
  · intro hc
    rw [if_pos hc] at h
    exact zw_vret hm_212 dX12_findDirty_108 (HQ _ _ h)
  · intro hc
    rw [if_neg hc] at h
    refine zw_push hm_212 dX12_findDirty_33 (v := .inr (.inr (some 94))) rfl ?_
    refine zw_gf hm_212 dX12_findDirty_34 (v := .inr (.inr (some 99))) (zT_is hS s_94) (zT_t hS s_94) rfl f_12_27_12 (zT_f hS r_94_31) ?_
    refine zw_push hm_212 dX12_findDirty_37 (v := .inl l1) rfl ?_
    obtain ⟨hg, h⟩ := h
    refine zw_ba hm_212 dX12_findDirty_38 (zT_is hS s_99) (zT_h hS s_99) rfl rfl hg ?_
    show ma_wp X d w 212 39 [(0, .inr (.inr (some 94))), (1, .inl l1)] [.inl ((mI S) 99 l1.toNatClampNeg)] S _
    refine zw_if0 hm_212 dX12_findDirty_39 (t := 102) rfl zc0_eq ?_ ?_
    · intro hc
      rw [if_pos hc] at h
      refine zw_sto hm_212 dX12_findDirty_102 [(1, .inl (l1 + (1 : Int32))), (0, .inr (.inr (some 94)))] rfl rfl rfl ?_
      refine zw_goto hm_212 dX12_findDirty_105 (t := 26) rfl ?_
      exact zw_sub (ma_nd_of (ks := [0, 1]) rfl (by decide)) (ma_nd_of (ks := [1, 0]) rfl (by decide)) (ma_le_cons rfl (ma_le_cons rfl (ma_le_nil _))) (h d w _ Q (by omega) (by omega) hS rfl HQ)
    · intro hc
      rw [if_neg hc] at h
      refine zw_push hm_212 dX12_findDirty_42 (v := .inr (.inr (some 94))) rfl ?_
      refine zw_push hm_212 dX12_findDirty_43 (v := .inl l1) rfl ?_
      refine zw_cv hm_212 dX12_findDirty_44 v_12_314_12 hm_196 [.inl l1] [] rfl (zT_rt hS s_94 rfl) ⟨by omega, by omega⟩ rfl ?_
      show ma_wp X (d - 1) (w - 21) 196 0 [(0, .inr (.inr (some 94))), (1, .inl l1)] [] S _
      refine zw_push hm_196 dX12_isOld_0 (v := .inr (.inr (some 94))) rfl ?_
      refine zw_gf hm_196 dX12_isOld_1 (v := .inr (.inr (some 103))) (zT_is hS s_94) (zT_t hS s_94) rfl f_12_40_12 (zT_f hS r_94_35) ?_
      refine zw_push hm_196 dX12_isOld_4 (v := .inl l1) rfl ?_
      obtain ⟨hg, h⟩ := h
      refine zw_ia hm_196 dX12_isOld_5 (zT_is hS s_103) (zT_h hS s_103) rfl hg ?_
      show ma_wp X (d - 1) (w - 21) 196 6 [(0, .inr (.inr (some 94))), (1, .inl l1)] [.inl ((mI S) 103 l1.toNatClampNeg)] S _
      refine zw_push hm_196 dX12_isOld_6 (v := .inr (.inr (some 94))) rfl ?_
      refine zw_gf hm_196 dX12_isOld_7 (v := .inl ((mI S) 94 14)) (zT_is hS s_94) (zT_t hS s_94) rfl f_12_210_12 rfl ?_
      refine zw_if2 hm_196 dX12_isOld_10 (t := 17) rfl zc2_ge ?_ ?_
      · intro hc
        rw [if_pos hc] at h
        refine zw_push hm_196 dX12_isOld_17 (v := .inl (0 : Int32)) rfl ?_
        refine zw_bret hm_196 dX12_isOld_18 (by decide) ?_
        show ma_wp X d w 212 47 [(0, .inr (.inr (some 94))), (1, .inl l1)] [.inl (0 : Int32)] S _
        refine zw_if0 hm_212 dX12_findDirty_47 (t := 53) rfl zc0_ne (fun hc => absurd hc (by decide)) (fun _ => ?_)
        refine zw_goto hm_212 dX12_findDirty_50 (t := 102) rfl ?_
        refine zw_sto hm_212 dX12_findDirty_102 [(1, .inl (l1 + (1 : Int32))), (0, .inr (.inr (some 94)))] rfl rfl rfl ?_
        refine zw_goto hm_212 dX12_findDirty_105 (t := 26) rfl ?_
        exact zw_sub (ma_nd_of (ks := [0, 1]) rfl (by decide)) (ma_nd_of (ks := [1, 0]) rfl (by decide)) (ma_le_cons rfl (ma_le_cons rfl (ma_le_nil _))) (h d w _ Q (by omega) (by omega) hS rfl HQ)
      · intro hc
        rw [if_neg hc] at h
        refine zw_push hm_196 dX12_isOld_13 (v := .inl (1 : Int32)) rfl ?_
        refine zw_goto hm_196 dX12_isOld_14 (t := 18) rfl ?_
        refine zw_bret hm_196 dX12_isOld_18 (by decide) ?_
        show ma_wp X d w 212 47 [(0, .inr (.inr (some 94))), (1, .inl l1)] [.inl (1 : Int32)] S _
        refine zw_if0 hm_212 dX12_findDirty_47 (t := 53) rfl zc0_ne (fun _ => ?_) (fun hc => absurd (by decide) hc)
        refine zw_push hm_212 dX12_findDirty_53 (v := .inl (0 : Int32)) rfl ?_
        refine zw_sto hm_212 dX12_findDirty_54 [(2, .inl (0 : Int32)), (0, .inr (.inr (some 94))), (1, .inl l1)] rfl rfl rfl ?_
        exact zw_sub (ma_nd_of (ks := [0, 1, 2]) rfl (by decide)) (ma_nd_of (ks := [2, 0, 1]) rfl (by decide)) (ma_le_cons rfl (ma_le_cons rfl (ma_le_cons rfl (ma_le_nil _)))) (h d w _ Q (by omega) (by omega) hS rfl HQ)
theorem g_212_55 {X : Nat × (Nat → Int32)} {m : Nat → Nat → Int32} {P : Option ma_V → (Nat → Nat → Int32) → Prop} (l1 : Int32) (l2 : Int32) (h : (0 ≤ l1 ∧ l1.toNatClampNeg < 3100) ∧ (if (m 102 l1.toNatClampNeg) ≤ l2 then (zm X 2 44 212 26 [(0, .inr (.inr (some 94))), (1, .inl (l1 + (1 : Int32)))] m P) else (zm X 1 22 192 0 [(0, .inr (.inr (some 94))), (1, .inl l1), (2, .inl l2)] m (zmi (fun v2 m1 => if v2 < 0 then (zm X 2 44 212 55 [(0, .inr (.inr (some 94))), (1, .inl l1), (2, .inl (l2 + (1 : Int32)))] m1 P) else ((0 ≤ v2 ∧ v2.toNatClampNeg < 3100) ∧ (if (m1 94 14) ≤ (m1 103 v2.toNatClampNeg) then ((0 ≤ l1 ∧ l1.toNatClampNeg < 3100) ∧ ((m1 94 16) ≠ 0 ∧ ((0 ≤ ((((m1 103 l1.toNatClampNeg) + (1 : Int32)) + l2) / (m1 94 16)) ∧ ((((m1 103 l1.toNatClampNeg) + (1 : Int32)) + l2) / (m1 94 16)).toNatClampNeg < 512) ∧ (zm X 2 44 212 55 [(0, .inr (.inr (some 94))), (1, .inl l1), (2, .inl (l2 + (1 : Int32)))] (ma_u m1 117 ((((m1 103 l1.toNatClampNeg) + (1 : Int32)) + l2) / (m1 94 16)).toNatClampNeg (1 : Int32)) P)))) else (zm X 2 44 212 55 [(0, .inr (.inr (some 94))), (1, .inl l1), (2, .inl (l2 + (1 : Int32)))] m1 P)))))))) : zm X 2 44 212 55 [(0, .inr (.inr (some 94))), (1, .inl l1), (2, .inl l2)] m P := by
  intro d w S Q hd hw hS hm HQ
  subst hm
  refine zw_push hm_212 dX12_findDirty_55 (v := .inl l2) rfl ?_
  refine zw_push hm_212 dX12_findDirty_56 (v := .inr (.inr (some 94))) rfl ?_
  refine zw_gf hm_212 dX12_findDirty_57 (v := .inr (.inr (some 102))) (zT_is hS s_94) (zT_t hS s_94) rfl f_12_37_12 (zT_f hS r_94_34) ?_
  refine zw_push hm_212 dX12_findDirty_60 (v := .inl l1) rfl ?_
  obtain ⟨hg, h⟩ := h
  refine zw_ia hm_212 dX12_findDirty_61 (zT_is hS s_102) (zT_h hS s_102) rfl hg ?_
  show ma_wp X d w 212 62 [(0, .inr (.inr (some 94))), (1, .inl l1), (2, .inl l2)] [.inl ((mI S) 102 l1.toNatClampNeg), .inl l2] S _
  refine zw_if2 hm_212 dX12_findDirty_62 (t := 102) rfl zc2_ge ?_ ?_
  · intro hc
    rw [if_pos hc] at h
    refine zw_sto hm_212 dX12_findDirty_102 [(1, .inl (l1 + (1 : Int32))), (0, .inr (.inr (some 94))), (2, .inl l2)] rfl rfl rfl ?_
    refine zw_goto hm_212 dX12_findDirty_105 (t := 26) rfl ?_
    exact zw_sub (ma_nd_of (ks := [0, 1]) rfl (by decide)) (ma_nd_of (ks := [1, 0, 2]) rfl (by decide)) (ma_le_cons rfl (ma_le_cons rfl (ma_le_nil _))) (h d w _ Q (by omega) (by omega) hS rfl HQ)
  · intro hc
    rw [if_neg hc] at h
    refine zw_push hm_212 dX12_findDirty_65 (v := .inr (.inr (some 94))) rfl ?_
    refine zw_push hm_212 dX12_findDirty_66 (v := .inl l1) rfl ?_
    refine zw_push hm_212 dX12_findDirty_67 (v := .inl l2) rfl ?_
    refine zw_cv hm_212 dX12_findDirty_68 v_12_294_12 hm_192 [.inl l2, .inl l1] [] rfl (zT_rt hS s_94 rfl) ⟨by omega, by omega⟩ rfl (h _ _ S _ (by omega) (by omega) hS rfl (fun o9 m1 hv => ?_))
    obtain ⟨v2, rfl, h⟩ := zmi_of hv
    show ma_wp X d w 212 71 [(0, .inr (.inr (some 94))), (1, .inl l1), (2, .inl l2)] [.inl v2] (zst S m1) _
    refine zw_sto hm_212 dX12_findDirty_71 [(3, .inl v2), (0, .inr (.inr (some 94))), (1, .inl l1), (2, .inl l2)] rfl rfl rfl ?_
    refine zw_push hm_212 dX12_findDirty_72 (v := .inl v2) rfl ?_
    refine zw_if0 hm_212 dX12_findDirty_73 (t := 96) rfl zc0_lt ?_ ?_
    · intro hc
      rw [if_pos hc] at h
      refine zw_sto hm_212 dX12_findDirty_96 [(2, .inl (l2 + (1 : Int32))), (3, .inl v2), (0, .inr (.inr (some 94))), (1, .inl l1)] rfl rfl rfl ?_
      refine zw_goto hm_212 dX12_findDirty_99 (t := 55) rfl ?_
      exact zw_sub (ma_nd_of (ks := [0, 1, 2]) rfl (by decide)) (ma_nd_of (ks := [2, 3, 0, 1]) rfl (by decide)) (ma_le_cons rfl (ma_le_cons rfl (ma_le_cons rfl (ma_le_nil _)))) (h d w _ Q (by omega) (by omega) (zT_zst hS m1) rfl HQ)
    · intro hc
      rw [if_neg hc] at h
      refine zw_push hm_212 dX12_findDirty_76 (v := .inr (.inr (some 94))) rfl ?_
      refine zw_push hm_212 dX12_findDirty_77 (v := .inl v2) rfl ?_
      refine zw_cv hm_212 dX12_findDirty_78 v_12_314_12 hm_196 [.inl v2] [] rfl (zT_rt (zT_zst hS m1) s_94 rfl) ⟨by omega, by omega⟩ rfl ?_
      show ma_wp X (d - 1) (w - 21) 196 0 [(0, .inr (.inr (some 94))), (1, .inl v2)] [] (zst S m1) _
      refine zw_push hm_196 dX12_isOld_0 (v := .inr (.inr (some 94))) rfl ?_
      refine zw_gf hm_196 dX12_isOld_1 (v := .inr (.inr (some 103))) (zT_is (zT_zst hS m1) s_94) (zT_t (zT_zst hS m1) s_94) rfl f_12_40_12 (zT_f (zT_zst hS m1) r_94_35) ?_
      refine zw_push hm_196 dX12_isOld_4 (v := .inl v2) rfl ?_
      obtain ⟨hg, h⟩ := h
      refine zw_ia hm_196 dX12_isOld_5 (zT_is (zT_zst hS m1) s_103) (zT_h (zT_zst hS m1) s_103) rfl hg ?_
      show ma_wp X (d - 1) (w - 21) 196 6 [(0, .inr (.inr (some 94))), (1, .inl v2)] [.inl (m1 103 v2.toNatClampNeg)] (zst S m1) _
      refine zw_push hm_196 dX12_isOld_6 (v := .inr (.inr (some 94))) rfl ?_
      refine zw_gf hm_196 dX12_isOld_7 (v := .inl (m1 94 14)) (zT_is (zT_zst hS m1) s_94) (zT_t (zT_zst hS m1) s_94) rfl f_12_210_12 rfl ?_
      refine zw_if2 hm_196 dX12_isOld_10 (t := 17) rfl zc2_ge ?_ ?_
      · intro hc
        rw [if_pos hc] at h
        refine zw_push hm_196 dX12_isOld_17 (v := .inl (0 : Int32)) rfl ?_
        refine zw_bret hm_196 dX12_isOld_18 (by decide) ?_
        show ma_wp X d w 212 81 [(3, .inl v2), (0, .inr (.inr (some 94))), (1, .inl l1), (2, .inl l2)] [.inl (0 : Int32)] (zst S m1) _
        refine zw_if0 hm_212 dX12_findDirty_81 (t := 96) rfl zc0_ne (fun hc => absurd hc (by decide)) (fun _ => ?_)
        refine zw_push hm_212 dX12_findDirty_84 (v := .inr (.inr (some 94))) rfl ?_
        refine zw_gf hm_212 dX12_findDirty_85 (v := .inr (.inr (some 117))) (zT_is (zT_zst hS m1) s_94) (zT_t (zT_zst hS m1) s_94) rfl f_12_83_12 (zT_f (zT_zst hS m1) r_94_66) ?_
        refine zw_push hm_212 dX12_findDirty_88 (v := .inr (.inr (some 94))) rfl ?_
        refine zw_push hm_212 dX12_findDirty_89 (v := .inl l1) rfl ?_
        refine zw_push hm_212 dX12_findDirty_90 (v := .inl l2) rfl ?_
        refine zw_cv hm_212 dX12_findDirty_91 v_12_375_12 hm_213 [.inl l2, .inl l1] [.inr (.inr (some 117))] rfl (zT_rt (zT_zst hS m1) s_94 rfl) ⟨by omega, by omega⟩ rfl ?_
        show ma_wp X (d - 1) (w - 22) 213 0 [(0, .inr (.inr (some 94))), (1, .inl l1), (2, .inl l2)] [] (zst S m1) _
        refine zw_push hm_213 dX12_cardOf_0 (v := .inr (.inr (some 94))) rfl ?_
        refine zw_gf hm_213 dX12_cardOf_1 (v := .inr (.inr (some 103))) (zT_is (zT_zst hS m1) s_94) (zT_t (zT_zst hS m1) s_94) rfl f_12_40_12 (zT_f (zT_zst hS m1) r_94_35) ?_
        refine zw_push hm_213 dX12_cardOf_4 (v := .inl l1) rfl ?_
        obtain ⟨hg, h⟩ := h
        refine zw_ia hm_213 dX12_cardOf_5 (zT_is (zT_zst hS m1) s_103) (zT_h (zT_zst hS m1) s_103) rfl hg ?_
        show ma_wp X (d - 1) (w - 22) 213 6 [(0, .inr (.inr (some 94))), (1, .inl l1), (2, .inl l2)] [.inl (m1 103 l1.toNatClampNeg)] (zst S m1) _
        refine zw_push hm_213 dX12_cardOf_6 (v := .inl (1 : Int32)) rfl ?_
        refine zw_stk hm_213 dX12_cardOf_7 (st₉ := [.inl ((m1 103 l1.toNatClampNeg) + (1 : Int32))]) rfl rfl ?_
        refine zw_push hm_213 dX12_cardOf_8 (v := .inl l2) rfl ?_
        refine zw_stk hm_213 dX12_cardOf_9 (st₉ := [.inl (((m1 103 l1.toNatClampNeg) + (1 : Int32)) + l2)]) rfl rfl ?_
        refine zw_push hm_213 dX12_cardOf_10 (v := .inr (.inr (some 94))) rfl ?_
        refine zw_gf hm_213 dX12_cardOf_11 (v := .inl (m1 94 16)) (zT_is (zT_zst hS m1) s_94) (zT_t (zT_zst hS m1) s_94) rfl f_12_216_12 rfl ?_
        obtain ⟨hg, h⟩ := h
        refine zw_stk hm_213 dX12_cardOf_14 (st₉ := [.inl ((((m1 103 l1.toNatClampNeg) + (1 : Int32)) + l2) / (m1 94 16))]) rfl (if_neg hg) ?_
        refine zw_iret hm_213 dX12_cardOf_15 ?_
        show ma_wp X d w 212 94 [(3, .inl v2), (0, .inr (.inr (some 94))), (1, .inl l1), (2, .inl l2)] [.inl ((((m1 103 l1.toNatClampNeg) + (1 : Int32)) + l2) / (m1 94 16)), .inr (.inr (some 117))] (zst S m1) _
        refine zw_push hm_212 dX12_findDirty_94 (v := .inl (1 : Int32)) rfl ?_
        obtain ⟨hg, h⟩ := h
        refine zw_bas22l hm_212 dX12_findDirty_95 (hx := by decide) (yv := (1 : Int32)) (zT_is (zT_zst hS m1) s_117) (zT_h (zT_zst hS m1) s_117) rfl hg ?_
        refine zw_sto hm_212 dX12_findDirty_96 [(2, .inl (l2 + (1 : Int32))), (3, .inl v2), (0, .inr (.inr (some 94))), (1, .inl l1)] rfl rfl rfl ?_
        refine zw_goto hm_212 dX12_findDirty_99 (t := 55) rfl ?_
        exact zw_sub (ma_nd_of (ks := [0, 1, 2]) rfl (by decide)) (ma_nd_of (ks := [2, 3, 0, 1]) rfl (by decide)) (ma_le_cons rfl (ma_le_cons rfl (ma_le_cons rfl (ma_le_nil _)))) (h d w _ Q (by omega) (by omega) (zT_pi (zT_zst hS m1)) rfl HQ)
      · intro hc
        rw [if_neg hc] at h
        refine zw_push hm_196 dX12_isOld_13 (v := .inl (1 : Int32)) rfl ?_
        refine zw_goto hm_196 dX12_isOld_14 (t := 18) rfl ?_
        refine zw_bret hm_196 dX12_isOld_18 (by decide) ?_
        show ma_wp X d w 212 81 [(3, .inl v2), (0, .inr (.inr (some 94))), (1, .inl l1), (2, .inl l2)] [.inl (1 : Int32)] (zst S m1) _
        refine zw_if0 hm_212 dX12_findDirty_81 (t := 96) rfl zc0_ne (fun _ => ?_) (fun hc => absurd (by decide) hc)
        refine zw_sto hm_212 dX12_findDirty_96 [(2, .inl (l2 + (1 : Int32))), (3, .inl v2), (0, .inr (.inr (some 94))), (1, .inl l1)] rfl rfl rfl ?_
        refine zw_goto hm_212 dX12_findDirty_99 (t := 55) rfl ?_
        exact zw_sub (ma_nd_of (ks := [0, 1, 2]) rfl (by decide)) (ma_nd_of (ks := [2, 3, 0, 1]) rfl (by decide)) (ma_le_cons rfl (ma_le_cons rfl (ma_le_cons rfl (ma_le_nil _)))) (h d w _ Q (by omega) (by omega) (zT_zst hS m1) rfl HQ)
theorem lp_212_55 {X : Nat × (Nat → Int32)} {P : Option ma_V → (Nat → Nat → Int32) → Prop} {m0 : Nat → Nat → Int32} (h0 : zV m0) (K : ∀ m₉, zF wr_212 m0 m₉ → zV m₉ → (zDC (m₉ 94 14).toInt (m₉ 94 16).toInt (m₉ 99) (m₉ 103) (m₉ 102) (m₉ 98) (m₉ 101) (m₉ 108) (m₉ 117)) → P none m₉) {n26 : Nat} (OUT26 : ∀ (m₉ : Nat → Nat → Int32) (l1 : Int32), (3100 - l1.toInt).toNat < n26 → zF wr_212 m0 m₉ → zV m₉ → (0 ≤ l1.toInt) → (zW (m₉ 94 7) (m₉ 98) (m₉ 101) (m₉ 102) (m₉ 108)) → (4 ≤ (m₉ 94 16).toInt) → (zDCu (m₉ 94 14).toInt (m₉ 94 16).toInt (m₉ 99) (m₉ 103) (m₉ 102) (m₉ 98) (m₉ 101) (m₉ 108) (m₉ 117) l1.toNatClampNeg 0) → zm X 2 44 212 26 [(0, .inr (.inr (some 94))), (1, .inl l1)] m₉ P) : ∀ (n : Nat) (m : Nat → Nat → Int32) (l1 : Int32) (l2 : Int32), (61 - l2.toInt).toNat = n → zF wr_212 m0 m → zV m → (0 ≤ l1.toInt) → (l1.toInt ≤ 3099) → (0 ≤ l2.toInt) → ((3100 - l1.toInt).toNat = n26) → (zW (m 94 7) (m 98) (m 101) (m 102) (m 108)) → (4 ≤ (m 94 16).toInt) → ((m 99) l1.toNatClampNeg ≠ 0) → ((m 103 l1.toNatClampNeg).toInt < (m 94 14).toInt) → (zDCu (m 94 14).toInt (m 94 16).toInt (m 99) (m 103) (m 102) (m 98) (m 101) (m 108) (m 117) l1.toNatClampNeg l2.toNatClampNeg) → zm X 2 44 212 55 [(0, .inr (.inr (some 94))), (1, .inl l1), (2, .inl l2)] m P := by
  intro n
  induction n using Nat.strongRecOn with
  | _ n IH =>
    intro m l1 l2 hmu hF hV hi0 hi1 hi2 hi3 r_W hi5 r_UO hi7 r_DCu
    refine g_212_55 l1 l2 ?_
    have f1 : 0 ≤ (m 94 16).toInt ∧ (m 94 16).toInt ≤ 64 := rs_94_16 (m := m) hV
    have b2 := i_bd l1
    first | have f3 : 0 ≤ (m 103 l1.toNatClampNeg).toInt ∧ (m 103 l1.toNatClampNeg).toInt ≤ 4599 := ra_103 (m := m) hV (k := l1.toNatClampNeg) (i_ix (n := 3100) (by omega) (by omega)).2 | have b4 := i_bd (m 103 l1.toNatClampNeg)
    have f5 : 0 ≤ (m 94 14).toInt ∧ (m 94 14).toInt ≤ 1500 := rs_94_14 (m := m) hV
    have hg6 : (0 ≤ l1 ∧ l1.toNatClampNeg < 3100) := i_ix (by omega) (by omega)
    refine ⟨hg6, ?_⟩
    first | have f7 : 0 ≤ (m 102 l1.toNatClampNeg).toInt ∧ (m 102 l1.toNatClampNeg).toInt ≤ 60 := ra_102 (m := m) hV (k := l1.toNatClampNeg) (i_ix (n := 3100) (by omega) (by omega)).2 | have b8 := i_bd (m 102 l1.toNatClampNeg)
    have b9 := i_bd l2
    refine zd (fun (h10 : (m 102 l1.toNatClampNeg) ≤ l2) => ?_) (fun (h10 : ¬ (m 102 l1.toNatClampNeg) ≤ l2) => ?_)
    · skip
      have g11 := i_le h10
      first | have e12 : (l1 + (1 : Int32)).toInt = l1.toInt + (1) := i_addk rfl (by omega) (by omega) | have b13 := i_bd (l1 + (1 : Int32))
      exact OUT26 _ ((l1 + (1 : Int32))) (show (3100 - (l1 + (1 : Int32)).toInt).toNat < n26 from by omega) hF hV (by omega) r_W (show 4 ≤ (m 94 16).toInt from by omega) (show zDCu (m 94 14).toInt (m 94 16).toInt (m 99) (m 103) (m 102) (m 98) (m 101) (m 108) (m 117) (l1 + (1 : Int32)).toNatClampNeg 0 from by first | (exact DCu_next r_DCu (by rw [tn_cast (x := l2) (by omega)]; omega) (tn_succ (by omega) (by omega))) | (exfalso; omega; done) | (exfalso; contradiction; done))
    · skip
      have g14 := i_nle h10
      refine sp_192 (l1) (l2) hV (by omega) (by omega) (by omega) (show l2.toInt < (m 102 l1.toNatClampNeg).toInt from by omega) (fun v2 m1 hV_m1 p0_m1 => zmi_n ?_)
      have p0_m1 : v2 = zrf (m 98) (m 101) (m 108) l1.toNatClampNeg l2.toNatClampNeg := p0_m1
      try have := W_ref r_W (by omega) (by omega) (by omega) (by omega) p0_m1
      have b15 := i_bd v2
      have li16 : (0 : Int32).toInt = 0 := rfl
      refine zd (fun (h17 : v2 < (0 : Int32)) => ?_) (fun (h17 : ¬ v2 < (0 : Int32)) => ?_)
      · skip
        have g18 := i_lt h17
        first | have e19 : (l2 + (1 : Int32)).toInt = l2.toInt + (1) := i_addk rfl (by omega) (by omega) | have b20 := i_bd (l2 + (1 : Int32))
        exact IH (61 - (l2 + (1 : Int32)).toInt).toNat (by omega) _ (l1) ((l2 + (1 : Int32))) rfl (zF_zov hF ws_192_212) hV_m1 (by omega) (by omega) (by omega) (show (3100 - l1.toInt).toNat = n26 from by omega) r_W (show 4 ≤ (m 94 16).toInt from by omega) r_UO (show (m 103 l1.toNatClampNeg).toInt < (m 94 14).toInt from by omega) (show zDCu (m 94 14).toInt (m 94 16).toInt (m 99) (m 103) (m 102) (m 98) (m 101) (m 108) (m 117) l1.toNatClampNeg (l2 + (1 : Int32)).toNatClampNeg from by first | (exact DCu_adv r_DCu (Or.inl (by rw [← p0_m1]; omega)) (tn_succ (by omega) (by omega))) | (exact DCu_adv r_DCu (Or.inr (Or.inl (by rw [← p0_m1]; omega))) (tn_succ (by omega) (by omega))) | (exfalso; omega; done) | (exfalso; contradiction; done))
      · skip
        have g21 := i_nlt h17
        have hg22 : (0 ≤ v2 ∧ v2.toNatClampNeg < 3100) := i_ix (by omega) (by omega)
        refine ⟨hg22, ?_⟩
        first | have f23 : 0 ≤ (m 103 v2.toNatClampNeg).toInt ∧ (m 103 v2.toNatClampNeg).toInt ≤ 4599 := ra_103 (m := m) hV (k := v2.toNatClampNeg) (i_ix (n := 3100) (by omega) (by omega)).2 | have b24 := i_bd (m 103 v2.toNatClampNeg)
        refine zd (fun (h25 : (m 94 14) ≤ (m 103 v2.toNatClampNeg)) => ?_) (fun (h25 : ¬ (m 94 14) ≤ (m 103 v2.toNatClampNeg)) => ?_)
        · skip
          have g26 := i_le h25
          have hg27 : (0 ≤ l1 ∧ l1.toNatClampNeg < 3100) := i_ix (by omega) (by omega)
          refine ⟨hg27, ?_⟩
          have hg28 : (m 94 16) ≠ 0 := i_nz (by omega)
          refine ⟨hg28, ?_⟩
          first | have e29 : ((m 103 l1.toNatClampNeg) + (1 : Int32)).toInt = (m 103 l1.toNatClampNeg).toInt + (1) := i_addk rfl (by omega) (by omega) | have b30 := i_bd ((m 103 l1.toNatClampNeg) + (1 : Int32))
          first | have e31 : (((m 103 l1.toNatClampNeg) + (1 : Int32)) + l2).toInt = ((m 103 l1.toNatClampNeg) + (1 : Int32)).toInt + l2.toInt := i_add (by omega) (by omega) | have b32 := i_bd (((m 103 l1.toNatClampNeg) + (1 : Int32)) + l2)
          first | have f33 := i_div (x := (((m 103 l1.toNatClampNeg) + (1 : Int32)) + l2)) (y := (m 94 16)) (by omega) (by omega) | have b34 := i_bd ((((m 103 l1.toNatClampNeg) + (1 : Int32)) + l2) / (m 94 16))
          try have dv : 0 ≤ (((((m 103 l1.toNatClampNeg) + (1 : Int32)) + l2) / (m 94 16))).toInt ∧ (((((m 103 l1.toNatClampNeg) + (1 : Int32)) + l2) / (m 94 16))).toInt ≤ 499 := i_div4 (by omega) (by omega) (by omega)
          have hg35 : (0 ≤ ((((m 103 l1.toNatClampNeg) + (1 : Int32)) + l2) / (m 94 16)) ∧ ((((m 103 l1.toNatClampNeg) + (1 : Int32)) + l2) / (m 94 16)).toNatClampNeg < 512) := i_ix (by omega) (by omega)
          refine ⟨hg35, ?_⟩
          have li37 : (1 : Int32).toInt = 1 := rfl
          have hV36 : zV (ma_u (zov wr_192 m m1) 117 ((((m 103 l1.toNatClampNeg) + (1 : Int32)) + l2) / (m 94 16)).toNatClampNeg (1 : Int32)) := ua_117 hV_m1 (by omega) (by omega)
          first | have e38 : (l2 + (1 : Int32)).toInt = l2.toInt + (1) := i_addk rfl (by omega) (by omega) | have b39 := i_bd (l2 + (1 : Int32))
          exact IH (61 - (l2 + (1 : Int32)).toInt).toNat (by omega) _ (l1) ((l2 + (1 : Int32))) rfl (zF_u (zF_zov hF ws_192_212) rfl) hV36 (by omega) (by omega) (by omega) (show (3100 - l1.toInt).toNat = n26 from by omega) r_W (show 4 ≤ (m 94 16).toInt from by omega) r_UO (show (m 103 l1.toNatClampNeg).toInt < (m 94 14).toInt from by omega) (show zDCu (m 94 14).toInt (m 94 16).toInt (m 99) (m 103) (m 102) (m 98) (m 101) (m 108) ((ma_u m 117 ((((m 103 l1.toNatClampNeg) + (1 : Int32)) + l2) / (m 94 16)).toNatClampNeg (1 : Int32)) 117) l1.toNatClampNeg (l2 + (1 : Int32)).toNatClampNeg from by first | (exact DCu_adv (DCu_put r_DCu (by decide)) (Or.inr (Or.inr (by rw [← card_ix (by omega) (by omega) (by omega) (by omega) (by omega), mu_self]; decide))) (tn_succ (by omega) (by omega))) | (exfalso; omega; done) | (exfalso; contradiction; done))
        · skip
          have g40 := i_nle h25
          first | have e41 : (l2 + (1 : Int32)).toInt = l2.toInt + (1) := i_addk rfl (by omega) (by omega) | have b42 := i_bd (l2 + (1 : Int32))
          exact IH (61 - (l2 + (1 : Int32)).toInt).toNat (by omega) _ (l1) ((l2 + (1 : Int32))) rfl (zF_zov hF ws_192_212) hV_m1 (by omega) (by omega) (by omega) (show (3100 - l1.toInt).toNat = n26 from by omega) r_W (show 4 ≤ (m 94 16).toInt from by omega) r_UO (show (m 103 l1.toNatClampNeg).toInt < (m 94 14).toInt from by omega) (show zDCu (m 94 14).toInt (m 94 16).toInt (m 99) (m 103) (m 102) (m 98) (m 101) (m 108) (m 117) l1.toNatClampNeg (l2 + (1 : Int32)).toNatClampNeg from by first | (exact DCu_adv r_DCu (Or.inl (by rw [← p0_m1]; omega)) (tn_succ (by omega) (by omega))) | (exact DCu_adv r_DCu (Or.inr (Or.inl (by rw [← p0_m1]; omega))) (tn_succ (by omega) (by omega))) | (exfalso; omega; done) | (exfalso; contradiction; done))
theorem lp_212_26 {X : Nat × (Nat → Int32)} {P : Option ma_V → (Nat → Nat → Int32) → Prop} {m0 : Nat → Nat → Int32} (h0 : zV m0) (K : ∀ m₉, zF wr_212 m0 m₉ → zV m₉ → (zDC (m₉ 94 14).toInt (m₉ 94 16).toInt (m₉ 99) (m₉ 103) (m₉ 102) (m₉ 98) (m₉ 101) (m₉ 108) (m₉ 117)) → P none m₉) : ∀ (n : Nat) (m : Nat → Nat → Int32) (l1 : Int32), (3100 - l1.toInt).toNat = n → zF wr_212 m0 m → zV m → (0 ≤ l1.toInt) → (zW (m 94 7) (m 98) (m 101) (m 102) (m 108)) → (4 ≤ (m 94 16).toInt) → (zDCu (m 94 14).toInt (m 94 16).toInt (m 99) (m 103) (m 102) (m 98) (m 101) (m 108) (m 117) l1.toNatClampNeg 0) → zm X 2 44 212 26 [(0, .inr (.inr (some 94))), (1, .inl l1)] m P := by
  intro n
  induction n using Nat.strongRecOn with
  | _ n IH =>
    intro m l1 hmu hF hV hi0 r_W hi2 r_DCu
    refine g_212_26 l1 ?_
    have f1 : 0 ≤ (m 94 16).toInt ∧ (m 94 16).toInt ≤ 64 := rs_94_16 (m := m) hV
    have li2 : (3100 : Int32).toInt = 3100 := rfl
    have b3 := i_bd l1
    refine zd (fun (h4 : (3100 : Int32) ≤ l1) => ?_) (fun (h4 : ¬ (3100 : Int32) ≤ l1) => ?_)
    · skip
      have g5 := i_le h4
      exact K _ hF hV (show zDC (m 94 14).toInt (m 94 16).toInt (m 99) (m 103) (m 102) (m 98) (m 101) (m 108) (m 117) from by first | (exact DCu_end r_DCu (by rw [tn_eq]; omega)) | (exfalso; omega; done) | (exfalso; contradiction; done))
    · skip
      have g6 := i_nle h4
      have hg7 : (0 ≤ l1 ∧ l1.toNatClampNeg < 3100) := i_ix (by omega) (by omega)
      refine ⟨hg7, ?_⟩
      first | have f8 : 0 ≤ (m 99 l1.toNatClampNeg).toInt ∧ (m 99 l1.toNatClampNeg).toInt ≤ 1 := ra_99 (m := m) hV (k := l1.toNatClampNeg) (i_ix (n := 3100) (by omega) (by omega)).2 | have b9 := i_bd (m 99 l1.toNatClampNeg)
      have li10 : (0 : Int32).toInt = 0 := rfl
      refine zd (fun (h11 : (m 99 l1.toNatClampNeg) = (0 : Int32)) => ?_) (fun (h11 : ¬ (m 99 l1.toNatClampNeg) = (0 : Int32)) => ?_)
      · skip
        have g12 := i_eq h11
        first | have e13 : (l1 + (1 : Int32)).toInt = l1.toInt + (1) := i_addk rfl (by omega) (by omega) | have b14 := i_bd (l1 + (1 : Int32))
        exact IH (3100 - (l1 + (1 : Int32)).toInt).toNat (by omega) _ ((l1 + (1 : Int32))) rfl hF hV (by omega) r_W (show 4 ≤ (m 94 16).toInt from by omega) (show zDCu (m 94 14).toInt (m 94 16).toInt (m 99) (m 103) (m 102) (m 98) (m 101) (m 108) (m 117) (l1 + (1 : Int32)).toNatClampNeg 0 from by first | (exact DCu_skip r_DCu (Or.inl (by assumption)) (tn_succ (by omega) (by omega))) | (exact DCu_skip r_DCu (Or.inr (by omega)) (tn_succ (by omega) (by omega))) | (exfalso; omega; done) | (exfalso; contradiction; done))
      · skip
        have g15 := i_ne h11
        have hg16 : (0 ≤ l1 ∧ l1.toNatClampNeg < 3100) := i_ix (by omega) (by omega)
        refine ⟨hg16, ?_⟩
        have f17 : 0 ≤ (m 94 14).toInt ∧ (m 94 14).toInt ≤ 1500 := rs_94_14 (m := m) hV
        first | have f18 : 0 ≤ (m 103 l1.toNatClampNeg).toInt ∧ (m 103 l1.toNatClampNeg).toInt ≤ 4599 := ra_103 (m := m) hV (k := l1.toNatClampNeg) (i_ix (n := 3100) (by omega) (by omega)).2 | have b19 := i_bd (m 103 l1.toNatClampNeg)
        refine zd (fun (h20 : (m 94 14) ≤ (m 103 l1.toNatClampNeg)) => ?_) (fun (h20 : ¬ (m 94 14) ≤ (m 103 l1.toNatClampNeg)) => ?_)
        · skip
          have g21 := i_le h20
          first | have e22 : (l1 + (1 : Int32)).toInt = l1.toInt + (1) := i_addk rfl (by omega) (by omega) | have b23 := i_bd (l1 + (1 : Int32))
          exact IH (3100 - (l1 + (1 : Int32)).toInt).toNat (by omega) _ ((l1 + (1 : Int32))) rfl hF hV (by omega) r_W (show 4 ≤ (m 94 16).toInt from by omega) (show zDCu (m 94 14).toInt (m 94 16).toInt (m 99) (m 103) (m 102) (m 98) (m 101) (m 108) (m 117) (l1 + (1 : Int32)).toNatClampNeg 0 from by first | (exact DCu_skip r_DCu (Or.inl (by assumption)) (tn_succ (by omega) (by omega))) | (exact DCu_skip r_DCu (Or.inr (by omega)) (tn_succ (by omega) (by omega))) | (exfalso; omega; done) | (exfalso; contradiction; done))
        · skip
          have g24 := i_nle h20
          exact lp_212_55 h0 K (fun _ _ z1 z2 z3 y0 y1 y2 y3 => IH _ z1 _ _ rfl z2 z3 y0 y1 y2 y3) _ _ (l1) ((0 : Int32)) rfl hF hV (by omega) (by omega) (by omega) (show (3100 - l1.toInt).toNat = n from by omega) r_W (show 4 ≤ (m 94 16).toInt from by omega) (show (m 99) l1.toNatClampNeg ≠ 0 from by first | (assumption; done) | (exfalso; omega; done) | (exfalso; contradiction; done)) (show (m 103 l1.toNatClampNeg).toInt < (m 94 14).toInt from by omega) (show zDCu (m 94 14).toInt (m 94 16).toInt (m 99) (m 103) (m 102) (m 98) (m 101) (m 108) (m 117) l1.toNatClampNeg (0 : Int32).toNatClampNeg from by first | (exact r_DCu) | (exfalso; omega; done) | (exfalso; contradiction; done))
theorem lp_212_2 {X : Nat × (Nat → Int32)} {P : Option ma_V → (Nat → Nat → Int32) → Prop} {m0 : Nat → Nat → Int32} (h0 : zV m0) (K : ∀ m₉, zF wr_212 m0 m₉ → zV m₉ → (zDC (m₉ 94 14).toInt (m₉ 94 16).toInt (m₉ 99) (m₉ 103) (m₉ 102) (m₉ 98) (m₉ 101) (m₉ 108) (m₉ 117)) → P none m₉) : ∀ (n : Nat) (m : Nat → Nat → Int32) (l1 : Int32), (512 - l1.toInt).toNat = n → zF wr_212 m0 m → zV m → (0 ≤ l1.toInt) → (zW (m 94 7) (m 98) (m 101) (m 102) (m 108)) → (4 ≤ (m 94 16).toInt) → zm X 2 44 212 2 [(0, .inr (.inr (some 94))), (1, .inl l1)] m P := by
  intro n
  induction n using Nat.strongRecOn with
  | _ n IH =>
    intro m l1 hmu hF hV hi0 r_W hi2
    refine g_212_2 l1 ?_
    have f1 : 0 ≤ (m 94 16).toInt ∧ (m 94 16).toInt ≤ 64 := rs_94_16 (m := m) hV
    have li2 : (512 : Int32).toInt = 512 := rfl
    have b3 := i_bd l1
    refine zd (fun (h4 : (512 : Int32) ≤ l1) => ?_) (fun (h4 : ¬ (512 : Int32) ≤ l1) => ?_)
    · skip
      have g5 := i_le h4
      have li6 : (0 : Int32).toInt = 0 := rfl
      exact lp_212_26 h0 K _ _ ((0 : Int32)) rfl hF hV (by omega) r_W (show 4 ≤ (m 94 16).toInt from by omega) (show zDCu (m 94 14).toInt (m 94 16).toInt (m 99) (m 103) (m 102) (m 98) (m 101) (m 108) (m 117) (0 : Int32).toNatClampNeg 0 from by first | (exact DCu_0) | (exfalso; omega; done) | (exfalso; contradiction; done))
    · skip
      have g7 := i_nle h4
      try have dv : 0 ≤ (l1).toInt ∧ (l1).toInt ≤ 499 := i_div4 (by omega) (by omega) (by omega)
      have hg8 : (0 ≤ l1 ∧ l1.toNatClampNeg < 512) := i_ix (by omega) (by omega)
      refine ⟨hg8, ?_⟩
      have li10 : (0 : Int32).toInt = 0 := rfl
      have hV9 : zV (ma_u m 117 l1.toNatClampNeg (0 : Int32)) := ua_117 hV (by omega) (by omega)
      first | have e11 : (l1 + (1 : Int32)).toInt = l1.toInt + (1) := i_addk rfl (by omega) (by omega) | have b12 := i_bd (l1 + (1 : Int32))
      exact IH (512 - (l1 + (1 : Int32)).toInt).toNat (by omega) _ ((l1 + (1 : Int32))) rfl (zF_u hF rfl) hV9 (by omega) r_W (show 4 ≤ (m 94 16).toInt from by omega)
theorem sp_212 {X : Nat × (Nat → Int32)} {P : Option ma_V → (Nat → Nat → Int32) → Prop} {m : Nat → Nat → Int32}  (hV : zV m) (r_W : zW (m 94 7) (m 98) (m 101) (m 102) (m 108)) (hpre1 : 4 ≤ (m 94 16).toInt) (KZ : ∀ m₉, zV (zov wr_212 m m₉) → (zDC (m 94 14).toInt (m 94 16).toInt (m 99) (m 103) (m 102) (m 98) (m 101) (m 108) (m₉ 117)) → P none (zov wr_212 m m₉)) : zm X 2 44 212 0 [(0, .inr (.inr (some 94)))] m P := by
  have K : ∀ m₉, zF wr_212 m m₉ → zV m₉ → (zDC (m₉ 94 14).toInt (m₉ 94 16).toInt (m₉ 99) (m₉ 103) (m₉ 102) (m₉ 98) (m₉ 101) (m₉ 108) (m₉ 117)) → P none m₉ := by
    intro m₉ hf z q0
    have e := zov_eq hf
    rw [e] at z ⊢
    try rw [e] at q0
    exact KZ m₉ z q0
  refine g_212_0  ?_
  have f1 : 0 ≤ (m 94 16).toInt ∧ (m 94 16).toInt ≤ 64 := rs_94_16 (m := m) hV
  have li2 : (0 : Int32).toInt = 0 := rfl
  exact lp_212_2 hV K _ _ ((0 : Int32)) rfl zF_rfl hV (by omega) r_W (show 4 ≤ (m 94 16).toInt from by omega)

/-! from 94.473 -/
/-! the reference (written by wip/tools/gen94m.py) -/
set_option maxRecDepth 100000 in
theorem hm_211 : ma_md 211 = some (12, yX12_major, cX12_major, 2, (some (FieldType.int))) := rfl
theorem v_12_378_12 : ma_vl 12 378 12 = some (1, 212, 0) := by decide +kernel
theorem dX12_major_0 : decode cX12_major 0 = .ok (.aload_n 0, 1) := by decide +kernel
theorem dX12_major_1 : decode cX12_major 1 = .ok (.invokevirtual 346, 3) := by decide +kernel
theorem dX12_major_4 : decode cX12_major 4 = .ok (.istore_n 1, 1) := by decide +kernel
theorem dX12_major_5 : decode cX12_major 5 = .ok (.aload_n 0, 1) := by decide +kernel
theorem dX12_major_6 : decode cX12_major 6 = .ok (.aload_n 0, 1) := by decide +kernel
theorem dX12_major_7 : decode cX12_major 7 = .ok (.aload_n 0, 1) := by decide +kernel
theorem dX12_major_11 : decode cX12_major 11 = .ok (.invokevirtual 349, 3) := by decide +kernel
theorem dX12_major_17 : decode cX12_major 17 = .ok (.aload_n 0, 1) := by decide +kernel
theorem dX12_major_18 : decode cX12_major 18 = .ok (.invokevirtual 378, 3) := by decide +kernel
theorem dX12_major_21 : decode cX12_major 21 = .ok (.iload_n 1, 1) := by decide +kernel
theorem dX12_major_22 : decode cX12_major 22 = .ok (.ireturn, 1) := by decide +kernel
theorem dX12_major_14 : decode cX12_major 14 = .ok (.putfield 279, 3) := by decide +kernel
theorem dX12_major_8 : decode cX12_major 8 = .ok (.getfield 210, 3) := by decide +kernel
def wr_211 (c k : Nat) : Bool := Nat.beq c 99 || Nat.beq c 103 || Nat.beq c 105 || Nat.beq c 109 || Nat.beq c 110 || Nat.beq c 111 || Nat.beq c 113 || Nat.beq c 114 || Nat.beq c 117 || Nat.beq c 118 || (Nat.beq c 94 && (Nat.beq k 44 || Nat.beq k 45 || Nat.beq k 47 || Nat.beq k 48 || Nat.beq k 49 || Nat.beq k 55 || Nat.beq k 60 || Nat.beq k 73))
theorem ws_187_211 : ∀ c k, wr_187 c k = true → wr_211 c k = true := by
  intro c k h
  simp only [wr_187, wr_211, Bool.or_eq_true, Bool.and_eq_true, Nat.beq_eq] at h ⊢
  omega
theorem ws_204_211 : ∀ c k, wr_204 c k = true → wr_211 c k = true := by
  intro c k h
  simp only [wr_204, wr_211, Bool.or_eq_true, Bool.and_eq_true, Nat.beq_eq] at h ⊢
  omega
theorem ws_212_211 : ∀ c k, wr_212 c k = true → wr_211 c k = true := by
  intro c k h
  simp only [wr_212, wr_211, Bool.or_eq_true, Bool.and_eq_true, Nat.beq_eq] at h ⊢
  omega
theorem g_211_0 {X : Nat × (Nat → Int32)} {m : Nat → Nat → Int32} {P : Option ma_V → (Nat → Nat → Int32) → Prop}  (h : zm X 4 88 187 0 [(0, .inr (.inr (some 94)))] m (zmi (fun v2 m1 => zm X 2 43 204 0 [(0, .inr (.inr (some 94))), (1, .inl (m1 94 14))] m1 (zmi (fun v4 m3 => zm X 2 44 212 0 [(0, .inr (.inr (some 94)))] (ma_u m3 94 60 v4) (zmv (fun m5 => P (some (.inl v2)) m5))))))) : zm X 5 108 211 0 [(0, .inr (.inr (some 94)))] m P := by
  intro d w S Q hd hw hS hm HQ
  subst hm
  refine zw_push hm_211 dX12_major_0 (v := .inr (.inr (some 94))) rfl ?_
  refine zw_cv hm_211 dX12_major_1 v_12_346_12 hm_187 [] [] rfl (zT_rt hS s_94 rfl) ⟨by omega, by omega⟩ rfl (h _ _ S _ (by omega) (by omega) hS rfl (fun o9 m1 hv => ?_))
  obtain ⟨v2, rfl, h⟩ := zmi_of hv
  show ma_wp X d w 211 4 [(0, .inr (.inr (some 94)))] [.inl v2] (zst S m1) _
  refine zw_sto hm_211 dX12_major_4 [(1, .inl v2), (0, .inr (.inr (some 94)))] rfl rfl rfl ?_
  refine zw_push hm_211 dX12_major_5 (v := .inr (.inr (some 94))) rfl ?_
  refine zw_push hm_211 dX12_major_6 (v := .inr (.inr (some 94))) rfl ?_
  refine zw_push hm_211 dX12_major_7 (v := .inr (.inr (some 94))) rfl ?_
  refine zw_gf hm_211 dX12_major_8 (v := .inl (m1 94 14)) (zT_is (zT_zst hS m1) s_94) (zT_t (zT_zst hS m1) s_94) rfl f_12_210_12 rfl ?_
  refine zw_cv hm_211 dX12_major_11 v_12_349_12 hm_204 [.inl (m1 94 14)] [.inr (.inr (some 94))] rfl (zT_rt (zT_zst hS m1) s_94 rfl) ⟨by omega, by omega⟩ rfl (h _ _ (zst S m1) _ (by omega) (by omega) (zT_zst hS m1) rfl (fun o9 m3 hv => ?_))
  obtain ⟨v4, rfl, h⟩ := zmi_of hv
  show ma_wp X d w 211 14 [(1, .inl v2), (0, .inr (.inr (some 94)))] [.inl v4, .inr (.inr (some 94))] (zst S m3) _
  refine zw_pf hm_211 dX12_major_14 (zT_is (zT_zst hS m3) s_94) (zT_t (zT_zst hS m3) s_94) p_12_279_12 zk_int ?_
  refine zw_push hm_211 dX12_major_17 (v := .inr (.inr (some 94))) rfl ?_
  refine zw_cv hm_211 dX12_major_18 v_12_378_12 hm_212 [] [] rfl (zT_rt (zT_pi (zT_zst hS m3)) s_94 rfl) ⟨by omega, by omega⟩ rfl (h _ _ (ma_put (zst S m3) 94 60 (.inl v4)) _ (by omega) (by omega) (zT_pi (zT_zst hS m3)) rfl (fun o9 m5 hv => ?_))
  obtain ⟨rfl, h⟩ := zmv_of hv
  show ma_wp X d w 211 21 [(1, .inl v2), (0, .inr (.inr (some 94)))] [] (zst S m5) _
  refine zw_push hm_211 dX12_major_21 (v := .inl v2) rfl ?_
  exact zw_iret hm_211 dX12_major_22 (HQ _ _ h)
theorem sp_211 {X : Nat × (Nat → Int32)} {P : Option ma_V → (Nat → Nat → Int32) → Prop} {T : Nat} {m : Nat → Nat → Int32}  (hV : zV m) (r_W : zW (m 94 7) (m 98) (m 101) (m 102) (m 108)) (r_GW : zGW T (m 94 55) (m 109)) (r_GU : zGU T (m 94 46) (m 99)) (r_OW : zOw (m 99) (m 103) (m 111)) (r_DX : zDX (m 94 10) (m 99) (m 112) (m 113) (m 114) (m 94 55) (m 98) (m 101) (m 102) (m 108)) (r_HA : zHA (m 94 10) (m 94 11) (m 94 13) (m 94 14) (m 94 16) (m 94 61) (m 94 59) (m 94 60) (m 99) (m 102) (m 103) (m 111) (m 117) (m 98) (m 101) (m 108)) (hpre6 : (m 94 10).toInt = 3) (KZ : ∀ v m₉, zV (zov wr_211 m m₉) → (zGW T (m₉ 94 55) (m₉ 109)) → (zGU T (m 94 46) (m₉ 99)) → (zOw (m₉ 99) (m₉ 103) (m₉ 111)) → (zDX (m 94 10) (m₉ 99) (m 112) (m₉ 113) (m₉ 114) (m₉ 94 55) (m 98) (m 101) (m 102) (m 108)) → (zHA (m 94 10) (m 94 11) (m 94 13) (m 94 14) (m 94 16) (m 94 61) (m 94 59) (m₉ 94 60) (m₉ 99) (m 102) (m₉ 103) (m₉ 111) (m₉ 117) (m 98) (m 101) (m 108)) → P (some (.inl v)) (zov wr_211 m m₉)) : zm X 5 108 211 0 [(0, .inr (.inr (some 94)))] m P := by
  have K : ∀ v m₉, zF wr_211 m m₉ → zV m₉ → (zGW T (m₉ 94 55) (m₉ 109)) → (zGU T (m₉ 94 46) (m₉ 99)) → (zOw (m₉ 99) (m₉ 103) (m₉ 111)) → (zDX (m₉ 94 10) (m₉ 99) (m₉ 112) (m₉ 113) (m₉ 114) (m₉ 94 55) (m₉ 98) (m₉ 101) (m₉ 102) (m₉ 108)) → (zHA (m₉ 94 10) (m₉ 94 11) (m₉ 94 13) (m₉ 94 14) (m₉ 94 16) (m₉ 94 61) (m₉ 94 59) (m₉ 94 60) (m₉ 99) (m₉ 102) (m₉ 103) (m₉ 111) (m₉ 117) (m₉ 98) (m₉ 101) (m₉ 108)) → P (some (.inl v)) m₉ := by
    intro v m₉ hf z q0 q1 q2 q3 q4
    have e := zov_eq hf
    rw [e] at z ⊢
    try rw [e] at q0
    try rw [e] at q1
    try rw [e] at q2
    try rw [e] at q3
    try rw [e] at q4
    exact KZ v m₉ z q0 q1 q2 q3 q4
  refine g_211_0  ?_
  have f1 : 0 ≤ (m 94 10).toInt ∧ (m 94 10).toInt ≤ 6 := rs_94_10 (m := m) hV
  try have hc4 := (r_HA.2 (by omega)).1
  refine sp_187  hV r_W r_GW r_GU r_OW r_DX (fun v2 m1 hV_m1 p0_m1 p1_m1 p2_m1 p3_m1 p4_m1 => zmi_n ?_)
  have p0_m1 : zGW T (m1 94 55) (m1 109) := p0_m1
  have p1_m1 : zGU T (m 94 46) (m1 99) := p1_m1
  have p2_m1 : zOw (m1 99) (m 103) (m1 111) := p2_m1
  have p3_m1 : zDX (m 94 10) (m1 99) (m 112) (m1 113) (m1 114) (m1 94 55) (m 98) (m 101) (m 102) (m 108) := p3_m1
  have p4_m1 : zsw (m 99) (m1 99) (m 111) (m1 111) (m 103) := p4_m1
  have f2 : 0 ≤ (m 94 14).toInt ∧ (m 94 14).toInt ≤ 1500 := rs_94_14 (m := m) hV
  try have hc4 := (r_HA.2 (by omega)).1
  refine sp_204 (G := True) (E := (m 94 60).toInt) ((m 94 14)) hV_m1 (by omega) (by omega) p2_m1 (show True → 0 ≤ (m 94 60).toInt ∧ zPK (m 94 14).toInt (m 94 60).toInt (m1 99) (m 102) (m 103) (m1 111) from by first | (exact fun _ => ⟨by have := rs_94_60 hV; omega, PK_sub (r_HA.2 (by omega)).2.2.2.1 p4_m1 (fun t ht => ⟨(ra_103 hV ht).1, by have := (ra_103 hV ht).2; omega⟩)⟩) | (exfalso; omega; done) | (exfalso; contradiction; done)) (fun v4 m3 hV_m3 p0_m3 p1_m3 p2_m3 p3_m3 => zmi_n ?_)
  have p0_m3 : zOw (m1 99) (m3 103) (m3 111) := p0_m3
  have p1_m3 : True → v4.toInt ≤ (m 94 60).toInt ∧ zPK (m 94 14).toInt v4.toInt (m1 99) (m 102) (m3 103) (m3 111) := p1_m3
  have p2_m3 : zLO (m 94 14).toInt (m 103) (m3 103) := p2_m3
  have p3_m3 : 0 ≤ v4.toInt ∧ v4.toInt ≤ 1600 := p3_m3
  have b4 := i_bd v4
  have hV3 : zV (ma_u (zov wr_204 (zov wr_187 m m1) m3) 94 60 v4) := us_94_60 hV_m3 (by omega) (by omega)
  try have hc4 := (r_HA.2 (by omega)).1
  have f5 : 0 ≤ (m 94 16).toInt ∧ (m 94 16).toInt ≤ 64 := rs_94_16 (m := m) hV
  refine sp_212  hV3 r_W (show 4 ≤ (m 94 16).toInt from by omega) (fun m5 hV_m5 p0_m5 => zmv_n ?_)
  have p0_m5 : zDC (m 94 14).toInt (m 94 16).toInt (m1 99) (m3 103) (m 102) (m 98) (m 101) (m 108) (m5 117) := p0_m5
  try have hc4 := (r_HA.2 (by omega)).1
  have b6 := i_bd v2
  exact K (v2) _ (zF_zov (zF_u (zF_zov (zF_zov zF_rfl ws_187_211) ws_204_211) rfl) ws_212_211) hV_m5 p0_m1 p1_m1 p0_m3 p3_m1 (show zHA (m 94 10) (m 94 11) (m 94 13) (m 94 14) (m 94 16) (m 94 61) (m 94 59) v4 (m1 99) (m 102) (m3 103) (m3 111) (m5 117) (m 98) (m 101) (m 108) from by first | (exact HA_major r_HA (by omega) p4_m1.1 p2_m3 (fun t ht => (ra_102 hV ht).1) (p1_m3 trivial) p0_m5) | (exfalso; omega; done) | (exfalso; contradiction; done))

/-! from 94.474 -/
/-! sums of sizes: one less, one more -/
section SM1
variable {b b₉ : Nat → Bool} {ws : Nat → Int32} {n s : Nat}
theorem sm_congr (h : ∀ t, t < n → b₉ t = b t) : sm b₉ ws n = sm b ws n := by
  induction n with
  | zero => rfl
  | succ n ih =>
    unfold sm
    rw [ih (fun t ht => h t (by omega)), h n (by omega)]
/-- one is taken out -/
theorem sm_out (hs : s < n) (h1 : b s = true) (h2 : b₉ s = false) (h : ∀ t, t < n → t ≠ s → b₉ t = b t) : sm b₉ ws n + ((ws s).toInt + 1) = sm b ws n := by
  induction n with
  | zero => omega
  | succ n ih =>
    unfold sm
    by_cases e : s = n
    · subst e
      rw [h2, h1, sm_congr (fun t ht => h t (by omega) (by omega))]
      simp
    · rw [h n (by omega) (fun z => e z.symm)]
      have := ih (by omega) (fun t ht hn => h t (by omega) hn)
      omega
theorem sm_nn (hw : ∀ t, t < n → 0 ≤ (ws t).toInt) : 0 ≤ sm b ws n := by
  induction n with
  | zero => exact Int.le_refl _
  | succ n ih =>
    unfold sm
    have i := ih (fun t ht => hw t (by omega))
    have w := hw n (by omega)
    split <;> omega
theorem sm_ge (hs : s < n) (h1 : b s = true) (hw : ∀ t, t < n → 0 ≤ (ws t).toInt) : (ws s).toInt + 1 ≤ sm b ws n := by
  have e := sm_out (b₉ := fun t => if t = s then false else b t) (ws := ws) hs h1 (by simp) (fun t _ hn => by simp [hn])
  have := sm_nn (b := fun t => if t = s then false else b t) (ws := ws) hw
  omega
end SM1
/-- in use and not kept yet -/
def zbN (us kp : Nat → Int32) : Nat → Bool := fun s => decide (us s ≠ 0 ∧ kp s = 0)
/-- in use and kept -/
def zbK (us kp : Nat → Int32) : Nat → Bool := fun s => decide (us s ≠ 0 ∧ kp s ≠ 0)
section SM2
variable {m : Nat → Nat → Int32} {c k : Nat} {us ws : Nat → Int32} {x : Int32}
theorem smN_keep (hk : k < 3100) (hu : us k ≠ 0) (h0 : m c k = 0) (hx : x ≠ 0) : sm (zbN us (ma_u m c k x c)) ws 3100 + ((ws k).toInt + 1) = sm (zbN us (m c)) ws 3100 := by
  refine sm_out hk ?_ ?_ (fun t _ hn => ?_)
  · unfold zbN; exact decide_eq_true ⟨hu, h0⟩
  · unfold zbN; exact decide_eq_false (fun z => hx (by rw [mu_self] at z; exact z.2))
  · unfold zbN; rw [mu_ne hn]
theorem smK_keep (hk : k < 3100) (hu : us k ≠ 0) (h0 : m c k = 0) (hx : x ≠ 0) : sm (zbK us (m c)) ws 3100 + ((ws k).toInt + 1) = sm (zbK us (ma_u m c k x c)) ws 3100 := by
  refine sm_out hk ?_ ?_ (fun t _ hn => ?_)
  · unfold zbK; exact decide_eq_true ⟨hu, by rw [mu_self]; exact hx⟩
  · unfold zbK; exact decide_eq_false (fun z => z.2 h0)
  · unfold zbK; rw [mu_ne hn]
theorem smN_none (h : ∀ s : Nat, s < 3100 → m c s = 0) : sm (zbN us (m c)) ws 3100 = sm (zbU us) ws 3100 := by
  refine sm_congr (fun t ht => ?_)
  unfold zbN zbU
  by_cases q : us t = 0
  · simp [q]
  · simp [q, h t ht]
end SM2

/-! from 94.475 -/
/-! those that would grow old -/
def zbG (us at₉ : Nat → Int32) (ol : Int32) (ag : Nat → Int32) (a : Int32) : Nat → Bool := fun s => decide (us s ≠ 0 ∧ ol.toInt ≤ (at₉ s).toInt ∧ ag s + (1 : Int32) = a)
theorem sm_skip {b : Nat → Bool} {ws : Nat → Int32} {x : Int} {l l2 : Nat} (h : x = sm b ws l) (hb : b l = false) (e : l2 = l + 1) : x = sm b ws l2 := by
  subst e
  unfold sm
  rw [hb, h]
  simp
theorem sm_add {b : Nat → Bool} {ws : Nat → Int32} {x y : Int} {l l2 : Nat} (h : x = sm b ws l) (hb : b l = true) (e : l2 = l + 1) (hy : y = x + ((ws l).toInt + 1)) : y = sm b ws l2 := by
  subst e
  unfold sm
  rw [hb, hy, h]
  simp
theorem sm_full {b : Nat → Bool} {ws : Nat → Int32} {x : Int} {l : Int32} (h : x = sm b ws l.toNatClampNeg) (e : l.toInt = 3100) : x = sm b ws 3100 := by
  have e2 : l.toNatClampNeg = 3100 := by rw [tn_eq]; omega
  rw [e2] at h
  exact h

