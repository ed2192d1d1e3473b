/-! the reference (written by wip/tools/gen94m.py) -/
set_option maxRecDepth 100000 in
theorem hm_170 : ma_md 170 = some (12, yX12_kind, cX12_kind, 4, (some (FieldType.int))) := rfl
theorem s_97 : zs 97 = some (20, 16) := rfl
theorem r_94_5 : zfi 94 5 = some 97 := rfl
theorem f_12_20_12 : ma_fld 12 20 12 = some 5 := by decide +kernel
theorem p_12_118_12 : ma_pk 12 118 12 7 = true := by decide +kernel
theorem dX12_kind_0 : decode cX12_kind 0 = .ok (.iload_n 1, 1) := by decide +kernel
theorem dX12_kind_10 : decode cX12_kind 10 = .ok (.iconst 1, 1) := by decide +kernel
theorem dX12_kind_11 : decode cX12_kind 11 = .ok (.goto 4, 3) := by decide +kernel
theorem dX12_kind_15 : decode cX12_kind 15 = .ok (.istore_n 3, 1) := by decide +kernel
theorem dX12_kind_16 : decode cX12_kind 16 = .ok (.aload_n 0, 1) := by decide +kernel
theorem dX12_kind_17 : decode cX12_kind 17 = .ok (.iload_n 3, 1) := by decide +kernel
theorem dX12_kind_18 : decode cX12_kind 18 = .ok (.ifCond .ne 14, 3) := by decide +kernel
theorem dX12_kind_32 : decode cX12_kind 32 = .ok (.iconst 1, 1) := by decide +kernel
theorem dX12_kind_33 : decode cX12_kind 33 = .ok (.goto 17, 3) := by decide +kernel
theorem dX12_kind_50 : decode cX12_kind 50 = .ok (.invokevirtual 110, 3) := by decide +kernel
theorem dX12_kind_53 : decode cX12_kind 53 = .ok (.ifCond .eq 5, 3) := by decide +kernel
theorem dX12_kind_56 : decode cX12_kind 56 = .ok (.iconst 0, 1) := by decide +kernel
theorem dX12_kind_57 : decode cX12_kind 57 = .ok (.ireturn, 1) := by decide +kernel
theorem dX12_kind_4 : decode cX12_kind 4 = .ok (.iload_n 1, 1) := by decide +kernel
theorem dX12_kind_5 : decode cX12_kind 5 = .ok (.bipush 8, 2) := by decide +kernel
theorem dX12_kind_14 : decode cX12_kind 14 = .ok (.iconst 0, 1) := by decide +kernel
theorem dX12_kind_21 : decode cX12_kind 21 = .ok (.iload_n 2, 1) := by decide +kernel
theorem dX12_kind_25 : decode cX12_kind 25 = .ok (.iload_n 2, 1) := by decide +kernel
theorem dX12_kind_26 : decode cX12_kind 26 = .ok (.iconst 1, 1) := by decide +kernel
theorem dX12_kind_27 : decode cX12_kind 27 = .ok (.iload_n 1, 1) := by decide +kernel
theorem dX12_kind_28 : decode cX12_kind 28 = .ok (.ishl, 1) := by decide +kernel
theorem dX12_kind_36 : decode cX12_kind 36 = .ok (.aload_n 0, 1) := by decide +kernel
theorem dX12_kind_40 : decode cX12_kind 40 = .ok (.bipush 16, 2) := by decide +kernel
theorem dX12_kind_49 : decode cX12_kind 49 = .ok (.iconst 0, 1) := by decide +kernel
theorem dX12_kind_58 : decode cX12_kind 58 = .ok (.aload_n 0, 1) := by decide +kernel
theorem dX12_kind_62 : decode cX12_kind 62 = .ok (.aload_n 0, 1) := by decide +kernel
theorem dX12_kind_66 : decode cX12_kind 66 = .ok (.iload_n 1, 1) := by decide +kernel
theorem dX12_kind_68 : decode cX12_kind 68 = .ok (.aload_n 0, 1) := by decide +kernel
theorem dX12_kind_72 : decode cX12_kind 72 = .ok (.aload_n 0, 1) := by decide +kernel
theorem dX12_kind_76 : decode cX12_kind 76 = .ok (.iload_n 2, 1) := by decide +kernel
theorem dX12_kind_78 : decode cX12_kind 78 = .ok (.aload_n 0, 1) := by decide +kernel
theorem dX12_kind_79 : decode cX12_kind 79 = .ok (.dup, 1) := by decide +kernel
theorem dX12_kind_83 : decode cX12_kind 83 = .ok (.iconst 1, 1) := by decide +kernel
theorem dX12_kind_84 : decode cX12_kind 84 = .ok (.iadd, 1) := by decide +kernel
theorem dX12_kind_88 : decode cX12_kind 88 = .ok (.aload_n 0, 1) := by decide +kernel
theorem dX12_kind_92 : decode cX12_kind 92 = .ok (.iconst 1, 1) := by decide +kernel
theorem dX12_kind_93 : decode cX12_kind 93 = .ok (.isub, 1) := by decide +kernel
theorem dX12_kind_94 : decode cX12_kind 94 = .ok (.ireturn, 1) := by decide +kernel
theorem dX12_kind_89 : decode cX12_kind 89 = .ok (.getfield 118, 3) := by decide +kernel
theorem dX12_kind_85 : decode cX12_kind 85 = .ok (.putfield 118, 3) := by decide +kernel
theorem dX12_kind_80 : decode cX12_kind 80 = .ok (.getfield 118, 3) := by decide +kernel
theorem dX12_kind_77 : decode cX12_kind 77 = .ok (.iastore, 1) := by decide +kernel
theorem dX12_kind_73 : decode cX12_kind 73 = .ok (.getfield 118, 3) := by decide +kernel
theorem dX12_kind_69 : decode cX12_kind 69 = .ok (.getfield 24, 3) := by decide +kernel
theorem dX12_kind_67 : decode cX12_kind 67 = .ok (.iastore, 1) := by decide +kernel
theorem dX12_kind_63 : decode cX12_kind 63 = .ok (.getfield 118, 3) := by decide +kernel
theorem dX12_kind_59 : decode cX12_kind 59 = .ok (.getfield 20, 3) := by decide +kernel
theorem dX12_kind_45 : decode cX12_kind 45 = .ok (.iconst 2, 1) := by decide +kernel
theorem dX12_kind_46 : decode cX12_kind 46 = .ok (.goto 4, 3) := by decide +kernel
theorem dX12_kind_42 : decode cX12_kind 42 = .ok (.if_icmp .ne 7, 3) := by decide +kernel
theorem dX12_kind_37 : decode cX12_kind 37 = .ok (.getfield 118, 3) := by decide +kernel
theorem dX12_kind_29 : decode cX12_kind 29 = .ok (.if_icmp .lt 7, 3) := by decide +kernel
theorem dX12_kind_22 : decode cX12_kind 22 = .ok (.ifCond .lt 10, 3) := by decide +kernel
theorem dX12_kind_7 : decode cX12_kind 7 = .ok (.if_icmp .le 7, 3) := by decide +kernel
theorem dX12_kind_1 : decode cX12_kind 1 = .ok (.ifCond .lt 9, 3) := by decide +kernel
def wr_170 (c k : Nat) : Bool := Nat.beq c 97 || Nat.beq c 98 || (Nat.beq c 94 && (Nat.beq k 0 || Nat.beq k 7))
theorem g_170_0 {X : Nat × (Nat → Int32)} {m : Nat → Nat → Int32} {P : Option ma_V → (Nat → Nat → Int32) → Prop} (nw : Int32) (rf : Int32) (h : if nw < 0 then (P (some (.inl (0 : Int32))) (ma_u m 94 0 (1 : Int32))) else (if nw ≤ (8 : Int32) then (if rf < 0 then (P (some (.inl (0 : Int32))) (ma_u m 94 0 (1 : Int32))) else (if rf < ((1 : Int32) <<< (nw &&& 31)) then (if (m 94 7) = (16 : Int32) then (P (some (.inl (0 : Int32))) (ma_u m 94 0 (2 : Int32))) else ((0 ≤ (m 94 7) ∧ (m 94 7).toNatClampNeg < 16) ∧ ((0 ≤ (m 94 7) ∧ (m 94 7).toNatClampNeg < 16) ∧ (P (some (.inl (((m 94 7) + (1 : Int32)) - (1 : Int32)))) (ma_u (ma_u (ma_u (ma_u m 94 0 (0 : Int32)) 97 (m 94 7).toNatClampNeg nw) 98 (m 94 7).toNatClampNeg rf) 94 7 ((m 94 7) + (1 : Int32))))))) else (P (some (.inl (0 : Int32))) (ma_u m 94 0 (1 : Int32))))) else (P (some (.inl (0 : Int32))) (ma_u m 94 0 (1 : Int32))))) : zm X 1 21 170 0 [(0, .inr (.inr (some 94))), (1, .inl nw), (2, .inl rf)] m P := by
  intro d w S Q hd hw hS hm HQ
  subst hm
  refine zw_push hm_170 dX12_kind_0 (v := .inl nw) rfl ?_
  refine zw_if0 hm_170 dX12_kind_1 (t := 10) rfl zc0_lt ?_ ?_
  · intro hc
    rw [if_pos hc] at h
    refine zw_push hm_170 dX12_kind_10 (v := .inl (1 : Int32)) rfl ?_
    refine zw_goto hm_170 dX12_kind_11 (t := 15) rfl ?_
    refine zw_sto hm_170 dX12_kind_15 [(3, .inl (1 : Int32)), (0, .inr (.inr (some 94))), (1, .inl nw), (2, .inl rf)] rfl rfl rfl ?_
    refine zw_push hm_170 dX12_kind_16 (v := .inr (.inr (some 94))) rfl ?_
    refine zw_push hm_170 dX12_kind_17 (v := .inl (1 : Int32)) rfl ?_
    refine zw_if0 hm_170 dX12_kind_18 (t := 32) rfl zc0_ne (fun _ => ?_) (fun hc => absurd (by decide) hc)
    refine zw_push hm_170 dX12_kind_32 (v := .inl (1 : Int32)) rfl ?_
    refine zw_goto hm_170 dX12_kind_33 (t := 50) rfl ?_
    refine zw_cv hm_170 dX12_kind_50 v_12_110_12 hm_167 [.inl (1 : Int32)] [] rfl (zT_rt hS s_94 rfl) ⟨by omega, by omega⟩ rfl ?_
    show ma_wp X (d - 1) (w - 21) 167 0 [(0, .inr (.inr (some 94))), (1, .inl (1 : Int32))] [] S _
    refine zw_push hm_167 dX12_fails_0 (v := .inr (.inr (some 94))) rfl ?_
    refine zw_push hm_167 dX12_fails_1 (v := .inl (1 : Int32)) rfl ?_
    refine zw_pf hm_167 dX12_fails_2 (zT_is hS s_94) (zT_t hS s_94) p_12_1_12 zk_int ?_
    refine zw_push hm_167 dX12_fails_5 (v := .inl (1 : Int32)) rfl ?_
    refine zw_if0 hm_167 dX12_fails_6 (t := 13) rfl zc0_eq (fun hc => absurd hc (by decide)) (fun _ => ?_)
    refine zw_push hm_167 dX12_fails_9 (v := .inl (1 : Int32)) rfl ?_
    refine zw_goto hm_167 dX12_fails_10 (t := 14) rfl ?_
    refine zw_bret hm_167 dX12_fails_14 (by decide) ?_
    show ma_wp X d w 170 53 [(3, .inl (1 : Int32)), (0, .inr (.inr (some 94))), (1, .inl nw), (2, .inl rf)] [.inl (1 : Int32)] (ma_put S 94 0 (.inl (1 : Int32))) _
    refine zw_if0 hm_170 dX12_kind_53 (t := 58) rfl zc0_eq (fun hc => absurd hc (by decide)) (fun _ => ?_)
    refine zw_push hm_170 dX12_kind_56 (v := .inl (0 : Int32)) rfl ?_
    exact zw_iret hm_170 dX12_kind_57 (HQ _ _ h)
  · intro hc
    rw [if_neg hc] at h
    refine zw_push hm_170 dX12_kind_4 (v := .inl nw) rfl ?_
    refine zw_push hm_170 dX12_kind_5 (v := .inl (8 : Int32)) rfl ?_
    refine zw_if2 hm_170 dX12_kind_7 (t := 14) rfl zc2_le ?_ ?_
    · intro hc
      rw [if_pos hc] at h
      refine zw_push hm_170 dX12_kind_14 (v := .inl (0 : Int32)) rfl ?_
      refine zw_sto hm_170 dX12_kind_15 [(3, .inl (0 : Int32)), (0, .inr (.inr (some 94))), (1, .inl nw), (2, .inl rf)] rfl rfl rfl ?_
      refine zw_push hm_170 dX12_kind_16 (v := .inr (.inr (some 94))) rfl ?_
      refine zw_push hm_170 dX12_kind_17 (v := .inl (0 : Int32)) rfl ?_
      refine zw_if0 hm_170 dX12_kind_18 (t := 32) rfl zc0_ne (fun hc => absurd hc (by decide)) (fun _ => ?_)
      refine zw_push hm_170 dX12_kind_21 (v := .inl rf) rfl ?_
      refine zw_if0 hm_170 dX12_kind_22 (t := 32) rfl zc0_lt ?_ ?_
      · intro hc
        rw [if_pos hc] at h
        refine zw_push hm_170 dX12_kind_32 (v := .inl (1 : Int32)) rfl ?_
        refine zw_goto hm_170 dX12_kind_33 (t := 50) rfl ?_
        refine zw_cv hm_170 dX12_kind_50 v_12_110_12 hm_167 [.inl (1 : Int32)] [] rfl (zT_rt hS s_94 rfl) ⟨by omega, by omega⟩ rfl ?_
        show ma_wp X (d - 1) (w - 21) 167 0 [(0, .inr (.inr (some 94))), (1, .inl (1 : Int32))] [] S _
        refine zw_push hm_167 dX12_fails_0 (v := .inr (.inr (some 94))) rfl ?_
        refine zw_push hm_167 dX12_fails_1 (v := .inl (1 : Int32)) rfl ?_
        refine zw_pf hm_167 dX12_fails_2 (zT_is hS s_94) (zT_t hS s_94) p_12_1_12 zk_int ?_
        refine zw_push hm_167 dX12_fails_5 (v := .inl (1 : Int32)) rfl ?_
        refine zw_if0 hm_167 dX12_fails_6 (t := 13) rfl zc0_eq (fun hc => absurd hc (by decide)) (fun _ => ?_)
        refine zw_push hm_167 dX12_fails_9 (v := .inl (1 : Int32)) rfl ?_
        refine zw_goto hm_167 dX12_fails_10 (t := 14) rfl ?_
        refine zw_bret hm_167 dX12_fails_14 (by decide) ?_
        show ma_wp X d w 170 53 [(3, .inl (0 : Int32)), (0, .inr (.inr (some 94))), (1, .inl nw), (2, .inl rf)] [.inl (1 : Int32)] (ma_put S 94 0 (.inl (1 : Int32))) _
        refine zw_if0 hm_170 dX12_kind_53 (t := 58) rfl zc0_eq (fun hc => absurd hc (by decide)) (fun _ => ?_)
        refine zw_push hm_170 dX12_kind_56 (v := .inl (0 : Int32)) rfl ?_
        exact zw_iret hm_170 dX12_kind_57 (HQ _ _ h)
      · intro hc
        rw [if_neg hc] at h
        refine zw_push hm_170 dX12_kind_25 (v := .inl rf) rfl ?_
        refine zw_push hm_170 dX12_kind_26 (v := .inl (1 : Int32)) rfl ?_
        refine zw_push hm_170 dX12_kind_27 (v := .inl nw) rfl ?_
        refine zw_stk hm_170 dX12_kind_28 (st' := [.inl ((1 : Int32) <<< (nw &&& 31)), .inl rf, .inr (.inr (some 94))]) rfl rfl ?_
        refine zw_if2 hm_170 dX12_kind_29 (t := 36) rfl zc2_lt ?_ ?_
        · intro hc
          rw [if_pos hc] at h
          refine zw_push hm_170 dX12_kind_36 (v := .inr (.inr (some 94))) rfl ?_
          refine zw_gf hm_170 dX12_kind_37 (v := .inl ((mI S) 94 7)) (zT_is hS s_94) (zT_t hS s_94) rfl f_12_118_12 rfl ?_
          refine zw_push hm_170 dX12_kind_40 (v := .inl (16 : Int32)) rfl ?_
          refine zw_if2 hm_170 dX12_kind_42 (t := 49) rfl zc2_ne ?_ ?_
          · intro hc
            rw [if_neg hc] at h
            refine zw_push hm_170 dX12_kind_49 (v := .inl (0 : Int32)) rfl ?_
            refine zw_cv hm_170 dX12_kind_50 v_12_110_12 hm_167 [.inl (0 : Int32)] [] rfl (zT_rt hS s_94 rfl) ⟨by omega, by omega⟩ rfl ?_
            show ma_wp X (d - 1) (w - 21) 167 0 [(0, .inr (.inr (some 94))), (1, .inl (0 : Int32))] [] S _
            refine zw_push hm_167 dX12_fails_0 (v := .inr (.inr (some 94))) rfl ?_
            refine zw_push hm_167 dX12_fails_1 (v := .inl (0 : Int32)) rfl ?_
            refine zw_pf hm_167 dX12_fails_2 (zT_is hS s_94) (zT_t hS s_94) p_12_1_12 zk_int ?_
            refine zw_push hm_167 dX12_fails_5 (v := .inl (0 : Int32)) rfl ?_
            refine zw_if0 hm_167 dX12_fails_6 (t := 13) rfl zc0_eq (fun _ => ?_) (fun hc => absurd (by decide) hc)
            refine zw_push hm_167 dX12_fails_13 (v := .inl (0 : Int32)) rfl ?_
            refine zw_bret hm_167 dX12_fails_14 (by decide) ?_
            show ma_wp X d w 170 53 [(3, .inl (0 : Int32)), (0, .inr (.inr (some 94))), (1, .inl nw), (2, .inl rf)] [.inl (0 : Int32)] (ma_put S 94 0 (.inl (0 : Int32))) _
            refine zw_if0 hm_170 dX12_kind_53 (t := 58) rfl zc0_eq (fun _ => ?_) (fun hc => absurd (by decide) hc)
            refine zw_push hm_170 dX12_kind_58 (v := .inr (.inr (some 94))) rfl ?_
            refine zw_gf hm_170 dX12_kind_59 (v := .inr (.inr (some 97))) (zT_is (zT_pi hS) s_94) (zT_t (zT_pi hS) s_94) rfl f_12_20_12 (zT_f (zT_pi hS) r_94_5) ?_
            refine zw_push hm_170 dX12_kind_62 (v := .inr (.inr (some 94))) rfl ?_
            refine zw_gf hm_170 dX12_kind_63 (v := .inl ((mI S) 94 7)) (zT_is (zT_pi hS) s_94) (zT_t (zT_pi hS) s_94) rfl f_12_118_12 rfl ?_
            refine zw_push hm_170 dX12_kind_66 (v := .inl nw) rfl ?_
            obtain ⟨hg, h⟩ := h
            refine zw_ias hm_170 dX12_kind_67 (zT_is (zT_pi hS) s_97) (zT_h (zT_pi hS) s_97) rfl hg ?_
            refine zw_push hm_170 dX12_kind_68 (v := .inr (.inr (some 94))) rfl ?_
            refine zw_gf hm_170 dX12_kind_69 (v := .inr (.inr (some 98))) (zT_is (zT_pi (zT_pi hS)) s_94) (zT_t (zT_pi (zT_pi hS)) s_94) rfl f_12_24_12 (zT_f (zT_pi (zT_pi hS)) r_94_6) ?_
            refine zw_push hm_170 dX12_kind_72 (v := .inr (.inr (some 94))) rfl ?_
            refine zw_gf hm_170 dX12_kind_73 (v := .inl ((mI S) 94 7)) (zT_is (zT_pi (zT_pi hS)) s_94) (zT_t (zT_pi (zT_pi hS)) s_94) rfl f_12_118_12 rfl ?_
            refine zw_push hm_170 dX12_kind_76 (v := .inl rf) rfl ?_
            obtain ⟨hg, h⟩ := h
            refine zw_ias hm_170 dX12_kind_77 (zT_is (zT_pi (zT_pi hS)) s_98) (zT_h (zT_pi (zT_pi hS)) s_98) rfl hg ?_
            refine zw_push hm_170 dX12_kind_78 (v := .inr (.inr (some 94))) rfl ?_
            refine zw_stk hm_170 dX12_kind_79 (st' := [.inr (.inr (some 94)), .inr (.inr (some 94))]) rfl rfl ?_
            refine zw_gf hm_170 dX12_kind_80 (v := .inl ((mI S) 94 7)) (zT_is (zT_pi (zT_pi (zT_pi hS))) s_94) (zT_t (zT_pi (zT_pi (zT_pi hS))) s_94) rfl f_12_118_12 rfl ?_
            refine zw_push hm_170 dX12_kind_83 (v := .inl (1 : Int32)) rfl ?_
            refine zw_stk hm_170 dX12_kind_84 (st' := [.inl (((mI S) 94 7) + (1 : Int32)), .inr (.inr (some 94))]) rfl rfl ?_
            refine zw_pf hm_170 dX12_kind_85 (zT_is (zT_pi (zT_pi (zT_pi hS))) s_94) (zT_t (zT_pi (zT_pi (zT_pi hS))) s_94) p_12_118_12 zk_int ?_
            refine zw_push hm_170 dX12_kind_88 (v := .inr (.inr (some 94))) rfl ?_
            refine zw_gf hm_170 dX12_kind_89 (v := .inl (((mI S) 94 7) + (1 : Int32))) (zT_is (zT_pi (zT_pi (zT_pi (zT_pi hS)))) s_94) (zT_t (zT_pi (zT_pi (zT_pi (zT_pi hS)))) s_94) rfl f_12_118_12 rfl ?_
            refine zw_push hm_170 dX12_kind_92 (v := .inl (1 : Int32)) rfl ?_
            refine zw_stk hm_170 dX12_kind_93 (st' := [.inl ((((mI S) 94 7) + (1 : Int32)) - (1 : Int32))]) rfl rfl ?_
            exact zw_iret hm_170 dX12_kind_94 (HQ _ _ h)
          · intro hc
            rw [if_pos (Classical.not_not.mp hc)] at h
            refine zw_push hm_170 dX12_kind_45 (v := .inl (2 : Int32)) rfl ?_
            refine zw_goto hm_170 dX12_kind_46 (t := 50) rfl ?_
            refine zw_cv hm_170 dX12_kind_50 v_12_110_12 hm_167 [.inl (2 : Int32)] [] rfl (zT_rt hS s_94 rfl) ⟨by omega, by omega⟩ rfl ?_
            show ma_wp X (d - 1) (w - 21) 167 0 [(0, .inr (.inr (some 94))), (1, .inl (2 : Int32))] [] S _
            refine zw_push hm_167 dX12_fails_0 (v := .inr (.inr (some 94))) rfl ?_
            refine zw_push hm_167 dX12_fails_1 (v := .inl (2 : Int32)) rfl ?_
            refine zw_pf hm_167 dX12_fails_2 (zT_is hS s_94) (zT_t hS s_94) p_12_1_12 zk_int ?_
            refine zw_push hm_167 dX12_fails_5 (v := .inl (2 : Int32)) rfl ?_
            refine zw_if0 hm_167 dX12_fails_6 (t := 13) rfl zc0_eq (fun hc => absurd hc (by decide)) (fun _ => ?_)
            refine zw_push hm_167 dX12_fails_9 (v := .inl (1 : Int32)) rfl ?_
            refine zw_goto hm_167 dX12_fails_10 (t := 14) rfl ?_
            refine zw_bret hm_167 dX12_fails_14 (by decide) ?_
            show ma_wp X d w 170 53 [(3, .inl (0 : Int32)), (0, .inr (.inr (some 94))), (1, .inl nw), (2, .inl rf)] [.inl (1 : Int32)] (ma_put S 94 0 (.inl (2 : Int32))) _
            refine zw_if0 hm_170 dX12_kind_53 (t := 58) rfl zc0_eq (fun hc => absurd hc (by decide)) (fun _ => ?_)
            refine zw_push hm_170 dX12_kind_56 (v := .inl (0 : Int32)) rfl ?_
            exact zw_iret hm_170 dX12_kind_57 (HQ _ _ h)
        · intro hc
          rw [if_neg hc] at h
          refine zw_push hm_170 dX12_kind_32 (v := .inl (1 : Int32)) rfl ?_
          refine zw_goto hm_170 dX12_kind_33 (t := 50) rfl ?_
          refine zw_cv hm_170 dX12_kind_50 v_12_110_12 hm_167 [.inl (1 : Int32)] [] rfl (zT_rt hS s_94 rfl) ⟨by omega, by omega⟩ rfl ?_
          show ma_wp X (d - 1) (w - 21) 167 0 [(0, .inr (.inr (some 94))), (1, .inl (1 : Int32))] [] S _
          refine zw_push hm_167 dX12_fails_0 (v := .inr (.inr (some 94))) rfl ?_
          refine zw_push hm_167 dX12_fails_1 (v := .inl (1 : Int32)) rfl ?_
          refine zw_pf hm_167 dX12_fails_2 (zT_is hS s_94) (zT_t hS s_94) p_12_1_12 zk_int ?_
          refine zw_push hm_167 dX12_fails_5 (v := .inl (1 : Int32)) rfl ?_
          refine zw_if0 hm_167 dX12_fails_6 (t := 13) rfl zc0_eq (fun hc => absurd hc (by decide)) (fun _ => ?_)
          refine zw_push hm_167 dX12_fails_9 (v := .inl (1 : Int32)) rfl ?_
          refine zw_goto hm_167 dX12_fails_10 (t := 14) rfl ?_
          refine zw_bret hm_167 dX12_fails_14 (by decide) ?_
          show ma_wp X d w 170 53 [(3, .inl (0 : Int32)), (0, .inr (.inr (some 94))), (1, .inl nw), (2, .inl rf)] [.inl (1 : Int32)] (ma_put S 94 0 (.inl (1 : Int32))) _
          refine zw_if0 hm_170 dX12_kind_53 (t := 58) rfl zc0_eq (fun hc => absurd hc (by decide)) (fun _ => ?_)
          refine zw_push hm_170 dX12_kind_56 (v := .inl (0 : Int32)) rfl ?_
          exact zw_iret hm_170 dX12_kind_57 (HQ _ _ h)
    · intro hc
      rw [if_neg hc] at h
      refine zw_push hm_170 dX12_kind_10 (v := .inl (1 : Int32)) rfl ?_
      refine zw_goto hm_170 dX12_kind_11 (t := 15) rfl ?_
      refine zw_sto hm_170 dX12_kind_15 [(3, .inl (1 : Int32)), (0, .inr (.inr (some 94))), (1, .inl nw), (2, .inl rf)] rfl rfl rfl ?_
      refine zw_push hm_170 dX12_kind_16 (v := .inr (.inr (some 94))) rfl ?_
      refine zw_push hm_170 dX12_kind_17 (v := .inl (1 : Int32)) rfl ?_
      refine zw_if0 hm_170 dX12_kind_18 (t := 32) rfl zc0_ne (fun _ => ?_) (fun hc => absurd (by decide) hc)
      refine zw_push hm_170 dX12_kind_32 (v := .inl (1 : Int32)) rfl ?_
      refine zw_goto hm_170 dX12_kind_33 (t := 50) rfl ?_
      refine zw_cv hm_170 dX12_kind_50 v_12_110_12 hm_167 [.inl (1 : Int32)] [] rfl (zT_rt hS s_94 rfl) ⟨by omega, by omega⟩ rfl ?_
      show ma_wp X (d - 1) (w - 21) 167 0 [(0, .inr (.inr (some 94))), (1, .inl (1 : Int32))] [] S _
      refine zw_push hm_167 dX12_fails_0 (v := .inr (.inr (some 94))) rfl ?_
      refine zw_push hm_167 dX12_fails_1 (v := .inl (1 : Int32)) rfl ?_
      refine zw_pf hm_167 dX12_fails_2 (zT_is hS s_94) (zT_t hS s_94) p_12_1_12 zk_int ?_
      refine zw_push hm_167 dX12_fails_5 (v := .inl (1 : Int32)) rfl ?_
      refine zw_if0 hm_167 dX12_fails_6 (t := 13) rfl zc0_eq (fun hc => absurd hc (by decide)) (fun _ => ?_)
      refine zw_push hm_167 dX12_fails_9 (v := .inl (1 : Int32)) rfl ?_
      refine zw_goto hm_167 dX12_fails_10 (t := 14) rfl ?_
      refine zw_bret hm_167 dX12_fails_14 (by decide) ?_
      show ma_wp X d w 170 53 [(3, .inl (1 : Int32)), (0, .inr (.inr (some 94))), (1, .inl nw), (2, .inl rf)] [.inl (1 : Int32)] (ma_put S 94 0 (.inl (1 : Int32))) _
      refine zw_if0 hm_170 dX12_kind_53 (t := 58) rfl zc0_eq (fun hc => absurd hc (by decide)) (fun _ => ?_)
      refine zw_push hm_170 dX12_kind_56 (v := .inl (0 : Int32)) rfl ?_
      exact zw_iret hm_170 dX12_kind_57 (HQ _ _ h)
theorem sp_170 {X : Nat × (Nat → Int32)} {P : Option ma_V → (Nat → Nat → Int32) → Prop} {T : Nat} {m : Nat → Nat → Int32} (nw : Int32) (rf : Int32) (hV : zV m) (r_W : zW (m 94 7) (m 98) (m 101) (m 102) (m 108)) (r_GW : zGW T (m 94 55) (m 109)) (r_GU : zGU T (m 94 46) (m 99)) (r_OW : zOw (m 99) (m 103) (m 111)) (r_DX : zDX (m 94 10) (m 99) (m 112) (m 113) (m 114) (m 94 55) (m 98) (m 101) (m 102) (m 108)) (r_GG : zGG (m 94 58) (m 94 56) (m 94 57) (m 106)) (r_HA : zHA (m 94 10) (m 94 11) (m 94 13) (m 94 14) (m 94 16) (m 94 61) (m 94 59) (m 94 60) (m 99) (m 102) (m 103) (m 111) (m 117) (m 98) (m 101) (m 108)) (r_RGc : zRG (m 94 10) (m 94 18) (m 94 64) (m 94 63) (m 99) (m 103) (m 102) (m 116)) (hpre8 : (m 94 58).toInt = 0 ∨ (m 94 10).toInt = 5) (KZ : ∀ v m', zV (zov wr_170 m m') → (zW (m' 94 7) (m' 98) (m 101) (m 102) (m 108)) → (zGW T (m 94 55) (m 109)) → (zGU T (m 94 46) (m 99)) → (zOw (m 99) (m 103) (m 111)) → (zDX (m 94 10) (m 99) (m 112) (m 113) (m 114) (m 94 55) (m' 98) (m 101) (m 102) (m 108)) → (zGG (m 94 58) (m 94 56) (m 94 57) (m 106)) → (zHA (m 94 10) (m 94 11) (m 94 13) (m 94 14) (m 94 16) (m 94 61) (m 94 59) (m 94 60) (m 99) (m 102) (m 103) (m 111) (m 117) (m' 98) (m 101) (m 108)) → (zRG (m 94 10) (m 94 18) (m 94 64) (m 94 63) (m 99) (m 103) (m 102) (m 116)) → ((m 94 58).toInt = 0 ∨ (m 94 10).toInt = 5) → P (some (.inl v)) (zov wr_170 m m')) : zm X 1 21 170 0 [(0, .inr (.inr (some 94))), (1, .inl nw), (2, .inl rf)] m P := by
  have K : ∀ v m', zF wr_170 m m' → zV m' → (zW (m' 94 7) (m' 98) (m' 101) (m' 102) (m' 108)) → (zGW T (m' 94 55) (m' 109)) → (zGU T (m' 94 46) (m' 99)) → (zOw (m' 99) (m' 103) (m' 111)) → (zDX (m' 94 10) (m' 99) (m' 112) (m' 113) (m' 114) (m' 94 55) (m' 98) (m' 101) (m' 102) (m' 108)) → (zGG (m' 94 58) (m' 94 56) (m' 94 57) (m' 106)) → (zHA (m' 94 10) (m' 94 11) (m' 94 13) (m' 94 14) (m' 94 16) (m' 94 61) (m' 94 59) (m' 94 60) (m' 99) (m' 102) (m' 103) (m' 111) (m' 117) (m' 98) (m' 101) (m' 108)) → (zRG (m' 94 10) (m' 94 18) (m' 94 64) (m' 94 63) (m' 99) (m' 103) (m' 102) (m' 116)) → ((m' 94 58).toInt = 0 ∨ (m' 94 10).toInt = 5) → P (some (.inl v)) m' := by
    intro v m' hf z q0 q1 q2 q3 q4 q5 q6 q7 q8
    have e := zov_eq hf
    rw [e] at z ⊢
    try rw [e] at q0
    try rw [e] at q1
    try rw [e] at q2
    try rw [e] at q3
    try rw [e] at q4
    try rw [e] at q5
    try rw [e] at q6
    try rw [e] at q7
    try rw [e] at q8
    exact KZ v m' z q0 q1 q2 q3 q4 q5 q6 q7 q8
  refine g_170_0 nw rf ?_
  have f1 : 0 ≤ (m 94 58).toInt ∧ (m 94 58).toInt ≤ 1 := rs_94_58 (m := m) hV
  have f2 : 0 ≤ (m 94 10).toInt ∧ (m 94 10).toInt ≤ 6 := rs_94_10 (m := m) hV
  have b3 := i_bd nw
  have li4 : (0 : Int32).toInt = 0 := rfl
  refine zd (fun (h5 : nw < (0 : Int32)) => ?_) (fun (h5 : ¬ nw < (0 : Int32)) => ?_)
  · skip
    have g6 := i_lt h5
    have hV7 : zV (ma_u m 94 0 (1 : Int32)) := uf_94_0 hV
    exact K ((0 : Int32)) _ (zF_u zF_rfl rfl) hV7 r_W r_GW r_GU r_OW r_DX r_GG r_HA r_RGc (show (m 94 58).toInt = 0 ∨ (m 94 10).toInt = 5 from by omega)
  · skip
    have g8 := i_nlt h5
    have li9 : (8 : Int32).toInt = 8 := rfl
    refine zd (fun (h10 : nw ≤ (8 : Int32)) => ?_) (fun (h10 : ¬ nw ≤ (8 : Int32)) => ?_)
    · skip
      have g11 := i_le h10
      have b12 := i_bd rf
      refine zd (fun (h13 : rf < (0 : Int32)) => ?_) (fun (h13 : ¬ rf < (0 : Int32)) => ?_)
      · skip
        have g14 := i_lt h13
        have hV15 : zV (ma_u m 94 0 (1 : Int32)) := uf_94_0 hV
        exact K ((0 : Int32)) _ (zF_u zF_rfl rfl) hV15 r_W r_GW r_GU r_OW r_DX r_GG r_HA r_RGc (show (m 94 58).toInt = 0 ∨ (m 94 10).toInt = 5 from by omega)
      · skip
        have g16 := i_nlt h13
        have b17 := i_bd ((1 : Int32) <<< (nw &&& 31))
        refine zd (fun (h18 : rf < ((1 : Int32) <<< (nw &&& 31))) => ?_) (fun (h18 : ¬ rf < ((1 : Int32) <<< (nw &&& 31))) => ?_)
        · skip
          have g19 := i_lt h18
          have f20 : 0 ≤ (m 94 7).toInt ∧ (m 94 7).toInt ≤ 16 := rs_94_7 (m := m) hV
          have li21 : (16 : Int32).toInt = 16 := rfl
          refine zd (fun (h22 : (m 94 7) = (16 : Int32)) => ?_) (fun (h22 : ¬ (m 94 7) = (16 : Int32)) => ?_)
          · skip
            have g23 := i_eq h22
            have hV24 : zV (ma_u m 94 0 (2 : Int32)) := uf_94_0 hV
            exact K ((0 : Int32)) _ (zF_u zF_rfl rfl) hV24 r_W r_GW r_GU r_OW r_DX r_GG r_HA r_RGc (show (m 94 58).toInt = 0 ∨ (m 94 10).toInt = 5 from by omega)
          · skip
            have g25 := i_ne h22
            have hg26 : (0 ≤ (m 94 7) ∧ (m 94 7).toNatClampNeg < 16) := i_ix (by omega) (by omega)
            refine ⟨hg26, ?_⟩
            try have sh := i_shl8 (n := nw) (by omega) (by omega)
            have hg27 : (0 ≤ (m 94 7) ∧ (m 94 7).toNatClampNeg < 16) := i_ix (by omega) (by omega)
            refine ⟨hg27, ?_⟩
            have hV28 : zV (ma_u m 94 0 (0 : Int32)) := uf_94_0 hV
            have hV29 : zV (ma_u (ma_u m 94 0 (0 : Int32)) 97 (m 94 7).toNatClampNeg nw) := ua_97 hV28 (by omega) (by omega)
            have hV30 : zV (ma_u (ma_u (ma_u m 94 0 (0 : Int32)) 97 (m 94 7).toNatClampNeg nw) 98 (m 94 7).toNatClampNeg rf) := ua_98 hV29 (by omega) (by omega)
            first | have e32 : ((m 94 7) + (1 : Int32)).toInt = (m 94 7).toInt + (1) := i_addk rfl (by omega) (by omega) | have b33 := i_bd ((m 94 7) + (1 : Int32))
            have hV31 : zV (ma_u (ma_u (ma_u (ma_u m 94 0 (0 : Int32)) 97 (m 94 7).toNatClampNeg nw) 98 (m 94 7).toNatClampNeg rf) 94 7 ((m 94 7) + (1 : Int32))) := us_94_7 hV30 (by omega) (by omega)
            first | have e34 : (((m 94 7) + (1 : Int32)) - (1 : Int32)).toInt = ((m 94 7) + (1 : Int32)).toInt - (1) := i_subk rfl (by omega) (by omega) | have b35 := i_bd (((m 94 7) + (1 : Int32)) - (1 : Int32))
            exact K ((((m 94 7) + (1 : Int32)) - (1 : Int32))) _ (zF_u (zF_u (zF_u (zF_u zF_rfl rfl) rfl) rfl) rfl) hV31 (show zW ((m 94 7) + (1 : Int32)) ((ma_u m 98 (m 94 7).toNatClampNeg rf) 98) (m 101) (m 102) (m 108) from by first | (exact W_same r_W (by omega) (zrf_kind r_W (tn_cast (by omega)) (fun t ht => (ra_101 hV ht).1))) | (exfalso; omega; done) | (exfalso; contradiction; done)) r_GW r_GU r_OW (show zDX (m 94 10) (m 99) (m 112) (m 113) (m 114) (m 94 55) ((ma_u m 98 (m 94 7).toNatClampNeg rf) 98) (m 101) (m 102) (m 108) from by first | (exact DX_same r_DX (zrf_kind r_W (tn_cast (by omega)) (fun t ht => (ra_101 hV ht).1))) | (exfalso; omega; done) | (exfalso; contradiction; done)) r_GG (show zHA (m 94 10) (m 94 11) (m 94 13) (m 94 14) (m 94 16) (m 94 61) (m 94 59) (m 94 60) (m 99) (m 102) (m 103) (m 111) (m 117) ((ma_u m 98 (m 94 7).toNatClampNeg rf) 98) (m 101) (m 108) from by first | (exact HA_same r_HA (zrf_kind r_W (tn_cast (by omega)) (fun t ht => (ra_101 hV ht).1))) | (exfalso; omega; done) | (exfalso; contradiction; done)) r_RGc (show (m 94 58).toInt = 0 ∨ (m 94 10).toInt = 5 from by omega)
        · skip
          have g36 := i_nlt h18
          have hV37 : zV (ma_u m 94 0 (1 : Int32)) := uf_94_0 hV
          exact K ((0 : Int32)) _ (zF_u zF_rfl rfl) hV37 r_W r_GW r_GU r_OW r_DX r_GG r_HA r_RGc (show (m 94 58).toInt = 0 ∨ (m 94 10).toInt = 5 from by omega)
    · skip
      have g38 := i_nle h10
      have hV39 : zV (ma_u m 94 0 (1 : Int32)) := uf_94_0 hV
      exact K ((0 : Int32)) _ (zF_u zF_rfl rfl) hV39 r_W r_GW r_GU r_OW r_DX r_GG r_HA r_RGc (show (m 94 58).toInt = 0 ∨ (m 94 10).toInt = 5 from by omega)
