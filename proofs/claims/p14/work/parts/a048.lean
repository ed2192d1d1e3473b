/-! from 94.457 -/
/-! the reference (written by wip/tools/gen94m.py) -/
set_option maxRecDepth 100000 in
theorem hm_255 : ma_md 255 = some (12, yX12_granted, cX12_granted, 4, (some (FieldType.int))) := rfl
theorem dX12_granted_0 : decode cX12_granted 0 = .ok (.aload_n 0, 1) := by decide +kernel
theorem dX12_granted_1 : decode cX12_granted 1 = .ok (.aload_n 0, 1) := by decide +kernel
theorem dX12_granted_2 : decode cX12_granted 2 = .ok (.iload_n 1, 1) := by decide +kernel
theorem dX12_granted_3 : decode cX12_granted 3 = .ok (.invokevirtual 493, 3) := by decide +kernel
theorem dX12_granted_6 : decode cX12_granted 6 = .ok (.ifCond .ne 7, 3) := by decide +kernel
theorem dX12_granted_9 : decode cX12_granted 9 = .ok (.iconst 1, 1) := by decide +kernel
theorem dX12_granted_10 : decode cX12_granted 10 = .ok (.goto 15, 3) := by decide +kernel
theorem dX12_granted_25 : decode cX12_granted 25 = .ok (.invokevirtual 110, 3) := by decide +kernel
theorem dX12_granted_28 : decode cX12_granted 28 = .ok (.ifCond .eq 5, 3) := by decide +kernel
theorem dX12_granted_31 : decode cX12_granted 31 = .ok (.iconst 0, 1) := by decide +kernel
theorem dX12_granted_32 : decode cX12_granted 32 = .ok (.ireturn, 1) := by decide +kernel
theorem dX12_granted_13 : decode cX12_granted 13 = .ok (.aload_n 0, 1) := by decide +kernel
theorem dX12_granted_24 : decode cX12_granted 24 = .ok (.iconst 0, 1) := by decide +kernel
theorem dX12_granted_33 : decode cX12_granted 33 = .ok (.aload_n 0, 1) := by decide +kernel
theorem dX12_granted_42 : decode cX12_granted 42 = .ok (.aload_n 0, 1) := by decide +kernel
theorem dX12_granted_46 : decode cX12_granted 46 = .ok (.iconst 0, 1) := by decide +kernel
theorem dX12_granted_48 : decode cX12_granted 48 = .ok (.istore_n 2, 1) := by decide +kernel
theorem dX12_granted_49 : decode cX12_granted 49 = .ok (.aload_n 0, 1) := by decide +kernel
theorem dX12_granted_50 : decode cX12_granted 50 = .ok (.dup, 1) := by decide +kernel
theorem dX12_granted_54 : decode cX12_granted 54 = .ok (.iconst 1, 1) := by decide +kernel
theorem dX12_granted_55 : decode cX12_granted 55 = .ok (.isub, 1) := by decide +kernel
theorem dX12_granted_59 : decode cX12_granted 59 = .ok (.iconst 0, 1) := by decide +kernel
theorem dX12_granted_60 : decode cX12_granted 60 = .ok (.istore_n 3, 1) := by decide +kernel
theorem dX12_granted_56 : decode cX12_granted 56 = .ok (.putfield 261, 3) := by decide +kernel
theorem dX12_granted_51 : decode cX12_granted 51 = .ok (.getfield 261, 3) := by decide +kernel
theorem dX12_granted_47 : decode cX12_granted 47 = .ok (.iaload, 1) := by decide +kernel
theorem dX12_granted_43 : decode cX12_granted 43 = .ok (.getfield 74, 3) := by decide +kernel
theorem dX12_granted_40 : decode cX12_granted 40 = .ok (.iconst (-1), 1) := by decide +kernel
theorem dX12_granted_41 : decode cX12_granted 41 = .ok (.ireturn, 1) := by decide +kernel
theorem dX12_granted_37 : decode cX12_granted 37 = .ok (.ifCond .ne 5, 3) := by decide +kernel
theorem dX12_granted_34 : decode cX12_granted 34 = .ok (.getfield 261, 3) := by decide +kernel
theorem dX12_granted_20 : decode cX12_granted 20 = .ok (.iconst 2, 1) := by decide +kernel
theorem dX12_granted_21 : decode cX12_granted 21 = .ok (.goto 4, 3) := by decide +kernel
theorem dX12_granted_17 : decode cX12_granted 17 = .ok (.ifCond .ne 7, 3) := by decide +kernel
theorem dX12_granted_14 : decode cX12_granted 14 = .ok (.getfield 237, 3) := by decide +kernel
theorem dX12_granted_61 : decode cX12_granted 61 = .ok (.iload_n 3, 1) := by decide +kernel
theorem dX12_granted_62 : decode cX12_granted 62 = .ok (.aload_n 0, 1) := by decide +kernel
theorem dX12_granted_89 : decode cX12_granted 89 = .ok (.aload_n 0, 1) := by decide +kernel
theorem dX12_granted_93 : decode cX12_granted 93 = .ok (.iload_n 2, 1) := by decide +kernel
theorem dX12_granted_95 : decode cX12_granted 95 = .ok (.istore_n 3, 1) := by decide +kernel
theorem dX12_granted_96 : decode cX12_granted 96 = .ok (.aload_n 0, 1) := by decide +kernel
theorem dX12_granted_97 : decode cX12_granted 97 = .ok (.iload_n 1, 1) := by decide +kernel
theorem dX12_granted_98 : decode cX12_granted 98 = .ok (.iload_n 2, 1) := by decide +kernel
theorem dX12_granted_99 : decode cX12_granted 99 = .ok (.invokevirtual 481, 3) := by decide +kernel
theorem dX12_granted_102 : decode cX12_granted 102 = .ok (.aload_n 0, 1) := by decide +kernel
theorem dX12_granted_103 : decode cX12_granted 103 = .ok (.iload_n 2, 1) := by decide +kernel
theorem dX12_granted_104 : decode cX12_granted 104 = .ok (.invokevirtual 490, 3) := by decide +kernel
theorem dX12_granted_107 : decode cX12_granted 107 = .ok (.iload_n 3, 1) := by decide +kernel
theorem dX12_granted_108 : decode cX12_granted 108 = .ok (.ireturn, 1) := by decide +kernel
theorem dX12_granted_94 : decode cX12_granted 94 = .ok (.iaload, 1) := by decide +kernel
theorem dX12_granted_90 : decode cX12_granted 90 = .ok (.getfield 31, 3) := by decide +kernel
theorem dX12_granted_69 : decode cX12_granted 69 = .ok (.aload_n 0, 1) := by decide +kernel
theorem dX12_granted_73 : decode cX12_granted 73 = .ok (.iload_n 3, 1) := by decide +kernel
theorem dX12_granted_74 : decode cX12_granted 74 = .ok (.aload_n 0, 1) := by decide +kernel
theorem dX12_granted_78 : decode cX12_granted 78 = .ok (.iload_n 3, 1) := by decide +kernel
theorem dX12_granted_79 : decode cX12_granted 79 = .ok (.iconst 1, 1) := by decide +kernel
theorem dX12_granted_80 : decode cX12_granted 80 = .ok (.iadd, 1) := by decide +kernel
theorem dX12_granted_83 : decode cX12_granted 83 = .ok (.iinc 3 1, 3) := by decide +kernel
theorem dX12_granted_86 : decode cX12_granted 86 = .ok (.goto (-25), 3) := by decide +kernel
theorem dX12_granted_82 : decode cX12_granted 82 = .ok (.iastore, 1) := by decide +kernel
theorem dX12_granted_81 : decode cX12_granted 81 = .ok (.iaload, 1) := by decide +kernel
theorem dX12_granted_75 : decode cX12_granted 75 = .ok (.getfield 74, 3) := by decide +kernel
theorem dX12_granted_70 : decode cX12_granted 70 = .ok (.getfield 74, 3) := by decide +kernel
theorem dX12_granted_66 : decode cX12_granted 66 = .ok (.if_icmp .ge 23, 3) := by decide +kernel
theorem dX12_granted_63 : decode cX12_granted 63 = .ok (.getfield 261, 3) := by decide +kernel
def wr_255 (c k : Nat) : Bool := Nat.beq c 99 || Nat.beq c 105 || Nat.beq c 106 || Nat.beq c 109 || Nat.beq c 111 || Nat.beq c 112 || Nat.beq c 113 || Nat.beq c 114 || Nat.beq c 115 || Nat.beq c 120 || Nat.beq c 121 || (Nat.beq c 94 && (Nat.beq k 0 || Nat.beq k 44 || Nat.beq k 45 || Nat.beq k 49 || Nat.beq k 55 || Nat.beq k 56 || Nat.beq k 80))
theorem ws_238_255 : ∀ c k, wr_238 c k = true → wr_255 c k = true := by
  intro c k h
  simp only [wr_238, wr_255, Bool.or_eq_true, Bool.and_eq_true, Nat.beq_eq] at h ⊢
  omega
theorem ws_241_255 : ∀ c k, wr_241 c k = true → wr_255 c k = true := by
  intro c k h
  simp only [wr_241, wr_255, Bool.or_eq_true, Bool.and_eq_true, Nat.beq_eq] at h ⊢
  omega
theorem g_255_0 {X : Nat × (Nat → Int32)} {m : Nat → Nat → Int32} {P : Option ma_V → (Nat → Nat → Int32) → Prop} (r1 : Int32) (h : if r1 < 0 then (P (some (.inl (0 : Int32))) (ma_u m 94 0 (1 : Int32))) else (if (16 : Int32) ≤ r1 then (P (some (.inl (0 : Int32))) (ma_u m 94 0 (1 : Int32))) else (if (m 94 8) = 0 then (P (some (.inl (0 : Int32))) (ma_u m 94 0 (2 : Int32))) else (if (m 94 55) = 0 then (P (some (.inl (-1 : Int32))) (ma_u m 94 0 (0 : Int32))) else (zm X 5 111 255 61 [(0, .inr (.inr (some 94))), (1, .inl r1), (2, .inl (m 114 0)), (3, .inl (0 : Int32))] (ma_u (ma_u m 94 0 (0 : Int32)) 94 55 ((m 94 55) - (1 : Int32))) P))))) : zm X 5 111 255 0 [(0, .inr (.inr (some 94))), (1, .inl r1)] m P := by
  intro d w S Q hd hw hS hm HQ
  subst hm
  refine zw_push hm_255 dX12_granted_0 (v := .inr (.inr (some 94))) rfl ?_
  refine zw_push hm_255 dX12_granted_1 (v := .inr (.inr (some 94))) rfl ?_
  refine zw_push hm_255 dX12_granted_2 (v := .inl r1) rfl ?_
  refine zw_cv hm_255 dX12_granted_3 v_12_493_12 hm_182 [.inl r1] [.inr (.inr (some 94))] rfl (zT_rt hS s_94 rfl) ⟨by omega, by omega⟩ rfl ?_
  show ma_wp X (d - 1) (w - 21) 182 0 [(0, .inr (.inr (some 94))), (1, .inl r1)] [] S _
  refine zw_push hm_182 dX12_isNamed_0 (v := .inl r1) rfl ?_
  refine zw_if0 hm_182 dX12_isNamed_1 (t := 14) rfl zc0_lt ?_ ?_
  · intro hc
    rw [if_pos hc] at h
    refine zw_push hm_182 dX12_isNamed_14 (v := .inl (0 : Int32)) rfl ?_
    refine zw_bret hm_182 dX12_isNamed_15 (by decide) ?_
    show ma_wp X d w 255 6 [(0, .inr (.inr (some 94))), (1, .inl r1)] [.inl (0 : Int32), .inr (.inr (some 94))] S _
    refine zw_if0 hm_255 dX12_granted_6 (t := 13) rfl zc0_ne (fun hc => absurd hc (by decide)) (fun _ => ?_)
    refine zw_push hm_255 dX12_granted_9 (v := .inl (1 : Int32)) rfl ?_
    refine zw_goto hm_255 dX12_granted_10 (t := 25) rfl ?_
    refine zw_cv hm_255 dX12_granted_25 v_12_110_12 hm_167 [.inl (1 : Int32)] [] rfl (zT_rt hS s_94 rfl) ⟨by omega, by omega⟩ rfl ?_
    show ma_wp X (d - 1) (w - 21) 167 0 [(0, .inr (.inr (some 94))), (1, .inl (1 : Int32))] [] S _
    refine zw_push hm_167 dX12_fails_0 (v := .inr (.inr (some 94))) rfl ?_
    refine zw_push hm_167 dX12_fails_1 (v := .inl (1 : Int32)) rfl ?_
    refine zw_pf hm_167 dX12_fails_2 (zT_is hS s_94) (zT_t hS s_94) p_12_1_12 zk_int ?_
    refine zw_push hm_167 dX12_fails_5 (v := .inl (1 : Int32)) rfl ?_
    refine zw_if0 hm_167 dX12_fails_6 (t := 13) rfl zc0_eq (fun hc => absurd hc (by decide)) (fun _ => ?_)
    refine zw_push hm_167 dX12_fails_9 (v := .inl (1 : Int32)) rfl ?_
    refine zw_goto hm_167 dX12_fails_10 (t := 14) rfl ?_
    refine zw_bret hm_167 dX12_fails_14 (by decide) ?_
    show ma_wp X d w 255 28 [(0, .inr (.inr (some 94))), (1, .inl r1)] [.inl (1 : Int32)] (ma_put S 94 0 (.inl (1 : Int32))) _
    refine zw_if0 hm_255 dX12_granted_28 (t := 33) rfl zc0_eq (fun hc => absurd hc (by decide)) (fun _ => ?_)
    refine zw_push hm_255 dX12_granted_31 (v := .inl (0 : Int32)) rfl ?_
    exact zw_iret hm_255 dX12_granted_32 (HQ _ _ h)
  · intro hc
    rw [if_neg hc] at h
    refine zw_push hm_182 dX12_isNamed_4 (v := .inl r1) rfl ?_
    refine zw_push hm_182 dX12_isNamed_5 (v := .inl (16 : Int32)) rfl ?_
    refine zw_if2 hm_182 dX12_isNamed_7 (t := 14) rfl zc2_ge ?_ ?_
    · intro hc
      rw [if_pos hc] at h
      refine zw_push hm_182 dX12_isNamed_14 (v := .inl (0 : Int32)) rfl ?_
      refine zw_bret hm_182 dX12_isNamed_15 (by decide) ?_
      show ma_wp X d w 255 6 [(0, .inr (.inr (some 94))), (1, .inl r1)] [.inl (0 : Int32), .inr (.inr (some 94))] S _
      refine zw_if0 hm_255 dX12_granted_6 (t := 13) rfl zc0_ne (fun hc => absurd hc (by decide)) (fun _ => ?_)
      refine zw_push hm_255 dX12_granted_9 (v := .inl (1 : Int32)) rfl ?_
      refine zw_goto hm_255 dX12_granted_10 (t := 25) rfl ?_
      refine zw_cv hm_255 dX12_granted_25 v_12_110_12 hm_167 [.inl (1 : Int32)] [] rfl (zT_rt hS s_94 rfl) ⟨by omega, by omega⟩ rfl ?_
      show ma_wp X (d - 1) (w - 21) 167 0 [(0, .inr (.inr (some 94))), (1, .inl (1 : Int32))] [] S _
      refine zw_push hm_167 dX12_fails_0 (v := .inr (.inr (some 94))) rfl ?_
      refine zw_push hm_167 dX12_fails_1 (v := .inl (1 : Int32)) rfl ?_
      refine zw_pf hm_167 dX12_fails_2 (zT_is hS s_94) (zT_t hS s_94) p_12_1_12 zk_int ?_
      refine zw_push hm_167 dX12_fails_5 (v := .inl (1 : Int32)) rfl ?_
      refine zw_if0 hm_167 dX12_fails_6 (t := 13) rfl zc0_eq (fun hc => absurd hc (by decide)) (fun _ => ?_)
      refine zw_push hm_167 dX12_fails_9 (v := .inl (1 : Int32)) rfl ?_
      refine zw_goto hm_167 dX12_fails_10 (t := 14) rfl ?_
      refine zw_bret hm_167 dX12_fails_14 (by decide) ?_
      show ma_wp X d w 255 28 [(0, .inr (.inr (some 94))), (1, .inl r1)] [.inl (1 : Int32)] (ma_put S 94 0 (.inl (1 : Int32))) _
      refine zw_if0 hm_255 dX12_granted_28 (t := 33) rfl zc0_eq (fun hc => absurd hc (by decide)) (fun _ => ?_)
      refine zw_push hm_255 dX12_granted_31 (v := .inl (0 : Int32)) rfl ?_
      exact zw_iret hm_255 dX12_granted_32 (HQ _ _ h)
    · intro hc
      rw [if_neg hc] at h
      refine zw_push hm_182 dX12_isNamed_10 (v := .inl (1 : Int32)) rfl ?_
      refine zw_goto hm_182 dX12_isNamed_11 (t := 15) rfl ?_
      refine zw_bret hm_182 dX12_isNamed_15 (by decide) ?_
      show ma_wp X d w 255 6 [(0, .inr (.inr (some 94))), (1, .inl r1)] [.inl (1 : Int32), .inr (.inr (some 94))] S _
      refine zw_if0 hm_255 dX12_granted_6 (t := 13) rfl zc0_ne (fun _ => ?_) (fun hc => absurd (by decide) hc)
      refine zw_push hm_255 dX12_granted_13 (v := .inr (.inr (some 94))) rfl ?_
      refine zw_gf hm_255 dX12_granted_14 (v := .inl ((mI S) 94 8)) (zT_is hS s_94) (zT_t hS s_94) rfl f_12_237_12 rfl ?_
      refine zw_if0 hm_255 dX12_granted_17 (t := 24) rfl zc0_ne ?_ ?_
      · intro hc
        rw [if_neg hc] at h
        refine zw_push hm_255 dX12_granted_24 (v := .inl (0 : Int32)) rfl ?_
        refine zw_cv hm_255 dX12_granted_25 v_12_110_12 hm_167 [.inl (0 : Int32)] [] rfl (zT_rt hS s_94 rfl) ⟨by omega, by omega⟩ rfl ?_
        show ma_wp X (d - 1) (w - 21) 167 0 [(0, .inr (.inr (some 94))), (1, .inl (0 : Int32))] [] S _
        refine zw_push hm_167 dX12_fails_0 (v := .inr (.inr (some 94))) rfl ?_
        refine zw_push hm_167 dX12_fails_1 (v := .inl (0 : Int32)) rfl ?_
        refine zw_pf hm_167 dX12_fails_2 (zT_is hS s_94) (zT_t hS s_94) p_12_1_12 zk_int ?_
        refine zw_push hm_167 dX12_fails_5 (v := .inl (0 : Int32)) rfl ?_
        refine zw_if0 hm_167 dX12_fails_6 (t := 13) rfl zc0_eq (fun _ => ?_) (fun hc => absurd (by decide) hc)
        refine zw_push hm_167 dX12_fails_13 (v := .inl (0 : Int32)) rfl ?_
        refine zw_bret hm_167 dX12_fails_14 (by decide) ?_
        show ma_wp X d w 255 28 [(0, .inr (.inr (some 94))), (1, .inl r1)] [.inl (0 : Int32)] (ma_put S 94 0 (.inl (0 : Int32))) _
        refine zw_if0 hm_255 dX12_granted_28 (t := 33) rfl zc0_eq (fun _ => ?_) (fun hc => absurd (by decide) hc)
        refine zw_push hm_255 dX12_granted_33 (v := .inr (.inr (some 94))) rfl ?_
        refine zw_gf hm_255 dX12_granted_34 (v := .inl ((mI S) 94 55)) (zT_is (zT_pi hS) s_94) (zT_t (zT_pi hS) s_94) rfl f_12_261_12 rfl ?_
        refine zw_if0 hm_255 dX12_granted_37 (t := 42) rfl zc0_ne ?_ ?_
        · intro hc
          rw [if_neg hc] at h
          refine zw_push hm_255 dX12_granted_42 (v := .inr (.inr (some 94))) rfl ?_
          refine zw_gf hm_255 dX12_granted_43 (v := .inr (.inr (some 114))) (zT_is (zT_pi hS) s_94) (zT_t (zT_pi hS) s_94) rfl f_12_74_12 (zT_f (zT_pi hS) r_94_53) ?_
          refine zw_push hm_255 dX12_granted_46 (v := .inl (0 : Int32)) rfl ?_
          refine zw_ia hm_255 dX12_granted_47 (zT_is (zT_pi hS) s_114) (zT_h (zT_pi hS) s_114) rfl ⟨by decide, by decide⟩ ?_
          show ma_wp X d w 255 48 [(0, .inr (.inr (some 94))), (1, .inl r1)] [.inl ((mI S) 114 0)] (ma_put S 94 0 (.inl (0 : Int32))) _
          refine zw_sto hm_255 dX12_granted_48 [(2, .inl ((mI S) 114 0)), (0, .inr (.inr (some 94))), (1, .inl r1)] rfl rfl rfl ?_
          refine zw_push hm_255 dX12_granted_49 (v := .inr (.inr (some 94))) rfl ?_
          refine zw_stk hm_255 dX12_granted_50 (st₉ := [.inr (.inr (some 94)), .inr (.inr (some 94))]) rfl rfl ?_
          refine zw_gf hm_255 dX12_granted_51 (v := .inl ((mI S) 94 55)) (zT_is (zT_pi hS) s_94) (zT_t (zT_pi hS) s_94) rfl f_12_261_12 rfl ?_
          refine zw_push hm_255 dX12_granted_54 (v := .inl (1 : Int32)) rfl ?_
          refine zw_stk hm_255 dX12_granted_55 (st₉ := [.inl (((mI S) 94 55) - (1 : Int32)), .inr (.inr (some 94))]) rfl rfl ?_
          refine zw_pf hm_255 dX12_granted_56 (zT_is (zT_pi hS) s_94) (zT_t (zT_pi hS) s_94) p_12_261_12 zk_int ?_
          refine zw_push hm_255 dX12_granted_59 (v := .inl (0 : Int32)) rfl ?_
          refine zw_sto hm_255 dX12_granted_60 [(3, .inl (0 : Int32)), (2, .inl ((mI S) 114 0)), (0, .inr (.inr (some 94))), (1, .inl r1)] rfl rfl rfl ?_
          exact zw_sub (ma_nd_of (ks := [0, 1, 2, 3]) rfl (by decide)) (ma_nd_of (ks := [3, 2, 0, 1]) rfl (by decide)) (ma_le_cons rfl (ma_le_cons rfl (ma_le_cons rfl (ma_le_cons rfl (ma_le_nil _))))) (h d w _ Q (by omega) (by omega) (zT_pi (zT_pi hS)) rfl HQ)
        · intro hc
          rw [if_pos (Classical.not_not.mp hc)] at h
          refine zw_push hm_255 dX12_granted_40 (v := .inl (-1 : Int32)) rfl ?_
          exact zw_iret hm_255 dX12_granted_41 (HQ _ _ h)
      · intro hc
        rw [if_pos (Classical.not_not.mp hc)] at h
        refine zw_push hm_255 dX12_granted_20 (v := .inl (2 : Int32)) rfl ?_
        refine zw_goto hm_255 dX12_granted_21 (t := 25) rfl ?_
        refine zw_cv hm_255 dX12_granted_25 v_12_110_12 hm_167 [.inl (2 : Int32)] [] rfl (zT_rt hS s_94 rfl) ⟨by omega, by omega⟩ rfl ?_
        show ma_wp X (d - 1) (w - 21) 167 0 [(0, .inr (.inr (some 94))), (1, .inl (2 : Int32))] [] S _
        refine zw_push hm_167 dX12_fails_0 (v := .inr (.inr (some 94))) rfl ?_
        refine zw_push hm_167 dX12_fails_1 (v := .inl (2 : Int32)) rfl ?_
        refine zw_pf hm_167 dX12_fails_2 (zT_is hS s_94) (zT_t hS s_94) p_12_1_12 zk_int ?_
        refine zw_push hm_167 dX12_fails_5 (v := .inl (2 : Int32)) rfl ?_
        refine zw_if0 hm_167 dX12_fails_6 (t := 13) rfl zc0_eq (fun hc => absurd hc (by decide)) (fun _ => ?_)
        refine zw_push hm_167 dX12_fails_9 (v := .inl (1 : Int32)) rfl ?_
        refine zw_goto hm_167 dX12_fails_10 (t := 14) rfl ?_
        refine zw_bret hm_167 dX12_fails_14 (by decide) ?_
        show ma_wp X d w 255 28 [(0, .inr (.inr (some 94))), (1, .inl r1)] [.inl (1 : Int32)] (ma_put S 94 0 (.inl (2 : Int32))) _
        refine zw_if0 hm_255 dX12_granted_28 (t := 33) rfl zc0_eq (fun hc => absurd hc (by decide)) (fun _ => ?_)
        refine zw_push hm_255 dX12_granted_31 (v := .inl (0 : Int32)) rfl ?_
        exact zw_iret hm_255 dX12_granted_32 (HQ _ _ h)
theorem g_255_61 {X : Nat × (Nat → Int32)} {m : Nat → Nat → Int32} {P : Option ma_V → (Nat → Nat → Int32) → Prop} (l1 : Int32) (l2 : Int32) (l3 : Int32) (h : if (m 94 55) ≤ l3 then ((0 ≤ l2 ∧ l2.toNatClampNeg < 3100) ∧ (zm X 4 88 238 0 [(0, .inr (.inr (some 94))), (1, .inl l1), (2, .inl l2)] m (zmv (fun m1 => zm X 3 64 241 0 [(0, .inr (.inr (some 94))), (1, .inl l2)] m1 (zmv (fun m3 => P (some (.inl (m 100 l2.toNatClampNeg))) m3)))))) else ((0 ≤ (l3 + (1 : Int32)) ∧ (l3 + (1 : Int32)).toNatClampNeg < 3100) ∧ ((0 ≤ l3 ∧ l3.toNatClampNeg < 3100) ∧ (zm X 5 111 255 61 [(0, .inr (.inr (some 94))), (1, .inl l1), (2, .inl l2), (3, .inl (l3 + (1 : Int32)))] (ma_u m 114 l3.toNatClampNeg (m 114 (l3 + (1 : Int32)).toNatClampNeg)) P)))) : zm X 5 111 255 61 [(0, .inr (.inr (some 94))), (1, .inl l1), (2, .inl l2), (3, .inl l3)] m P := by
  intro d w S Q hd hw hS hm HQ
  subst hm
  refine zw_push hm_255 dX12_granted_61 (v := .inl l3) rfl ?_
  refine zw_push hm_255 dX12_granted_62 (v := .inr (.inr (some 94))) rfl ?_
  refine zw_gf hm_255 dX12_granted_63 (v := .inl ((mI S) 94 55)) (zT_is hS s_94) (zT_t hS s_94) rfl f_12_261_12 rfl ?_
  refine zw_if2 hm_255 dX12_granted_66 (t := 89) rfl zc2_ge ?_ ?_
  · intro hc
    rw [if_pos hc] at h
    refine zw_push hm_255 dX12_granted_89 (v := .inr (.inr (some 94))) rfl ?_
    refine zw_gf hm_255 dX12_granted_90 (v := .inr (.inr (some 100))) (zT_is hS s_94) (zT_t hS s_94) rfl f_12_31_12 (zT_f hS r_94_32) ?_
    refine zw_push hm_255 dX12_granted_93 (v := .inl l2) rfl ?_
    obtain ⟨hg, h⟩ := h
    refine zw_ia hm_255 dX12_granted_94 (zT_is hS s_100) (zT_h hS s_100) rfl hg ?_
    show ma_wp X d w 255 95 [(0, .inr (.inr (some 94))), (1, .inl l1), (2, .inl l2), (3, .inl l3)] [.inl ((mI S) 100 l2.toNatClampNeg)] S _
    refine zw_sto hm_255 dX12_granted_95 [(3, .inl ((mI S) 100 l2.toNatClampNeg)), (0, .inr (.inr (some 94))), (1, .inl l1), (2, .inl l2)] rfl rfl rfl ?_
    refine zw_push hm_255 dX12_granted_96 (v := .inr (.inr (some 94))) rfl ?_
    refine zw_push hm_255 dX12_granted_97 (v := .inl l1) rfl ?_
    refine zw_push hm_255 dX12_granted_98 (v := .inl l2) rfl ?_
    refine zw_cv hm_255 dX12_granted_99 v_12_481_12 hm_238 [.inl l2, .inl l1] [] rfl (zT_rt hS s_94 rfl) ⟨by omega, by omega⟩ rfl (h _ _ S _ (by omega) (by omega) hS rfl (fun o9 m1 hv => ?_))
    obtain ⟨rfl, h⟩ := zmv_of hv
    show ma_wp X d w 255 102 [(3, .inl ((mI S) 100 l2.toNatClampNeg)), (0, .inr (.inr (some 94))), (1, .inl l1), (2, .inl l2)] [] (zst S m1) _
    refine zw_push hm_255 dX12_granted_102 (v := .inr (.inr (some 94))) rfl ?_
    refine zw_push hm_255 dX12_granted_103 (v := .inl l2) rfl ?_
    refine zw_cv hm_255 dX12_granted_104 v_12_490_12 hm_241 [.inl l2] [] rfl (zT_rt (zT_zst hS m1) s_94 rfl) ⟨by omega, by omega⟩ rfl (h _ _ (zst S m1) _ (by omega) (by omega) (zT_zst hS m1) rfl (fun o9 m3 hv => ?_))
    obtain ⟨rfl, h⟩ := zmv_of hv
    show ma_wp X d w 255 107 [(3, .inl ((mI S) 100 l2.toNatClampNeg)), (0, .inr (.inr (some 94))), (1, .inl l1), (2, .inl l2)] [] (zst S m3) _
    refine zw_push hm_255 dX12_granted_107 (v := .inl ((mI S) 100 l2.toNatClampNeg)) rfl ?_
    exact zw_iret hm_255 dX12_granted_108 (HQ _ _ h)
  · intro hc
    rw [if_neg hc] at h
    refine zw_push hm_255 dX12_granted_69 (v := .inr (.inr (some 94))) rfl ?_
    refine zw_gf hm_255 dX12_granted_70 (v := .inr (.inr (some 114))) (zT_is hS s_94) (zT_t hS s_94) rfl f_12_74_12 (zT_f hS r_94_53) ?_
    refine zw_push hm_255 dX12_granted_73 (v := .inl l3) rfl ?_
    refine zw_push hm_255 dX12_granted_74 (v := .inr (.inr (some 94))) rfl ?_
    refine zw_gf hm_255 dX12_granted_75 (v := .inr (.inr (some 114))) (zT_is hS s_94) (zT_t hS s_94) rfl f_12_74_12 (zT_f hS r_94_53) ?_
    refine zw_push hm_255 dX12_granted_78 (v := .inl l3) rfl ?_
    refine zw_push hm_255 dX12_granted_79 (v := .inl (1 : Int32)) rfl ?_
    refine zw_stk hm_255 dX12_granted_80 (st₉ := [.inl (l3 + (1 : Int32)), .inr (.inr (some 114)), .inl l3, .inr (.inr (some 114))]) rfl rfl ?_
    obtain ⟨hg, h⟩ := h
    refine zw_ia hm_255 dX12_granted_81 (zT_is hS s_114) (zT_h hS s_114) rfl hg ?_
    show ma_wp X d w 255 82 [(0, .inr (.inr (some 94))), (1, .inl l1), (2, .inl l2), (3, .inl l3)] [.inl ((mI S) 114 (l3 + (1 : Int32)).toNatClampNeg), .inl l3, .inr (.inr (some 114))] S _
    obtain ⟨hg, h⟩ := h
    refine zw_ias hm_255 dX12_granted_82 (zT_is hS s_114) (zT_h hS s_114) rfl hg ?_
    refine zw_sto hm_255 dX12_granted_83 [(3, .inl (l3 + (1 : Int32))), (0, .inr (.inr (some 94))), (1, .inl l1), (2, .inl l2)] rfl rfl rfl ?_
    refine zw_goto hm_255 dX12_granted_86 (t := 61) rfl ?_
    exact zw_sub (ma_nd_of (ks := [0, 1, 2, 3]) rfl (by decide)) (ma_nd_of (ks := [3, 0, 1, 2]) rfl (by decide)) (ma_le_cons rfl (ma_le_cons rfl (ma_le_cons rfl (ma_le_cons rfl (ma_le_nil _))))) (h d w _ Q (by omega) (by omega) (zT_pi hS) rfl HQ)
theorem lp_255_61 {X : Nat × (Nat → Int32)} {P : Option ma_V → (Nat → Nat → Int32) → Prop} {T : Nat} {r1 : Int32} {m0 : Nat → Nat → Int32} (h0 : zV m0) (K : ∀ v m₉, zF wr_255 m0 m₉ → zV m₉ → (zW (m₉ 94 7) (m₉ 98) (m₉ 101) (m₉ 102) (m₉ 108)) → (zGW T (m₉ 94 55) (m₉ 109)) → (zGU T (m₉ 94 46) (m₉ 99)) → (zOw (m₉ 99) (m₉ 103) (m₉ 111)) → (zDX (m₉ 94 10) (m₉ 99) (m₉ 112) (m₉ 113) (m₉ 114) (m₉ 94 55) (m₉ 98) (m₉ 101) (m₉ 102) (m₉ 108)) → (zGG (m₉ 94 58) (m₉ 94 56) (m₉ 94 57) (m₉ 106)) → (zHA (m₉ 94 10) (m₉ 94 11) (m₉ 94 13) (m₉ 94 14) (m₉ 94 16) (m₉ 94 61) (m₉ 94 59) (m₉ 94 60) (m₉ 99) (m₉ 102) (m₉ 103) (m₉ 111) (m₉ 117) (m₉ 98) (m₉ 101) (m₉ 108)) → (zRG (m₉ 94 10) (m₉ 94 18) (m₉ 94 64) (m₉ 94 63) (m₉ 99) (m₉ 103) (m₉ 102) (m₉ 116)) → ((m₉ 94 58).toInt = 0 ∨ (m₉ 94 10).toInt = 5) → P (some (.inl v)) m₉) : ∀ (n : Nat) (m : Nat → Nat → Int32) (l1 : Int32) (l2 : Int32) (l3 : Int32), (3100 - l3.toInt).toNat = n → zF wr_255 m0 m → zV m → (0 ≤ l3.toInt) → (0 ≤ l1.toInt) → (l1.toInt ≤ 15) → (l1.toInt = r1.toInt) → (0 ≤ l2.toInt) → (l2.toInt ≤ 3099) → ((m 94 55).toInt ≤ 3099) → (zW (m 94 7) (m 98) (m 101) (m 102) (m 108)) → (zGW T (m 94 55) (m 109)) → (zGU T (m 94 46) (m 99)) → (zOw (m 99) (m 103) (m 111)) → (zDX (m 94 10) (m 99) (m 112) (m 113) (m 114) (m 94 55) (m 98) (m 101) (m 102) (m 108)) → (zGG (m 94 58) (m 94 56) (m 94 57) (m 106)) → (zHA (m 94 10) (m 94 11) (m 94 13) (m 94 14) (m 94 16) (m 94 61) (m 94 59) (m 94 60) (m 99) (m 102) (m 103) (m 111) (m 117) (m 98) (m 101) (m 108)) → (zRG (m 94 10) (m 94 18) (m 94 64) (m 94 63) (m 99) (m 103) (m 102) (m 116)) → ((m 94 58).toInt = 0 ∨ (m 94 10).toInt = 5) → (((m 94 10).toInt = 2 ∨ (m 94 10).toInt = 3) → zcov (m 99) (m 114) ((m 94 55).toInt + 1)) → (((m 94 10).toInt = 2 ∨ (m 94 10).toInt = 3) → l2.toInt < 0 ∨ (m 99) l2.toNatClampNeg ≠ 0) → zm X 5 111 255 61 [(0, .inr (.inr (some 94))), (1, .inl l1), (2, .inl l2), (3, .inl l3)] m P := by
  intro n
  induction n using Nat.strongRecOn with
  | _ n IH =>
    intro m l1 l2 l3 hmu hF hV hi0 hi1 hi2 hi3 hi4 hi5 hi6 r_W r_GW r_GU r_OW r_DX r_GG r_HA r_RGc hi15 r_SHc r_S1g
    refine g_255_61 l1 l2 l3 ?_
    have f1 : 0 ≤ (m 94 55).toInt ∧ (m 94 55).toInt ≤ 3100 := rs_94_55 (m := m) hV
    have f2 : 0 ≤ (m 94 58).toInt ∧ (m 94 58).toInt ≤ 1 := rs_94_58 (m := m) hV
    have f3 : 0 ≤ (m 94 10).toInt ∧ (m 94 10).toInt ≤ 6 := rs_94_10 (m := m) hV
    have b4 := i_bd l3
    refine zd (fun (h5 : (m 94 55) ≤ l3) => ?_) (fun (h5 : ¬ (m 94 55) ≤ l3) => ?_)
    · skip
      have g6 := i_le h5
      have b7 := i_bd l2
      have hg8 : (0 ≤ l2 ∧ l2.toNatClampNeg < 3100) := i_ix (by omega) (by omega)
      refine ⟨hg8, ?_⟩
      have b9 := i_bd l1
      refine sp_238 (l1) (l2) hV (by omega) (by omega) (by omega) (by omega) (show ((m 94 10).toInt = 2 ∨ (m 94 10).toInt = 3) → l2.toInt < 0 ∨ (m 99) l2.toNatClampNeg ≠ 0 from by first | (exact r_S1g) | (exfalso; omega; done) | (exfalso; contradiction; done)) r_W r_GW r_GU r_OW r_DX r_GG r_HA r_RGc (show (m 94 58).toInt = 0 ∨ (m 94 10).toInt = 5 from by omega) (fun m1 hV_m1 p0_m1 p1_m1 p2_m1 p3_m1 p4_m1 p5_m1 p6_m1 p7_m1 => zmv_n ?_)
      have p0_m1 : zGW T (m1 94 55) (m1 109) := p0_m1
      have p1_m1 : zGU T (m 94 46) (m1 99) := p1_m1
      have p2_m1 : zOw (m1 99) (m 103) (m1 111) := p2_m1
      have p3_m1 : zDX (m 94 10) (m1 99) (m1 112) (m1 113) (m1 114) (m1 94 55) (m 98) (m 101) (m 102) (m 108) := p3_m1
      have p4_m1 : zGG (m 94 58) (m1 94 56) (m 94 57) (m1 106) := p4_m1
      have p5_m1 : zHA (m 94 10) (m 94 11) (m 94 13) (m 94 14) (m 94 16) (m 94 61) (m 94 59) (m 94 60) (m1 99) (m 102) (m 103) (m1 111) (m 117) (m 98) (m 101) (m 108) := p5_m1
      have p6_m1 : zRG (m 94 10) (m 94 18) (m 94 64) (m 94 63) (m1 99) (m 103) (m 102) (m 116) := p6_m1
      have p7_m1 : (m 94 58).toInt = 0 ∨ (m 94 10).toInt = 5 := p7_m1
      refine sp_241 (l2) hV_m1 (by omega) r_W p0_m1 p1_m1 p2_m1 p3_m1 (fun m3 hV_m3 p0_m3 p1_m3 p2_m3 p3_m3 p4_m3 => zmv_n ?_)
      have p0_m3 : zGW T (m3 94 55) (m3 109) := p0_m3
      have p1_m3 : zGU T (m 94 46) (m3 99) := p1_m3
      have p2_m3 : zOw (m3 99) (m 103) (m3 111) := p2_m3
      have p3_m3 : zDX (m 94 10) (m3 99) (m1 112) (m3 113) (m3 114) (m3 94 55) (m 98) (m 101) (m 102) (m 108) := p3_m3
      have p4_m3 : (m 94 10).toInt ≠ 4 → ((m3 99) = (m1 99) ∧ (m3 111) = (m1 111) ∧ (m3 113) = (m1 113) ∧ (m3 114) = (m1 114) ∧ (m3 94 55) = (m1 94 55) ∧ (m3 109) = (m1 109)) := p4_m3
      first | have f10 : 0 ≤ (m 100 l2.toNatClampNeg).toInt ∧ (m 100 l2.toNatClampNeg).toInt ≤ 100000 := ra_100 (m := m) hV (k := l2.toNatClampNeg) (i_ix (n := 3100) (by omega) (by omega)).2 | have b11 := i_bd (m 100 l2.toNatClampNeg)
      exact K ((m 100 l2.toNatClampNeg)) _ (zF_zov (zF_zov hF ws_238_255) ws_241_255) hV_m3 r_W p0_m3 p1_m3 p2_m3 p3_m3 p4_m1 (show zHA (m 94 10) (m 94 11) (m 94 13) (m 94 14) (m 94 16) (m 94 61) (m 94 59) (m 94 60) (m3 99) (m 102) (m 103) (m3 111) (m 117) (m 98) (m 101) (m 108) from by first | (exact HA_lq p5_m1 (fun z => ⟨(p4_m3 z).1, (p4_m3 z).2.1⟩)) | (exfalso; omega; done) | (exfalso; contradiction; done)) (show zRG (m 94 10) (m 94 18) (m 94 64) (m 94 63) (m3 99) (m 103) (m 102) (m 116) from by first | (exact RG_lq p6_m1 (fun z => (p4_m3 z).1)) | (exfalso; omega; done) | (exfalso; contradiction; done)) (show (m 94 58).toInt = 0 ∨ (m 94 10).toInt = 5 from by omega)
    · skip
      have g12 := i_nle h5
      first | have e13 : (l3 + (1 : Int32)).toInt = l3.toInt + (1) := i_addk rfl (by omega) (by omega) | have b14 := i_bd (l3 + (1 : Int32))
      have hg15 : (0 ≤ (l3 + (1 : Int32)) ∧ (l3 + (1 : Int32)).toNatClampNeg < 3100) := i_ix (by omega) (by omega)
      refine ⟨hg15, ?_⟩
      have hg16 : (0 ≤ l3 ∧ l3.toNatClampNeg < 3100) := i_ix (by omega) (by omega)
      refine ⟨hg16, ?_⟩
      first | have f18 : 0 ≤ (m 114 (l3 + (1 : Int32)).toNatClampNeg).toInt ∧ (m 114 (l3 + (1 : Int32)).toNatClampNeg).toInt ≤ 3099 := ra_114 (m := m) hV (k := (l3 + (1 : Int32)).toNatClampNeg) (i_ix (n := 3100) (by omega) (by omega)).2 | have b19 := i_bd (m 114 (l3 + (1 : Int32)).toNatClampNeg)
      have hV17 : zV (ma_u m 114 l3.toNatClampNeg (m 114 (l3 + (1 : Int32)).toNatClampNeg)) := ua_114 hV (by omega) (by omega)
      have b20 := i_bd l1
      have b21 := i_bd l2
      exact IH (3100 - (l3 + (1 : Int32)).toInt).toNat (by omega) _ (l1) (l2) ((l3 + (1 : Int32))) rfl (zF_u hF rfl) hV17 (by omega) (by omega) (by omega) (by omega) (by omega) (by omega) (show (m 94 55).toInt ≤ 3099 from by omega) r_W r_GW r_GU r_OW (show zDX (m 94 10) (m 99) (m 112) (m 113) ((ma_u m 114 l3.toNatClampNeg (m 114 (l3 + (1 : Int32)).toNatClampNeg)) 114) (m 94 55) (m 98) (m 101) (m 102) (m 108) from by first | (exact fun hp => ⟨(r_DX hp).1, (r_DX hp).2.1, cov_cut (cov_set (r_SHc hp) ((r_SHc hp) _ (by rw [tn_cast (by omega)]; omega))) (by omega), (r_DX hp).2.2.2⟩) | (exfalso; omega; done) | (exfalso; contradiction; done)) r_GG r_HA r_RGc (show (m 94 58).toInt = 0 ∨ (m 94 10).toInt = 5 from by omega) (show ((m 94 10).toInt = 2 ∨ (m 94 10).toInt = 3) → zcov (m 99) ((ma_u m 114 l3.toNatClampNeg (m 114 (l3 + (1 : Int32)).toNatClampNeg)) 114) ((m 94 55).toInt + 1) from by first | (exact fun hp => cov_set (r_SHc hp) ((r_SHc hp) _ (by rw [tn_cast (by omega)]; omega))) | (exfalso; omega; done) | (exfalso; contradiction; done)) r_S1g
theorem sp_255 {X : Nat × (Nat → Int32)} {P : Option ma_V → (Nat → Nat → Int32) → Prop} {T : Nat} {m : Nat → Nat → Int32} (r1 : Int32) (hV : zV m) (r_W : zW (m 94 7) (m 98) (m 101) (m 102) (m 108)) (r_GW : zGW T (m 94 55) (m 109)) (r_GU : zGU T (m 94 46) (m 99)) (r_OW : zOw (m 99) (m 103) (m 111)) (r_DX : zDX (m 94 10) (m 99) (m 112) (m 113) (m 114) (m 94 55) (m 98) (m 101) (m 102) (m 108)) (r_GG : zGG (m 94 58) (m 94 56) (m 94 57) (m 106)) (r_HA : zHA (m 94 10) (m 94 11) (m 94 13) (m 94 14) (m 94 16) (m 94 61) (m 94 59) (m 94 60) (m 99) (m 102) (m 103) (m 111) (m 117) (m 98) (m 101) (m 108)) (r_RGc : zRG (m 94 10) (m 94 18) (m 94 64) (m 94 63) (m 99) (m 103) (m 102) (m 116)) (hpre8 : (m 94 58).toInt = 0 ∨ (m 94 10).toInt = 5) (KZ : ∀ v m₉, zV (zov wr_255 m m₉) → (zW (m 94 7) (m 98) (m 101) (m 102) (m 108)) → (zGW T (m₉ 94 55) (m₉ 109)) → (zGU T (m 94 46) (m₉ 99)) → (zOw (m₉ 99) (m 103) (m₉ 111)) → (zDX (m 94 10) (m₉ 99) (m₉ 112) (m₉ 113) (m₉ 114) (m₉ 94 55) (m 98) (m 101) (m 102) (m 108)) → (zGG (m 94 58) (m₉ 94 56) (m 94 57) (m₉ 106)) → (zHA (m 94 10) (m 94 11) (m 94 13) (m 94 14) (m 94 16) (m 94 61) (m 94 59) (m 94 60) (m₉ 99) (m 102) (m 103) (m₉ 111) (m 117) (m 98) (m 101) (m 108)) → (zRG (m 94 10) (m 94 18) (m 94 64) (m 94 63) (m₉ 99) (m 103) (m 102) (m 116)) → ((m 94 58).toInt = 0 ∨ (m 94 10).toInt = 5) → P (some (.inl v)) (zov wr_255 m m₉)) : zm X 5 111 255 0 [(0, .inr (.inr (some 94))), (1, .inl r1)] m P := by
  have K : ∀ v m₉, zF wr_255 m m₉ → zV m₉ → (zW (m₉ 94 7) (m₉ 98) (m₉ 101) (m₉ 102) (m₉ 108)) → (zGW T (m₉ 94 55) (m₉ 109)) → (zGU T (m₉ 94 46) (m₉ 99)) → (zOw (m₉ 99) (m₉ 103) (m₉ 111)) → (zDX (m₉ 94 10) (m₉ 99) (m₉ 112) (m₉ 113) (m₉ 114) (m₉ 94 55) (m₉ 98) (m₉ 101) (m₉ 102) (m₉ 108)) → (zGG (m₉ 94 58) (m₉ 94 56) (m₉ 94 57) (m₉ 106)) → (zHA (m₉ 94 10) (m₉ 94 11) (m₉ 94 13) (m₉ 94 14) (m₉ 94 16) (m₉ 94 61) (m₉ 94 59) (m₉ 94 60) (m₉ 99) (m₉ 102) (m₉ 103) (m₉ 111) (m₉ 117) (m₉ 98) (m₉ 101) (m₉ 108)) → (zRG (m₉ 94 10) (m₉ 94 18) (m₉ 94 64) (m₉ 94 63) (m₉ 99) (m₉ 103) (m₉ 102) (m₉ 116)) → ((m₉ 94 58).toInt = 0 ∨ (m₉ 94 10).toInt = 5) → P (some (.inl v)) m₉ := by
    intro v m₉ hf z q0 q1 q2 q3 q4 q5 q6 q7 q8
    have e := zov_eq hf
    rw [e] at z ⊢
    try rw [e] at q0
    try rw [e] at q1
    try rw [e] at q2
    try rw [e] at q3
    try rw [e] at q4
    try rw [e] at q5
    try rw [e] at q6
    try rw [e] at q7
    try rw [e] at q8
    exact KZ v m₉ z q0 q1 q2 q3 q4 q5 q6 q7 q8
  refine g_255_0 r1 ?_
  have f1 : 0 ≤ (m 94 58).toInt ∧ (m 94 58).toInt ≤ 1 := rs_94_58 (m := m) hV
  have f2 : 0 ≤ (m 94 10).toInt ∧ (m 94 10).toInt ≤ 6 := rs_94_10 (m := m) hV
  have b3 := i_bd r1
  have li4 : (0 : Int32).toInt = 0 := rfl
  refine zd (fun (h5 : r1 < (0 : Int32)) => ?_) (fun (h5 : ¬ r1 < (0 : Int32)) => ?_)
  · skip
    have g6 := i_lt h5
    have hV7 : zV (ma_u m 94 0 (1 : Int32)) := uf_94_0 hV
    exact K ((0 : Int32)) _ (zF_u zF_rfl rfl) hV7 r_W r_GW r_GU r_OW r_DX r_GG r_HA r_RGc (show (m 94 58).toInt = 0 ∨ (m 94 10).toInt = 5 from by omega)
  · skip
    have g8 := i_nlt h5
    have li9 : (16 : Int32).toInt = 16 := rfl
    refine zd (fun (h10 : (16 : Int32) ≤ r1) => ?_) (fun (h10 : ¬ (16 : Int32) ≤ r1) => ?_)
    · skip
      have g11 := i_le h10
      have hV12 : zV (ma_u m 94 0 (1 : Int32)) := uf_94_0 hV
      exact K ((0 : Int32)) _ (zF_u zF_rfl rfl) hV12 r_W r_GW r_GU r_OW r_DX r_GG r_HA r_RGc (show (m 94 58).toInt = 0 ∨ (m 94 10).toInt = 5 from by omega)
    · skip
      have g13 := i_nle h10
      have f14 : 0 ≤ (m 94 8).toInt ∧ (m 94 8).toInt ≤ 1 := rs_94_8 (m := m) hV
      refine zd (fun (h15 : (m 94 8) = (0 : Int32)) => ?_) (fun (h15 : ¬ (m 94 8) = (0 : Int32)) => ?_)
      · skip
        have g16 := i_eq h15
        have hV17 : zV (ma_u m 94 0 (2 : Int32)) := uf_94_0 hV
        exact K ((0 : Int32)) _ (zF_u zF_rfl rfl) hV17 r_W r_GW r_GU r_OW r_DX r_GG r_HA r_RGc (show (m 94 58).toInt = 0 ∨ (m 94 10).toInt = 5 from by omega)
      · skip
        have g18 := i_ne h15
        have f19 : 0 ≤ (m 94 55).toInt ∧ (m 94 55).toInt ≤ 3100 := rs_94_55 (m := m) hV
        refine zd (fun (h20 : (m 94 55) = (0 : Int32)) => ?_) (fun (h20 : ¬ (m 94 55) = (0 : Int32)) => ?_)
        · skip
          have g21 := i_eq h20
          have hV22 : zV (ma_u m 94 0 (0 : Int32)) := uf_94_0 hV
          have li23 : (-1 : Int32).toInt = -1 := rfl
          exact K ((-1 : Int32)) _ (zF_u zF_rfl rfl) hV22 r_W r_GW r_GU r_OW r_DX r_GG r_HA r_RGc (show (m 94 58).toInt = 0 ∨ (m 94 10).toInt = 5 from by omega)
        · skip
          have g24 := i_ne h20
          have hV25 : zV (ma_u m 94 0 (0 : Int32)) := uf_94_0 hV
          first | have e27 : ((m 94 55) - (1 : Int32)).toInt = (m 94 55).toInt - (1) := i_subk rfl (by omega) (by omega) | have b28 := i_bd ((m 94 55) - (1 : Int32))
          have hV26 : zV (ma_u (ma_u m 94 0 (0 : Int32)) 94 55 ((m 94 55) - (1 : Int32))) := us_94_55 hV25 (by omega) (by omega)
          have f29 : 0 ≤ (m 114 0).toInt ∧ (m 114 0).toInt ≤ 3099 := ra_114 (m := m) hV (k := 0) (by decide)
          exact lp_255_61 (r1 := r1) hV K _ _ (r1) ((m 114 0)) ((0 : Int32)) rfl (zF_u (zF_u zF_rfl rfl) rfl) hV26 (by omega) (by omega) (by omega) (by omega) (by omega) (by omega) (show ((m 94 55) - (1 : Int32)).toInt ≤ 3099 from by omega) r_W (show zGW T ((m 94 55) - (1 : Int32)) (m 109) from by first | (exact GW_le r_GW (by omega)) | (exfalso; omega; done) | (exfalso; contradiction; done)) r_GU r_OW (show zDX (m 94 10) (m 99) (m 112) (m 113) (m 114) ((m 94 55) - (1 : Int32)) (m 98) (m 101) (m 102) (m 108) from by first | (exact fun hp => ⟨(r_DX hp).1, (r_DX hp).2.1, cov_cut ((r_DX hp).2.2.1) (by omega), (r_DX hp).2.2.2⟩) | (exfalso; omega; done) | (exfalso; contradiction; done)) r_GG r_HA r_RGc (show (m 94 58).toInt = 0 ∨ (m 94 10).toInt = 5 from by omega) (show ((m 94 10).toInt = 2 ∨ (m 94 10).toInt = 3) → zcov (m 99) (m 114) (((m 94 55) - (1 : Int32)).toInt + 1) from by first | (exact fun hp => cov_cut ((r_DX hp).2.2.1) (by omega)) | (exfalso; omega; done) | (exfalso; contradiction; done)) (show ((m 94 10).toInt = 2 ∨ (m 94 10).toInt = 3) → (m 114 0).toInt < 0 ∨ (m 99) (m 114 0).toNatClampNeg ≠ 0 from by first | (exact fun hp => (r_DX hp).2.2.1 0 (by omega)) | (exfalso; omega; done) | (exfalso; contradiction; done))

