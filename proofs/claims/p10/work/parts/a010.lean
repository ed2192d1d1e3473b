/-! from 94.457 -/
/-! the reference (written by wip/tools/gen94m.py) -/
set_option maxRecDepth 100000 in
theorem hm_255 : ma_md 255 = some (12, yX12_granted, cX12_granted, 4, (some (FieldType.int))) := rfl
theorem dX12_granted_0 : decode cX12_granted 0 = .ok (.aload_n 0, 1) := by decide +kernel
theorem dX12_granted_1 : decode cX12_granted 1 = .ok (.aload_n 0, 1) := by decide +kernel
theorem dX12_granted_2 : decode cX12_granted 2 = .ok (.iload_n 1, 1) := by decide +kernel
theorem dX12_granted_3 : decode cX12_granted 3 = .ok (.invokevirtual 493, 3) := by decide +kernel
theorem dX12_granted_6 : decode cX12_granted 6 = .ok (.ifCond .ne 7, 3) := by decide +kernel
theorem dX12_granted_9 : decode cX12_granted 9 = .ok (.iconst 1, 1) := by decide +kernel
theorem dX12_granted_10 : decode cX12_granted 10 = .ok (.goto 15, 3) := by decide +kernel
theorem dX12_granted_25 : decode cX12_granted 25 = .ok (.invokevirtual 110, 3) := by decide +kernel
theorem dX12_granted_28 : decode cX12_granted 28 = .ok (.ifCond .eq 5, 3) := by decide +kernel
theorem dX12_granted_31 : decode cX12_granted 31 = .ok (.iconst 0, 1) := by decide +kernel
theorem dX12_granted_32 : decode cX12_granted 32 = .ok (.ireturn, 1) := by decide +kernel
theorem dX12_granted_13 : decode cX12_granted 13 = .ok (.aload_n 0, 1) := by decide +kernel
theorem dX12_granted_24 : decode cX12_granted 24 = .ok (.iconst 0, 1) := by decide +kernel
theorem dX12_granted_33 : decode cX12_granted 33 = .ok (.aload_n 0, 1) := by decide +kernel
theorem dX12_granted_42 : decode cX12_granted 42 = .ok (.aload_n 0, 1) := by decide +kernel
theorem dX12_granted_46 : decode cX12_granted 46 = .ok (.iconst 0, 1) := by decide +kernel
theorem dX12_granted_48 : decode cX12_granted 48 = .ok (.istore_n 2, 1) := by decide +kernel
theorem dX12_granted_49 : decode cX12_granted 49 = .ok (.aload_n 0, 1) := by decide +kernel
theorem dX12_granted_50 : decode cX12_granted 50 = .ok (.dup, 1) := by decide +kernel
theorem dX12_granted_54 : decode cX12_granted 54 = .ok (.iconst 1, 1) := by decide +kernel
theorem dX12_granted_55 : decode cX12_granted 55 = .ok (.isub, 1) := by decide +kernel
theorem dX12_granted_59 : decode cX12_granted 59 = .ok (.iconst 0, 1) := by decide +kernel
theorem dX12_granted_60 : decode cX12_granted 60 = .ok (.istore_n 3, 1) := by decide +kernel
theorem dX12_granted_56 : decode cX12_granted 56 = .ok (.putfield 261, 3) := by decide +kernel
theorem dX12_granted_51 : decode cX12_granted 51 = .ok (.getfield 261, 3) := by decide +kernel
theorem dX12_granted_47 : decode cX12_granted 47 = .ok (.iaload, 1) := by decide +kernel
theorem dX12_granted_43 : decode cX12_granted 43 = .ok (.getfield 74, 3) := by decide +kernel
theorem dX12_granted_40 : decode cX12_granted 40 = .ok (.iconst (-1), 1) := by decide +kernel
theorem dX12_granted_41 : decode cX12_granted 41 = .ok (.ireturn, 1) := by decide +kernel
theorem dX12_granted_37 : decode cX12_granted 37 = .ok (.ifCond .ne 5, 3) := by decide +kernel
theorem dX12_granted_34 : decode cX12_granted 34 = .ok (.getfield 261, 3) := by decide +kernel
theorem dX12_granted_20 : decode cX12_granted 20 = .ok (.iconst 2, 1) := by decide +kernel
theorem dX12_granted_21 : decode cX12_granted 21 = .ok (.goto 4, 3) := by decide +kernel
theorem dX12_granted_17 : decode cX12_granted 17 = .ok (.ifCond .ne 7, 3) := by decide +kernel
theorem dX12_granted_14 : decode cX12_granted 14 = .ok (.getfield 237, 3) := by decide +kernel
theorem dX12_granted_61 : decode cX12_granted 61 = .ok (.iload_n 3, 1) := by decide +kernel
theorem dX12_granted_62 : decode cX12_granted 62 = .ok (.aload_n 0, 1) := by decide +kernel
theorem dX12_granted_89 : decode cX12_granted 89 = .ok (.aload_n 0, 1) := by decide +kernel
theorem dX12_granted_93 : decode cX12_granted 93 = .ok (.iload_n 2, 1) := by decide +kernel
theorem dX12_granted_95 : decode cX12_granted 95 = .ok (.istore_n 3, 1) := by decide +kernel
theorem dX12_granted_96 : decode cX12_granted 96 = .ok (.aload_n 0, 1) := by decide +kernel
theorem dX12_granted_97 : decode cX12_granted 97 = .ok (.iload_n 1, 1) := by decide +kernel
theorem dX12_granted_98 : decode cX12_granted 98 = .ok (.iload_n 2, 1) := by decide +kernel
theorem dX12_granted_99 : decode cX12_granted 99 = .ok (.invokevirtual 481, 3) := by decide +kernel
theorem dX12_granted_102 : decode cX12_granted 102 = .ok (.aload_n 0, 1) := by decide +kernel
theorem dX12_granted_103 : decode cX12_granted 103 = .ok (.iload_n 2, 1) := by decide +kernel
theorem dX12_granted_104 : decode cX12_granted 104 = .ok (.invokevirtual 490, 3) := by decide +kernel
theorem dX12_granted_107 : decode cX12_granted 107 = .ok (.iload_n 3, 1) := by decide +kernel
theorem dX12_granted_108 : decode cX12_granted 108 = .ok (.ireturn, 1) := by decide +kernel
theorem dX12_granted_94 : decode cX12_granted 94 = .ok (.iaload, 1) := by decide +kernel
theorem dX12_granted_90 : decode cX12_granted 90 = .ok (.getfield 31, 3) := by decide +kernel
theorem dX12_granted_69 : decode cX12_granted 69 = .ok (.aload_n 0, 1) := by decide +kernel
theorem dX12_granted_73 : decode cX12_granted 73 = .ok (.iload_n 3, 1) := by decide +kernel
theorem dX12_granted_74 : decode cX12_granted 74 = .ok (.aload_n 0, 1) := by decide +kernel
theorem dX12_granted_78 : decode cX12_granted 78 = .ok (.iload_n 3, 1) := by decide +kernel
theorem dX12_granted_79 : decode cX12_granted 79 = .ok (.iconst 1, 1) := by decide +kernel
theorem dX12_granted_80 : decode cX12_granted 80 = .ok (.iadd, 1) := by decide +kernel
theorem dX12_granted_83 : decode cX12_granted 83 = .ok (.iinc 3 1, 3) := by decide +kernel
theorem dX12_granted_86 : decode cX12_granted 86 = .ok (.goto (-25), 3) := by decide +kernel
theorem dX12_granted_82 : decode cX12_granted 82 = .ok (.iastore, 1) := by decide +kernel
theorem dX12_granted_81 : decode cX12_granted 81 = .ok (.iaload, 1) := by decide +kernel
theorem dX12_granted_75 : decode cX12_granted 75 = .ok (.getfield 74, 3) := by decide +kernel
theorem dX12_granted_70 : decode cX12_granted 70 = .ok (.getfield 74, 3) := by decide +kernel
theorem dX12_granted_66 : decode cX12_granted 66 = .ok (.if_icmp .ge 23, 3) := by decide +kernel
theorem dX12_granted_63 : decode cX12_granted 63 = .ok (.getfield 261, 3) := by decide +kernel
def wr_255 (c k : Nat) : Bool := Nat.beq c 99 || Nat.beq c 105 || Nat.beq c 106 || Nat.beq c 109 || Nat.beq c 111 || Nat.beq c 112 || Nat.beq c 113 || Nat.beq c 114 || Nat.beq c 115 || Nat.beq c 120 || Nat.beq c 121 || (Nat.beq c 94 && (Nat.beq k 0 || Nat.beq k 44 || Nat.beq k 45 || Nat.beq k 49 || Nat.beq k 55 || Nat.beq k 56 || Nat.beq k 80))
theorem ws_238_255 : ∀ c k, wr_238 c k = true → wr_255 c k = true := by
  intro c k h
  simp only [wr_238, Bool.or_eq_true, Bool.and_eq_true, Nat.beq_eq] at h
  rcases h with ((((((((((rfl | rfl) | rfl) | rfl) | rfl) | rfl) | rfl) | rfl) | rfl) | rfl) | rfl) | ⟨rfl, (((((rfl | rfl) | rfl) | rfl) | rfl) | rfl)⟩ <;> rfl
theorem ws_241_255 : ∀ c k, wr_241 c k = true → wr_255 c k = true := by
  intro c k h
  simp only [wr_241, Bool.or_eq_true, Bool.and_eq_true, Nat.beq_eq] at h
  rcases h with (((((((rfl | rfl) | rfl) | rfl) | rfl) | rfl) | rfl) | rfl) | ⟨rfl, ((((rfl | rfl) | rfl) | rfl) | rfl)⟩ <;> rfl
theorem g_255_0 {X : Nat × (Nat → Int32)} {m : Nat → Nat → Int32} {P : Option ma_V → (Nat → Nat → Int32) → Prop} (r1 : Int32) (h : if r1 < 0 then (P (some (.inl (0 : Int32))) (ma_u m 94 0 (1 : Int32))) else (if (16 : Int32) ≤ r1 then (P (some (.inl (0 : Int32))) (ma_u m 94 0 (1 : Int32))) else (if (m 94 8) = 0 then (P (some (.inl (0 : Int32))) (ma_u m 94 0 (2 : Int32))) else (if (m 94 55) = 0 then (P (some (.inl (-1 : Int32))) (ma_u m 94 0 (0 : Int32))) else (zm X 5 111 255 61 [(0, .inr (.inr (some 94))), (1, .inl r1), (2, .inl (m 114 0)), (3, .inl (0 : Int32))] (ma_u (ma_u m 94 0 (0 : Int32)) 94 55 ((m 94 55) - (1 : Int32))) P))))) : zm X 5 111 255 0 [(0, .inr (.inr (some 94))), (1, .inl r1)] m P := by
  intro d w S Q hd hw hS hm HQ
  subst hm
  refine zw_push hm_255 dX12_granted_0 (v := .inr (.inr (some 94))) rfl ?_
  refine zw_push hm_255 dX12_granted_1 (v := .inr (.inr (some 94))) rfl ?_
  refine zw_push hm_255 dX12_granted_2 (v := .inl r1) rfl ?_
  refine zw_cv hm_255 dX12_granted_3 v_12_493_12 hm_182 [.inl r1] [.inr (.inr (some 94))] rfl (zT_rt hS s_94 rfl) ⟨by omega, by omega⟩ rfl ?_
  show ma_wp X (d - 1) (w - 21) 182 0 [(0, .inr (.inr (some 94))), (1, .inl r1)] [] S _
  refine zw_push hm_182 dX12_isNamed_0 (v := .inl r1) rfl ?_
  refine zw_if0 hm_182 dX12_isNamed_1 (t := 14) rfl zc0_lt ?_ ?_
  · intro hc
    rw [if_pos hc] at h
    refine zw_push hm_182 dX12_isNamed_14 (v := .inl (0 : Int32)) rfl ?_
    refine zw_bret hm_182 dX12_isNamed_15 (by decide) ?_
    show ma_wp X d w 255 6 [(0, .inr (.inr (some 94))), (1, .inl r1)] [.inl (0 : Int32), .inr (.inr (some 94))] S _
    refine zw_if0 hm_255 dX12_granted_6 (t := 13) rfl zc0_ne (fun hc => absurd hc (by decide)) (fun _ => ?_)
    refine zw_push hm_255 dX12_granted_9 (v := .inl (1 : Int32)) rfl ?_
    refine zw_goto hm_255 dX12_granted_10 (t := 25) rfl ?_
    refine zw_cv hm_255 dX12_granted_25 v_12_110_12 hm_167 [.inl (1 : Int32)] [] rfl (zT_rt hS s_94 rfl) ⟨by omega, by omega⟩ rfl ?_
    show ma_wp X (d - 1) (w - 21) 167 0 [(0, .inr (.inr (some 94))), (1, .inl (1 : Int32))] [] S _
    refine zw_push hm_167 dX12_fails_0 (v := .inr (.inr (some 94))) rfl ?_
    refine zw_push hm_167 dX12_fails_1 (v := .inl (1 : Int32)) rfl ?_
    refine zw_pf hm_167 dX12_fails_2 (zT_is hS s_94) (zT_t hS s_94) p_12_1_12 zk_int ?_
    refine zw_push hm_167 dX12_fails_5 (v := .inl (1 : Int32)) rfl ?_
    refine zw_if0 hm_167 dX12_fails_6 (t := 13) rfl zc0_eq (fun hc => absurd hc (by decide)) (fun _ => ?_)
    refine zw_push hm_167 dX12_fails_9 (v := .inl (1 : Int32)) rfl ?_
    refine zw_goto hm_167 dX12_fails_10 (t := 14) rfl ?_
    refine zw_bret hm_167 dX12_fails_14 (by decide) ?_
    show ma_wp X d w 255 28 [(0, .inr (.inr (some 94))), (1, .inl r1)] [.inl (1 : Int32)] (ma_put S 94 0 (.inl (1 : Int32))) _
    refine zw_if0 hm_255 dX12_granted_28 (t := 33) rfl zc0_eq (fun hc => absurd hc (by decide)) (fun _ => ?_)
    refine zw_push hm_255 dX12_granted_31 (v := .inl (0 : Int32)) rfl ?_
    exact zw_iret hm_255 dX12_granted_32 (HQ _ _ h)
  · intro hc
    rw [if_neg hc] at h
    refine zw_push hm_182 dX12_isNamed_4 (v := .inl r1) rfl ?_
    refine zw_push hm_182 dX12_isNamed_5 (v := .inl (16 : Int32)) rfl ?_
    refine zw_if2 hm_182 dX12_isNamed_7 (t := 14) rfl zc2_ge ?_ ?_
    · intro hc
      rw [if_pos hc] at h
      refine zw_push hm_182 dX12_isNamed_14 (v := .inl (0 : Int32)) rfl ?_
      refine zw_bret hm_182 dX12_isNamed_15 (by decide) ?_
      show ma_wp X d w 255 6 [(0, .inr (.inr (some 94))), (1, .inl r1)] [.inl (0 : Int32), .inr (.inr (some 94))] S _
      refine zw_if0 hm_255 dX12_granted_6 (t := 13) rfl zc0_ne (fun hc => absurd hc (by decide)) (fun _ => ?_)
      refine zw_push hm_255 dX12_granted_9 (v := .inl (1 : Int32)) rfl ?_
      refine zw_goto hm_255 dX12_granted_10 (t := 25) rfl ?_
      refine zw_cv hm_255 dX12_granted_25 v_12_110_12 hm_167 [.inl (1 : Int32)] [] rfl (zT_rt hS s_94 rfl) ⟨by omega, by omega⟩ rfl ?_
      show ma_wp X (d - 1) (w - 21) 167 0 [(0, .inr (.inr (some 94))), (1, .inl (1 : Int32))] [] S _
      refine zw_push hm_167 dX12_fails_0 (v := .inr (.inr (some 94))) rfl ?_
      refine zw_push hm_167 dX12_fails_1 (v := .inl (1 : Int32)) rfl ?_
      refine zw_pf hm_167 dX12_fails_2 (zT_is hS s_94) (zT_t hS s_94) p_12_1_12 zk_int ?_
      refine zw_push hm_167 dX12_fails_5 (v := .inl (1 : Int32)) rfl ?_
      refine zw_if0 hm_167 dX12_fails_6 (t := 13) rfl zc0_eq (fun hc => absurd hc (by decide)) (fun _ => ?_)
      refine zw_push hm_167 dX12_fails_9 (v := .inl (1 : Int32)) rfl ?_
      refine zw_goto hm_167 dX12_fails_10 (t := 14) rfl ?_
      refine zw_bret hm_167 dX12_fails_14 (by decide) ?_
      show ma_wp X d w 255 28 [(0, .inr (.inr (some 94))), (1, .inl r1)] [.inl (1 : Int32)] (ma_put S 94 0 (.inl (1 : Int32))) _
      refine zw_if0 hm_255 dX12_granted_28 (t := 33) rfl zc0_eq (fun hc => absurd hc (by decide)) (fun _ => ?_)
      refine zw_push hm_255 dX12_granted_31 (v := .inl (0 : Int32)) rfl ?_
      exact zw_iret hm_255 dX12_granted_32 (HQ _ _ h)
    · intro hc
      rw [if_neg hc] at h
      refine zw_push hm_182 dX12_isNamed_10 (v := .inl (1 : Int32)) rfl ?_
      refine zw_goto hm_182 dX12_isNamed_11 (t := 15) rfl ?_
      refine zw_bret hm_182 dX12_isNamed_15 (by decide) ?_
      show ma_wp X d w 255 6 [(0, .inr (.inr (some 94))), (1, .inl r1)] [.inl (1 : Int32), .inr (.inr (some 94))] S _
      refine zw_if0 hm_255 dX12_granted_6 (t := 13) rfl zc0_ne (fun _ => ?_) (fun hc => absurd (by decide) hc)
      refine zw_push hm_255 dX12_granted_13 (v := .inr (.inr (some 94))) rfl ?_
      refine zw_gf hm_255 dX12_granted_14 (v := .inl ((mI S) 94 8)) (zT_is hS s_94) (zT_t hS s_94) rfl f_12_237_12 rfl ?_
      refine zw_if0 hm_255 dX12_granted_17 (t := 24) rfl zc0_ne ?_ ?_
      · intro hc
        rw [if_neg hc] at h
        refine zw_push hm_255 dX12_granted_24 (v := .inl (0 : Int32)) rfl ?_
        refine zw_cv hm_255 dX12_granted_25 v_12_110_12 hm_167 [.inl (0 : Int32)] [] rfl (zT_rt hS s_94 rfl) ⟨by omega, by omega⟩ rfl ?_
        show ma_wp X (d - 1) (w - 21) 167 0 [(0, .inr (.inr (some 94))), (1, .inl (0 : Int32))] [] S _
        refine zw_push hm_167 dX12_fails_0 (v := .inr (.inr (some 94))) rfl ?_
        refine zw_push hm_167 dX12_fails_1 (v := .inl (0 : Int32)) rfl ?_
        refine zw_pf hm_167 dX12_fails_2 (zT_is hS s_94) (zT_t hS s_94) p_12_1_12 zk_int ?_
        refine zw_push hm_167 dX12_fails_5 (v := .inl (0 : Int32)) rfl ?_
        refine zw_if0 hm_167 dX12_fails_6 (t := 13) rfl zc0_eq (fun _ => ?_) (fun hc => absurd (by decide) hc)
        refine zw_push hm_167 dX12_fails_13 (v := .inl (0 : Int32)) rfl ?_
        refine zw_bret hm_167 dX12_fails_14 (by decide) ?_
        show ma_wp X d w 255 28 [(0, .inr (.inr (some 94))), (1, .inl r1)] [.inl (0 : Int32)] (ma_put S 94 0 (.inl (0 : Int32))) _
        refine zw_if0 hm_255 dX12_granted_28 (t := 33) rfl zc0_eq (fun _ => ?_) (fun hc => absurd (by decide) hc)
        refine zw_push hm_255 dX12_granted_33 (v := .inr (.inr (some 94))) rfl ?_
        refine zw_gf hm_255 dX12_granted_34 (v := .inl ((mI S) 94 55)) (zT_is (zT_pi hS) s_94) (zT_t (zT_pi hS) s_94) rfl f_12_261_12 rfl ?_
        refine zw_if0 hm_255 dX12_granted_37 (t := 42) rfl zc0_ne ?_ ?_
        · intro hc
          rw [if_neg hc] at h
          refine zw_push hm_255 dX12_granted_42 (v := .inr (.inr (some 94))) rfl ?_
          refine zw_gf hm_255 dX12_granted_43 (v := .inr (.inr (some 114))) (zT_is (zT_pi hS) s_94) (zT_t (zT_pi hS) s_94) rfl f_12_74_12 (zT_f (zT_pi hS) r_94_53) ?_
          refine zw_push hm_255 dX12_granted_46 (v := .inl (0 : Int32)) rfl ?_
          refine zw_ia hm_255 dX12_granted_47 (zT_is (zT_pi hS) s_114) (zT_h (zT_pi hS) s_114) rfl ⟨by decide, by decide⟩ ?_
          show ma_wp X d w 255 48 [(0, .inr (.inr (some 94))), (1, .inl r1)] [.inl ((mI S) 114 0)] (ma_put S 94 0 (.inl (0 : Int32))) _
          refine zw_sto hm_255 dX12_granted_48 [(2, .inl ((mI S) 114 0)), (0, .inr (.inr (some 94))), (1, .inl r1)] rfl rfl rfl ?_
          refine zw_push hm_255 dX12_granted_49 (v := .inr (.inr (some 94))) rfl ?_
          refine zw_stk hm_255 dX12_granted_50 (st₉ := [.inr (.inr (some 94)), .inr (.inr (some 94))]) rfl rfl ?_
          refine zw_gf hm_255 dX12_granted_51 (v := .inl ((mI S) 94 55)) (zT_is (zT_pi hS) s_94) (zT_t (zT_pi hS) s_94) rfl f_12_261_12 rfl ?_
          refine zw_push hm_255 dX12_granted_54 (v := .inl (1 : Int32)) rfl ?_
          refine zw_stk hm_255 dX12_granted_55 (st₉ := [.inl (((mI S) 94 55) - (1 : Int32)), .inr (.inr (some 94))]) rfl rfl ?_
          refine zw_pf hm_255 dX12_granted_56 (zT_is (zT_pi hS) s_94) (zT_t (zT_pi hS) s_94) p_12_261_12 zk_int ?_
          refine zw_push hm_255 dX12_granted_59 (v := .inl (0 : Int32)) rfl ?_
          refine zw_sto hm_255 dX12_granted_60 [(3, .inl (0 : Int32)), (2, .inl ((mI S) 114 0)), (0, .inr (.inr (some 94))), (1, .inl r1)] rfl rfl rfl ?_
          exact zw_sub (ma_nd_of (ks := [0, 1, 2, 3]) rfl (by decide)) (ma_nd_of (ks := [3, 2, 0, 1]) rfl (by decide)) (ma_le_cons rfl (ma_le_cons rfl (ma_le_cons rfl (ma_le_cons rfl (ma_le_nil _))))) (h d w _ Q (by omega) (by omega) (zT_pi (zT_pi hS)) rfl HQ)
        · intro hc
          rw [if_pos (Classical.not_not.mp hc)] at h
          refine zw_push hm_255 dX12_granted_40 (v := .inl (-1 : Int32)) rfl ?_
          exact zw_iret hm_255 dX12_granted_41 (HQ _ _ h)
      · intro hc
        rw [if_pos (Classical.not_not.mp hc)] at h
        refine zw_push hm_255 dX12_granted_20 (v := .inl (2 : Int32)) rfl ?_
        refine zw_goto hm_255 dX12_granted_21 (t := 25) rfl ?_
        refine zw_cv hm_255 dX12_granted_25 v_12_110_12 hm_167 [.inl (2 : Int32)] [] rfl (zT_rt hS s_94 rfl) ⟨by omega, by omega⟩ rfl ?_
        show ma_wp X (d - 1) (w - 21) 167 0 [(0, .inr (.inr (some 94))), (1, .inl (2 : Int32))] [] S _
        refine zw_push hm_167 dX12_fails_0 (v := .inr (.inr (some 94))) rfl ?_
        refine zw_push hm_167 dX12_fails_1 (v := .inl (2 : Int32)) rfl ?_
        refine zw_pf hm_167 dX12_fails_2 (zT_is hS s_94) (zT_t hS s_94) p_12_1_12 zk_int ?_
        refine zw_push hm_167 dX12_fails_5 (v := .inl (2 : Int32)) rfl ?_
        refine zw_if0 hm_167 dX12_fails_6 (t := 13) rfl zc0_eq (fun hc => absurd hc (by decide)) (fun _ => ?_)
        refine zw_push hm_167 dX12_fails_9 (v := .inl (1 : Int32)) rfl ?_
        refine zw_goto hm_167 dX12_fails_10 (t := 14) rfl ?_
        refine zw_bret hm_167 dX12_fails_14 (by decide) ?_
        show ma_wp X d w 255 28 [(0, .inr (.inr (some 94))), (1, .inl r1)] [.inl (1 : Int32)] (ma_put S 94 0 (.inl (2 : Int32))) _
        refine zw_if0 hm_255 dX12_granted_28 (t := 33) rfl zc0_eq (fun hc => absurd hc (by decide)) (fun _ => ?_)
        refine zw_push hm_255 dX12_granted_31 (v := .inl (0 : Int32)) rfl ?_
        exact zw_iret hm_255 dX12_granted_32 (HQ _ _ h)
theorem g_255_61 {X : Nat × (Nat → Int32)} {m : Nat → Nat → Int32} {P : Option ma_V → (Nat → Nat → Int32) → Prop} (l1 : Int32) (l2 : Int32) (l3 : Int32) (h : if (m 94 55) ≤ l3 then ((0 ≤ l2 ∧ l2.toNatClampNeg < 3100) ∧ (zm X 4 88 238 0 [(0, .inr (.inr (some 94))), (1, .inl l1), (2, .inl l2)] m (zmv (fun m1 => zm X 3 64 241 0 [(0, .inr (.inr (some 94))), (1, .inl l2)] m1 (zmv (fun m3 => P (some (.inl (m 100 l2.toNatClampNeg))) m3)))))) else ((0 ≤ (l3 + (1 : Int32)) ∧ (l3 + (1 : Int32)).toNatClampNeg < 3100) ∧ ((0 ≤ l3 ∧ l3.toNatClampNeg < 3100) ∧ (zm X 5 111 255 61 [(0, .inr (.inr (some 94))), (1, .inl l1), (2, .inl l2), (3, .inl (l3 + (1 : Int32)))] (ma_u m 114 l3.toNatClampNeg (m 114 (l3 + (1 : Int32)).toNatClampNeg)) P)))) : zm X 5 111 255 61 [(0, .inr (.inr (some 94))), (1, .inl l1), (2, .inl l2), (3, .inl l3)] m P := by
  intro d w S Q hd hw hS hm HQ
  subst hm
  refine zw_push hm_255 dX12_granted_61 (v := .inl l3) rfl ?_
  refine zw_push hm_255 dX12_granted_62 (v := .inr (.inr (some 94))) rfl ?_
  refine zw_gf hm_255 dX12_granted_63 (v := .inl ((mI S) 94 55)) (zT_is hS s_94) (zT_t hS s_94) rfl f_12_261_12 rfl ?_
  refine zw_if2 hm_255 dX12_granted_66 (t := 89) rfl zc2_ge ?_ ?_
  · intro hc
    rw [if_pos hc] at h
    refine zw_push hm_255 dX12_granted_89 (v := .inr (.inr (some 94))) rfl ?_
    refine zw_gf hm_255 dX12_granted_90 (v := .inr (.inr (some 100))) (zT_is hS s_94) (zT_t hS s_94) rfl f_12_31_12 (zT_f hS r_94_32) ?_
    refine zw_push hm_255 dX12_granted_93 (v := .inl l2) rfl ?_
    obtain ⟨hg, h⟩ := h
    refine zw_ia hm_255 dX12_granted_94 (zT_is hS s_100) (zT_h hS s_100) rfl hg ?_
    show ma_wp X d w 255 95 [(0, .inr (.inr (some 94))), (1, .inl l1), (2, .inl l2), (3, .inl l3)] [.inl ((mI S) 100 l2.toNatClampNeg)] S _
    refine zw_sto hm_255 dX12_granted_95 [(3, .inl ((mI S) 100 l2.toNatClampNeg)), (0, .inr (.inr (some 94))), (1, .inl l1), (2, .inl l2)] rfl rfl rfl ?_
    refine zw_push hm_255 dX12_granted_96 (v := .inr (.inr (some 94))) rfl ?_
    refine zw_push hm_255 dX12_granted_97 (v := .inl l1) rfl ?_
    refine zw_push hm_255 dX12_granted_98 (v := .inl l2) rfl ?_
    refine zw_cv hm_255 dX12_granted_99 v_12_481_12 hm_238 [.inl l2, .inl l1] [] rfl (zT_rt hS s_94 rfl) ⟨by omega, by omega⟩ rfl (h _ _ S _ (by omega) (by omega) hS rfl (fun o9 m1 hv => ?_))
    obtain ⟨rfl, h⟩ := zmv_of hv
    show ma_wp X d w 255 102 [(3, .inl ((mI S) 100 l2.toNatClampNeg)), (0, .inr (.inr (some 94))), (1, .inl l1), (2, .inl l2)] [] (zst S m1) _
    refine zw_push hm_255 dX12_granted_102 (v := .inr (.inr (some 94))) rfl ?_
    refine zw_push hm_255 dX12_granted_103 (v := .inl l2) rfl ?_
    refine zw_cv hm_255 dX12_granted_104 v_12_490_12 hm_241 [.inl l2] [] rfl (zT_rt (zT_zst hS m1) s_94 rfl) ⟨by omega, by omega⟩ rfl (h _ _ (zst S m1) _ (by omega) (by omega) (zT_zst hS m1) rfl (fun o9 m3 hv => ?_))
    obtain ⟨rfl, h⟩ := zmv_of hv
    show ma_wp X d w 255 107 [(3, .inl ((mI S) 100 l2.toNatClampNeg)), (0, .inr (.inr (some 94))), (1, .inl l1), (2, .inl l2)] [] (zst S m3) _
    refine zw_push hm_255 dX12_granted_107 (v := .inl ((mI S) 100 l2.toNatClampNeg)) rfl ?_
    exact zw_iret hm_255 dX12_granted_108 (HQ _ _ h)
  · intro hc
    rw [if_neg hc] at h
    refine zw_push hm_255 dX12_granted_69 (v := .inr (.inr (some 94))) rfl ?_
    refine zw_gf hm_255 dX12_granted_70 (v := .inr (.inr (some 114))) (zT_is hS s_94) (zT_t hS s_94) rfl f_12_74_12 (zT_f hS r_94_53) ?_
    refine zw_push hm_255 dX12_granted_73 (v := .inl l3) rfl ?_
    refine zw_push hm_255 dX12_granted_74 (v := .inr (.inr (some 94))) rfl ?_
    refine zw_gf hm_255 dX12_granted_75 (v := .inr (.inr (some 114))) (zT_is hS s_94) (zT_t hS s_94) rfl f_12_74_12 (zT_f hS r_94_53) ?_
    refine zw_push hm_255 dX12_granted_78 (v := .inl l3) rfl ?_
    refine zw_push hm_255 dX12_granted_79 (v := .inl (1 : Int32)) rfl ?_
    refine zw_stk hm_255 dX12_granted_80 (st₉ := [.inl (l3 + (1 : Int32)), .inr (.inr (some 114)), .inl l3, .inr (.inr (some 114))]) rfl rfl ?_
    obtain ⟨hg, h⟩ := h
    refine zw_ia hm_255 dX12_granted_81 (zT_is hS s_114) (zT_h hS s_114) rfl hg ?_
    show ma_wp X d w 255 82 [(0, .inr (.inr (some 94))), (1, .inl l1), (2, .inl l2), (3, .inl l3)] [.inl ((mI S) 114 (l3 + (1 : Int32)).toNatClampNeg), .inl l3, .inr (.inr (some 114))] S _
    obtain ⟨hg, h⟩ := h
    refine zw_ias hm_255 dX12_granted_82 (zT_is hS s_114) (zT_h hS s_114) rfl hg ?_
    refine zw_sto hm_255 dX12_granted_83 [(3, .inl (l3 + (1 : Int32))), (0, .inr (.inr (some 94))), (1, .inl l1), (2, .inl l2)] rfl rfl rfl ?_
    refine zw_goto hm_255 dX12_granted_86 (t := 61) rfl ?_
    exact zw_sub (ma_nd_of (ks := [0, 1, 2, 3]) rfl (by decide)) (ma_nd_of (ks := [3, 0, 1, 2]) rfl (by decide)) (ma_le_cons rfl (ma_le_cons rfl (ma_le_cons rfl (ma_le_cons rfl (ma_le_nil _))))) (h d w _ Q (by omega) (by omega) (zT_pi hS) rfl HQ)
theorem lp_255_61 {X : Nat × (Nat → Int32)} {P : Option ma_V → (Nat → Nat → Int32) → Prop} {T : Nat} {r1 : Int32} {m0 : Nat → Nat → Int32} (h0 : zV m0) (K : ∀ v m₉, zF wr_255 m0 m₉ → zV m₉ → (zW (m₉ 94 7) (m₉ 98) (m₉ 101) (m₉ 102) (m₉ 108)) → (zGW T (m₉ 94 55) (m₉ 109)) → (zGU T (m₉ 94 46) (m₉ 99)) → (zOw (m₉ 99) (m₉ 103) (m₉ 111)) → (zDX (m₉ 94 10) (m₉ 99) (m₉ 112) (m₉ 113) (m₉ 114) (m₉ 94 55) (m₉ 98) (m₉ 101) (m₉ 102) (m₉ 108)) → (zGG (m₉ 94 58) (m₉ 94 56) (m₉ 94 57) (m₉ 106)) → (zHA (m₉ 94 10) (m₉ 94 11) (m₉ 94 13) (m₉ 94 14) (m₉ 94 16) (m₉ 94 61) (m₉ 94 59) (m₉ 94 60) (m₉ 99) (m₉ 102) (m₉ 103) (m₉ 111) (m₉ 117) (m₉ 98) (m₉ 101) (m₉ 108)) → (zRG (m₉ 94 10) (m₉ 94 18) (m₉ 94 64) (m₉ 94 63) (m₉ 99) (m₉ 103) (m₉ 102) (m₉ 116)) → ((m₉ 94 58).toInt = 0 ∨ (m₉ 94 10).toInt = 5) → P (some (.inl v)) m₉) : ∀ (n : Nat) (m : Nat → Nat → Int32) (l1 : Int32) (l2 : Int32) (l3 : Int32), (3100 - l3.toInt).toNat = n → zF wr_255 m0 m → zV m → (0 ≤ l3.toInt) → (0 ≤ l1.toInt) → (l1.toInt ≤ 15) → (l1.toInt = r1.toInt) → (0 ≤ l2.toInt) → (l2.toInt ≤ 3099) → ((m 94 55).toInt ≤ 3099) → (zW (m 94 7) (m 98) (m 101) (m 102) (m 108)) → (zGW T (m 94 55) (m 109)) → (zGU T (m 94 46) (m 99)) → (zOw (m 99) (m 103) (m 111)) → (zDX (m 94 10) (m 99) (m 112) (m 113) (m 114) (m 94 55) (m 98) (m 101) (m 102) (m 108)) → (zGG (m 94 58) (m 94 56) (m 94 57) (m 106)) → (zHA (m 94 10) (m 94 11) (m 94 13) (m 94 14) (m 94 16) (m 94 61) (m 94 59) (m 94 60) (m 99) (m 102) (m 103) (m 111) (m 117) (m 98) (m 101) (m 108)) → (zRG (m 94 10) (m 94 18) (m 94 64) (m 94 63) (m 99) (m 103) (m 102) (m 116)) → ((m 94 58).toInt = 0 ∨ (m 94 10).toInt = 5) → (((m 94 10).toInt = 2 ∨ (m 94 10).toInt = 3) → zcov (m 99) (m 114) ((m 94 55).toInt + 1)) → (((m 94 10).toInt = 2 ∨ (m 94 10).toInt = 3) → l2.toInt < 0 ∨ (m 99) l2.toNatClampNeg ≠ 0) → zm X 5 111 255 61 [(0, .inr (.inr (some 94))), (1, .inl l1), (2, .inl l2), (3, .inl l3)] m P := by
  intro n
  induction n using Nat.strongRecOn with
  | _ n IH =>
    intro m l1 l2 l3 hmu hF hV hi0 hi1 hi2 hi3 hi4 hi5 hi6 r_W r_GW r_GU r_OW r_DX r_GG r_HA r_RGc hi15 r_SHc r_S1g
    refine g_255_61 l1 l2 l3 ?_
    have f1 : 0 ≤ (m 94 55).toInt ∧ (m 94 55).toInt ≤ 3100 := rs_94_55 (m := m) hV
    have f2 : 0 ≤ (m 94 58).toInt ∧ (m 94 58).toInt ≤ 1 := rs_94_58 (m := m) hV
    have f3 : 0 ≤ (m 94 10).toInt ∧ (m 94 10).toInt ≤ 6 := rs_94_10 (m := m) hV
    have b4 := i_bd l3
    refine zd (fun (h5 : (m 94 55) ≤ l3) => ?_) (fun (h5 : ¬ (m 94 55) ≤ l3) => ?_)
    · skip
      have g6 := i_le h5
      have b7 := i_bd l2
      have hg8 : (0 ≤ l2 ∧ l2.toNatClampNeg < 3100) := i_ix (by omega) (by omega)
      refine ⟨hg8, ?_⟩
      have b9 := i_bd l1
      refine sp_238 (l1) (l2) hV (by omega) (by omega) (by omega) (by omega) (show ((m 94 10).toInt = 2 ∨ (m 94 10).toInt = 3) → l2.toInt < 0 ∨ (m 99) l2.toNatClampNeg ≠ 0 from by first | (exact r_S1g) | (exfalso; omega; done) | (exfalso; contradiction; done)) r_W r_GW r_GU r_OW r_DX r_GG r_HA r_RGc (show (m 94 58).toInt = 0 ∨ (m 94 10).toInt = 5 from by omega) (fun m1 hV_m1 p0_m1 p1_m1 p2_m1 p3_m1 p4_m1 p5_m1 p6_m1 p7_m1 => zmv_n ?_)
      have p0_m1 : zGW T (m1 94 55) (m1 109) := p0_m1
      have p1_m1 : zGU T (m 94 46) (m1 99) := p1_m1
      have p2_m1 : zOw (m1 99) (m 103) (m1 111) := p2_m1
      have p3_m1 : zDX (m 94 10) (m1 99) (m1 112) (m1 113) (m1 114) (m1 94 55) (m 98) (m 101) (m 102) (m 108) := p3_m1
      have p4_m1 : zGG (m 94 58) (m1 94 56) (m 94 57) (m1 106) := p4_m1
      have p5_m1 : zHA (m 94 10) (m 94 11) (m 94 13) (m 94 14) (m 94 16) (m 94 61) (m 94 59) (m 94 60) (m1 99) (m 102) (m 103) (m1 111) (m 117) (m 98) (m 101) (m 108) := p5_m1
      have p6_m1 : zRG (m 94 10) (m 94 18) (m 94 64) (m 94 63) (m1 99) (m 103) (m 102) (m 116) := p6_m1
      have p7_m1 : (m 94 58).toInt = 0 ∨ (m 94 10).toInt = 5 := p7_m1
      refine sp_241 (l2) hV_m1 (by omega) r_W p0_m1 p1_m1 p2_m1 p3_m1 (fun m3 hV_m3 p0_m3 p1_m3 p2_m3 p3_m3 p4_m3 => zmv_n ?_)
      have p0_m3 : zGW T (m3 94 55) (m3 109) := p0_m3
      have p1_m3 : zGU T (m 94 46) (m3 99) := p1_m3
      have p2_m3 : zOw (m3 99) (m 103) (m3 111) := p2_m3
      have p3_m3 : zDX (m 94 10) (m3 99) (m1 112) (m3 113) (m3 114) (m3 94 55) (m 98) (m 101) (m 102) (m 108) := p3_m3
      have p4_m3 : (m 94 10).toInt ≠ 4 → ((m3 99) = (m1 99) ∧ (m3 111) = (m1 111) ∧ (m3 113) = (m1 113) ∧ (m3 114) = (m1 114) ∧ (m3 94 55) = (m1 94 55) ∧ (m3 109) = (m1 109)) := p4_m3
      first | have f10 : 0 ≤ (m 100 l2.toNatClampNeg).toInt ∧ (m 100 l2.toNatClampNeg).toInt ≤ 100000 := ra_100 (m := m) hV (k := l2.toNatClampNeg) (i_ix (n := 3100) (by omega) (by omega)).2 | have b11 := i_bd (m 100 l2.toNatClampNeg)
      exact K ((m 100 l2.toNatClampNeg)) _ (zF_zov (zF_zov hF ws_238_255) ws_241_255) hV_m3 r_W p0_m3 p1_m3 p2_m3 p3_m3 p4_m1 (show zHA (m 94 10) (m 94 11) (m 94 13) (m 94 14) (m 94 16) (m 94 61) (m 94 59) (m 94 60) (m3 99) (m 102) (m 103) (m3 111) (m 117) (m 98) (m 101) (m 108) from by first | (exact HA_lq p5_m1 (fun z => ⟨(p4_m3 z).1, (p4_m3 z).2.1⟩)) | (exfalso; omega; done) | (exfalso; contradiction; done)) (show zRG (m 94 10) (m 94 18) (m 94 64) (m 94 63) (m3 99) (m 103) (m 102) (m 116) from by first | (exact RG_lq p6_m1 (fun z => (p4_m3 z).1)) | (exfalso; omega; done) | (exfalso; contradiction; done)) (show (m 94 58).toInt = 0 ∨ (m 94 10).toInt = 5 from by omega)
    · skip
      have g12 := i_nle h5
      first | have e13 : (l3 + (1 : Int32)).toInt = l3.toInt + (1) := i_addk rfl (by omega) (by omega) | have b14 := i_bd (l3 + (1 : Int32))
      have hg15 : (0 ≤ (l3 + (1 : Int32)) ∧ (l3 + (1 : Int32)).toNatClampNeg < 3100) := i_ix (by omega) (by omega)
      refine ⟨hg15, ?_⟩
      have hg16 : (0 ≤ l3 ∧ l3.toNatClampNeg < 3100) := i_ix (by omega) (by omega)
      refine ⟨hg16, ?_⟩
      first | have f18 : 0 ≤ (m 114 (l3 + (1 : Int32)).toNatClampNeg).toInt ∧ (m 114 (l3 + (1 : Int32)).toNatClampNeg).toInt ≤ 3099 := ra_114 (m := m) hV (k := (l3 + (1 : Int32)).toNatClampNeg) (i_ix (n := 3100) (by omega) (by omega)).2 | have b19 := i_bd (m 114 (l3 + (1 : Int32)).toNatClampNeg)
      have hV17 : zV (ma_u m 114 l3.toNatClampNeg (m 114 (l3 + (1 : Int32)).toNatClampNeg)) := ua_114 hV (by omega) (by omega)
      have b20 := i_bd l1
      have b21 := i_bd l2
      exact IH (3100 - (l3 + (1 : Int32)).toInt).toNat (by omega) _ (l1) (l2) ((l3 + (1 : Int32))) rfl (zF_u hF rfl) hV17 (by omega) (by omega) (by omega) (by omega) (by omega) (by omega) (show (m 94 55).toInt ≤ 3099 from by omega) r_W r_GW r_GU r_OW (show zDX (m 94 10) (m 99) (m 112) (m 113) ((ma_u m 114 l3.toNatClampNeg (m 114 (l3 + (1 : Int32)).toNatClampNeg)) 114) (m 94 55) (m 98) (m 101) (m 102) (m 108) from by first | (exact fun hp => ⟨(r_DX hp).1, (r_DX hp).2.1, cov_cut (cov_set (r_SHc hp) ((r_SHc hp) _ (by rw [tn_cast (by omega)]; omega))) (by omega), (r_DX hp).2.2.2⟩) | (exfalso; omega; done) | (exfalso; contradiction; done)) r_GG r_HA r_RGc (show (m 94 58).toInt = 0 ∨ (m 94 10).toInt = 5 from by omega) (show ((m 94 10).toInt = 2 ∨ (m 94 10).toInt = 3) → zcov (m 99) ((ma_u m 114 l3.toNatClampNeg (m 114 (l3 + (1 : Int32)).toNatClampNeg)) 114) ((m 94 55).toInt + 1) from by first | (exact fun hp => cov_set (r_SHc hp) ((r_SHc hp) _ (by rw [tn_cast (by omega)]; omega))) | (exfalso; omega; done) | (exfalso; contradiction; done)) r_S1g
theorem sp_255 {X : Nat × (Nat → Int32)} {P : Option ma_V → (Nat → Nat → Int32) → Prop} {T : Nat} {m : Nat → Nat → Int32} (r1 : Int32) (hV : zV m) (r_W : zW (m 94 7) (m 98) (m 101) (m 102) (m 108)) (r_GW : zGW T (m 94 55) (m 109)) (r_GU : zGU T (m 94 46) (m 99)) (r_OW : zOw (m 99) (m 103) (m 111)) (r_DX : zDX (m 94 10) (m 99) (m 112) (m 113) (m 114) (m 94 55) (m 98) (m 101) (m 102) (m 108)) (r_GG : zGG (m 94 58) (m 94 56) (m 94 57) (m 106)) (r_HA : zHA (m 94 10) (m 94 11) (m 94 13) (m 94 14) (m 94 16) (m 94 61) (m 94 59) (m 94 60) (m 99) (m 102) (m 103) (m 111) (m 117) (m 98) (m 101) (m 108)) (r_RGc : zRG (m 94 10) (m 94 18) (m 94 64) (m 94 63) (m 99) (m 103) (m 102) (m 116)) (hpre8 : (m 94 58).toInt = 0 ∨ (m 94 10).toInt = 5) (KZ : ∀ v m₉, zV (zov wr_255 m m₉) → (zW (m 94 7) (m 98) (m 101) (m 102) (m 108)) → (zGW T (m₉ 94 55) (m₉ 109)) → (zGU T (m 94 46) (m₉ 99)) → (zOw (m₉ 99) (m 103) (m₉ 111)) → (zDX (m 94 10) (m₉ 99) (m₉ 112) (m₉ 113) (m₉ 114) (m₉ 94 55) (m 98) (m 101) (m 102) (m 108)) → (zGG (m 94 58) (m₉ 94 56) (m 94 57) (m₉ 106)) → (zHA (m 94 10) (m 94 11) (m 94 13) (m 94 14) (m 94 16) (m 94 61) (m 94 59) (m 94 60) (m₉ 99) (m 102) (m 103) (m₉ 111) (m 117) (m 98) (m 101) (m 108)) → (zRG (m 94 10) (m 94 18) (m 94 64) (m 94 63) (m₉ 99) (m 103) (m 102) (m 116)) → ((m 94 58).toInt = 0 ∨ (m 94 10).toInt = 5) → P (some (.inl v)) (zov wr_255 m m₉)) : zm X 5 111 255 0 [(0, .inr (.inr (some 94))), (1, .inl r1)] m P := by
  have K : ∀ v m₉, zF wr_255 m m₉ → zV m₉ → (zW (m₉ 94 7) (m₉ 98) (m₉ 101) (m₉ 102) (m₉ 108)) → (zGW T (m₉ 94 55) (m₉ 109)) → (zGU T (m₉ 94 46) (m₉ 99)) → (zOw (m₉ 99) (m₉ 103) (m₉ 111)) → (zDX (m₉ 94 10) (m₉ 99) (m₉ 112) (m₉ 113) (m₉ 114) (m₉ 94 55) (m₉ 98) (m₉ 101) (m₉ 102) (m₉ 108)) → (zGG (m₉ 94 58) (m₉ 94 56) (m₉ 94 57) (m₉ 106)) → (zHA (m₉ 94 10) (m₉ 94 11) (m₉ 94 13) (m₉ 94 14) (m₉ 94 16) (m₉ 94 61) (m₉ 94 59) (m₉ 94 60) (m₉ 99) (m₉ 102) (m₉ 103) (m₉ 111) (m₉ 117) (m₉ 98) (m₉ 101) (m₉ 108)) → (zRG (m₉ 94 10) (m₉ 94 18) (m₉ 94 64) (m₉ 94 63) (m₉ 99) (m₉ 103) (m₉ 102) (m₉ 116)) → ((m₉ 94 58).toInt = 0 ∨ (m₉ 94 10).toInt = 5) → P (some (.inl v)) m₉ := by
    intro v m₉ hf z q0 q1 q2 q3 q4 q5 q6 q7 q8
    have e := zov_eq hf
    rw [e] at z ⊢
    try rw [e] at q0
    try rw [e] at q1
    try rw [e] at q2
    try rw [e] at q3
    try rw [e] at q4
    try rw [e] at q5
    try rw [e] at q6
    try rw [e] at q7
    try rw [e] at q8
    exact KZ v m₉ z q0 q1 q2 q3 q4 q5 q6 q7 q8
  refine g_255_0 r1 ?_
  have f1 : 0 ≤ (m 94 58).toInt ∧ (m 94 58).toInt ≤ 1 := rs_94_58 (m := m) hV
  have f2 : 0 ≤ (m 94 10).toInt ∧ (m 94 10).toInt ≤ 6 := rs_94_10 (m := m) hV
  have b3 := i_bd r1
  have li4 : (0 : Int32).toInt = 0 := rfl
  refine zd (fun (h5 : r1 < (0 : Int32)) => ?_) (fun (h5 : ¬ r1 < (0 : Int32)) => ?_)
  · skip
    have g6 := i_lt h5
    have hV7 : zV (ma_u m 94 0 (1 : Int32)) := uf_94_0 hV
    exact K ((0 : Int32)) _ (zF_u zF_rfl rfl) hV7 r_W r_GW r_GU r_OW r_DX r_GG r_HA r_RGc (show (m 94 58).toInt = 0 ∨ (m 94 10).toInt = 5 from by omega)
  · skip
    have g8 := i_nlt h5
    have li9 : (16 : Int32).toInt = 16 := rfl
    refine zd (fun (h10 : (16 : Int32) ≤ r1) => ?_) (fun (h10 : ¬ (16 : Int32) ≤ r1) => ?_)
    · skip
      have g11 := i_le h10
      have hV12 : zV (ma_u m 94 0 (1 : Int32)) := uf_94_0 hV
      exact K ((0 : Int32)) _ (zF_u zF_rfl rfl) hV12 r_W r_GW r_GU r_OW r_DX r_GG r_HA r_RGc (show (m 94 58).toInt = 0 ∨ (m 94 10).toInt = 5 from by omega)
    · skip
      have g13 := i_nle h10
      have f14 : 0 ≤ (m 94 8).toInt ∧ (m 94 8).toInt ≤ 1 := rs_94_8 (m := m) hV
      refine zd (fun (h15 : (m 94 8) = (0 : Int32)) => ?_) (fun (h15 : ¬ (m 94 8) = (0 : Int32)) => ?_)
      · skip
        have g16 := i_eq h15
        have hV17 : zV (ma_u m 94 0 (2 : Int32)) := uf_94_0 hV
        exact K ((0 : Int32)) _ (zF_u zF_rfl rfl) hV17 r_W r_GW r_GU r_OW r_DX r_GG r_HA r_RGc (show (m 94 58).toInt = 0 ∨ (m 94 10).toInt = 5 from by omega)
      · skip
        have g18 := i_ne h15
        have f19 : 0 ≤ (m 94 55).toInt ∧ (m 94 55).toInt ≤ 3100 := rs_94_55 (m := m) hV
        refine zd (fun (h20 : (m 94 55) = (0 : Int32)) => ?_) (fun (h20 : ¬ (m 94 55) = (0 : Int32)) => ?_)
        · skip
          have g21 := i_eq h20
          have hV22 : zV (ma_u m 94 0 (0 : Int32)) := uf_94_0 hV
          have li23 : (-1 : Int32).toInt = -1 := rfl
          exact K ((-1 : Int32)) _ (zF_u zF_rfl rfl) hV22 r_W r_GW r_GU r_OW r_DX r_GG r_HA r_RGc (show (m 94 58).toInt = 0 ∨ (m 94 10).toInt = 5 from by omega)
        · skip
          have g24 := i_ne h20
          have hV25 : zV (ma_u m 94 0 (0 : Int32)) := uf_94_0 hV
          first | have e27 : ((m 94 55) - (1 : Int32)).toInt = (m 94 55).toInt - (1) := i_subk rfl (by omega) (by omega) | have b28 := i_bd ((m 94 55) - (1 : Int32))
          have hV26 : zV (ma_u (ma_u m 94 0 (0 : Int32)) 94 55 ((m 94 55) - (1 : Int32))) := us_94_55 hV25 (by omega) (by omega)
          have f29 : 0 ≤ (m 114 0).toInt ∧ (m 114 0).toInt ≤ 3099 := ra_114 (m := m) hV (k := 0) (by decide)
          exact lp_255_61 (r1 := r1) hV K _ _ (r1) ((m 114 0)) ((0 : Int32)) rfl (zF_u (zF_u zF_rfl rfl) rfl) hV26 (by omega) (by omega) (by omega) (by omega) (by omega) (by omega) (show ((m 94 55) - (1 : Int32)).toInt ≤ 3099 from by omega) r_W (show zGW T ((m 94 55) - (1 : Int32)) (m 109) from by first | (exact GW_le r_GW (by omega)) | (exfalso; omega; done) | (exfalso; contradiction; done)) r_GU r_OW (show zDX (m 94 10) (m 99) (m 112) (m 113) (m 114) ((m 94 55) - (1 : Int32)) (m 98) (m 101) (m 102) (m 108) from by first | (exact fun hp => ⟨(r_DX hp).1, (r_DX hp).2.1, cov_cut ((r_DX hp).2.2.1) (by omega), (r_DX hp).2.2.2⟩) | (exfalso; omega; done) | (exfalso; contradiction; done)) r_GG r_HA r_RGc (show (m 94 58).toInt = 0 ∨ (m 94 10).toInt = 5 from by omega) (show ((m 94 10).toInt = 2 ∨ (m 94 10).toInt = 3) → zcov (m 99) (m 114) (((m 94 55) - (1 : Int32)).toInt + 1) from by first | (exact fun hp => cov_cut ((r_DX hp).2.2.1) (by omega)) | (exfalso; omega; done) | (exfalso; contradiction; done)) (show ((m 94 10).toInt = 2 ∨ (m 94 10).toInt = 3) → (m 114 0).toInt < 0 ∨ (m 99) (m 114 0).toNatClampNeg ≠ 0 from by first | (exact fun hp => (r_DX hp).2.2.1 0 (by omega)) | (exfalso; omega; done) | (exfalso; contradiction; done))

/-! from 94.458 -/
/-! the reference (written by wip/tools/gen94m.py) -/
set_option maxRecDepth 100000 in
theorem hm_259 : ma_md 259 = some (12, yX12_block, cX12_block, 6, (some (FieldType.int))) := rfl
theorem dX12_block_0 : decode cX12_block 0 = .ok (.aload_n 0, 1) := by decide +kernel
theorem dX12_block_23 : decode cX12_block 23 = .ok (.iconst 1, 1) := by decide +kernel
theorem dX12_block_24 : decode cX12_block 24 = .ok (.goto 4, 3) := by decide +kernel
theorem dX12_block_28 : decode cX12_block 28 = .ok (.istore_n 3, 1) := by decide +kernel
theorem dX12_block_29 : decode cX12_block 29 = .ok (.aload_n 0, 1) := by decide +kernel
theorem dX12_block_30 : decode cX12_block 30 = .ok (.iload_n 2, 1) := by decide +kernel
theorem dX12_block_39 : decode cX12_block 39 = .ok (.iconst 1, 1) := by decide +kernel
theorem dX12_block_40 : decode cX12_block 40 = .ok (.goto 23, 3) := by decide +kernel
theorem dX12_block_63 : decode cX12_block 63 = .ok (.invokevirtual 110, 3) := by decide +kernel
theorem dX12_block_66 : decode cX12_block 66 = .ok (.ifCond .eq 5, 3) := by decide +kernel
theorem dX12_block_69 : decode cX12_block 69 = .ok (.iconst 0, 1) := by decide +kernel
theorem dX12_block_70 : decode cX12_block 70 = .ok (.ireturn, 1) := by decide +kernel
theorem dX12_block_34 : decode cX12_block 34 = .ok (.iload_n 2, 1) := by decide +kernel
theorem dX12_block_35 : decode cX12_block 35 = .ok (.iconst 1, 1) := by decide +kernel
theorem dX12_block_43 : decode cX12_block 43 = .ok (.aload_n 0, 1) := by decide +kernel
theorem dX12_block_54 : decode cX12_block 54 = .ok (.iload_n 3, 1) := by decide +kernel
theorem dX12_block_55 : decode cX12_block 55 = .ok (.ifCond .ne 7, 3) := by decide +kernel
theorem dX12_block_62 : decode cX12_block 62 = .ok (.iconst 0, 1) := by decide +kernel
theorem dX12_block_71 : decode cX12_block 71 = .ok (.aload_n 0, 1) := by decide +kernel
theorem dX12_block_72 : decode cX12_block 72 = .ok (.iconst 0, 1) := by decide +kernel
theorem dX12_block_73 : decode cX12_block 73 = .ok (.aload_n 0, 1) := by decide +kernel
theorem dX12_block_77 : decode cX12_block 77 = .ok (.invokevirtual 423, 3) := by decide +kernel
theorem dX12_block_80 : decode cX12_block 80 = .ok (.istore 4, 2) := by decide +kernel
theorem dX12_block_82 : decode cX12_block 82 = .ok (.iconst 0, 1) := by decide +kernel
theorem dX12_block_83 : decode cX12_block 83 = .ok (.istore 5, 2) := by decide +kernel
theorem dX12_block_74 : decode cX12_block 74 = .ok (.getfield 202, 3) := by decide +kernel
theorem dX12_block_50 : decode cX12_block 50 = .ok (.iconst 2, 1) := by decide +kernel
theorem dX12_block_51 : decode cX12_block 51 = .ok (.goto 12, 3) := by decide +kernel
theorem dX12_block_47 : decode cX12_block 47 = .ok (.ifCond .ne 7, 3) := by decide +kernel
theorem dX12_block_44 : decode cX12_block 44 = .ok (.getfield 237, 3) := by decide +kernel
theorem dX12_block_36 : decode cX12_block 36 = .ok (.if_icmp .le 7, 3) := by decide +kernel
theorem dX12_block_31 : decode cX12_block 31 = .ok (.ifCond .lt 8, 3) := by decide +kernel
theorem dX12_block_7 : decode cX12_block 7 = .ok (.aload_n 0, 1) := by decide +kernel
theorem dX12_block_11 : decode cX12_block 11 = .ok (.iconst 4, 1) := by decide +kernel
theorem dX12_block_15 : decode cX12_block 15 = .ok (.aload_n 0, 1) := by decide +kernel
theorem dX12_block_19 : decode cX12_block 19 = .ok (.iconst 5, 1) := by decide +kernel
theorem dX12_block_27 : decode cX12_block 27 = .ok (.iconst 0, 1) := by decide +kernel
theorem dX12_block_58 : decode cX12_block 58 = .ok (.iconst 3, 1) := by decide +kernel
theorem dX12_block_59 : decode cX12_block 59 = .ok (.goto 4, 3) := by decide +kernel
theorem dX12_block_20 : decode cX12_block 20 = .ok (.if_icmp .ne 7, 3) := by decide +kernel
theorem dX12_block_16 : decode cX12_block 16 = .ok (.getfield 199, 3) := by decide +kernel
theorem dX12_block_12 : decode cX12_block 12 = .ok (.if_icmp .eq 11, 3) := by decide +kernel
theorem dX12_block_8 : decode cX12_block 8 = .ok (.getfield 199, 3) := by decide +kernel
theorem dX12_block_4 : decode cX12_block 4 = .ok (.ifCond .eq 19, 3) := by decide +kernel
theorem dX12_block_1 : decode cX12_block 1 = .ok (.getfield 199, 3) := by decide +kernel
theorem dX12_block_85 : decode cX12_block 85 = .ok (.iload 5, 2) := by decide +kernel
theorem dX12_block_87 : decode cX12_block 87 = .ok (.iload_n 1, 1) := by decide +kernel
theorem dX12_block_119 : decode cX12_block 119 = .ok (.aload_n 0, 1) := by decide +kernel
theorem dX12_block_120 : decode cX12_block 120 = .ok (.iload_n 1, 1) := by decide +kernel
theorem dX12_block_129 : decode cX12_block 129 = .ok (.iconst 4, 1) := by decide +kernel
theorem dX12_block_130 : decode cX12_block 130 = .ok (.goto 4, 3) := by decide +kernel
theorem dX12_block_134 : decode cX12_block 134 = .ok (.invokevirtual 110, 3) := by decide +kernel
theorem dX12_block_137 : decode cX12_block 137 = .ok (.ifCond .eq 5, 3) := by decide +kernel
theorem dX12_block_140 : decode cX12_block 140 = .ok (.iconst 0, 1) := by decide +kernel
theorem dX12_block_141 : decode cX12_block 141 = .ok (.ireturn, 1) := by decide +kernel
theorem dX12_block_124 : decode cX12_block 124 = .ok (.iload 4, 2) := by decide +kernel
theorem dX12_block_133 : decode cX12_block 133 = .ok (.iconst 0, 1) := by decide +kernel
theorem dX12_block_142 : decode cX12_block 142 = .ok (.iload_n 2, 1) := by decide +kernel
theorem dX12_block_151 : decode cX12_block 151 = .ok (.aload_n 0, 1) := by decide +kernel
theorem dX12_block_155 : decode cX12_block 155 = .ok (.ireturn, 1) := by decide +kernel
theorem dX12_block_152 : decode cX12_block 152 = .ok (.getfield 420, 3) := by decide +kernel
theorem dX12_block_146 : decode cX12_block 146 = .ok (.iload 4, 2) := by decide +kernel
theorem dX12_block_148 : decode cX12_block 148 = .ok (.goto 7, 3) := by decide +kernel
theorem dX12_block_143 : decode cX12_block 143 = .ok (.ifCond .ne 8, 3) := by decide +kernel
theorem dX12_block_126 : decode cX12_block 126 = .ok (.ifCond .ge 7, 3) := by decide +kernel
theorem dX12_block_121 : decode cX12_block 121 = .ok (.ifCond .lt 8, 3) := by decide +kernel
theorem dX12_block_91 : decode cX12_block 91 = .ok (.iload 4, 2) := by decide +kernel
theorem dX12_block_96 : decode cX12_block 96 = .ok (.aload_n 0, 1) := by decide +kernel
theorem dX12_block_97 : decode cX12_block 97 = .ok (.iload 4, 2) := by decide +kernel
theorem dX12_block_99 : decode cX12_block 99 = .ok (.aload_n 0, 1) := by decide +kernel
theorem dX12_block_103 : decode cX12_block 103 = .ok (.iadd, 1) := by decide +kernel
theorem dX12_block_104 : decode cX12_block 104 = .ok (.aload_n 0, 1) := by decide +kernel
theorem dX12_block_108 : decode cX12_block 108 = .ok (.invokevirtual 423, 3) := by decide +kernel
theorem dX12_block_111 : decode cX12_block 111 = .ok (.istore 4, 2) := by decide +kernel
theorem dX12_block_113 : decode cX12_block 113 = .ok (.iinc 5 1, 3) := by decide +kernel
theorem dX12_block_116 : decode cX12_block 116 = .ok (.goto (-31), 3) := by decide +kernel
theorem dX12_block_105 : decode cX12_block 105 = .ok (.getfield 202, 3) := by decide +kernel
theorem dX12_block_100 : decode cX12_block 100 = .ok (.getfield 420, 3) := by decide +kernel
theorem dX12_block_93 : decode cX12_block 93 = .ok (.ifCond .lt 26, 3) := by decide +kernel
theorem dX12_block_88 : decode cX12_block 88 = .ok (.if_icmp .ge 31, 3) := by decide +kernel
def wr_259 (c k : Nat) : Bool := (Nat.beq c 94 && (Nat.beq k 0 || Nat.beq k 84))
theorem ws_226_259 : ∀ c k, wr_226 c k = true → wr_259 c k = true := by
  intro c k h
  simp only [wr_226, Bool.or_eq_true, Bool.and_eq_true, Nat.beq_eq] at h
  rcases h with ⟨rfl, rfl⟩ <;> rfl
theorem g_259_0 {X : Nat × (Nat → Int32)} {m : Nat → Nat → Int32} {P : Option ma_V → (Nat → Nat → Int32) → Prop} (ix : Int32) (pa : Int32) (h : if (m 94 10) = 0 then (if pa < 0 then (P (some (.inl (0 : Int32))) (ma_u m 94 0 (1 : Int32))) else (if pa ≤ (1 : Int32) then (if (m 94 8) = 0 then (P (some (.inl (0 : Int32))) (ma_u m 94 0 (2 : Int32))) else (zm X 1 21 226 0 [(0, .inr (.inr (some 94))), (1, .inl (0 : Int32)), (2, .inl (m 94 11))] (ma_u m 94 0 (0 : Int32)) (zmi (fun v2 m1 => zm X 2 45 259 85 [(0, .inr (.inr (some 94))), (1, .inl ix), (2, .inl pa), (4, .inl v2), (5, .inl (0 : Int32))] m1 P)))) else (P (some (.inl (0 : Int32))) (ma_u m 94 0 (1 : Int32))))) else (if (m 94 10) = (4 : Int32) then (if pa < 0 then (P (some (.inl (0 : Int32))) (ma_u m 94 0 (1 : Int32))) else (if pa ≤ (1 : Int32) then (if (m 94 8) = 0 then (P (some (.inl (0 : Int32))) (ma_u m 94 0 (2 : Int32))) else (zm X 1 21 226 0 [(0, .inr (.inr (some 94))), (1, .inl (0 : Int32)), (2, .inl (m 94 11))] (ma_u m 94 0 (0 : Int32)) (zmi (fun v4 m3 => zm X 2 45 259 85 [(0, .inr (.inr (some 94))), (1, .inl ix), (2, .inl pa), (4, .inl v4), (5, .inl (0 : Int32))] m3 P)))) else (P (some (.inl (0 : Int32))) (ma_u m 94 0 (1 : Int32))))) else (if (m 94 10) = (5 : Int32) then (if pa < 0 then (P (some (.inl (0 : Int32))) (ma_u m 94 0 (1 : Int32))) else (if pa ≤ (1 : Int32) then (if (m 94 8) = 0 then (P (some (.inl (0 : Int32))) (ma_u m 94 0 (2 : Int32))) else (zm X 1 21 226 0 [(0, .inr (.inr (some 94))), (1, .inl (0 : Int32)), (2, .inl (m 94 11))] (ma_u m 94 0 (0 : Int32)) (zmi (fun v6 m5 => zm X 2 45 259 85 [(0, .inr (.inr (some 94))), (1, .inl ix), (2, .inl pa), (4, .inl v6), (5, .inl (0 : Int32))] m5 P)))) else (P (some (.inl (0 : Int32))) (ma_u m 94 0 (1 : Int32))))) else (if pa < 0 then (P (some (.inl (0 : Int32))) (ma_u m 94 0 (1 : Int32))) else (if pa ≤ (1 : Int32) then (if (m 94 8) = 0 then (P (some (.inl (0 : Int32))) (ma_u m 94 0 (2 : Int32))) else (P (some (.inl (0 : Int32))) (ma_u m 94 0 (3 : Int32)))) else (P (some (.inl (0 : Int32))) (ma_u m 94 0 (1 : Int32)))))))) : zm X 2 45 259 0 [(0, .inr (.inr (some 94))), (1, .inl ix), (2, .inl pa)] m P := by
  intro d w S Q hd hw hS hm HQ
  subst hm
  refine zw_push hm_259 dX12_block_0 (v := .inr (.inr (some 94))) rfl ?_
  refine zw_gf hm_259 dX12_block_1 (v := .inl ((mI S) 94 10)) (zT_is hS s_94) (zT_t hS s_94) rfl f_12_199_12 rfl ?_
  refine zw_if0 hm_259 dX12_block_4 (t := 23) rfl zc0_eq ?_ ?_
  · intro hc
    rw [if_pos hc] at h
    refine zw_push hm_259 dX12_block_23 (v := .inl (1 : Int32)) rfl ?_
    refine zw_goto hm_259 dX12_block_24 (t := 28) rfl ?_
    refine zw_sto hm_259 dX12_block_28 [(3, .inl (1 : Int32)), (0, .inr (.inr (some 94))), (1, .inl ix), (2, .inl pa)] rfl rfl rfl ?_
    refine zw_push hm_259 dX12_block_29 (v := .inr (.inr (some 94))) rfl ?_
    refine zw_push hm_259 dX12_block_30 (v := .inl pa) rfl ?_
    refine zw_if0 hm_259 dX12_block_31 (t := 39) rfl zc0_lt ?_ ?_
    · intro hc
      rw [if_pos hc] at h
      refine zw_push hm_259 dX12_block_39 (v := .inl (1 : Int32)) rfl ?_
      refine zw_goto hm_259 dX12_block_40 (t := 63) rfl ?_
      refine zw_cv hm_259 dX12_block_63 v_12_110_12 hm_167 [.inl (1 : Int32)] [] rfl (zT_rt hS s_94 rfl) ⟨by omega, by omega⟩ rfl ?_
      show ma_wp X (d - 1) (w - 21) 167 0 [(0, .inr (.inr (some 94))), (1, .inl (1 : Int32))] [] S _
      refine zw_push hm_167 dX12_fails_0 (v := .inr (.inr (some 94))) rfl ?_
      refine zw_push hm_167 dX12_fails_1 (v := .inl (1 : Int32)) rfl ?_
      refine zw_pf hm_167 dX12_fails_2 (zT_is hS s_94) (zT_t hS s_94) p_12_1_12 zk_int ?_
      refine zw_push hm_167 dX12_fails_5 (v := .inl (1 : Int32)) rfl ?_
      refine zw_if0 hm_167 dX12_fails_6 (t := 13) rfl zc0_eq (fun hc => absurd hc (by decide)) (fun _ => ?_)
      refine zw_push hm_167 dX12_fails_9 (v := .inl (1 : Int32)) rfl ?_
      refine zw_goto hm_167 dX12_fails_10 (t := 14) rfl ?_
      refine zw_bret hm_167 dX12_fails_14 (by decide) ?_
      show ma_wp X d w 259 66 [(3, .inl (1 : Int32)), (0, .inr (.inr (some 94))), (1, .inl ix), (2, .inl pa)] [.inl (1 : Int32)] (ma_put S 94 0 (.inl (1 : Int32))) _
      refine zw_if0 hm_259 dX12_block_66 (t := 71) rfl zc0_eq (fun hc => absurd hc (by decide)) (fun _ => ?_)
      refine zw_push hm_259 dX12_block_69 (v := .inl (0 : Int32)) rfl ?_
      exact zw_iret hm_259 dX12_block_70 (HQ _ _ h)
    · intro hc
      rw [if_neg hc] at h
      refine zw_push hm_259 dX12_block_34 (v := .inl pa) rfl ?_
      refine zw_push hm_259 dX12_block_35 (v := .inl (1 : Int32)) rfl ?_
      refine zw_if2 hm_259 dX12_block_36 (t := 43) rfl zc2_le ?_ ?_
      · intro hc
        rw [if_pos hc] at h
        refine zw_push hm_259 dX12_block_43 (v := .inr (.inr (some 94))) rfl ?_
        refine zw_gf hm_259 dX12_block_44 (v := .inl ((mI S) 94 8)) (zT_is hS s_94) (zT_t hS s_94) rfl f_12_237_12 rfl ?_
        refine zw_if0 hm_259 dX12_block_47 (t := 54) rfl zc0_ne ?_ ?_
        · intro hc
          rw [if_neg hc] at h
          refine zw_push hm_259 dX12_block_54 (v := .inl (1 : Int32)) rfl ?_
          refine zw_if0 hm_259 dX12_block_55 (t := 62) rfl zc0_ne (fun _ => ?_) (fun hc => absurd (by decide) hc)
          refine zw_push hm_259 dX12_block_62 (v := .inl (0 : Int32)) rfl ?_
          refine zw_cv hm_259 dX12_block_63 v_12_110_12 hm_167 [.inl (0 : Int32)] [] rfl (zT_rt hS s_94 rfl) ⟨by omega, by omega⟩ rfl ?_
          show ma_wp X (d - 1) (w - 21) 167 0 [(0, .inr (.inr (some 94))), (1, .inl (0 : Int32))] [] S _
          refine zw_push hm_167 dX12_fails_0 (v := .inr (.inr (some 94))) rfl ?_
          refine zw_push hm_167 dX12_fails_1 (v := .inl (0 : Int32)) rfl ?_
          refine zw_pf hm_167 dX12_fails_2 (zT_is hS s_94) (zT_t hS s_94) p_12_1_12 zk_int ?_
          refine zw_push hm_167 dX12_fails_5 (v := .inl (0 : Int32)) rfl ?_
          refine zw_if0 hm_167 dX12_fails_6 (t := 13) rfl zc0_eq (fun _ => ?_) (fun hc => absurd (by decide) hc)
          refine zw_push hm_167 dX12_fails_13 (v := .inl (0 : Int32)) rfl ?_
          refine zw_bret hm_167 dX12_fails_14 (by decide) ?_
          show ma_wp X d w 259 66 [(3, .inl (1 : Int32)), (0, .inr (.inr (some 94))), (1, .inl ix), (2, .inl pa)] [.inl (0 : Int32)] (ma_put S 94 0 (.inl (0 : Int32))) _
          refine zw_if0 hm_259 dX12_block_66 (t := 71) rfl zc0_eq (fun _ => ?_) (fun hc => absurd (by decide) hc)
          refine zw_push hm_259 dX12_block_71 (v := .inr (.inr (some 94))) rfl ?_
          refine zw_push hm_259 dX12_block_72 (v := .inl (0 : Int32)) rfl ?_
          refine zw_push hm_259 dX12_block_73 (v := .inr (.inr (some 94))) rfl ?_
          refine zw_gf hm_259 dX12_block_74 (v := .inl ((mI S) 94 11)) (zT_is (zT_pi hS) s_94) (zT_t (zT_pi hS) s_94) rfl f_12_202_12 rfl ?_
          refine zw_cv hm_259 dX12_block_77 v_12_423_12 hm_226 [.inl ((mI S) 94 11), .inl (0 : Int32)] [] rfl (zT_rt (zT_pi hS) s_94 rfl) ⟨by omega, by omega⟩ rfl (h _ _ (ma_put S 94 0 (.inl (0 : Int32))) _ (by omega) (by omega) (zT_pi hS) rfl (fun o9 m1 hv => ?_))
          obtain ⟨v2, rfl, h⟩ := zmi_of hv
          show ma_wp X d w 259 80 [(3, .inl (1 : Int32)), (0, .inr (.inr (some 94))), (1, .inl ix), (2, .inl pa)] [.inl v2] (zst S m1) _
          refine zw_sto hm_259 dX12_block_80 [(4, .inl v2), (3, .inl (1 : Int32)), (0, .inr (.inr (some 94))), (1, .inl ix), (2, .inl pa)] rfl rfl rfl ?_
          refine zw_push hm_259 dX12_block_82 (v := .inl (0 : Int32)) rfl ?_
          refine zw_sto hm_259 dX12_block_83 [(5, .inl (0 : Int32)), (4, .inl v2), (3, .inl (1 : Int32)), (0, .inr (.inr (some 94))), (1, .inl ix), (2, .inl pa)] rfl rfl rfl ?_
          exact zw_sub (ma_nd_of (ks := [0, 1, 2, 4, 5]) rfl (by decide)) (ma_nd_of (ks := [5, 4, 3, 0, 1, 2]) rfl (by decide)) (ma_le_cons rfl (ma_le_cons rfl (ma_le_cons rfl (ma_le_cons rfl (ma_le_cons rfl (ma_le_nil _)))))) (h d w _ Q (by omega) (by omega) (zT_zst hS m1) rfl HQ)
        · intro hc
          rw [if_pos (Classical.not_not.mp hc)] at h
          refine zw_push hm_259 dX12_block_50 (v := .inl (2 : Int32)) rfl ?_
          refine zw_goto hm_259 dX12_block_51 (t := 63) rfl ?_
          refine zw_cv hm_259 dX12_block_63 v_12_110_12 hm_167 [.inl (2 : Int32)] [] rfl (zT_rt hS s_94 rfl) ⟨by omega, by omega⟩ rfl ?_
          show ma_wp X (d - 1) (w - 21) 167 0 [(0, .inr (.inr (some 94))), (1, .inl (2 : Int32))] [] S _
          refine zw_push hm_167 dX12_fails_0 (v := .inr (.inr (some 94))) rfl ?_
          refine zw_push hm_167 dX12_fails_1 (v := .inl (2 : Int32)) rfl ?_
          refine zw_pf hm_167 dX12_fails_2 (zT_is hS s_94) (zT_t hS s_94) p_12_1_12 zk_int ?_
          refine zw_push hm_167 dX12_fails_5 (v := .inl (2 : Int32)) rfl ?_
          refine zw_if0 hm_167 dX12_fails_6 (t := 13) rfl zc0_eq (fun hc => absurd hc (by decide)) (fun _ => ?_)
          refine zw_push hm_167 dX12_fails_9 (v := .inl (1 : Int32)) rfl ?_
          refine zw_goto hm_167 dX12_fails_10 (t := 14) rfl ?_
          refine zw_bret hm_167 dX12_fails_14 (by decide) ?_
          show ma_wp X d w 259 66 [(3, .inl (1 : Int32)), (0, .inr (.inr (some 94))), (1, .inl ix), (2, .inl pa)] [.inl (1 : Int32)] (ma_put S 94 0 (.inl (2 : Int32))) _
          refine zw_if0 hm_259 dX12_block_66 (t := 71) rfl zc0_eq (fun hc => absurd hc (by decide)) (fun _ => ?_)
          refine zw_push hm_259 dX12_block_69 (v := .inl (0 : Int32)) rfl ?_
          exact zw_iret hm_259 dX12_block_70 (HQ _ _ h)
      · intro hc
        rw [if_neg hc] at h
        refine zw_push hm_259 dX12_block_39 (v := .inl (1 : Int32)) rfl ?_
        refine zw_goto hm_259 dX12_block_40 (t := 63) rfl ?_
        refine zw_cv hm_259 dX12_block_63 v_12_110_12 hm_167 [.inl (1 : Int32)] [] rfl (zT_rt hS s_94 rfl) ⟨by omega, by omega⟩ rfl ?_
        show ma_wp X (d - 1) (w - 21) 167 0 [(0, .inr (.inr (some 94))), (1, .inl (1 : Int32))] [] S _
        refine zw_push hm_167 dX12_fails_0 (v := .inr (.inr (some 94))) rfl ?_
        refine zw_push hm_167 dX12_fails_1 (v := .inl (1 : Int32)) rfl ?_
        refine zw_pf hm_167 dX12_fails_2 (zT_is hS s_94) (zT_t hS s_94) p_12_1_12 zk_int ?_
        refine zw_push hm_167 dX12_fails_5 (v := .inl (1 : Int32)) rfl ?_
        refine zw_if0 hm_167 dX12_fails_6 (t := 13) rfl zc0_eq (fun hc => absurd hc (by decide)) (fun _ => ?_)
        refine zw_push hm_167 dX12_fails_9 (v := .inl (1 : Int32)) rfl ?_
        refine zw_goto hm_167 dX12_fails_10 (t := 14) rfl ?_
        refine zw_bret hm_167 dX12_fails_14 (by decide) ?_
        show ma_wp X d w 259 66 [(3, .inl (1 : Int32)), (0, .inr (.inr (some 94))), (1, .inl ix), (2, .inl pa)] [.inl (1 : Int32)] (ma_put S 94 0 (.inl (1 : Int32))) _
        refine zw_if0 hm_259 dX12_block_66 (t := 71) rfl zc0_eq (fun hc => absurd hc (by decide)) (fun _ => ?_)
        refine zw_push hm_259 dX12_block_69 (v := .inl (0 : Int32)) rfl ?_
        exact zw_iret hm_259 dX12_block_70 (HQ _ _ h)
  · intro hc
    rw [if_neg hc] at h
    refine zw_push hm_259 dX12_block_7 (v := .inr (.inr (some 94))) rfl ?_
    refine zw_gf hm_259 dX12_block_8 (v := .inl ((mI S) 94 10)) (zT_is hS s_94) (zT_t hS s_94) rfl f_12_199_12 rfl ?_
    refine zw_push hm_259 dX12_block_11 (v := .inl (4 : Int32)) rfl ?_
    refine zw_if2 hm_259 dX12_block_12 (t := 23) rfl zc2_eq ?_ ?_
    · intro hc
      rw [if_pos hc] at h
      refine zw_push hm_259 dX12_block_23 (v := .inl (1 : Int32)) rfl ?_
      refine zw_goto hm_259 dX12_block_24 (t := 28) rfl ?_
      refine zw_sto hm_259 dX12_block_28 [(3, .inl (1 : Int32)), (0, .inr (.inr (some 94))), (1, .inl ix), (2, .inl pa)] rfl rfl rfl ?_
      refine zw_push hm_259 dX12_block_29 (v := .inr (.inr (some 94))) rfl ?_
      refine zw_push hm_259 dX12_block_30 (v := .inl pa) rfl ?_
      refine zw_if0 hm_259 dX12_block_31 (t := 39) rfl zc0_lt ?_ ?_
      · intro hc
        rw [if_pos hc] at h
        refine zw_push hm_259 dX12_block_39 (v := .inl (1 : Int32)) rfl ?_
        refine zw_goto hm_259 dX12_block_40 (t := 63) rfl ?_
        refine zw_cv hm_259 dX12_block_63 v_12_110_12 hm_167 [.inl (1 : Int32)] [] rfl (zT_rt hS s_94 rfl) ⟨by omega, by omega⟩ rfl ?_
        show ma_wp X (d - 1) (w - 21) 167 0 [(0, .inr (.inr (some 94))), (1, .inl (1 : Int32))] [] S _
        refine zw_push hm_167 dX12_fails_0 (v := .inr (.inr (some 94))) rfl ?_
        refine zw_push hm_167 dX12_fails_1 (v := .inl (1 : Int32)) rfl ?_
        refine zw_pf hm_167 dX12_fails_2 (zT_is hS s_94) (zT_t hS s_94) p_12_1_12 zk_int ?_
        refine zw_push hm_167 dX12_fails_5 (v := .inl (1 : Int32)) rfl ?_
        refine zw_if0 hm_167 dX12_fails_6 (t := 13) rfl zc0_eq (fun hc => absurd hc (by decide)) (fun _ => ?_)
        refine zw_push hm_167 dX12_fails_9 (v := .inl (1 : Int32)) rfl ?_
        refine zw_goto hm_167 dX12_fails_10 (t := 14) rfl ?_
        refine zw_bret hm_167 dX12_fails_14 (by decide) ?_
        show ma_wp X d w 259 66 [(3, .inl (1 : Int32)), (0, .inr (.inr (some 94))), (1, .inl ix), (2, .inl pa)] [.inl (1 : Int32)] (ma_put S 94 0 (.inl (1 : Int32))) _
        refine zw_if0 hm_259 dX12_block_66 (t := 71) rfl zc0_eq (fun hc => absurd hc (by decide)) (fun _ => ?_)
        refine zw_push hm_259 dX12_block_69 (v := .inl (0 : Int32)) rfl ?_
        exact zw_iret hm_259 dX12_block_70 (HQ _ _ h)
      · intro hc
        rw [if_neg hc] at h
        refine zw_push hm_259 dX12_block_34 (v := .inl pa) rfl ?_
        refine zw_push hm_259 dX12_block_35 (v := .inl (1 : Int32)) rfl ?_
        refine zw_if2 hm_259 dX12_block_36 (t := 43) rfl zc2_le ?_ ?_
        · intro hc
          rw [if_pos hc] at h
          refine zw_push hm_259 dX12_block_43 (v := .inr (.inr (some 94))) rfl ?_
          refine zw_gf hm_259 dX12_block_44 (v := .inl ((mI S) 94 8)) (zT_is hS s_94) (zT_t hS s_94) rfl f_12_237_12 rfl ?_
          refine zw_if0 hm_259 dX12_block_47 (t := 54) rfl zc0_ne ?_ ?_
          · intro hc
            rw [if_neg hc] at h
            refine zw_push hm_259 dX12_block_54 (v := .inl (1 : Int32)) rfl ?_
            refine zw_if0 hm_259 dX12_block_55 (t := 62) rfl zc0_ne (fun _ => ?_) (fun hc => absurd (by decide) hc)
            refine zw_push hm_259 dX12_block_62 (v := .inl (0 : Int32)) rfl ?_
            refine zw_cv hm_259 dX12_block_63 v_12_110_12 hm_167 [.inl (0 : Int32)] [] rfl (zT_rt hS s_94 rfl) ⟨by omega, by omega⟩ rfl ?_
            show ma_wp X (d - 1) (w - 21) 167 0 [(0, .inr (.inr (some 94))), (1, .inl (0 : Int32))] [] S _
            refine zw_push hm_167 dX12_fails_0 (v := .inr (.inr (some 94))) rfl ?_
            refine zw_push hm_167 dX12_fails_1 (v := .inl (0 : Int32)) rfl ?_
            refine zw_pf hm_167 dX12_fails_2 (zT_is hS s_94) (zT_t hS s_94) p_12_1_12 zk_int ?_
            refine zw_push hm_167 dX12_fails_5 (v := .inl (0 : Int32)) rfl ?_
            refine zw_if0 hm_167 dX12_fails_6 (t := 13) rfl zc0_eq (fun _ => ?_) (fun hc => absurd (by decide) hc)
            refine zw_push hm_167 dX12_fails_13 (v := .inl (0 : Int32)) rfl ?_
            refine zw_bret hm_167 dX12_fails_14 (by decide) ?_
            show ma_wp X d w 259 66 [(3, .inl (1 : Int32)), (0, .inr (.inr (some 94))), (1, .inl ix), (2, .inl pa)] [.inl (0 : Int32)] (ma_put S 94 0 (.inl (0 : Int32))) _
            refine zw_if0 hm_259 dX12_block_66 (t := 71) rfl zc0_eq (fun _ => ?_) (fun hc => absurd (by decide) hc)
            refine zw_push hm_259 dX12_block_71 (v := .inr (.inr (some 94))) rfl ?_
            refine zw_push hm_259 dX12_block_72 (v := .inl (0 : Int32)) rfl ?_
            refine zw_push hm_259 dX12_block_73 (v := .inr (.inr (some 94))) rfl ?_
            refine zw_gf hm_259 dX12_block_74 (v := .inl ((mI S) 94 11)) (zT_is (zT_pi hS) s_94) (zT_t (zT_pi hS) s_94) rfl f_12_202_12 rfl ?_
            refine zw_cv hm_259 dX12_block_77 v_12_423_12 hm_226 [.inl ((mI S) 94 11), .inl (0 : Int32)] [] rfl (zT_rt (zT_pi hS) s_94 rfl) ⟨by omega, by omega⟩ rfl (h _ _ (ma_put S 94 0 (.inl (0 : Int32))) _ (by omega) (by omega) (zT_pi hS) rfl (fun o9 m3 hv => ?_))
            obtain ⟨v4, rfl, h⟩ := zmi_of hv
            show ma_wp X d w 259 80 [(3, .inl (1 : Int32)), (0, .inr (.inr (some 94))), (1, .inl ix), (2, .inl pa)] [.inl v4] (zst S m3) _
            refine zw_sto hm_259 dX12_block_80 [(4, .inl v4), (3, .inl (1 : Int32)), (0, .inr (.inr (some 94))), (1, .inl ix), (2, .inl pa)] rfl rfl rfl ?_
            refine zw_push hm_259 dX12_block_82 (v := .inl (0 : Int32)) rfl ?_
            refine zw_sto hm_259 dX12_block_83 [(5, .inl (0 : Int32)), (4, .inl v4), (3, .inl (1 : Int32)), (0, .inr (.inr (some 94))), (1, .inl ix), (2, .inl pa)] rfl rfl rfl ?_
            exact zw_sub (ma_nd_of (ks := [0, 1, 2, 4, 5]) rfl (by decide)) (ma_nd_of (ks := [5, 4, 3, 0, 1, 2]) rfl (by decide)) (ma_le_cons rfl (ma_le_cons rfl (ma_le_cons rfl (ma_le_cons rfl (ma_le_cons rfl (ma_le_nil _)))))) (h d w _ Q (by omega) (by omega) (zT_zst hS m3) rfl HQ)
          · intro hc
            rw [if_pos (Classical.not_not.mp hc)] at h
            refine zw_push hm_259 dX12_block_50 (v := .inl (2 : Int32)) rfl ?_
            refine zw_goto hm_259 dX12_block_51 (t := 63) rfl ?_
            refine zw_cv hm_259 dX12_block_63 v_12_110_12 hm_167 [.inl (2 : Int32)] [] rfl (zT_rt hS s_94 rfl) ⟨by omega, by omega⟩ rfl ?_
            show ma_wp X (d - 1) (w - 21) 167 0 [(0, .inr (.inr (some 94))), (1, .inl (2 : Int32))] [] S _
            refine zw_push hm_167 dX12_fails_0 (v := .inr (.inr (some 94))) rfl ?_
            refine zw_push hm_167 dX12_fails_1 (v := .inl (2 : Int32)) rfl ?_
            refine zw_pf hm_167 dX12_fails_2 (zT_is hS s_94) (zT_t hS s_94) p_12_1_12 zk_int ?_
            refine zw_push hm_167 dX12_fails_5 (v := .inl (2 : Int32)) rfl ?_
            refine zw_if0 hm_167 dX12_fails_6 (t := 13) rfl zc0_eq (fun hc => absurd hc (by decide)) (fun _ => ?_)
            refine zw_push hm_167 dX12_fails_9 (v := .inl (1 : Int32)) rfl ?_
            refine zw_goto hm_167 dX12_fails_10 (t := 14) rfl ?_
            refine zw_bret hm_167 dX12_fails_14 (by decide) ?_
            show ma_wp X d w 259 66 [(3, .inl (1 : Int32)), (0, .inr (.inr (some 94))), (1, .inl ix), (2, .inl pa)] [.inl (1 : Int32)] (ma_put S 94 0 (.inl (2 : Int32))) _
            refine zw_if0 hm_259 dX12_block_66 (t := 71) rfl zc0_eq (fun hc => absurd hc (by decide)) (fun _ => ?_)
            refine zw_push hm_259 dX12_block_69 (v := .inl (0 : Int32)) rfl ?_
            exact zw_iret hm_259 dX12_block_70 (HQ _ _ h)
        · intro hc
          rw [if_neg hc] at h
          refine zw_push hm_259 dX12_block_39 (v := .inl (1 : Int32)) rfl ?_
          refine zw_goto hm_259 dX12_block_40 (t := 63) rfl ?_
          refine zw_cv hm_259 dX12_block_63 v_12_110_12 hm_167 [.inl (1 : Int32)] [] rfl (zT_rt hS s_94 rfl) ⟨by omega, by omega⟩ rfl ?_
          show ma_wp X (d - 1) (w - 21) 167 0 [(0, .inr (.inr (some 94))), (1, .inl (1 : Int32))] [] S _
          refine zw_push hm_167 dX12_fails_0 (v := .inr (.inr (some 94))) rfl ?_
          refine zw_push hm_167 dX12_fails_1 (v := .inl (1 : Int32)) rfl ?_
          refine zw_pf hm_167 dX12_fails_2 (zT_is hS s_94) (zT_t hS s_94) p_12_1_12 zk_int ?_
          refine zw_push hm_167 dX12_fails_5 (v := .inl (1 : Int32)) rfl ?_
          refine zw_if0 hm_167 dX12_fails_6 (t := 13) rfl zc0_eq (fun hc => absurd hc (by decide)) (fun _ => ?_)
          refine zw_push hm_167 dX12_fails_9 (v := .inl (1 : Int32)) rfl ?_
          refine zw_goto hm_167 dX12_fails_10 (t := 14) rfl ?_
          refine zw_bret hm_167 dX12_fails_14 (by decide) ?_
          show ma_wp X d w 259 66 [(3, .inl (1 : Int32)), (0, .inr (.inr (some 94))), (1, .inl ix), (2, .inl pa)] [.inl (1 : Int32)] (ma_put S 94 0 (.inl (1 : Int32))) _
          refine zw_if0 hm_259 dX12_block_66 (t := 71) rfl zc0_eq (fun hc => absurd hc (by decide)) (fun _ => ?_)
          refine zw_push hm_259 dX12_block_69 (v := .inl (0 : Int32)) rfl ?_
          exact zw_iret hm_259 dX12_block_70 (HQ _ _ h)
    · intro hc
      rw [if_neg hc] at h
      refine zw_push hm_259 dX12_block_15 (v := .inr (.inr (some 94))) rfl ?_
      refine zw_gf hm_259 dX12_block_16 (v := .inl ((mI S) 94 10)) (zT_is hS s_94) (zT_t hS s_94) rfl f_12_199_12 rfl ?_
      refine zw_push hm_259 dX12_block_19 (v := .inl (5 : Int32)) rfl ?_
      refine zw_if2 hm_259 dX12_block_20 (t := 27) rfl zc2_ne ?_ ?_
      · intro hc
        rw [if_neg hc] at h
        refine zw_push hm_259 dX12_block_27 (v := .inl (0 : Int32)) rfl ?_
        refine zw_sto hm_259 dX12_block_28 [(3, .inl (0 : Int32)), (0, .inr (.inr (some 94))), (1, .inl ix), (2, .inl pa)] rfl rfl rfl ?_
        refine zw_push hm_259 dX12_block_29 (v := .inr (.inr (some 94))) rfl ?_
        refine zw_push hm_259 dX12_block_30 (v := .inl pa) rfl ?_
        refine zw_if0 hm_259 dX12_block_31 (t := 39) rfl zc0_lt ?_ ?_
        · intro hc
          rw [if_pos hc] at h
          refine zw_push hm_259 dX12_block_39 (v := .inl (1 : Int32)) rfl ?_
          refine zw_goto hm_259 dX12_block_40 (t := 63) rfl ?_
          refine zw_cv hm_259 dX12_block_63 v_12_110_12 hm_167 [.inl (1 : Int32)] [] rfl (zT_rt hS s_94 rfl) ⟨by omega, by omega⟩ rfl ?_
          show ma_wp X (d - 1) (w - 21) 167 0 [(0, .inr (.inr (some 94))), (1, .inl (1 : Int32))] [] S _
          refine zw_push hm_167 dX12_fails_0 (v := .inr (.inr (some 94))) rfl ?_
          refine zw_push hm_167 dX12_fails_1 (v := .inl (1 : Int32)) rfl ?_
          refine zw_pf hm_167 dX12_fails_2 (zT_is hS s_94) (zT_t hS s_94) p_12_1_12 zk_int ?_
          refine zw_push hm_167 dX12_fails_5 (v := .inl (1 : Int32)) rfl ?_
          refine zw_if0 hm_167 dX12_fails_6 (t := 13) rfl zc0_eq (fun hc => absurd hc (by decide)) (fun _ => ?_)
          refine zw_push hm_167 dX12_fails_9 (v := .inl (1 : Int32)) rfl ?_
          refine zw_goto hm_167 dX12_fails_10 (t := 14) rfl ?_
          refine zw_bret hm_167 dX12_fails_14 (by decide) ?_
          show ma_wp X d w 259 66 [(3, .inl (0 : Int32)), (0, .inr (.inr (some 94))), (1, .inl ix), (2, .inl pa)] [.inl (1 : Int32)] (ma_put S 94 0 (.inl (1 : Int32))) _
          refine zw_if0 hm_259 dX12_block_66 (t := 71) rfl zc0_eq (fun hc => absurd hc (by decide)) (fun _ => ?_)
          refine zw_push hm_259 dX12_block_69 (v := .inl (0 : Int32)) rfl ?_
          exact zw_iret hm_259 dX12_block_70 (HQ _ _ h)
        · intro hc
          rw [if_neg hc] at h
          refine zw_push hm_259 dX12_block_34 (v := .inl pa) rfl ?_
          refine zw_push hm_259 dX12_block_35 (v := .inl (1 : Int32)) rfl ?_
          refine zw_if2 hm_259 dX12_block_36 (t := 43) rfl zc2_le ?_ ?_
          · intro hc
            rw [if_pos hc] at h
            refine zw_push hm_259 dX12_block_43 (v := .inr (.inr (some 94))) rfl ?_
            refine zw_gf hm_259 dX12_block_44 (v := .inl ((mI S) 94 8)) (zT_is hS s_94) (zT_t hS s_94) rfl f_12_237_12 rfl ?_
            refine zw_if0 hm_259 dX12_block_47 (t := 54) rfl zc0_ne ?_ ?_
            · intro hc
              rw [if_neg hc] at h
              refine zw_push hm_259 dX12_block_54 (v := .inl (0 : Int32)) rfl ?_
              refine zw_if0 hm_259 dX12_block_55 (t := 62) rfl zc0_ne (fun hc => absurd hc (by decide)) (fun _ => ?_)
              refine zw_push hm_259 dX12_block_58 (v := .inl (3 : Int32)) rfl ?_
              refine zw_goto hm_259 dX12_block_59 (t := 63) rfl ?_
              refine zw_cv hm_259 dX12_block_63 v_12_110_12 hm_167 [.inl (3 : Int32)] [] rfl (zT_rt hS s_94 rfl) ⟨by omega, by omega⟩ rfl ?_
              show ma_wp X (d - 1) (w - 21) 167 0 [(0, .inr (.inr (some 94))), (1, .inl (3 : Int32))] [] S _
              refine zw_push hm_167 dX12_fails_0 (v := .inr (.inr (some 94))) rfl ?_
              refine zw_push hm_167 dX12_fails_1 (v := .inl (3 : Int32)) rfl ?_
              refine zw_pf hm_167 dX12_fails_2 (zT_is hS s_94) (zT_t hS s_94) p_12_1_12 zk_int ?_
              refine zw_push hm_167 dX12_fails_5 (v := .inl (3 : Int32)) rfl ?_
              refine zw_if0 hm_167 dX12_fails_6 (t := 13) rfl zc0_eq (fun hc => absurd hc (by decide)) (fun _ => ?_)
              refine zw_push hm_167 dX12_fails_9 (v := .inl (1 : Int32)) rfl ?_
              refine zw_goto hm_167 dX12_fails_10 (t := 14) rfl ?_
              refine zw_bret hm_167 dX12_fails_14 (by decide) ?_
              show ma_wp X d w 259 66 [(3, .inl (0 : Int32)), (0, .inr (.inr (some 94))), (1, .inl ix), (2, .inl pa)] [.inl (1 : Int32)] (ma_put S 94 0 (.inl (3 : Int32))) _
              refine zw_if0 hm_259 dX12_block_66 (t := 71) rfl zc0_eq (fun hc => absurd hc (by decide)) (fun _ => ?_)
              refine zw_push hm_259 dX12_block_69 (v := .inl (0 : Int32)) rfl ?_
              exact zw_iret hm_259 dX12_block_70 (HQ _ _ h)
            · intro hc
              rw [if_pos (Classical.not_not.mp hc)] at h
              refine zw_push hm_259 dX12_block_50 (v := .inl (2 : Int32)) rfl ?_
              refine zw_goto hm_259 dX12_block_51 (t := 63) rfl ?_
              refine zw_cv hm_259 dX12_block_63 v_12_110_12 hm_167 [.inl (2 : Int32)] [] rfl (zT_rt hS s_94 rfl) ⟨by omega, by omega⟩ rfl ?_
              show ma_wp X (d - 1) (w - 21) 167 0 [(0, .inr (.inr (some 94))), (1, .inl (2 : Int32))] [] S _
              refine zw_push hm_167 dX12_fails_0 (v := .inr (.inr (some 94))) rfl ?_
              refine zw_push hm_167 dX12_fails_1 (v := .inl (2 : Int32)) rfl ?_
              refine zw_pf hm_167 dX12_fails_2 (zT_is hS s_94) (zT_t hS s_94) p_12_1_12 zk_int ?_
              refine zw_push hm_167 dX12_fails_5 (v := .inl (2 : Int32)) rfl ?_
              refine zw_if0 hm_167 dX12_fails_6 (t := 13) rfl zc0_eq (fun hc => absurd hc (by decide)) (fun _ => ?_)
              refine zw_push hm_167 dX12_fails_9 (v := .inl (1 : Int32)) rfl ?_
              refine zw_goto hm_167 dX12_fails_10 (t := 14) rfl ?_
              refine zw_bret hm_167 dX12_fails_14 (by decide) ?_
              show ma_wp X d w 259 66 [(3, .inl (0 : Int32)), (0, .inr (.inr (some 94))), (1, .inl ix), (2, .inl pa)] [.inl (1 : Int32)] (ma_put S 94 0 (.inl (2 : Int32))) _
              refine zw_if0 hm_259 dX12_block_66 (t := 71) rfl zc0_eq (fun hc => absurd hc (by decide)) (fun _ => ?_)
              refine zw_push hm_259 dX12_block_69 (v := .inl (0 : Int32)) rfl ?_
              exact zw_iret hm_259 dX12_block_70 (HQ _ _ h)
          · intro hc
            rw [if_neg hc] at h
            refine zw_push hm_259 dX12_block_39 (v := .inl (1 : Int32)) rfl ?_
            refine zw_goto hm_259 dX12_block_40 (t := 63) rfl ?_
            refine zw_cv hm_259 dX12_block_63 v_12_110_12 hm_167 [.inl (1 : Int32)] [] rfl (zT_rt hS s_94 rfl) ⟨by omega, by omega⟩ rfl ?_
            show ma_wp X (d - 1) (w - 21) 167 0 [(0, .inr (.inr (some 94))), (1, .inl (1 : Int32))] [] S _
            refine zw_push hm_167 dX12_fails_0 (v := .inr (.inr (some 94))) rfl ?_
            refine zw_push hm_167 dX12_fails_1 (v := .inl (1 : Int32)) rfl ?_
            refine zw_pf hm_167 dX12_fails_2 (zT_is hS s_94) (zT_t hS s_94) p_12_1_12 zk_int ?_
            refine zw_push hm_167 dX12_fails_5 (v := .inl (1 : Int32)) rfl ?_
            refine zw_if0 hm_167 dX12_fails_6 (t := 13) rfl zc0_eq (fun hc => absurd hc (by decide)) (fun _ => ?_)
            refine zw_push hm_167 dX12_fails_9 (v := .inl (1 : Int32)) rfl ?_
            refine zw_goto hm_167 dX12_fails_10 (t := 14) rfl ?_
            refine zw_bret hm_167 dX12_fails_14 (by decide) ?_
            show ma_wp X d w 259 66 [(3, .inl (0 : Int32)), (0, .inr (.inr (some 94))), (1, .inl ix), (2, .inl pa)] [.inl (1 : Int32)] (ma_put S 94 0 (.inl (1 : Int32))) _
            refine zw_if0 hm_259 dX12_block_66 (t := 71) rfl zc0_eq (fun hc => absurd hc (by decide)) (fun _ => ?_)
            refine zw_push hm_259 dX12_block_69 (v := .inl (0 : Int32)) rfl ?_
            exact zw_iret hm_259 dX12_block_70 (HQ _ _ h)
      · intro hc
        rw [if_pos (Classical.not_not.mp hc)] at h
        refine zw_push hm_259 dX12_block_23 (v := .inl (1 : Int32)) rfl ?_
        refine zw_goto hm_259 dX12_block_24 (t := 28) rfl ?_
        refine zw_sto hm_259 dX12_block_28 [(3, .inl (1 : Int32)), (0, .inr (.inr (some 94))), (1, .inl ix), (2, .inl pa)] rfl rfl rfl ?_
        refine zw_push hm_259 dX12_block_29 (v := .inr (.inr (some 94))) rfl ?_
        refine zw_push hm_259 dX12_block_30 (v := .inl pa) rfl ?_
        refine zw_if0 hm_259 dX12_block_31 (t := 39) rfl zc0_lt ?_ ?_
        · intro hc
          rw [if_pos hc] at h
          refine zw_push hm_259 dX12_block_39 (v := .inl (1 : Int32)) rfl ?_
          refine zw_goto hm_259 dX12_block_40 (t := 63) rfl ?_
          refine zw_cv hm_259 dX12_block_63 v_12_110_12 hm_167 [.inl (1 : Int32)] [] rfl (zT_rt hS s_94 rfl) ⟨by omega, by omega⟩ rfl ?_
          show ma_wp X (d - 1) (w - 21) 167 0 [(0, .inr (.inr (some 94))), (1, .inl (1 : Int32))] [] S _
          refine zw_push hm_167 dX12_fails_0 (v := .inr (.inr (some 94))) rfl ?_
          refine zw_push hm_167 dX12_fails_1 (v := .inl (1 : Int32)) rfl ?_
          refine zw_pf hm_167 dX12_fails_2 (zT_is hS s_94) (zT_t hS s_94) p_12_1_12 zk_int ?_
          refine zw_push hm_167 dX12_fails_5 (v := .inl (1 : Int32)) rfl ?_
          refine zw_if0 hm_167 dX12_fails_6 (t := 13) rfl zc0_eq (fun hc => absurd hc (by decide)) (fun _ => ?_)
          refine zw_push hm_167 dX12_fails_9 (v := .inl (1 : Int32)) rfl ?_
          refine zw_goto hm_167 dX12_fails_10 (t := 14) rfl ?_
          refine zw_bret hm_167 dX12_fails_14 (by decide) ?_
          show ma_wp X d w 259 66 [(3, .inl (1 : Int32)), (0, .inr (.inr (some 94))), (1, .inl ix), (2, .inl pa)] [.inl (1 : Int32)] (ma_put S 94 0 (.inl (1 : Int32))) _
          refine zw_if0 hm_259 dX12_block_66 (t := 71) rfl zc0_eq (fun hc => absurd hc (by decide)) (fun _ => ?_)
          refine zw_push hm_259 dX12_block_69 (v := .inl (0 : Int32)) rfl ?_
          exact zw_iret hm_259 dX12_block_70 (HQ _ _ h)
        · intro hc
          rw [if_neg hc] at h
          refine zw_push hm_259 dX12_block_34 (v := .inl pa) rfl ?_
          refine zw_push hm_259 dX12_block_35 (v := .inl (1 : Int32)) rfl ?_
          refine zw_if2 hm_259 dX12_block_36 (t := 43) rfl zc2_le ?_ ?_
          · intro hc
            rw [if_pos hc] at h
            refine zw_push hm_259 dX12_block_43 (v := .inr (.inr (some 94))) rfl ?_
            refine zw_gf hm_259 dX12_block_44 (v := .inl ((mI S) 94 8)) (zT_is hS s_94) (zT_t hS s_94) rfl f_12_237_12 rfl ?_
            refine zw_if0 hm_259 dX12_block_47 (t := 54) rfl zc0_ne ?_ ?_
            · intro hc
              rw [if_neg hc] at h
              refine zw_push hm_259 dX12_block_54 (v := .inl (1 : Int32)) rfl ?_
              refine zw_if0 hm_259 dX12_block_55 (t := 62) rfl zc0_ne (fun _ => ?_) (fun hc => absurd (by decide) hc)
              refine zw_push hm_259 dX12_block_62 (v := .inl (0 : Int32)) rfl ?_
              refine zw_cv hm_259 dX12_block_63 v_12_110_12 hm_167 [.inl (0 : Int32)] [] rfl (zT_rt hS s_94 rfl) ⟨by omega, by omega⟩ rfl ?_
              show ma_wp X (d - 1) (w - 21) 167 0 [(0, .inr (.inr (some 94))), (1, .inl (0 : Int32))] [] S _
              refine zw_push hm_167 dX12_fails_0 (v := .inr (.inr (some 94))) rfl ?_
              refine zw_push hm_167 dX12_fails_1 (v := .inl (0 : Int32)) rfl ?_
              refine zw_pf hm_167 dX12_fails_2 (zT_is hS s_94) (zT_t hS s_94) p_12_1_12 zk_int ?_
              refine zw_push hm_167 dX12_fails_5 (v := .inl (0 : Int32)) rfl ?_
              refine zw_if0 hm_167 dX12_fails_6 (t := 13) rfl zc0_eq (fun _ => ?_) (fun hc => absurd (by decide) hc)
              refine zw_push hm_167 dX12_fails_13 (v := .inl (0 : Int32)) rfl ?_
              refine zw_bret hm_167 dX12_fails_14 (by decide) ?_
              show ma_wp X d w 259 66 [(3, .inl (1 : Int32)), (0, .inr (.inr (some 94))), (1, .inl ix), (2, .inl pa)] [.inl (0 : Int32)] (ma_put S 94 0 (.inl (0 : Int32))) _
              refine zw_if0 hm_259 dX12_block_66 (t := 71) rfl zc0_eq (fun _ => ?_) (fun hc => absurd (by decide) hc)
              refine zw_push hm_259 dX12_block_71 (v := .inr (.inr (some 94))) rfl ?_
              refine zw_push hm_259 dX12_block_72 (v := .inl (0 : Int32)) rfl ?_
              refine zw_push hm_259 dX12_block_73 (v := .inr (.inr (some 94))) rfl ?_
              refine zw_gf hm_259 dX12_block_74 (v := .inl ((mI S) 94 11)) (zT_is (zT_pi hS) s_94) (zT_t (zT_pi hS) s_94) rfl f_12_202_12 rfl ?_
              refine zw_cv hm_259 dX12_block_77 v_12_423_12 hm_226 [.inl ((mI S) 94 11), .inl (0 : Int32)] [] rfl (zT_rt (zT_pi hS) s_94 rfl) ⟨by omega, by omega⟩ rfl (h _ _ (ma_put S 94 0 (.inl (0 : Int32))) _ (by omega) (by omega) (zT_pi hS) rfl (fun o9 m5 hv => ?_))
              obtain ⟨v6, rfl, h⟩ := zmi_of hv
              show ma_wp X d w 259 80 [(3, .inl (1 : Int32)), (0, .inr (.inr (some 94))), (1, .inl ix), (2, .inl pa)] [.inl v6] (zst S m5) _
              refine zw_sto hm_259 dX12_block_80 [(4, .inl v6), (3, .inl (1 : Int32)), (0, .inr (.inr (some 94))), (1, .inl ix), (2, .inl pa)] rfl rfl rfl ?_
              refine zw_push hm_259 dX12_block_82 (v := .inl (0 : Int32)) rfl ?_
              refine zw_sto hm_259 dX12_block_83 [(5, .inl (0 : Int32)), (4, .inl v6), (3, .inl (1 : Int32)), (0, .inr (.inr (some 94))), (1, .inl ix), (2, .inl pa)] rfl rfl rfl ?_
              exact zw_sub (ma_nd_of (ks := [0, 1, 2, 4, 5]) rfl (by decide)) (ma_nd_of (ks := [5, 4, 3, 0, 1, 2]) rfl (by decide)) (ma_le_cons rfl (ma_le_cons rfl (ma_le_cons rfl (ma_le_cons rfl (ma_le_cons rfl (ma_le_nil _)))))) (h d w _ Q (by omega) (by omega) (zT_zst hS m5) rfl HQ)
            · intro hc
              rw [if_pos (Classical.not_not.mp hc)] at h
              refine zw_push hm_259 dX12_block_50 (v := .inl (2 : Int32)) rfl ?_
              refine zw_goto hm_259 dX12_block_51 (t := 63) rfl ?_
              refine zw_cv hm_259 dX12_block_63 v_12_110_12 hm_167 [.inl (2 : Int32)] [] rfl (zT_rt hS s_94 rfl) ⟨by omega, by omega⟩ rfl ?_
              show ma_wp X (d - 1) (w - 21) 167 0 [(0, .inr (.inr (some 94))), (1, .inl (2 : Int32))] [] S _
              refine zw_push hm_167 dX12_fails_0 (v := .inr (.inr (some 94))) rfl ?_
              refine zw_push hm_167 dX12_fails_1 (v := .inl (2 : Int32)) rfl ?_
              refine zw_pf hm_167 dX12_fails_2 (zT_is hS s_94) (zT_t hS s_94) p_12_1_12 zk_int ?_
              refine zw_push hm_167 dX12_fails_5 (v := .inl (2 : Int32)) rfl ?_
              refine zw_if0 hm_167 dX12_fails_6 (t := 13) rfl zc0_eq (fun hc => absurd hc (by decide)) (fun _ => ?_)
              refine zw_push hm_167 dX12_fails_9 (v := .inl (1 : Int32)) rfl ?_
              refine zw_goto hm_167 dX12_fails_10 (t := 14) rfl ?_
              refine zw_bret hm_167 dX12_fails_14 (by decide) ?_
              show ma_wp X d w 259 66 [(3, .inl (1 : Int32)), (0, .inr (.inr (some 94))), (1, .inl ix), (2, .inl pa)] [.inl (1 : Int32)] (ma_put S 94 0 (.inl (2 : Int32))) _
              refine zw_if0 hm_259 dX12_block_66 (t := 71) rfl zc0_eq (fun hc => absurd hc (by decide)) (fun _ => ?_)
              refine zw_push hm_259 dX12_block_69 (v := .inl (0 : Int32)) rfl ?_
              exact zw_iret hm_259 dX12_block_70 (HQ _ _ h)
          · intro hc
            rw [if_neg hc] at h
            refine zw_push hm_259 dX12_block_39 (v := .inl (1 : Int32)) rfl ?_
            refine zw_goto hm_259 dX12_block_40 (t := 63) rfl ?_
            refine zw_cv hm_259 dX12_block_63 v_12_110_12 hm_167 [.inl (1 : Int32)] [] rfl (zT_rt hS s_94 rfl) ⟨by omega, by omega⟩ rfl ?_
            show ma_wp X (d - 1) (w - 21) 167 0 [(0, .inr (.inr (some 94))), (1, .inl (1 : Int32))] [] S _
            refine zw_push hm_167 dX12_fails_0 (v := .inr (.inr (some 94))) rfl ?_
            refine zw_push hm_167 dX12_fails_1 (v := .inl (1 : Int32)) rfl ?_
            refine zw_pf hm_167 dX12_fails_2 (zT_is hS s_94) (zT_t hS s_94) p_12_1_12 zk_int ?_
            refine zw_push hm_167 dX12_fails_5 (v := .inl (1 : Int32)) rfl ?_
            refine zw_if0 hm_167 dX12_fails_6 (t := 13) rfl zc0_eq (fun hc => absurd hc (by decide)) (fun _ => ?_)
            refine zw_push hm_167 dX12_fails_9 (v := .inl (1 : Int32)) rfl ?_
            refine zw_goto hm_167 dX12_fails_10 (t := 14) rfl ?_
            refine zw_bret hm_167 dX12_fails_14 (by decide) ?_
            show ma_wp X d w 259 66 [(3, .inl (1 : Int32)), (0, .inr (.inr (some 94))), (1, .inl ix), (2, .inl pa)] [.inl (1 : Int32)] (ma_put S 94 0 (.inl (1 : Int32))) _
            refine zw_if0 hm_259 dX12_block_66 (t := 71) rfl zc0_eq (fun hc => absurd hc (by decide)) (fun _ => ?_)
            refine zw_push hm_259 dX12_block_69 (v := .inl (0 : Int32)) rfl ?_
            exact zw_iret hm_259 dX12_block_70 (HQ _ _ h)
theorem g_259_85 {X : Nat × (Nat → Int32)} {m : Nat → Nat → Int32} {P : Option ma_V → (Nat → Nat → Int32) → Prop} (l1 : Int32) (l2 : Int32) (l4 : Int32) (l5 : Int32) (h : if l1 ≤ l5 then (if l1 < 0 then (P (some (.inl (0 : Int32))) (ma_u m 94 0 (4 : Int32))) else (if 0 ≤ l4 then (if l2 = 0 then (P (some (.inl l4)) (ma_u m 94 0 (0 : Int32))) else (P (some (.inl (m 94 84))) (ma_u m 94 0 (0 : Int32)))) else (P (some (.inl (0 : Int32))) (ma_u m 94 0 (4 : Int32))))) else (if l4 < 0 then (if l1 < 0 then (P (some (.inl (0 : Int32))) (ma_u m 94 0 (4 : Int32))) else (if 0 ≤ l4 then (if l2 = 0 then (P (some (.inl l4)) (ma_u m 94 0 (0 : Int32))) else (P (some (.inl (m 94 84))) (ma_u m 94 0 (0 : Int32)))) else (P (some (.inl (0 : Int32))) (ma_u m 94 0 (4 : Int32))))) else (zm X 1 21 226 0 [(0, .inr (.inr (some 94))), (1, .inl (l4 + (m 94 84))), (2, .inl (m 94 11))] m (zmi (fun v2 m1 => zm X 2 45 259 85 [(0, .inr (.inr (some 94))), (1, .inl l1), (2, .inl l2), (4, .inl v2), (5, .inl (l5 + (1 : Int32)))] m1 P))))) : zm X 2 45 259 85 [(0, .inr (.inr (some 94))), (1, .inl l1), (2, .inl l2), (4, .inl l4), (5, .inl l5)] m P := by
  intro d w S Q hd hw hS hm HQ
  subst hm
  refine zw_push hm_259 dX12_block_85 (v := .inl l5) rfl ?_
  refine zw_push hm_259 dX12_block_87 (v := .inl l1) rfl ?_
  refine zw_if2 hm_259 dX12_block_88 (t := 119) rfl zc2_ge ?_ ?_
  · intro hc
    rw [if_pos hc] at h
    refine zw_push hm_259 dX12_block_119 (v := .inr (.inr (some 94))) rfl ?_
    refine zw_push hm_259 dX12_block_120 (v := .inl l1) rfl ?_
    refine zw_if0 hm_259 dX12_block_121 (t := 129) rfl zc0_lt ?_ ?_
    · intro hc
      rw [if_pos hc] at h
      refine zw_push hm_259 dX12_block_129 (v := .inl (4 : Int32)) rfl ?_
      refine zw_goto hm_259 dX12_block_130 (t := 134) rfl ?_
      refine zw_cv hm_259 dX12_block_134 v_12_110_12 hm_167 [.inl (4 : Int32)] [] rfl (zT_rt hS s_94 rfl) ⟨by omega, by omega⟩ rfl ?_
      show ma_wp X (d - 1) (w - 21) 167 0 [(0, .inr (.inr (some 94))), (1, .inl (4 : Int32))] [] S _
      refine zw_push hm_167 dX12_fails_0 (v := .inr (.inr (some 94))) rfl ?_
      refine zw_push hm_167 dX12_fails_1 (v := .inl (4 : Int32)) rfl ?_
      refine zw_pf hm_167 dX12_fails_2 (zT_is hS s_94) (zT_t hS s_94) p_12_1_12 zk_int ?_
      refine zw_push hm_167 dX12_fails_5 (v := .inl (4 : Int32)) rfl ?_
      refine zw_if0 hm_167 dX12_fails_6 (t := 13) rfl zc0_eq (fun hc => absurd hc (by decide)) (fun _ => ?_)
      refine zw_push hm_167 dX12_fails_9 (v := .inl (1 : Int32)) rfl ?_
      refine zw_goto hm_167 dX12_fails_10 (t := 14) rfl ?_
      refine zw_bret hm_167 dX12_fails_14 (by decide) ?_
      show ma_wp X d w 259 137 [(0, .inr (.inr (some 94))), (1, .inl l1), (2, .inl l2), (4, .inl l4), (5, .inl l5)] [.inl (1 : Int32)] (ma_put S 94 0 (.inl (4 : Int32))) _
      refine zw_if0 hm_259 dX12_block_137 (t := 142) rfl zc0_eq (fun hc => absurd hc (by decide)) (fun _ => ?_)
      refine zw_push hm_259 dX12_block_140 (v := .inl (0 : Int32)) rfl ?_
      exact zw_iret hm_259 dX12_block_141 (HQ _ _ h)
    · intro hc
      rw [if_neg hc] at h
      refine zw_push hm_259 dX12_block_124 (v := .inl l4) rfl ?_
      refine zw_if0 hm_259 dX12_block_126 (t := 133) rfl zc0_ge ?_ ?_
      · intro hc
        rw [if_pos hc] at h
        refine zw_push hm_259 dX12_block_133 (v := .inl (0 : Int32)) rfl ?_
        refine zw_cv hm_259 dX12_block_134 v_12_110_12 hm_167 [.inl (0 : Int32)] [] rfl (zT_rt hS s_94 rfl) ⟨by omega, by omega⟩ rfl ?_
        show ma_wp X (d - 1) (w - 21) 167 0 [(0, .inr (.inr (some 94))), (1, .inl (0 : Int32))] [] S _
        refine zw_push hm_167 dX12_fails_0 (v := .inr (.inr (some 94))) rfl ?_
        refine zw_push hm_167 dX12_fails_1 (v := .inl (0 : Int32)) rfl ?_
        refine zw_pf hm_167 dX12_fails_2 (zT_is hS s_94) (zT_t hS s_94) p_12_1_12 zk_int ?_
        refine zw_push hm_167 dX12_fails_5 (v := .inl (0 : Int32)) rfl ?_
        refine zw_if0 hm_167 dX12_fails_6 (t := 13) rfl zc0_eq (fun _ => ?_) (fun hc => absurd (by decide) hc)
        refine zw_push hm_167 dX12_fails_13 (v := .inl (0 : Int32)) rfl ?_
        refine zw_bret hm_167 dX12_fails_14 (by decide) ?_
        show ma_wp X d w 259 137 [(0, .inr (.inr (some 94))), (1, .inl l1), (2, .inl l2), (4, .inl l4), (5, .inl l5)] [.inl (0 : Int32)] (ma_put S 94 0 (.inl (0 : Int32))) _
        refine zw_if0 hm_259 dX12_block_137 (t := 142) rfl zc0_eq (fun _ => ?_) (fun hc => absurd (by decide) hc)
        refine zw_push hm_259 dX12_block_142 (v := .inl l2) rfl ?_
        refine zw_if0 hm_259 dX12_block_143 (t := 151) rfl zc0_ne ?_ ?_
        · intro hc
          rw [if_neg hc] at h
          refine zw_push hm_259 dX12_block_151 (v := .inr (.inr (some 94))) rfl ?_
          refine zw_gf hm_259 dX12_block_152 (v := .inl ((mI S) 94 84)) (zT_is (zT_pi hS) s_94) (zT_t (zT_pi hS) s_94) rfl f_12_420_12 rfl ?_
          exact zw_iret hm_259 dX12_block_155 (HQ _ _ h)
        · intro hc
          rw [if_pos (Classical.not_not.mp hc)] at h
          refine zw_push hm_259 dX12_block_146 (v := .inl l4) rfl ?_
          refine zw_goto hm_259 dX12_block_148 (t := 155) rfl ?_
          exact zw_iret hm_259 dX12_block_155 (HQ _ _ h)
      · intro hc
        rw [if_neg hc] at h
        refine zw_push hm_259 dX12_block_129 (v := .inl (4 : Int32)) rfl ?_
        refine zw_goto hm_259 dX12_block_130 (t := 134) rfl ?_
        refine zw_cv hm_259 dX12_block_134 v_12_110_12 hm_167 [.inl (4 : Int32)] [] rfl (zT_rt hS s_94 rfl) ⟨by omega, by omega⟩ rfl ?_
        show ma_wp X (d - 1) (w - 21) 167 0 [(0, .inr (.inr (some 94))), (1, .inl (4 : Int32))] [] S _
        refine zw_push hm_167 dX12_fails_0 (v := .inr (.inr (some 94))) rfl ?_
        refine zw_push hm_167 dX12_fails_1 (v := .inl (4 : Int32)) rfl ?_
        refine zw_pf hm_167 dX12_fails_2 (zT_is hS s_94) (zT_t hS s_94) p_12_1_12 zk_int ?_
        refine zw_push hm_167 dX12_fails_5 (v := .inl (4 : Int32)) rfl ?_
        refine zw_if0 hm_167 dX12_fails_6 (t := 13) rfl zc0_eq (fun hc => absurd hc (by decide)) (fun _ => ?_)
        refine zw_push hm_167 dX12_fails_9 (v := .inl (1 : Int32)) rfl ?_
        refine zw_goto hm_167 dX12_fails_10 (t := 14) rfl ?_
        refine zw_bret hm_167 dX12_fails_14 (by decide) ?_
        show ma_wp X d w 259 137 [(0, .inr (.inr (some 94))), (1, .inl l1), (2, .inl l2), (4, .inl l4), (5, .inl l5)] [.inl (1 : Int32)] (ma_put S 94 0 (.inl (4 : Int32))) _
        refine zw_if0 hm_259 dX12_block_137 (t := 142) rfl zc0_eq (fun hc => absurd hc (by decide)) (fun _ => ?_)
        refine zw_push hm_259 dX12_block_140 (v := .inl (0 : Int32)) rfl ?_
        exact zw_iret hm_259 dX12_block_141 (HQ _ _ h)
  · intro hc
    rw [if_neg hc] at h
    refine zw_push hm_259 dX12_block_91 (v := .inl l4) rfl ?_
    refine zw_if0 hm_259 dX12_block_93 (t := 119) rfl zc0_lt ?_ ?_
    · intro hc
      rw [if_pos hc] at h
      refine zw_push hm_259 dX12_block_119 (v := .inr (.inr (some 94))) rfl ?_
      refine zw_push hm_259 dX12_block_120 (v := .inl l1) rfl ?_
      refine zw_if0 hm_259 dX12_block_121 (t := 129) rfl zc0_lt ?_ ?_
      · intro hc
        rw [if_pos hc] at h
        refine zw_push hm_259 dX12_block_129 (v := .inl (4 : Int32)) rfl ?_
        refine zw_goto hm_259 dX12_block_130 (t := 134) rfl ?_
        refine zw_cv hm_259 dX12_block_134 v_12_110_12 hm_167 [.inl (4 : Int32)] [] rfl (zT_rt hS s_94 rfl) ⟨by omega, by omega⟩ rfl ?_
        show ma_wp X (d - 1) (w - 21) 167 0 [(0, .inr (.inr (some 94))), (1, .inl (4 : Int32))] [] S _
        refine zw_push hm_167 dX12_fails_0 (v := .inr (.inr (some 94))) rfl ?_
        refine zw_push hm_167 dX12_fails_1 (v := .inl (4 : Int32)) rfl ?_
        refine zw_pf hm_167 dX12_fails_2 (zT_is hS s_94) (zT_t hS s_94) p_12_1_12 zk_int ?_
        refine zw_push hm_167 dX12_fails_5 (v := .inl (4 : Int32)) rfl ?_
        refine zw_if0 hm_167 dX12_fails_6 (t := 13) rfl zc0_eq (fun hc => absurd hc (by decide)) (fun _ => ?_)
        refine zw_push hm_167 dX12_fails_9 (v := .inl (1 : Int32)) rfl ?_
        refine zw_goto hm_167 dX12_fails_10 (t := 14) rfl ?_
        refine zw_bret hm_167 dX12_fails_14 (by decide) ?_
        show ma_wp X d w 259 137 [(0, .inr (.inr (some 94))), (1, .inl l1), (2, .inl l2), (4, .inl l4), (5, .inl l5)] [.inl (1 : Int32)] (ma_put S 94 0 (.inl (4 : Int32))) _
        refine zw_if0 hm_259 dX12_block_137 (t := 142) rfl zc0_eq (fun hc => absurd hc (by decide)) (fun _ => ?_)
        refine zw_push hm_259 dX12_block_140 (v := .inl (0 : Int32)) rfl ?_
        exact zw_iret hm_259 dX12_block_141 (HQ _ _ h)
      · intro hc
        rw [if_neg hc] at h
        refine zw_push hm_259 dX12_block_124 (v := .inl l4) rfl ?_
        refine zw_if0 hm_259 dX12_block_126 (t := 133) rfl zc0_ge ?_ ?_
        · intro hc
          rw [if_pos hc] at h
          refine zw_push hm_259 dX12_block_133 (v := .inl (0 : Int32)) rfl ?_
          refine zw_cv hm_259 dX12_block_134 v_12_110_12 hm_167 [.inl (0 : Int32)] [] rfl (zT_rt hS s_94 rfl) ⟨by omega, by omega⟩ rfl ?_
          show ma_wp X (d - 1) (w - 21) 167 0 [(0, .inr (.inr (some 94))), (1, .inl (0 : Int32))] [] S _
          refine zw_push hm_167 dX12_fails_0 (v := .inr (.inr (some 94))) rfl ?_
          refine zw_push hm_167 dX12_fails_1 (v := .inl (0 : Int32)) rfl ?_
          refine zw_pf hm_167 dX12_fails_2 (zT_is hS s_94) (zT_t hS s_94) p_12_1_12 zk_int ?_
          refine zw_push hm_167 dX12_fails_5 (v := .inl (0 : Int32)) rfl ?_
          refine zw_if0 hm_167 dX12_fails_6 (t := 13) rfl zc0_eq (fun _ => ?_) (fun hc => absurd (by decide) hc)
          refine zw_push hm_167 dX12_fails_13 (v := .inl (0 : Int32)) rfl ?_
          refine zw_bret hm_167 dX12_fails_14 (by decide) ?_
          show ma_wp X d w 259 137 [(0, .inr (.inr (some 94))), (1, .inl l1), (2, .inl l2), (4, .inl l4), (5, .inl l5)] [.inl (0 : Int32)] (ma_put S 94 0 (.inl (0 : Int32))) _
          refine zw_if0 hm_259 dX12_block_137 (t := 142) rfl zc0_eq (fun _ => ?_) (fun hc => absurd (by decide) hc)
          refine zw_push hm_259 dX12_block_142 (v := .inl l2) rfl ?_
          refine zw_if0 hm_259 dX12_block_143 (t := 151) rfl zc0_ne ?_ ?_
          · intro hc
            rw [if_neg hc] at h
            refine zw_push hm_259 dX12_block_151 (v := .inr (.inr (some 94))) rfl ?_
            refine zw_gf hm_259 dX12_block_152 (v := .inl ((mI S) 94 84)) (zT_is (zT_pi hS) s_94) (zT_t (zT_pi hS) s_94) rfl f_12_420_12 rfl ?_
            exact zw_iret hm_259 dX12_block_155 (HQ _ _ h)
          · intro hc
            rw [if_pos (Classical.not_not.mp hc)] at h
            refine zw_push hm_259 dX12_block_146 (v := .inl l4) rfl ?_
            refine zw_goto hm_259 dX12_block_148 (t := 155) rfl ?_
            exact zw_iret hm_259 dX12_block_155 (HQ _ _ h)
        · intro hc
          rw [if_neg hc] at h
          refine zw_push hm_259 dX12_block_129 (v := .inl (4 : Int32)) rfl ?_
          refine zw_goto hm_259 dX12_block_130 (t := 134) rfl ?_
          refine zw_cv hm_259 dX12_block_134 v_12_110_12 hm_167 [.inl (4 : Int32)] [] rfl (zT_rt hS s_94 rfl) ⟨by omega, by omega⟩ rfl ?_
          show ma_wp X (d - 1) (w - 21) 167 0 [(0, .inr (.inr (some 94))), (1, .inl (4 : Int32))] [] S _
          refine zw_push hm_167 dX12_fails_0 (v := .inr (.inr (some 94))) rfl ?_
          refine zw_push hm_167 dX12_fails_1 (v := .inl (4 : Int32)) rfl ?_
          refine zw_pf hm_167 dX12_fails_2 (zT_is hS s_94) (zT_t hS s_94) p_12_1_12 zk_int ?_
          refine zw_push hm_167 dX12_fails_5 (v := .inl (4 : Int32)) rfl ?_
          refine zw_if0 hm_167 dX12_fails_6 (t := 13) rfl zc0_eq (fun hc => absurd hc (by decide)) (fun _ => ?_)
          refine zw_push hm_167 dX12_fails_9 (v := .inl (1 : Int32)) rfl ?_
          refine zw_goto hm_167 dX12_fails_10 (t := 14) rfl ?_
          refine zw_bret hm_167 dX12_fails_14 (by decide) ?_
          show ma_wp X d w 259 137 [(0, .inr (.inr (some 94))), (1, .inl l1), (2, .inl l2), (4, .inl l4), (5, .inl l5)] [.inl (1 : Int32)] (ma_put S 94 0 (.inl (4 : Int32))) _
          refine zw_if0 hm_259 dX12_block_137 (t := 142) rfl zc0_eq (fun hc => absurd hc (by decide)) (fun _ => ?_)
          refine zw_push hm_259 dX12_block_140 (v := .inl (0 : Int32)) rfl ?_
          exact zw_iret hm_259 dX12_block_141 (HQ _ _ h)
    · intro hc
      rw [if_neg hc] at h
      refine zw_push hm_259 dX12_block_96 (v := .inr (.inr (some 94))) rfl ?_
      refine zw_push hm_259 dX12_block_97 (v := .inl l4) rfl ?_
      refine zw_push hm_259 dX12_block_99 (v := .inr (.inr (some 94))) rfl ?_
      refine zw_gf hm_259 dX12_block_100 (v := .inl ((mI S) 94 84)) (zT_is hS s_94) (zT_t hS s_94) rfl f_12_420_12 rfl ?_
      refine zw_stk hm_259 dX12_block_103 (st₉ := [.inl (l4 + ((mI S) 94 84)), .inr (.inr (some 94))]) rfl rfl ?_
      refine zw_push hm_259 dX12_block_104 (v := .inr (.inr (some 94))) rfl ?_
      refine zw_gf hm_259 dX12_block_105 (v := .inl ((mI S) 94 11)) (zT_is hS s_94) (zT_t hS s_94) rfl f_12_202_12 rfl ?_
      refine zw_cv hm_259 dX12_block_108 v_12_423_12 hm_226 [.inl ((mI S) 94 11), .inl (l4 + ((mI S) 94 84))] [] rfl (zT_rt hS s_94 rfl) ⟨by omega, by omega⟩ rfl (h _ _ S _ (by omega) (by omega) hS rfl (fun o9 m1 hv => ?_))
      obtain ⟨v2, rfl, h⟩ := zmi_of hv
      show ma_wp X d w 259 111 [(0, .inr (.inr (some 94))), (1, .inl l1), (2, .inl l2), (4, .inl l4), (5, .inl l5)] [.inl v2] (zst S m1) _
      refine zw_sto hm_259 dX12_block_111 [(4, .inl v2), (0, .inr (.inr (some 94))), (1, .inl l1), (2, .inl l2), (5, .inl l5)] rfl rfl rfl ?_
      refine zw_sto hm_259 dX12_block_113 [(5, .inl (l5 + (1 : Int32))), (4, .inl v2), (0, .inr (.inr (some 94))), (1, .inl l1), (2, .inl l2)] rfl rfl rfl ?_
      refine zw_goto hm_259 dX12_block_116 (t := 85) rfl ?_
      exact zw_sub (ma_nd_of (ks := [0, 1, 2, 4, 5]) rfl (by decide)) (ma_nd_of (ks := [5, 4, 0, 1, 2]) rfl (by decide)) (ma_le_cons rfl (ma_le_cons rfl (ma_le_cons rfl (ma_le_cons rfl (ma_le_cons rfl (ma_le_nil _)))))) (h d w _ Q (by omega) (by omega) (zT_zst hS m1) rfl HQ)
theorem lp_259_85 {X : Nat × (Nat → Int32)} {P : Option ma_V → (Nat → Nat → Int32) → Prop} {T : Nat} {ix : Int32} {pa : Int32} {m0 : Nat → Nat → Int32} (h0 : zV m0) (K : ∀ v m₉, zF wr_259 m0 m₉ → zV m₉ → (zW (m₉ 94 7) (m₉ 98) (m₉ 101) (m₉ 102) (m₉ 108)) → (zGW T (m₉ 94 55) (m₉ 109)) → (zGU T (m₉ 94 46) (m₉ 99)) → (zOw (m₉ 99) (m₉ 103) (m₉ 111)) → (zDX (m₉ 94 10) (m₉ 99) (m₉ 112) (m₉ 113) (m₉ 114) (m₉ 94 55) (m₉ 98) (m₉ 101) (m₉ 102) (m₉ 108)) → (zGG (m₉ 94 58) (m₉ 94 56) (m₉ 94 57) (m₉ 106)) → (zHA (m₉ 94 10) (m₉ 94 11) (m₉ 94 13) (m₉ 94 14) (m₉ 94 16) (m₉ 94 61) (m₉ 94 59) (m₉ 94 60) (m₉ 99) (m₉ 102) (m₉ 103) (m₉ 111) (m₉ 117) (m₉ 98) (m₉ 101) (m₉ 108)) → (zRG (m₉ 94 10) (m₉ 94 18) (m₉ 94 64) (m₉ 94 63) (m₉ 99) (m₉ 103) (m₉ 102) (m₉ 116)) → ((m₉ 94 58).toInt = 0 ∨ (m₉ 94 10).toInt = 5) → P (some (.inl v)) m₉) : ∀ (n : Nat) (m : Nat → Nat → Int32) (l1 : Int32) (l2 : Int32) (l4 : Int32) (l5 : Int32), (2147483647 - l5.toInt).toNat = n → zF wr_259 m0 m → zV m → (0 ≤ l5.toInt) → (l4.toInt = -1 ∨ (0 ≤ l4.toInt ∧ l4.toInt < (m 94 11).toInt ∧ 1 ≤ (m 94 84).toInt ∧ l4.toInt + (m 94 84).toInt ≤ (m 94 11).toInt)) → (zW (m 94 7) (m 98) (m 101) (m 102) (m 108)) → (zGW T (m 94 55) (m 109)) → (zGU T (m 94 46) (m 99)) → (zOw (m 99) (m 103) (m 111)) → (zDX (m 94 10) (m 99) (m 112) (m 113) (m 114) (m 94 55) (m 98) (m 101) (m 102) (m 108)) → (zGG (m 94 58) (m 94 56) (m 94 57) (m 106)) → (zHA (m 94 10) (m 94 11) (m 94 13) (m 94 14) (m 94 16) (m 94 61) (m 94 59) (m 94 60) (m 99) (m 102) (m 103) (m 111) (m 117) (m 98) (m 101) (m 108)) → (zRG (m 94 10) (m 94 18) (m 94 64) (m 94 63) (m 99) (m 103) (m 102) (m 116)) → ((m 94 58).toInt = 0 ∨ (m 94 10).toInt = 5) → zm X 2 45 259 85 [(0, .inr (.inr (some 94))), (1, .inl l1), (2, .inl l2), (4, .inl l4), (5, .inl l5)] m P := by
  intro n
  induction n using Nat.strongRecOn with
  | _ n IH =>
    intro m l1 l2 l4 l5 hmu hF hV hi0 hi1 r_W r_GW r_GU r_OW r_DX r_GG r_HA r_RGc hi10
    refine g_259_85 l1 l2 l4 l5 ?_
    have f1 : 0 ≤ (m 94 11).toInt ∧ (m 94 11).toInt ≤ 1500 := rs_94_11 (m := m) hV
    have f2 : 0 ≤ (m 94 84).toInt ∧ (m 94 84).toInt ≤ 4600 := rs_94_84 (m := m) hV
    have f3 : 0 ≤ (m 94 58).toInt ∧ (m 94 58).toInt ≤ 1 := rs_94_58 (m := m) hV
    have f4 : 0 ≤ (m 94 10).toInt ∧ (m 94 10).toInt ≤ 6 := rs_94_10 (m := m) hV
    have b5 := i_bd l1
    have b6 := i_bd l5
    refine zd (fun (h7 : l1 ≤ l5) => ?_) (fun (h7 : ¬ l1 ≤ l5) => ?_)
    · skip
      have g8 := i_le h7
      have li9 : (0 : Int32).toInt = 0 := rfl
      refine zd (fun (h10 : l1 < (0 : Int32)) => ?_) (fun (h10 : ¬ l1 < (0 : Int32)) => ?_)
      · skip
        have g11 := i_lt h10
        have hV12 : zV (ma_u m 94 0 (4 : Int32)) := uf_94_0 hV
        exact K ((0 : Int32)) _ (zF_u hF rfl) hV12 r_W r_GW r_GU r_OW r_DX r_GG r_HA r_RGc (show (m 94 58).toInt = 0 ∨ (m 94 10).toInt = 5 from by omega)
      · skip
        have g13 := i_nlt h10
        have b14 := i_bd l4
        refine zd (fun (h15 : (0 : Int32) ≤ l4) => ?_) (fun (h15 : ¬ (0 : Int32) ≤ l4) => ?_)
        · skip
          have g16 := i_le h15
          have b17 := i_bd l2
          refine zd (fun (h18 : l2 = (0 : Int32)) => ?_) (fun (h18 : ¬ l2 = (0 : Int32)) => ?_)
          · skip
            have g19 := i_eq h18
            have hV20 : zV (ma_u m 94 0 (0 : Int32)) := uf_94_0 hV
            exact K (l4) _ (zF_u hF rfl) hV20 r_W r_GW r_GU r_OW r_DX r_GG r_HA r_RGc (show (m 94 58).toInt = 0 ∨ (m 94 10).toInt = 5 from by omega)
          · skip
            have g21 := i_ne h18
            have hV22 : zV (ma_u m 94 0 (0 : Int32)) := uf_94_0 hV
            exact K ((m 94 84)) _ (zF_u hF rfl) hV22 r_W r_GW r_GU r_OW r_DX r_GG r_HA r_RGc (show (m 94 58).toInt = 0 ∨ (m 94 10).toInt = 5 from by omega)
        · skip
          have g23 := i_nle h15
          have hV24 : zV (ma_u m 94 0 (4 : Int32)) := uf_94_0 hV
          exact K ((0 : Int32)) _ (zF_u hF rfl) hV24 r_W r_GW r_GU r_OW r_DX r_GG r_HA r_RGc (show (m 94 58).toInt = 0 ∨ (m 94 10).toInt = 5 from by omega)
    · skip
      have g25 := i_nle h7
      have b26 := i_bd l4
      have li27 : (0 : Int32).toInt = 0 := rfl
      refine zd (fun (h28 : l4 < (0 : Int32)) => ?_) (fun (h28 : ¬ l4 < (0 : Int32)) => ?_)
      · skip
        have g29 := i_lt h28
        refine zd (fun (h30 : l1 < (0 : Int32)) => ?_) (fun (h30 : ¬ l1 < (0 : Int32)) => ?_)
        · skip
          have g31 := i_lt h30
          have hV32 : zV (ma_u m 94 0 (4 : Int32)) := uf_94_0 hV
          exact K ((0 : Int32)) _ (zF_u hF rfl) hV32 r_W r_GW r_GU r_OW r_DX r_GG r_HA r_RGc (show (m 94 58).toInt = 0 ∨ (m 94 10).toInt = 5 from by omega)
        · skip
          have g33 := i_nlt h30
          refine zd (fun (h34 : (0 : Int32) ≤ l4) => ?_) (fun (h34 : ¬ (0 : Int32) ≤ l4) => ?_)
          · skip
            have g35 := i_le h34
            have b36 := i_bd l2
            refine zd (fun (h37 : l2 = (0 : Int32)) => ?_) (fun (h37 : ¬ l2 = (0 : Int32)) => ?_)
            · skip
              have g38 := i_eq h37
              have hV39 : zV (ma_u m 94 0 (0 : Int32)) := uf_94_0 hV
              exact K (l4) _ (zF_u hF rfl) hV39 r_W r_GW r_GU r_OW r_DX r_GG r_HA r_RGc (show (m 94 58).toInt = 0 ∨ (m 94 10).toInt = 5 from by omega)
            · skip
              have g40 := i_ne h37
              have hV41 : zV (ma_u m 94 0 (0 : Int32)) := uf_94_0 hV
              exact K ((m 94 84)) _ (zF_u hF rfl) hV41 r_W r_GW r_GU r_OW r_DX r_GG r_HA r_RGc (show (m 94 58).toInt = 0 ∨ (m 94 10).toInt = 5 from by omega)
          · skip
            have g42 := i_nle h34
            have hV43 : zV (ma_u m 94 0 (4 : Int32)) := uf_94_0 hV
            exact K ((0 : Int32)) _ (zF_u hF rfl) hV43 r_W r_GW r_GU r_OW r_DX r_GG r_HA r_RGc (show (m 94 58).toInt = 0 ∨ (m 94 10).toInt = 5 from by omega)
      · skip
        have g44 := i_nlt h28
        first | have e45 : (l4 + (m 94 84)).toInt = l4.toInt + (m 94 84).toInt := i_add (by omega) (by omega) | have b46 := i_bd (l4 + (m 94 84))
        refine sp_226 ((l4 + (m 94 84))) ((m 94 11)) hV (by omega) (by omega) (by omega) (fun v2 m1 hV_m1 p0_m1 => zmi_n ?_)
        have p0_m1 : v2.toInt = -1 ∨ ((l4 + (m 94 84)).toInt ≤ v2.toInt ∧ v2.toInt < (m 94 11).toInt ∧ 1 ≤ (m1 94 84).toInt ∧ v2.toInt + (m1 94 84).toInt ≤ (m 94 11).toInt) := p0_m1
        have f47 : 0 ≤ (m1 94 84).toInt ∧ (m1 94 84).toInt ≤ 4600 := rs_94_84 (m := (zov wr_226 m m1)) hV_m1
        have b48 := i_bd l2
        have b49 := i_bd v2
        first | have e50 : (l5 + (1 : Int32)).toInt = l5.toInt + (1) := i_addk rfl (by omega) (by omega) | have b51 := i_bd (l5 + (1 : Int32))
        exact IH (2147483647 - (l5 + (1 : Int32)).toInt).toNat (by omega) _ (l1) (l2) (v2) ((l5 + (1 : Int32))) rfl (zF_zov hF ws_226_259) hV_m1 (by omega) (show v2.toInt = -1 ∨ (0 ≤ v2.toInt ∧ v2.toInt < (m 94 11).toInt ∧ 1 ≤ (m1 94 84).toInt ∧ v2.toInt + (m1 94 84).toInt ≤ (m 94 11).toInt) from by omega) r_W r_GW r_GU r_OW r_DX r_GG r_HA r_RGc (show (m 94 58).toInt = 0 ∨ (m 94 10).toInt = 5 from by omega)
theorem sp_259 {X : Nat × (Nat → Int32)} {P : Option ma_V → (Nat → Nat → Int32) → Prop} {T : Nat} {m : Nat → Nat → Int32} (ix : Int32) (pa : Int32) (hV : zV m) (r_W : zW (m 94 7) (m 98) (m 101) (m 102) (m 108)) (r_GW : zGW T (m 94 55) (m 109)) (r_GU : zGU T (m 94 46) (m 99)) (r_OW : zOw (m 99) (m 103) (m 111)) (r_DX : zDX (m 94 10) (m 99) (m 112) (m 113) (m 114) (m 94 55) (m 98) (m 101) (m 102) (m 108)) (r_GG : zGG (m 94 58) (m 94 56) (m 94 57) (m 106)) (r_HA : zHA (m 94 10) (m 94 11) (m 94 13) (m 94 14) (m 94 16) (m 94 61) (m 94 59) (m 94 60) (m 99) (m 102) (m 103) (m 111) (m 117) (m 98) (m 101) (m 108)) (r_RGc : zRG (m 94 10) (m 94 18) (m 94 64) (m 94 63) (m 99) (m 103) (m 102) (m 116)) (hpre8 : (m 94 58).toInt = 0 ∨ (m 94 10).toInt = 5) (KZ : ∀ v m₉, zV (zov wr_259 m m₉) → (zW (m 94 7) (m 98) (m 101) (m 102) (m 108)) → (zGW T (m 94 55) (m 109)) → (zGU T (m 94 46) (m 99)) → (zOw (m 99) (m 103) (m 111)) → (zDX (m 94 10) (m 99) (m 112) (m 113) (m 114) (m 94 55) (m 98) (m 101) (m 102) (m 108)) → (zGG (m 94 58) (m 94 56) (m 94 57) (m 106)) → (zHA (m 94 10) (m 94 11) (m 94 13) (m 94 14) (m 94 16) (m 94 61) (m 94 59) (m 94 60) (m 99) (m 102) (m 103) (m 111) (m 117) (m 98) (m 101) (m 108)) → (zRG (m 94 10) (m 94 18) (m 94 64) (m 94 63) (m 99) (m 103) (m 102) (m 116)) → ((m 94 58).toInt = 0 ∨ (m 94 10).toInt = 5) → P (some (.inl v)) (zov wr_259 m m₉)) : zm X 2 45 259 0 [(0, .inr (.inr (some 94))), (1, .inl ix), (2, .inl pa)] m P := by
  have K : ∀ v m₉, zF wr_259 m m₉ → zV m₉ → (zW (m₉ 94 7) (m₉ 98) (m₉ 101) (m₉ 102) (m₉ 108)) → (zGW T (m₉ 94 55) (m₉ 109)) → (zGU T (m₉ 94 46) (m₉ 99)) → (zOw (m₉ 99) (m₉ 103) (m₉ 111)) → (zDX (m₉ 94 10) (m₉ 99) (m₉ 112) (m₉ 113) (m₉ 114) (m₉ 94 55) (m₉ 98) (m₉ 101) (m₉ 102) (m₉ 108)) → (zGG (m₉ 94 58) (m₉ 94 56) (m₉ 94 57) (m₉ 106)) → (zHA (m₉ 94 10) (m₉ 94 11) (m₉ 94 13) (m₉ 94 14) (m₉ 94 16) (m₉ 94 61) (m₉ 94 59) (m₉ 94 60) (m₉ 99) (m₉ 102) (m₉ 103) (m₉ 111) (m₉ 117) (m₉ 98) (m₉ 101) (m₉ 108)) → (zRG (m₉ 94 10) (m₉ 94 18) (m₉ 94 64) (m₉ 94 63) (m₉ 99) (m₉ 103) (m₉ 102) (m₉ 116)) → ((m₉ 94 58).toInt = 0 ∨ (m₉ 94 10).toInt = 5) → P (some (.inl v)) m₉ := by
    intro v m₉ hf z q0 q1 q2 q3 q4 q5 q6 q7 q8
    have e := zov_eq hf
    rw [e] at z ⊢
    try rw [e] at q0
    try rw [e] at q1
    try rw [e] at q2
    try rw [e] at q3
    try rw [e] at q4
    try rw [e] at q5
    try rw [e] at q6
    try rw [e] at q7
    try rw [e] at q8
    exact KZ v m₉ z q0 q1 q2 q3 q4 q5 q6 q7 q8
  refine g_259_0 ix pa ?_
  have f1 : 0 ≤ (m 94 58).toInt ∧ (m 94 58).toInt ≤ 1 := rs_94_58 (m := m) hV
  have f2 : 0 ≤ (m 94 10).toInt ∧ (m 94 10).toInt ≤ 6 := rs_94_10 (m := m) hV
  have li3 : (0 : Int32).toInt = 0 := rfl
  refine zd (fun (h4 : (m 94 10) = (0 : Int32)) => ?_) (fun (h4 : ¬ (m 94 10) = (0 : Int32)) => ?_)
  · skip
    have g5 := i_eq h4
    have b6 := i_bd pa
    refine zd (fun (h7 : pa < (0 : Int32)) => ?_) (fun (h7 : ¬ pa < (0 : Int32)) => ?_)
    · skip
      have g8 := i_lt h7
      have hV9 : zV (ma_u m 94 0 (1 : Int32)) := uf_94_0 hV
      exact K ((0 : Int32)) _ (zF_u zF_rfl rfl) hV9 r_W r_GW r_GU r_OW r_DX r_GG r_HA r_RGc (show (m 94 58).toInt = 0 ∨ (m 94 10).toInt = 5 from by omega)
    · skip
      have g10 := i_nlt h7
      have li11 : (1 : Int32).toInt = 1 := rfl
      refine zd (fun (h12 : pa ≤ (1 : Int32)) => ?_) (fun (h12 : ¬ pa ≤ (1 : Int32)) => ?_)
      · skip
        have g13 := i_le h12
        have f14 : 0 ≤ (m 94 8).toInt ∧ (m 94 8).toInt ≤ 1 := rs_94_8 (m := m) hV
        refine zd (fun (h15 : (m 94 8) = (0 : Int32)) => ?_) (fun (h15 : ¬ (m 94 8) = (0 : Int32)) => ?_)
        · skip
          have g16 := i_eq h15
          have hV17 : zV (ma_u m 94 0 (2 : Int32)) := uf_94_0 hV
          exact K ((0 : Int32)) _ (zF_u zF_rfl rfl) hV17 r_W r_GW r_GU r_OW r_DX r_GG r_HA r_RGc (show (m 94 58).toInt = 0 ∨ (m 94 10).toInt = 5 from by omega)
        · skip
          have g18 := i_ne h15
          have f19 : 0 ≤ (m 94 11).toInt ∧ (m 94 11).toInt ≤ 1500 := rs_94_11 (m := m) hV
          have hV20 : zV (ma_u m 94 0 (0 : Int32)) := uf_94_0 hV
          refine sp_226 ((0 : Int32)) ((m 94 11)) hV20 (by omega) (by omega) (by omega) (fun v2 m1 hV_m1 p0_m1 => zmi_n ?_)
          have p0_m1 : v2.toInt = -1 ∨ ((0 : Int32).toInt ≤ v2.toInt ∧ v2.toInt < (m 94 11).toInt ∧ 1 ≤ (m1 94 84).toInt ∧ v2.toInt + (m1 94 84).toInt ≤ (m 94 11).toInt) := p0_m1
          have f21 : 0 ≤ (m1 94 84).toInt ∧ (m1 94 84).toInt ≤ 4600 := rs_94_84 (m := (zov wr_226 (ma_u m 94 0 (0 : Int32)) m1)) hV_m1
          have b22 := i_bd ix
          have b23 := i_bd v2
          exact lp_259_85 (ix := ix) (pa := pa) hV K _ _ (ix) (pa) (v2) ((0 : Int32)) rfl (zF_zov (zF_u zF_rfl rfl) ws_226_259) hV_m1 (by omega) (show v2.toInt = -1 ∨ (0 ≤ v2.toInt ∧ v2.toInt < (m 94 11).toInt ∧ 1 ≤ (m1 94 84).toInt ∧ v2.toInt + (m1 94 84).toInt ≤ (m 94 11).toInt) from by omega) r_W r_GW r_GU r_OW r_DX r_GG r_HA r_RGc (show (m 94 58).toInt = 0 ∨ (m 94 10).toInt = 5 from by omega)
      · skip
        have g24 := i_nle h12
        have hV25 : zV (ma_u m 94 0 (1 : Int32)) := uf_94_0 hV
        exact K ((0 : Int32)) _ (zF_u zF_rfl rfl) hV25 r_W r_GW r_GU r_OW r_DX r_GG r_HA r_RGc (show (m 94 58).toInt = 0 ∨ (m 94 10).toInt = 5 from by omega)
  · skip
    have g26 := i_ne h4
    have li27 : (4 : Int32).toInt = 4 := rfl
    refine zd (fun (h28 : (m 94 10) = (4 : Int32)) => ?_) (fun (h28 : ¬ (m 94 10) = (4 : Int32)) => ?_)
    · skip
      have g29 := i_eq h28
      have b30 := i_bd pa
      refine zd (fun (h31 : pa < (0 : Int32)) => ?_) (fun (h31 : ¬ pa < (0 : Int32)) => ?_)
      · skip
        have g32 := i_lt h31
        have hV33 : zV (ma_u m 94 0 (1 : Int32)) := uf_94_0 hV
        exact K ((0 : Int32)) _ (zF_u zF_rfl rfl) hV33 r_W r_GW r_GU r_OW r_DX r_GG r_HA r_RGc (show (m 94 58).toInt = 0 ∨ (m 94 10).toInt = 5 from by omega)
      · skip
        have g34 := i_nlt h31
        have li35 : (1 : Int32).toInt = 1 := rfl
        refine zd (fun (h36 : pa ≤ (1 : Int32)) => ?_) (fun (h36 : ¬ pa ≤ (1 : Int32)) => ?_)
        · skip
          have g37 := i_le h36
          have f38 : 0 ≤ (m 94 8).toInt ∧ (m 94 8).toInt ≤ 1 := rs_94_8 (m := m) hV
          refine zd (fun (h39 : (m 94 8) = (0 : Int32)) => ?_) (fun (h39 : ¬ (m 94 8) = (0 : Int32)) => ?_)
          · skip
            have g40 := i_eq h39
            have hV41 : zV (ma_u m 94 0 (2 : Int32)) := uf_94_0 hV
            exact K ((0 : Int32)) _ (zF_u zF_rfl rfl) hV41 r_W r_GW r_GU r_OW r_DX r_GG r_HA r_RGc (show (m 94 58).toInt = 0 ∨ (m 94 10).toInt = 5 from by omega)
          · skip
            have g42 := i_ne h39
            have f43 : 0 ≤ (m 94 11).toInt ∧ (m 94 11).toInt ≤ 1500 := rs_94_11 (m := m) hV
            have hV44 : zV (ma_u m 94 0 (0 : Int32)) := uf_94_0 hV
            refine sp_226 ((0 : Int32)) ((m 94 11)) hV44 (by omega) (by omega) (by omega) (fun v4 m3 hV_m3 p0_m3 => zmi_n ?_)
            have p0_m3 : v4.toInt = -1 ∨ ((0 : Int32).toInt ≤ v4.toInt ∧ v4.toInt < (m 94 11).toInt ∧ 1 ≤ (m3 94 84).toInt ∧ v4.toInt + (m3 94 84).toInt ≤ (m 94 11).toInt) := p0_m3
            have f45 : 0 ≤ (m3 94 84).toInt ∧ (m3 94 84).toInt ≤ 4600 := rs_94_84 (m := (zov wr_226 (ma_u m 94 0 (0 : Int32)) m3)) hV_m3
            have b46 := i_bd ix
            have b47 := i_bd v4
            exact lp_259_85 (ix := ix) (pa := pa) hV K _ _ (ix) (pa) (v4) ((0 : Int32)) rfl (zF_zov (zF_u zF_rfl rfl) ws_226_259) hV_m3 (by omega) (show v4.toInt = -1 ∨ (0 ≤ v4.toInt ∧ v4.toInt < (m 94 11).toInt ∧ 1 ≤ (m3 94 84).toInt ∧ v4.toInt + (m3 94 84).toInt ≤ (m 94 11).toInt) from by omega) r_W r_GW r_GU r_OW r_DX r_GG r_HA r_RGc (show (m 94 58).toInt = 0 ∨ (m 94 10).toInt = 5 from by omega)
        · skip
          have g48 := i_nle h36
          have hV49 : zV (ma_u m 94 0 (1 : Int32)) := uf_94_0 hV
          exact K ((0 : Int32)) _ (zF_u zF_rfl rfl) hV49 r_W r_GW r_GU r_OW r_DX r_GG r_HA r_RGc (show (m 94 58).toInt = 0 ∨ (m 94 10).toInt = 5 from by omega)
    · skip
      have g50 := i_ne h28
      have li51 : (5 : Int32).toInt = 5 := rfl
      refine zd (fun (h52 : (m 94 10) = (5 : Int32)) => ?_) (fun (h52 : ¬ (m 94 10) = (5 : Int32)) => ?_)
      · skip
        have g53 := i_eq h52
        have b54 := i_bd pa
        refine zd (fun (h55 : pa < (0 : Int32)) => ?_) (fun (h55 : ¬ pa < (0 : Int32)) => ?_)
        · skip
          have g56 := i_lt h55
          have hV57 : zV (ma_u m 94 0 (1 : Int32)) := uf_94_0 hV
          exact K ((0 : Int32)) _ (zF_u zF_rfl rfl) hV57 r_W r_GW r_GU r_OW r_DX r_GG r_HA r_RGc (show (m 94 58).toInt = 0 ∨ (m 94 10).toInt = 5 from by omega)
        · skip
          have g58 := i_nlt h55
          have li59 : (1 : Int32).toInt = 1 := rfl
          refine zd (fun (h60 : pa ≤ (1 : Int32)) => ?_) (fun (h60 : ¬ pa ≤ (1 : Int32)) => ?_)
          · skip
            have g61 := i_le h60
            have f62 : 0 ≤ (m 94 8).toInt ∧ (m 94 8).toInt ≤ 1 := rs_94_8 (m := m) hV
            refine zd (fun (h63 : (m 94 8) = (0 : Int32)) => ?_) (fun (h63 : ¬ (m 94 8) = (0 : Int32)) => ?_)
            · skip
              have g64 := i_eq h63
              have hV65 : zV (ma_u m 94 0 (2 : Int32)) := uf_94_0 hV
              exact K ((0 : Int32)) _ (zF_u zF_rfl rfl) hV65 r_W r_GW r_GU r_OW r_DX r_GG r_HA r_RGc (show (m 94 58).toInt = 0 ∨ (m 94 10).toInt = 5 from by omega)
            · skip
              have g66 := i_ne h63
              have f67 : 0 ≤ (m 94 11).toInt ∧ (m 94 11).toInt ≤ 1500 := rs_94_11 (m := m) hV
              have hV68 : zV (ma_u m 94 0 (0 : Int32)) := uf_94_0 hV
              refine sp_226 ((0 : Int32)) ((m 94 11)) hV68 (by omega) (by omega) (by omega) (fun v6 m5 hV_m5 p0_m5 => zmi_n ?_)
              have p0_m5 : v6.toInt = -1 ∨ ((0 : Int32).toInt ≤ v6.toInt ∧ v6.toInt < (m 94 11).toInt ∧ 1 ≤ (m5 94 84).toInt ∧ v6.toInt + (m5 94 84).toInt ≤ (m 94 11).toInt) := p0_m5
              have f69 : 0 ≤ (m5 94 84).toInt ∧ (m5 94 84).toInt ≤ 4600 := rs_94_84 (m := (zov wr_226 (ma_u m 94 0 (0 : Int32)) m5)) hV_m5
              have b70 := i_bd ix
              have b71 := i_bd v6
              exact lp_259_85 (ix := ix) (pa := pa) hV K _ _ (ix) (pa) (v6) ((0 : Int32)) rfl (zF_zov (zF_u zF_rfl rfl) ws_226_259) hV_m5 (by omega) (show v6.toInt = -1 ∨ (0 ≤ v6.toInt ∧ v6.toInt < (m 94 11).toInt ∧ 1 ≤ (m5 94 84).toInt ∧ v6.toInt + (m5 94 84).toInt ≤ (m 94 11).toInt) from by omega) r_W r_GW r_GU r_OW r_DX r_GG r_HA r_RGc (show (m 94 58).toInt = 0 ∨ (m 94 10).toInt = 5 from by omega)
          · skip
            have g72 := i_nle h60
            have hV73 : zV (ma_u m 94 0 (1 : Int32)) := uf_94_0 hV
            exact K ((0 : Int32)) _ (zF_u zF_rfl rfl) hV73 r_W r_GW r_GU r_OW r_DX r_GG r_HA r_RGc (show (m 94 58).toInt = 0 ∨ (m 94 10).toInt = 5 from by omega)
      · skip
        have g74 := i_ne h52
        have b75 := i_bd pa
        refine zd (fun (h76 : pa < (0 : Int32)) => ?_) (fun (h76 : ¬ pa < (0 : Int32)) => ?_)
        · skip
          have g77 := i_lt h76
          have hV78 : zV (ma_u m 94 0 (1 : Int32)) := uf_94_0 hV
          exact K ((0 : Int32)) _ (zF_u zF_rfl rfl) hV78 r_W r_GW r_GU r_OW r_DX r_GG r_HA r_RGc (show (m 94 58).toInt = 0 ∨ (m 94 10).toInt = 5 from by omega)
        · skip
          have g79 := i_nlt h76
          have li80 : (1 : Int32).toInt = 1 := rfl
          refine zd (fun (h81 : pa ≤ (1 : Int32)) => ?_) (fun (h81 : ¬ pa ≤ (1 : Int32)) => ?_)
          · skip
            have g82 := i_le h81
            have f83 : 0 ≤ (m 94 8).toInt ∧ (m 94 8).toInt ≤ 1 := rs_94_8 (m := m) hV
            refine zd (fun (h84 : (m 94 8) = (0 : Int32)) => ?_) (fun (h84 : ¬ (m 94 8) = (0 : Int32)) => ?_)
            · skip
              have g85 := i_eq h84
              have hV86 : zV (ma_u m 94 0 (2 : Int32)) := uf_94_0 hV
              exact K ((0 : Int32)) _ (zF_u zF_rfl rfl) hV86 r_W r_GW r_GU r_OW r_DX r_GG r_HA r_RGc (show (m 94 58).toInt = 0 ∨ (m 94 10).toInt = 5 from by omega)
            · skip
              have g87 := i_ne h84
              have hV88 : zV (ma_u m 94 0 (3 : Int32)) := uf_94_0 hV
              exact K ((0 : Int32)) _ (zF_u zF_rfl rfl) hV88 r_W r_GW r_GU r_OW r_DX r_GG r_HA r_RGc (show (m 94 58).toInt = 0 ∨ (m 94 10).toInt = 5 from by omega)
          · skip
            have g89 := i_nle h81
            have hV90 : zV (ma_u m 94 0 (1 : Int32)) := uf_94_0 hV
            exact K ((0 : Int32)) _ (zF_u zF_rfl rfl) hV90 r_W r_GW r_GU r_OW r_DX r_GG r_HA r_RGc (show (m 94 58).toInt = 0 ∨ (m 94 10).toInt = 5 from by omega)

/-! from 94.459 -/
/-! the reference (written by wip/tools/gen94m.py) -/
set_option maxRecDepth 100000 in
theorem hm_260 : ma_md 260 = some (12, yX12_count, cX12_count, 2, (some (FieldType.int))) := rfl
theorem f_12_118_12 : ma_fld 12 118 12 = some 7 := by decide +kernel
theorem f_12_246_12 : ma_fld 12 246 12 = some 46 := by decide +kernel
theorem f_12_276_12 : ma_fld 12 276 12 = some 59 := by decide +kernel
theorem f_12_279_12 : ma_fld 12 279 12 = some 60 := by decide +kernel
theorem v_12_505_12 : ma_vl 12 505 12 = some (1, 261, 0) := by decide +kernel
theorem dX12_count_0 : decode cX12_count 0 = .ok (.aload_n 0, 1) := by decide +kernel
theorem dX12_count_1 : decode cX12_count 1 = .ok (.iload_n 1, 1) := by decide +kernel
theorem dX12_count_11 : decode cX12_count 11 = .ok (.iconst 1, 1) := by decide +kernel
theorem dX12_count_12 : decode cX12_count 12 = .ok (.goto 20, 3) := by decide +kernel
theorem dX12_count_32 : decode cX12_count 32 = .ok (.invokevirtual 110, 3) := by decide +kernel
theorem dX12_count_35 : decode cX12_count 35 = .ok (.ifCond .eq 5, 3) := by decide +kernel
theorem dX12_count_38 : decode cX12_count 38 = .ok (.iconst 0, 1) := by decide +kernel
theorem dX12_count_39 : decode cX12_count 39 = .ok (.ireturn, 1) := by decide +kernel
theorem dX12_count_5 : decode cX12_count 5 = .ok (.iload_n 1, 1) := by decide +kernel
theorem dX12_count_6 : decode cX12_count 6 = .ok (.bipush 13, 2) := by decide +kernel
theorem dX12_count_15 : decode cX12_count 15 = .ok (.iload_n 1, 1) := by decide +kernel
theorem dX12_count_16 : decode cX12_count 16 = .ok (.iconst 1, 1) := by decide +kernel
theorem dX12_count_31 : decode cX12_count 31 = .ok (.iconst 0, 1) := by decide +kernel
theorem dX12_count_40 : decode cX12_count 40 = .ok (.iload_n 1, 1) := by decide +kernel
theorem dX12_count_108 : decode cX12_count 108 = .ok (.aload_n 0, 1) := by decide +kernel
theorem dX12_count_112 : decode cX12_count 112 = .ok (.ireturn, 1) := by decide +kernel
theorem dX12_count_109 : decode cX12_count 109 = .ok (.getfield 107, 3) := by decide +kernel
theorem dX12_count_41 : decode cX12_count 41 = .ok (.tableswitch 254 0 12 #[67, 72, 77, 82, 87, 92, 97, 102, 107, 112, 117, 177, 241], 67) := by decide +kernel
theorem dX12_count_113 : decode cX12_count 113 = .ok (.aload_n 0, 1) := by decide +kernel
theorem dX12_count_117 : decode cX12_count 117 = .ok (.ireturn, 1) := by decide +kernel
theorem dX12_count_114 : decode cX12_count 114 = .ok (.getfield 118, 3) := by decide +kernel
theorem dX12_count_118 : decode cX12_count 118 = .ok (.aload_n 0, 1) := by decide +kernel
theorem dX12_count_122 : decode cX12_count 122 = .ok (.ireturn, 1) := by decide +kernel
theorem dX12_count_119 : decode cX12_count 119 = .ok (.getfield 240, 3) := by decide +kernel
theorem dX12_count_123 : decode cX12_count 123 = .ok (.aload_n 0, 1) := by decide +kernel
theorem dX12_count_127 : decode cX12_count 127 = .ok (.ireturn, 1) := by decide +kernel
theorem dX12_count_124 : decode cX12_count 124 = .ok (.getfield 243, 3) := by decide +kernel
theorem dX12_count_128 : decode cX12_count 128 = .ok (.aload_n 0, 1) := by decide +kernel
theorem dX12_count_132 : decode cX12_count 132 = .ok (.ireturn, 1) := by decide +kernel
theorem dX12_count_129 : decode cX12_count 129 = .ok (.getfield 246, 3) := by decide +kernel
theorem dX12_count_133 : decode cX12_count 133 = .ok (.aload_n 0, 1) := by decide +kernel
theorem dX12_count_137 : decode cX12_count 137 = .ok (.ireturn, 1) := by decide +kernel
theorem dX12_count_134 : decode cX12_count 134 = .ok (.getfield 249, 3) := by decide +kernel
theorem dX12_count_138 : decode cX12_count 138 = .ok (.aload_n 0, 1) := by decide +kernel
theorem dX12_count_142 : decode cX12_count 142 = .ok (.ireturn, 1) := by decide +kernel
theorem dX12_count_139 : decode cX12_count 139 = .ok (.getfield 252, 3) := by decide +kernel
theorem dX12_count_143 : decode cX12_count 143 = .ok (.aload_n 0, 1) := by decide +kernel
theorem dX12_count_147 : decode cX12_count 147 = .ok (.ireturn, 1) := by decide +kernel
theorem dX12_count_144 : decode cX12_count 144 = .ok (.getfield 255, 3) := by decide +kernel
theorem dX12_count_148 : decode cX12_count 148 = .ok (.aload_n 0, 1) := by decide +kernel
theorem dX12_count_152 : decode cX12_count 152 = .ok (.ireturn, 1) := by decide +kernel
theorem dX12_count_149 : decode cX12_count 149 = .ok (.getfield 258, 3) := by decide +kernel
theorem dX12_count_153 : decode cX12_count 153 = .ok (.aload_n 0, 1) := by decide +kernel
theorem dX12_count_157 : decode cX12_count 157 = .ok (.ireturn, 1) := by decide +kernel
theorem dX12_count_154 : decode cX12_count 154 = .ok (.getfield 261, 3) := by decide +kernel
theorem dX12_count_158 : decode cX12_count 158 = .ok (.aload_n 0, 1) := by decide +kernel
theorem dX12_count_162 : decode cX12_count 162 = .ok (.iconst 3, 1) := by decide +kernel
theorem dX12_count_173 : decode cX12_count 173 = .ok (.aload_n 0, 1) := by decide +kernel
theorem dX12_count_177 : decode cX12_count 177 = .ok (.bipush 6, 2) := by decide +kernel
theorem dX12_count_189 : decode cX12_count 189 = .ok (.aload_n 0, 1) := by decide +kernel
theorem dX12_count_193 : decode cX12_count 193 = .ok (.iconst 5, 1) := by decide +kernel
theorem dX12_count_216 : decode cX12_count 216 = .ok (.iconst 0, 1) := by decide +kernel
theorem dX12_count_217 : decode cX12_count 217 = .ok (.ireturn, 1) := by decide +kernel
theorem dX12_count_197 : decode cX12_count 197 = .ok (.aload_n 0, 1) := by decide +kernel
theorem dX12_count_204 : decode cX12_count 204 = .ok (.aload_n 0, 1) := by decide +kernel
theorem dX12_count_208 : decode cX12_count 208 = .ok (.aload_n 0, 1) := by decide +kernel
theorem dX12_count_212 : decode cX12_count 212 = .ok (.isub, 1) := by decide +kernel
theorem dX12_count_213 : decode cX12_count 213 = .ok (.goto 4, 3) := by decide +kernel
theorem dX12_count_209 : decode cX12_count 209 = .ok (.getfield 267, 3) := by decide +kernel
theorem dX12_count_205 : decode cX12_count 205 = .ok (.getfield 264, 3) := by decide +kernel
theorem dX12_count_201 : decode cX12_count 201 = .ok (.ifCond .eq 15, 3) := by decide +kernel
theorem dX12_count_198 : decode cX12_count 198 = .ok (.getfield 270, 3) := by decide +kernel
theorem dX12_count_194 : decode cX12_count 194 = .ok (.if_icmp .ne 22, 3) := by decide +kernel
theorem dX12_count_190 : decode cX12_count 190 = .ok (.getfield 199, 3) := by decide +kernel
theorem dX12_count_182 : decode cX12_count 182 = .ok (.aload_n 0, 1) := by decide +kernel
theorem dX12_count_183 : decode cX12_count 183 = .ok (.invokevirtual 454, 3) := by decide +kernel
theorem dX12_count_186 : decode cX12_count 186 = .ok (.goto 31, 3) := by decide +kernel
theorem dX12_count_179 : decode cX12_count 179 = .ok (.if_icmp .ne 10, 3) := by decide +kernel
theorem dX12_count_174 : decode cX12_count 174 = .ok (.getfield 199, 3) := by decide +kernel
theorem dX12_count_166 : decode cX12_count 166 = .ok (.aload_n 0, 1) := by decide +kernel
theorem dX12_count_167 : decode cX12_count 167 = .ok (.invokevirtual 505, 3) := by decide +kernel
theorem dX12_count_170 : decode cX12_count 170 = .ok (.goto 47, 3) := by decide +kernel
theorem dX12_count_163 : decode cX12_count 163 = .ok (.if_icmp .ne 10, 3) := by decide +kernel
theorem dX12_count_159 : decode cX12_count 159 = .ok (.getfield 199, 3) := by decide +kernel
theorem dX12_count_218 : decode cX12_count 218 = .ok (.aload_n 0, 1) := by decide +kernel
theorem dX12_count_222 : decode cX12_count 222 = .ok (.iconst 1, 1) := by decide +kernel
theorem dX12_count_242 : decode cX12_count 242 = .ok (.aload_n 0, 1) := by decide +kernel
theorem dX12_count_246 : decode cX12_count 246 = .ok (.goto 35, 3) := by decide +kernel
theorem dX12_count_281 : decode cX12_count 281 = .ok (.ireturn, 1) := by decide +kernel
theorem dX12_count_243 : decode cX12_count 243 = .ok (.getfield 276, 3) := by decide +kernel
theorem dX12_count_226 : decode cX12_count 226 = .ok (.aload_n 0, 1) := by decide +kernel
theorem dX12_count_230 : decode cX12_count 230 = .ok (.iconst 2, 1) := by decide +kernel
theorem dX12_count_234 : decode cX12_count 234 = .ok (.aload_n 0, 1) := by decide +kernel
theorem dX12_count_238 : decode cX12_count 238 = .ok (.iconst 3, 1) := by decide +kernel
theorem dX12_count_249 : decode cX12_count 249 = .ok (.aload_n 0, 1) := by decide +kernel
theorem dX12_count_253 : decode cX12_count 253 = .ok (.bipush 6, 2) := by decide +kernel
theorem dX12_count_280 : decode cX12_count 280 = .ok (.iconst 0, 1) := by decide +kernel
theorem dX12_count_258 : decode cX12_count 258 = .ok (.aload_n 0, 1) := by decide +kernel
theorem dX12_count_262 : decode cX12_count 262 = .ok (.aload_n 0, 1) := by decide +kernel
theorem dX12_count_266 : decode cX12_count 266 = .ok (.imul, 1) := by decide +kernel
theorem dX12_count_267 : decode cX12_count 267 = .ok (.aload_n 0, 1) := by decide +kernel
theorem dX12_count_271 : decode cX12_count 271 = .ok (.aload_n 0, 1) := by decide +kernel
theorem dX12_count_276 : decode cX12_count 276 = .ok (.iadd, 1) := by decide +kernel
theorem dX12_count_277 : decode cX12_count 277 = .ok (.goto 4, 3) := by decide +kernel
theorem dX12_count_275 : decode cX12_count 275 = .ok (.iaload, 1) := by decide +kernel
theorem dX12_count_272 : decode cX12_count 272 = .ok (.getfield 285, 3) := by decide +kernel
theorem dX12_count_268 : decode cX12_count 268 = .ok (.getfield 80, 3) := by decide +kernel
theorem dX12_count_263 : decode cX12_count 263 = .ok (.getfield 222, 3) := by decide +kernel
theorem dX12_count_259 : decode cX12_count 259 = .ok (.getfield 285, 3) := by decide +kernel
theorem dX12_count_255 : decode cX12_count 255 = .ok (.if_icmp .ne 25, 3) := by decide +kernel
theorem dX12_count_250 : decode cX12_count 250 = .ok (.getfield 199, 3) := by decide +kernel
theorem dX12_count_239 : decode cX12_count 239 = .ok (.if_icmp .ne 10, 3) := by decide +kernel
theorem dX12_count_235 : decode cX12_count 235 = .ok (.getfield 199, 3) := by decide +kernel
theorem dX12_count_231 : decode cX12_count 231 = .ok (.if_icmp .eq 11, 3) := by decide +kernel
theorem dX12_count_227 : decode cX12_count 227 = .ok (.getfield 199, 3) := by decide +kernel
theorem dX12_count_223 : decode cX12_count 223 = .ok (.if_icmp .eq 19, 3) := by decide +kernel
theorem dX12_count_219 : decode cX12_count 219 = .ok (.getfield 199, 3) := by decide +kernel
theorem dX12_count_282 : decode cX12_count 282 = .ok (.aload_n 0, 1) := by decide +kernel
theorem dX12_count_293 : decode cX12_count 293 = .ok (.iconst 0, 1) := by decide +kernel
theorem dX12_count_294 : decode cX12_count 294 = .ok (.ireturn, 1) := by decide +kernel
theorem dX12_count_289 : decode cX12_count 289 = .ok (.iconst 1, 1) := by decide +kernel
theorem dX12_count_290 : decode cX12_count 290 = .ok (.goto 4, 3) := by decide +kernel
theorem dX12_count_286 : decode cX12_count 286 = .ok (.ifCond .eq 7, 3) := by decide +kernel
theorem dX12_count_283 : decode cX12_count 283 = .ok (.getfield 270, 3) := by decide +kernel
theorem dX12_count_295 : decode cX12_count 295 = .ok (.aload_n 0, 1) := by decide +kernel
theorem dX12_count_299 : decode cX12_count 299 = .ok (.iconst 3, 1) := by decide +kernel
theorem dX12_count_310 : decode cX12_count 310 = .ok (.aload_n 0, 1) := by decide +kernel
theorem dX12_count_314 : decode cX12_count 314 = .ok (.bipush 6, 2) := by decide +kernel
theorem dX12_count_326 : decode cX12_count 326 = .ok (.iconst 0, 1) := by decide +kernel
theorem dX12_count_327 : decode cX12_count 327 = .ok (.ireturn, 1) := by decide +kernel
theorem dX12_count_319 : decode cX12_count 319 = .ok (.aload_n 0, 1) := by decide +kernel
theorem dX12_count_323 : decode cX12_count 323 = .ok (.goto 4, 3) := by decide +kernel
theorem dX12_count_320 : decode cX12_count 320 = .ok (.getfield 285, 3) := by decide +kernel
theorem dX12_count_316 : decode cX12_count 316 = .ok (.if_icmp .ne 10, 3) := by decide +kernel
theorem dX12_count_311 : decode cX12_count 311 = .ok (.getfield 199, 3) := by decide +kernel
theorem dX12_count_303 : decode cX12_count 303 = .ok (.aload_n 0, 1) := by decide +kernel
theorem dX12_count_307 : decode cX12_count 307 = .ok (.goto 20, 3) := by decide +kernel
theorem dX12_count_304 : decode cX12_count 304 = .ok (.getfield 279, 3) := by decide +kernel
theorem dX12_count_300 : decode cX12_count 300 = .ok (.if_icmp .ne 10, 3) := by decide +kernel
theorem dX12_count_296 : decode cX12_count 296 = .ok (.getfield 199, 3) := by decide +kernel
theorem dX12_count_20 : decode cX12_count 20 = .ok (.aload_n 0, 1) := by decide +kernel
theorem dX12_count_27 : decode cX12_count 27 = .ok (.iconst 2, 1) := by decide +kernel
theorem dX12_count_28 : decode cX12_count 28 = .ok (.goto 4, 3) := by decide +kernel
theorem dX12_count_24 : decode cX12_count 24 = .ok (.ifCond .ne 7, 3) := by decide +kernel
theorem dX12_count_21 : decode cX12_count 21 = .ok (.getfield 237, 3) := by decide +kernel
theorem dX12_count_17 : decode cX12_count 17 = .ok (.if_icmp .le 14, 3) := by decide +kernel
theorem dX12_count_8 : decode cX12_count 8 = .ok (.if_icmp .le 7, 3) := by decide +kernel
theorem dX12_count_2 : decode cX12_count 2 = .ok (.ifCond .lt 9, 3) := by decide +kernel
def wr_260 (c k : Nat) : Bool := (Nat.beq c 94 && (Nat.beq k 0))
theorem ws_233_260 : ∀ c k, wr_233 c k = true → wr_260 c k = true := fun _ _ h => by cases h
theorem ws_261_260 : ∀ c k, wr_261 c k = true → wr_260 c k = true := fun _ _ h => by cases h
theorem g_260_0 {X : Nat × (Nat → Int32)} {m : Nat → Nat → Int32} {P : Option ma_V → (Nat → Nat → Int32) → Prop} (wh : Int32) (h : if wh < 0 then (P (some (.inl (0 : Int32))) (ma_u m 94 0 (1 : Int32))) else (if wh ≤ (13 : Int32) then (if wh ≤ (1 : Int32) then (if wh = (0 : Int32) then (P (some (.inl (m 94 3))) (ma_u m 94 0 (0 : Int32))) else (if wh = (1 : Int32) then (P (some (.inl (m 94 7))) (ma_u m 94 0 (0 : Int32))) else (if wh = (2 : Int32) then (P (some (.inl (m 94 44))) (ma_u m 94 0 (0 : Int32))) else (if wh = (3 : Int32) then (P (some (.inl (m 94 45))) (ma_u m 94 0 (0 : Int32))) else (if wh = (4 : Int32) then (P (some (.inl (m 94 46))) (ma_u m 94 0 (0 : Int32))) else (if wh = (5 : Int32) then (P (some (.inl (m 94 47))) (ma_u m 94 0 (0 : Int32))) else (if wh = (6 : Int32) then (P (some (.inl (m 94 48))) (ma_u m 94 0 (0 : Int32))) else (if wh = (7 : Int32) then (P (some (.inl (m 94 49))) (ma_u m 94 0 (0 : Int32))) else (if wh = (8 : Int32) then (P (some (.inl (m 94 50))) (ma_u m 94 0 (0 : Int32))) else (if wh = (9 : Int32) then (P (some (.inl (m 94 55))) (ma_u m 94 0 (0 : Int32))) else (if wh = (10 : Int32) then (if (m 94 10) = (3 : Int32) then (zm X 0 0 261 0 [(0, .inr (.inr (some 94)))] (ma_u m 94 0 (0 : Int32)) (zmi (fun v4 m3 => P (some (.inl v4)) m3))) else (if (m 94 10) = (6 : Int32) then (zm X 0 0 233 0 [(0, .inr (.inr (some 94)))] (ma_u m 94 0 (0 : Int32)) (zmi (fun v2 m1 => P (some (.inl v2)) m1))) else (if (m 94 10) = (5 : Int32) then (if (m 94 58) = 0 then (P (some (.inl (0 : Int32))) (ma_u m 94 0 (0 : Int32))) else (P (some (.inl ((m 94 56) - (m 94 57)))) (ma_u m 94 0 (0 : Int32)))) else (P (some (.inl (0 : Int32))) (ma_u m 94 0 (0 : Int32)))))) else (if wh = (11 : Int32) then (if (m 94 10) = (1 : Int32) then (P (some (.inl (m 94 59))) (ma_u m 94 0 (0 : Int32))) else (if (m 94 10) = (2 : Int32) then (P (some (.inl (m 94 59))) (ma_u m 94 0 (0 : Int32))) else (if (m 94 10) = (3 : Int32) then (P (some (.inl (m 94 59))) (ma_u m 94 0 (0 : Int32))) else (if (m 94 10) = (6 : Int32) then ((0 ≤ (m 94 63) ∧ (m 94 63).toNatClampNeg < 128) ∧ (P (some (.inl (((m 94 63) * (m 94 18)) + (m 116 (m 94 63).toNatClampNeg)))) (ma_u m 94 0 (0 : Int32)))) else (P (some (.inl (0 : Int32))) (ma_u m 94 0 (0 : Int32))))))) else (if wh = (12 : Int32) then (if (m 94 58) = 0 then (P (some (.inl (0 : Int32))) (ma_u m 94 0 (0 : Int32))) else (P (some (.inl (1 : Int32))) (ma_u m 94 0 (0 : Int32)))) else (if (m 94 10) = (3 : Int32) then (P (some (.inl (m 94 60))) (ma_u m 94 0 (0 : Int32))) else (if (m 94 10) = (6 : Int32) then (P (some (.inl (m 94 63))) (ma_u m 94 0 (0 : Int32))) else (P (some (.inl (0 : Int32))) (ma_u m 94 0 (0 : Int32)))))))))))))))))) else (if (m 94 8) = 0 then (P (some (.inl (0 : Int32))) (ma_u m 94 0 (2 : Int32))) else (if wh = (0 : Int32) then (P (some (.inl (m 94 3))) (ma_u m 94 0 (0 : Int32))) else (if wh = (1 : Int32) then (P (some (.inl (m 94 7))) (ma_u m 94 0 (0 : Int32))) else (if wh = (2 : Int32) then (P (some (.inl (m 94 44))) (ma_u m 94 0 (0 : Int32))) else (if wh = (3 : Int32) then (P (some (.inl (m 94 45))) (ma_u m 94 0 (0 : Int32))) else (if wh = (4 : Int32) then (P (some (.inl (m 94 46))) (ma_u m 94 0 (0 : Int32))) else (if wh = (5 : Int32) then (P (some (.inl (m 94 47))) (ma_u m 94 0 (0 : Int32))) else (if wh = (6 : Int32) then (P (some (.inl (m 94 48))) (ma_u m 94 0 (0 : Int32))) else (if wh = (7 : Int32) then (P (some (.inl (m 94 49))) (ma_u m 94 0 (0 : Int32))) else (if wh = (8 : Int32) then (P (some (.inl (m 94 50))) (ma_u m 94 0 (0 : Int32))) else (if wh = (9 : Int32) then (P (some (.inl (m 94 55))) (ma_u m 94 0 (0 : Int32))) else (if wh = (10 : Int32) then (if (m 94 10) = (3 : Int32) then (zm X 0 0 261 0 [(0, .inr (.inr (some 94)))] (ma_u m 94 0 (0 : Int32)) (zmi (fun v8 m7 => P (some (.inl v8)) m7))) else (if (m 94 10) = (6 : Int32) then (zm X 0 0 233 0 [(0, .inr (.inr (some 94)))] (ma_u m 94 0 (0 : Int32)) (zmi (fun v6 m5 => P (some (.inl v6)) m5))) else (if (m 94 10) = (5 : Int32) then (if (m 94 58) = 0 then (P (some (.inl (0 : Int32))) (ma_u m 94 0 (0 : Int32))) else (P (some (.inl ((m 94 56) - (m 94 57)))) (ma_u m 94 0 (0 : Int32)))) else (P (some (.inl (0 : Int32))) (ma_u m 94 0 (0 : Int32)))))) else (if wh = (11 : Int32) then (if (m 94 10) = (1 : Int32) then (P (some (.inl (m 94 59))) (ma_u m 94 0 (0 : Int32))) else (if (m 94 10) = (2 : Int32) then (P (some (.inl (m 94 59))) (ma_u m 94 0 (0 : Int32))) else (if (m 94 10) = (3 : Int32) then (P (some (.inl (m 94 59))) (ma_u m 94 0 (0 : Int32))) else (if (m 94 10) = (6 : Int32) then ((0 ≤ (m 94 63) ∧ (m 94 63).toNatClampNeg < 128) ∧ (P (some (.inl (((m 94 63) * (m 94 18)) + (m 116 (m 94 63).toNatClampNeg)))) (ma_u m 94 0 (0 : Int32)))) else (P (some (.inl (0 : Int32))) (ma_u m 94 0 (0 : Int32))))))) else (if wh = (12 : Int32) then (if (m 94 58) = 0 then (P (some (.inl (0 : Int32))) (ma_u m 94 0 (0 : Int32))) else (P (some (.inl (1 : Int32))) (ma_u m 94 0 (0 : Int32)))) else (if (m 94 10) = (3 : Int32) then (P (some (.inl (m 94 60))) (ma_u m 94 0 (0 : Int32))) else (if (m 94 10) = (6 : Int32) then (P (some (.inl (m 94 63))) (ma_u m 94 0 (0 : Int32))) else (P (some (.inl (0 : Int32))) (ma_u m 94 0 (0 : Int32)))))))))))))))))))) else (P (some (.inl (0 : Int32))) (ma_u m 94 0 (1 : Int32))))) : zm X 1 22 260 0 [(0, .inr (.inr (some 94))), (1, .inl wh)] m P := by
  intro d w S Q hd hw hS hm HQ
  subst hm
  refine zw_push hm_260 dX12_count_0 (v := .inr (.inr (some 94))) rfl ?_
  refine zw_push hm_260 dX12_count_1 (v := .inl wh) rfl ?_
  refine zw_if0 hm_260 dX12_count_2 (t := 11) rfl zc0_lt ?_ ?_
  · intro hc
    rw [if_pos hc] at h
    refine zw_push hm_260 dX12_count_11 (v := .inl (1 : Int32)) rfl ?_
    refine zw_goto hm_260 dX12_count_12 (t := 32) rfl ?_
    refine zw_cv hm_260 dX12_count_32 v_12_110_12 hm_167 [.inl (1 : Int32)] [] rfl (zT_rt hS s_94 rfl) ⟨by omega, by omega⟩ rfl ?_
    show ma_wp X (d - 1) (w - 21) 167 0 [(0, .inr (.inr (some 94))), (1, .inl (1 : Int32))] [] S _
    refine zw_push hm_167 dX12_fails_0 (v := .inr (.inr (some 94))) rfl ?_
    refine zw_push hm_167 dX12_fails_1 (v := .inl (1 : Int32)) rfl ?_
    refine zw_pf hm_167 dX12_fails_2 (zT_is hS s_94) (zT_t hS s_94) p_12_1_12 zk_int ?_
    refine zw_push hm_167 dX12_fails_5 (v := .inl (1 : Int32)) rfl ?_
    refine zw_if0 hm_167 dX12_fails_6 (t := 13) rfl zc0_eq (fun hc => absurd hc (by decide)) (fun _ => ?_)
    refine zw_push hm_167 dX12_fails_9 (v := .inl (1 : Int32)) rfl ?_
    refine zw_goto hm_167 dX12_fails_10 (t := 14) rfl ?_
    refine zw_bret hm_167 dX12_fails_14 (by decide) ?_
    show ma_wp X d w 260 35 [(0, .inr (.inr (some 94))), (1, .inl wh)] [.inl (1 : Int32)] (ma_put S 94 0 (.inl (1 : Int32))) _
    refine zw_if0 hm_260 dX12_count_35 (t := 40) rfl zc0_eq (fun hc => absurd hc (by decide)) (fun _ => ?_)
    refine zw_push hm_260 dX12_count_38 (v := .inl (0 : Int32)) rfl ?_
    exact zw_iret hm_260 dX12_count_39 (HQ _ _ h)
  · intro hc
    rw [if_neg hc] at h
    refine zw_push hm_260 dX12_count_5 (v := .inl wh) rfl ?_
    refine zw_push hm_260 dX12_count_6 (v := .inl (13 : Int32)) rfl ?_
    refine zw_if2 hm_260 dX12_count_8 (t := 15) rfl zc2_le ?_ ?_
    · intro hc
      rw [if_pos hc] at h
      refine zw_push hm_260 dX12_count_15 (v := .inl wh) rfl ?_
      refine zw_push hm_260 dX12_count_16 (v := .inl (1 : Int32)) rfl ?_
      refine zw_if2 hm_260 dX12_count_17 (t := 31) rfl zc2_le ?_ ?_
      · intro hc
        rw [if_pos hc] at h
        refine zw_push hm_260 dX12_count_31 (v := .inl (0 : Int32)) rfl ?_
        refine zw_cv hm_260 dX12_count_32 v_12_110_12 hm_167 [.inl (0 : Int32)] [] rfl (zT_rt hS s_94 rfl) ⟨by omega, by omega⟩ rfl ?_
        show ma_wp X (d - 1) (w - 21) 167 0 [(0, .inr (.inr (some 94))), (1, .inl (0 : Int32))] [] S _
        refine zw_push hm_167 dX12_fails_0 (v := .inr (.inr (some 94))) rfl ?_
        refine zw_push hm_167 dX12_fails_1 (v := .inl (0 : Int32)) rfl ?_
        refine zw_pf hm_167 dX12_fails_2 (zT_is hS s_94) (zT_t hS s_94) p_12_1_12 zk_int ?_
        refine zw_push hm_167 dX12_fails_5 (v := .inl (0 : Int32)) rfl ?_
        refine zw_if0 hm_167 dX12_fails_6 (t := 13) rfl zc0_eq (fun _ => ?_) (fun hc => absurd (by decide) hc)
        refine zw_push hm_167 dX12_fails_13 (v := .inl (0 : Int32)) rfl ?_
        refine zw_bret hm_167 dX12_fails_14 (by decide) ?_
        show ma_wp X d w 260 35 [(0, .inr (.inr (some 94))), (1, .inl wh)] [.inl (0 : Int32)] (ma_put S 94 0 (.inl (0 : Int32))) _
        refine zw_if0 hm_260 dX12_count_35 (t := 40) rfl zc0_eq (fun _ => ?_) (fun hc => absurd (by decide) hc)
        refine zw_push hm_260 dX12_count_40 (v := .inl wh) rfl ?_
        by_cases hc0 : wh = (0 : Int32)
        · rw [if_pos hc0] at h
          refine zw_jmp hm_260 dX12_count_41 (t := 108) (st₉ := []) rfl rfl rfl (ma_jmp_tab (by rw [hc0]; decide +kernel)) ?_
          refine zw_push hm_260 dX12_count_108 (v := .inr (.inr (some 94))) rfl ?_
          refine zw_gf hm_260 dX12_count_109 (v := .inl ((mI S) 94 3)) (zT_is (zT_pi hS) s_94) (zT_t (zT_pi hS) s_94) rfl f_12_107_12 rfl ?_
          exact zw_iret hm_260 dX12_count_112 (HQ _ _ h)
        rw [if_neg hc0] at h
        by_cases hc1 : wh = (1 : Int32)
        · rw [if_pos hc1] at h
          refine zw_jmp hm_260 dX12_count_41 (t := 113) (st₉ := []) rfl rfl rfl (ma_jmp_tab (by rw [hc1]; decide +kernel)) ?_
          refine zw_push hm_260 dX12_count_113 (v := .inr (.inr (some 94))) rfl ?_
          refine zw_gf hm_260 dX12_count_114 (v := .inl ((mI S) 94 7)) (zT_is (zT_pi hS) s_94) (zT_t (zT_pi hS) s_94) rfl f_12_118_12 rfl ?_
          exact zw_iret hm_260 dX12_count_117 (HQ _ _ h)
        rw [if_neg hc1] at h
        by_cases hc2 : wh = (2 : Int32)
        · rw [if_pos hc2] at h
          refine zw_jmp hm_260 dX12_count_41 (t := 118) (st₉ := []) rfl rfl rfl (ma_jmp_tab (by rw [hc2]; decide +kernel)) ?_
          refine zw_push hm_260 dX12_count_118 (v := .inr (.inr (some 94))) rfl ?_
          refine zw_gf hm_260 dX12_count_119 (v := .inl ((mI S) 94 44)) (zT_is (zT_pi hS) s_94) (zT_t (zT_pi hS) s_94) rfl f_12_240_12 rfl ?_
          exact zw_iret hm_260 dX12_count_122 (HQ _ _ h)
        rw [if_neg hc2] at h
        by_cases hc3 : wh = (3 : Int32)
        · rw [if_pos hc3] at h
          refine zw_jmp hm_260 dX12_count_41 (t := 123) (st₉ := []) rfl rfl rfl (ma_jmp_tab (by rw [hc3]; decide +kernel)) ?_
          refine zw_push hm_260 dX12_count_123 (v := .inr (.inr (some 94))) rfl ?_
          refine zw_gf hm_260 dX12_count_124 (v := .inl ((mI S) 94 45)) (zT_is (zT_pi hS) s_94) (zT_t (zT_pi hS) s_94) rfl f_12_243_12 rfl ?_
          exact zw_iret hm_260 dX12_count_127 (HQ _ _ h)
        rw [if_neg hc3] at h
        by_cases hc4 : wh = (4 : Int32)
        · rw [if_pos hc4] at h
          refine zw_jmp hm_260 dX12_count_41 (t := 128) (st₉ := []) rfl rfl rfl (ma_jmp_tab (by rw [hc4]; decide +kernel)) ?_
          refine zw_push hm_260 dX12_count_128 (v := .inr (.inr (some 94))) rfl ?_
          refine zw_gf hm_260 dX12_count_129 (v := .inl ((mI S) 94 46)) (zT_is (zT_pi hS) s_94) (zT_t (zT_pi hS) s_94) rfl f_12_246_12 rfl ?_
          exact zw_iret hm_260 dX12_count_132 (HQ _ _ h)
        rw [if_neg hc4] at h
        by_cases hc5 : wh = (5 : Int32)
        · rw [if_pos hc5] at h
          refine zw_jmp hm_260 dX12_count_41 (t := 133) (st₉ := []) rfl rfl rfl (ma_jmp_tab (by rw [hc5]; decide +kernel)) ?_
          refine zw_push hm_260 dX12_count_133 (v := .inr (.inr (some 94))) rfl ?_
          refine zw_gf hm_260 dX12_count_134 (v := .inl ((mI S) 94 47)) (zT_is (zT_pi hS) s_94) (zT_t (zT_pi hS) s_94) rfl f_12_249_12 rfl ?_
          exact zw_iret hm_260 dX12_count_137 (HQ _ _ h)
        rw [if_neg hc5] at h
        by_cases hc6 : wh = (6 : Int32)
        · rw [if_pos hc6] at h
          refine zw_jmp hm_260 dX12_count_41 (t := 138) (st₉ := []) rfl rfl rfl (ma_jmp_tab (by rw [hc6]; decide +kernel)) ?_
          refine zw_push hm_260 dX12_count_138 (v := .inr (.inr (some 94))) rfl ?_
          refine zw_gf hm_260 dX12_count_139 (v := .inl ((mI S) 94 48)) (zT_is (zT_pi hS) s_94) (zT_t (zT_pi hS) s_94) rfl f_12_252_12 rfl ?_
          exact zw_iret hm_260 dX12_count_142 (HQ _ _ h)
        rw [if_neg hc6] at h
        by_cases hc7 : wh = (7 : Int32)
        · rw [if_pos hc7] at h
          refine zw_jmp hm_260 dX12_count_41 (t := 143) (st₉ := []) rfl rfl rfl (ma_jmp_tab (by rw [hc7]; decide +kernel)) ?_
          refine zw_push hm_260 dX12_count_143 (v := .inr (.inr (some 94))) rfl ?_
          refine zw_gf hm_260 dX12_count_144 (v := .inl ((mI S) 94 49)) (zT_is (zT_pi hS) s_94) (zT_t (zT_pi hS) s_94) rfl f_12_255_12 rfl ?_
          exact zw_iret hm_260 dX12_count_147 (HQ _ _ h)
        rw [if_neg hc7] at h
        by_cases hc8 : wh = (8 : Int32)
        · rw [if_pos hc8] at h
          refine zw_jmp hm_260 dX12_count_41 (t := 148) (st₉ := []) rfl rfl rfl (ma_jmp_tab (by rw [hc8]; decide +kernel)) ?_
          refine zw_push hm_260 dX12_count_148 (v := .inr (.inr (some 94))) rfl ?_
          refine zw_gf hm_260 dX12_count_149 (v := .inl ((mI S) 94 50)) (zT_is (zT_pi hS) s_94) (zT_t (zT_pi hS) s_94) rfl f_12_258_12 rfl ?_
          exact zw_iret hm_260 dX12_count_152 (HQ _ _ h)
        rw [if_neg hc8] at h
        by_cases hc9 : wh = (9 : Int32)
        · rw [if_pos hc9] at h
          refine zw_jmp hm_260 dX12_count_41 (t := 153) (st₉ := []) rfl rfl rfl (ma_jmp_tab (by rw [hc9]; decide +kernel)) ?_
          refine zw_push hm_260 dX12_count_153 (v := .inr (.inr (some 94))) rfl ?_
          refine zw_gf hm_260 dX12_count_154 (v := .inl ((mI S) 94 55)) (zT_is (zT_pi hS) s_94) (zT_t (zT_pi hS) s_94) rfl f_12_261_12 rfl ?_
          exact zw_iret hm_260 dX12_count_157 (HQ _ _ h)
        rw [if_neg hc9] at h
        by_cases hc10 : wh = (10 : Int32)
        · rw [if_pos hc10] at h
          refine zw_jmp hm_260 dX12_count_41 (t := 158) (st₉ := []) rfl rfl rfl (ma_jmp_tab (by rw [hc10]; decide +kernel)) ?_
          refine zw_push hm_260 dX12_count_158 (v := .inr (.inr (some 94))) rfl ?_
          refine zw_gf hm_260 dX12_count_159 (v := .inl ((mI S) 94 10)) (zT_is (zT_pi hS) s_94) (zT_t (zT_pi hS) s_94) rfl f_12_199_12 rfl ?_
          refine zw_push hm_260 dX12_count_162 (v := .inl (3 : Int32)) rfl ?_
          refine zw_if2 hm_260 dX12_count_163 (t := 173) rfl zc2_ne ?_ ?_
          · intro hc
            rw [if_neg hc] at h
            refine zw_push hm_260 dX12_count_173 (v := .inr (.inr (some 94))) rfl ?_
            refine zw_gf hm_260 dX12_count_174 (v := .inl ((mI S) 94 10)) (zT_is (zT_pi hS) s_94) (zT_t (zT_pi hS) s_94) rfl f_12_199_12 rfl ?_
            refine zw_push hm_260 dX12_count_177 (v := .inl (6 : Int32)) rfl ?_
            refine zw_if2 hm_260 dX12_count_179 (t := 189) rfl zc2_ne ?_ ?_
            · intro hc
              rw [if_neg hc] at h
              refine zw_push hm_260 dX12_count_189 (v := .inr (.inr (some 94))) rfl ?_
              refine zw_gf hm_260 dX12_count_190 (v := .inl ((mI S) 94 10)) (zT_is (zT_pi hS) s_94) (zT_t (zT_pi hS) s_94) rfl f_12_199_12 rfl ?_
              refine zw_push hm_260 dX12_count_193 (v := .inl (5 : Int32)) rfl ?_
              refine zw_if2 hm_260 dX12_count_194 (t := 216) rfl zc2_ne ?_ ?_
              · intro hc
                rw [if_neg hc] at h
                refine zw_push hm_260 dX12_count_216 (v := .inl (0 : Int32)) rfl ?_
                exact zw_iret hm_260 dX12_count_217 (HQ _ _ h)
              · intro hc
                rw [if_pos (Classical.not_not.mp hc)] at h
                refine zw_push hm_260 dX12_count_197 (v := .inr (.inr (some 94))) rfl ?_
                refine zw_gf hm_260 dX12_count_198 (v := .inl ((mI S) 94 58)) (zT_is (zT_pi hS) s_94) (zT_t (zT_pi hS) s_94) rfl f_12_270_12 rfl ?_
                refine zw_if0 hm_260 dX12_count_201 (t := 216) rfl zc0_eq ?_ ?_
                · intro hc
                  rw [if_pos hc] at h
                  refine zw_push hm_260 dX12_count_216 (v := .inl (0 : Int32)) rfl ?_
                  exact zw_iret hm_260 dX12_count_217 (HQ _ _ h)
                · intro hc
                  rw [if_neg hc] at h
                  refine zw_push hm_260 dX12_count_204 (v := .inr (.inr (some 94))) rfl ?_
                  refine zw_gf hm_260 dX12_count_205 (v := .inl ((mI S) 94 56)) (zT_is (zT_pi hS) s_94) (zT_t (zT_pi hS) s_94) rfl f_12_264_12 rfl ?_
                  refine zw_push hm_260 dX12_count_208 (v := .inr (.inr (some 94))) rfl ?_
                  refine zw_gf hm_260 dX12_count_209 (v := .inl ((mI S) 94 57)) (zT_is (zT_pi hS) s_94) (zT_t (zT_pi hS) s_94) rfl f_12_267_12 rfl ?_
                  refine zw_stk hm_260 dX12_count_212 (st₉ := [.inl (((mI S) 94 56) - ((mI S) 94 57))]) rfl rfl ?_
                  refine zw_goto hm_260 dX12_count_213 (t := 217) rfl ?_
                  exact zw_iret hm_260 dX12_count_217 (HQ _ _ h)
            · intro hc
              rw [if_pos (Classical.not_not.mp hc)] at h
              refine zw_push hm_260 dX12_count_182 (v := .inr (.inr (some 94))) rfl ?_
              refine zw_cv hm_260 dX12_count_183 v_12_454_12 hm_233 [] [] rfl (zT_rt (zT_pi hS) s_94 rfl) ⟨by omega, by omega⟩ rfl (h _ _ (ma_put S 94 0 (.inl (0 : Int32))) _ (by omega) (by omega) (zT_pi hS) rfl (fun o9 m1 hv => ?_))
              obtain ⟨v2, rfl, h⟩ := zmi_of hv
              show ma_wp X d w 260 186 [(0, .inr (.inr (some 94))), (1, .inl wh)] [.inl v2] (zst S m1) _
              refine zw_goto hm_260 dX12_count_186 (t := 217) rfl ?_
              exact zw_iret hm_260 dX12_count_217 (HQ _ _ h)
          · intro hc
            rw [if_pos (Classical.not_not.mp hc)] at h
            refine zw_push hm_260 dX12_count_166 (v := .inr (.inr (some 94))) rfl ?_
            refine zw_cv hm_260 dX12_count_167 v_12_505_12 hm_261 [] [] rfl (zT_rt (zT_pi hS) s_94 rfl) ⟨by omega, by omega⟩ rfl (h _ _ (ma_put S 94 0 (.inl (0 : Int32))) _ (by omega) (by omega) (zT_pi hS) rfl (fun o9 m3 hv => ?_))
            obtain ⟨v4, rfl, h⟩ := zmi_of hv
            show ma_wp X d w 260 170 [(0, .inr (.inr (some 94))), (1, .inl wh)] [.inl v4] (zst S m3) _
            refine zw_goto hm_260 dX12_count_170 (t := 217) rfl ?_
            exact zw_iret hm_260 dX12_count_217 (HQ _ _ h)
        rw [if_neg hc10] at h
        by_cases hc11 : wh = (11 : Int32)
        · rw [if_pos hc11] at h
          refine zw_jmp hm_260 dX12_count_41 (t := 218) (st₉ := []) rfl rfl rfl (ma_jmp_tab (by rw [hc11]; decide +kernel)) ?_
          refine zw_push hm_260 dX12_count_218 (v := .inr (.inr (some 94))) rfl ?_
          refine zw_gf hm_260 dX12_count_219 (v := .inl ((mI S) 94 10)) (zT_is (zT_pi hS) s_94) (zT_t (zT_pi hS) s_94) rfl f_12_199_12 rfl ?_
          refine zw_push hm_260 dX12_count_222 (v := .inl (1 : Int32)) rfl ?_
          refine zw_if2 hm_260 dX12_count_223 (t := 242) rfl zc2_eq ?_ ?_
          · intro hc
            rw [if_pos hc] at h
            refine zw_push hm_260 dX12_count_242 (v := .inr (.inr (some 94))) rfl ?_
            refine zw_gf hm_260 dX12_count_243 (v := .inl ((mI S) 94 59)) (zT_is (zT_pi hS) s_94) (zT_t (zT_pi hS) s_94) rfl f_12_276_12 rfl ?_
            refine zw_goto hm_260 dX12_count_246 (t := 281) rfl ?_
            exact zw_iret hm_260 dX12_count_281 (HQ _ _ h)
          · intro hc
            rw [if_neg hc] at h
            refine zw_push hm_260 dX12_count_226 (v := .inr (.inr (some 94))) rfl ?_
            refine zw_gf hm_260 dX12_count_227 (v := .inl ((mI S) 94 10)) (zT_is (zT_pi hS) s_94) (zT_t (zT_pi hS) s_94) rfl f_12_199_12 rfl ?_
            refine zw_push hm_260 dX12_count_230 (v := .inl (2 : Int32)) rfl ?_
            refine zw_if2 hm_260 dX12_count_231 (t := 242) rfl zc2_eq ?_ ?_
            · intro hc
              rw [if_pos hc] at h
              refine zw_push hm_260 dX12_count_242 (v := .inr (.inr (some 94))) rfl ?_
              refine zw_gf hm_260 dX12_count_243 (v := .inl ((mI S) 94 59)) (zT_is (zT_pi hS) s_94) (zT_t (zT_pi hS) s_94) rfl f_12_276_12 rfl ?_
              refine zw_goto hm_260 dX12_count_246 (t := 281) rfl ?_
              exact zw_iret hm_260 dX12_count_281 (HQ _ _ h)
            · intro hc
              rw [if_neg hc] at h
              refine zw_push hm_260 dX12_count_234 (v := .inr (.inr (some 94))) rfl ?_
              refine zw_gf hm_260 dX12_count_235 (v := .inl ((mI S) 94 10)) (zT_is (zT_pi hS) s_94) (zT_t (zT_pi hS) s_94) rfl f_12_199_12 rfl ?_
              refine zw_push hm_260 dX12_count_238 (v := .inl (3 : Int32)) rfl ?_
              refine zw_if2 hm_260 dX12_count_239 (t := 249) rfl zc2_ne ?_ ?_
              · intro hc
                rw [if_neg hc] at h
                refine zw_push hm_260 dX12_count_249 (v := .inr (.inr (some 94))) rfl ?_
                refine zw_gf hm_260 dX12_count_250 (v := .inl ((mI S) 94 10)) (zT_is (zT_pi hS) s_94) (zT_t (zT_pi hS) s_94) rfl f_12_199_12 rfl ?_
                refine zw_push hm_260 dX12_count_253 (v := .inl (6 : Int32)) rfl ?_
                refine zw_if2 hm_260 dX12_count_255 (t := 280) rfl zc2_ne ?_ ?_
                · intro hc
                  rw [if_neg hc] at h
                  refine zw_push hm_260 dX12_count_280 (v := .inl (0 : Int32)) rfl ?_
                  exact zw_iret hm_260 dX12_count_281 (HQ _ _ h)
                · intro hc
                  rw [if_pos (Classical.not_not.mp hc)] at h
                  refine zw_push hm_260 dX12_count_258 (v := .inr (.inr (some 94))) rfl ?_
                  refine zw_gf hm_260 dX12_count_259 (v := .inl ((mI S) 94 63)) (zT_is (zT_pi hS) s_94) (zT_t (zT_pi hS) s_94) rfl f_12_285_12 rfl ?_
                  refine zw_push hm_260 dX12_count_262 (v := .inr (.inr (some 94))) rfl ?_
                  refine zw_gf hm_260 dX12_count_263 (v := .inl ((mI S) 94 18)) (zT_is (zT_pi hS) s_94) (zT_t (zT_pi hS) s_94) rfl f_12_222_12 rfl ?_
                  refine zw_stk hm_260 dX12_count_266 (st₉ := [.inl (((mI S) 94 63) * ((mI S) 94 18))]) rfl rfl ?_
                  refine zw_push hm_260 dX12_count_267 (v := .inr (.inr (some 94))) rfl ?_
                  refine zw_gf hm_260 dX12_count_268 (v := .inr (.inr (some 116))) (zT_is (zT_pi hS) s_94) (zT_t (zT_pi hS) s_94) rfl f_12_80_12 (zT_f (zT_pi hS) r_94_65) ?_
                  refine zw_push hm_260 dX12_count_271 (v := .inr (.inr (some 94))) rfl ?_
                  refine zw_gf hm_260 dX12_count_272 (v := .inl ((mI S) 94 63)) (zT_is (zT_pi hS) s_94) (zT_t (zT_pi hS) s_94) rfl f_12_285_12 rfl ?_
                  obtain ⟨hg, h⟩ := h
                  refine zw_ia hm_260 dX12_count_275 (zT_is (zT_pi hS) s_116) (zT_h (zT_pi hS) s_116) rfl hg ?_
                  show ma_wp X d w 260 276 [(0, .inr (.inr (some 94))), (1, .inl wh)] [.inl ((mI S) 116 ((mI S) 94 63).toNatClampNeg), .inl (((mI S) 94 63) * ((mI S) 94 18))] (ma_put S 94 0 (.inl (0 : Int32))) _
                  refine zw_stk hm_260 dX12_count_276 (st₉ := [.inl ((((mI S) 94 63) * ((mI S) 94 18)) + ((mI S) 116 ((mI S) 94 63).toNatClampNeg))]) rfl rfl ?_
                  refine zw_goto hm_260 dX12_count_277 (t := 281) rfl ?_
                  exact zw_iret hm_260 dX12_count_281 (HQ _ _ h)
              · intro hc
                rw [if_pos (Classical.not_not.mp hc)] at h
                refine zw_push hm_260 dX12_count_242 (v := .inr (.inr (some 94))) rfl ?_
                refine zw_gf hm_260 dX12_count_243 (v := .inl ((mI S) 94 59)) (zT_is (zT_pi hS) s_94) (zT_t (zT_pi hS) s_94) rfl f_12_276_12 rfl ?_
                refine zw_goto hm_260 dX12_count_246 (t := 281) rfl ?_
                exact zw_iret hm_260 dX12_count_281 (HQ _ _ h)
        rw [if_neg hc11] at h
        by_cases hc12 : wh = (12 : Int32)
        · rw [if_pos hc12] at h
          refine zw_jmp hm_260 dX12_count_41 (t := 282) (st₉ := []) rfl rfl rfl (ma_jmp_tab (by rw [hc12]; decide +kernel)) ?_
          refine zw_push hm_260 dX12_count_282 (v := .inr (.inr (some 94))) rfl ?_
          refine zw_gf hm_260 dX12_count_283 (v := .inl ((mI S) 94 58)) (zT_is (zT_pi hS) s_94) (zT_t (zT_pi hS) s_94) rfl f_12_270_12 rfl ?_
          refine zw_if0 hm_260 dX12_count_286 (t := 293) rfl zc0_eq ?_ ?_
          · intro hc
            rw [if_pos hc] at h
            refine zw_push hm_260 dX12_count_293 (v := .inl (0 : Int32)) rfl ?_
            exact zw_iret hm_260 dX12_count_294 (HQ _ _ h)
          · intro hc
            rw [if_neg hc] at h
            refine zw_push hm_260 dX12_count_289 (v := .inl (1 : Int32)) rfl ?_
            refine zw_goto hm_260 dX12_count_290 (t := 294) rfl ?_
            exact zw_iret hm_260 dX12_count_294 (HQ _ _ h)
        rw [if_neg hc12] at h
        refine zw_jmp hm_260 dX12_count_41 (t := 295) (st₉ := []) rfl rfl rfl (ma_jmp_def (m := 13) (by decide) (fun j hj => by
            have hj2 : j = 0 ∨ j = 1 ∨ j = 2 ∨ j = 3 ∨ j = 4 ∨ j = 5 ∨ j = 6 ∨ j = 7 ∨ j = 8 ∨ j = 9 ∨ j = 10 ∨ j = 11 ∨ j = 12 := by omega
            rcases hj2 with rfl | rfl | rfl | rfl | rfl | rfl | rfl | rfl | rfl | rfl | rfl | rfl | rfl
            · exact hc0
            · exact hc1
            · exact hc2
            · exact hc3
            · exact hc4
            · exact hc5
            · exact hc6
            · exact hc7
            · exact hc8
            · exact hc9
            · exact hc10
            · exact hc11
            · exact hc12
            ) rfl) ?_
        refine zw_push hm_260 dX12_count_295 (v := .inr (.inr (some 94))) rfl ?_
        refine zw_gf hm_260 dX12_count_296 (v := .inl ((mI S) 94 10)) (zT_is (zT_pi hS) s_94) (zT_t (zT_pi hS) s_94) rfl f_12_199_12 rfl ?_
        refine zw_push hm_260 dX12_count_299 (v := .inl (3 : Int32)) rfl ?_
        refine zw_if2 hm_260 dX12_count_300 (t := 310) rfl zc2_ne ?_ ?_
        · intro hc
          rw [if_neg hc] at h
          refine zw_push hm_260 dX12_count_310 (v := .inr (.inr (some 94))) rfl ?_
          refine zw_gf hm_260 dX12_count_311 (v := .inl ((mI S) 94 10)) (zT_is (zT_pi hS) s_94) (zT_t (zT_pi hS) s_94) rfl f_12_199_12 rfl ?_
          refine zw_push hm_260 dX12_count_314 (v := .inl (6 : Int32)) rfl ?_
          refine zw_if2 hm_260 dX12_count_316 (t := 326) rfl zc2_ne ?_ ?_
          · intro hc
            rw [if_neg hc] at h
            refine zw_push hm_260 dX12_count_326 (v := .inl (0 : Int32)) rfl ?_
            exact zw_iret hm_260 dX12_count_327 (HQ _ _ h)
          · intro hc
            rw [if_pos (Classical.not_not.mp hc)] at h
            refine zw_push hm_260 dX12_count_319 (v := .inr (.inr (some 94))) rfl ?_
            refine zw_gf hm_260 dX12_count_320 (v := .inl ((mI S) 94 63)) (zT_is (zT_pi hS) s_94) (zT_t (zT_pi hS) s_94) rfl f_12_285_12 rfl ?_
            refine zw_goto hm_260 dX12_count_323 (t := 327) rfl ?_
            exact zw_iret hm_260 dX12_count_327 (HQ _ _ h)
        · intro hc
          rw [if_pos (Classical.not_not.mp hc)] at h
          refine zw_push hm_260 dX12_count_303 (v := .inr (.inr (some 94))) rfl ?_
          refine zw_gf hm_260 dX12_count_304 (v := .inl ((mI S) 94 60)) (zT_is (zT_pi hS) s_94) (zT_t (zT_pi hS) s_94) rfl f_12_279_12 rfl ?_
          refine zw_goto hm_260 dX12_count_307 (t := 327) rfl ?_
          exact zw_iret hm_260 dX12_count_327 (HQ _ _ h)
      · intro hc
        rw [if_neg hc] at h
        refine zw_push hm_260 dX12_count_20 (v := .inr (.inr (some 94))) rfl ?_
        refine zw_gf hm_260 dX12_count_21 (v := .inl ((mI S) 94 8)) (zT_is hS s_94) (zT_t hS s_94) rfl f_12_237_12 rfl ?_
        refine zw_if0 hm_260 dX12_count_24 (t := 31) rfl zc0_ne ?_ ?_
        · intro hc
          rw [if_neg hc] at h
          refine zw_push hm_260 dX12_count_31 (v := .inl (0 : Int32)) rfl ?_
          refine zw_cv hm_260 dX12_count_32 v_12_110_12 hm_167 [.inl (0 : Int32)] [] rfl (zT_rt hS s_94 rfl) ⟨by omega, by omega⟩ rfl ?_
          show ma_wp X (d - 1) (w - 21) 167 0 [(0, .inr (.inr (some 94))), (1, .inl (0 : Int32))] [] S _
          refine zw_push hm_167 dX12_fails_0 (v := .inr (.inr (some 94))) rfl ?_
          refine zw_push hm_167 dX12_fails_1 (v := .inl (0 : Int32)) rfl ?_
          refine zw_pf hm_167 dX12_fails_2 (zT_is hS s_94) (zT_t hS s_94) p_12_1_12 zk_int ?_
          refine zw_push hm_167 dX12_fails_5 (v := .inl (0 : Int32)) rfl ?_
          refine zw_if0 hm_167 dX12_fails_6 (t := 13) rfl zc0_eq (fun _ => ?_) (fun hc => absurd (by decide) hc)
          refine zw_push hm_167 dX12_fails_13 (v := .inl (0 : Int32)) rfl ?_
          refine zw_bret hm_167 dX12_fails_14 (by decide) ?_
          show ma_wp X d w 260 35 [(0, .inr (.inr (some 94))), (1, .inl wh)] [.inl (0 : Int32)] (ma_put S 94 0 (.inl (0 : Int32))) _
          refine zw_if0 hm_260 dX12_count_35 (t := 40) rfl zc0_eq (fun _ => ?_) (fun hc => absurd (by decide) hc)
          refine zw_push hm_260 dX12_count_40 (v := .inl wh) rfl ?_
          by_cases hc0 : wh = (0 : Int32)
          · rw [if_pos hc0] at h
            refine zw_jmp hm_260 dX12_count_41 (t := 108) (st₉ := []) rfl rfl rfl (ma_jmp_tab (by rw [hc0]; decide +kernel)) ?_
            refine zw_push hm_260 dX12_count_108 (v := .inr (.inr (some 94))) rfl ?_
            refine zw_gf hm_260 dX12_count_109 (v := .inl ((mI S) 94 3)) (zT_is (zT_pi hS) s_94) (zT_t (zT_pi hS) s_94) rfl f_12_107_12 rfl ?_
            exact zw_iret hm_260 dX12_count_112 (HQ _ _ h)
          rw [if_neg hc0] at h
          by_cases hc1 : wh = (1 : Int32)
          · rw [if_pos hc1] at h
            refine zw_jmp hm_260 dX12_count_41 (t := 113) (st₉ := []) rfl rfl rfl (ma_jmp_tab (by rw [hc1]; decide +kernel)) ?_
            refine zw_push hm_260 dX12_count_113 (v := .inr (.inr (some 94))) rfl ?_
            refine zw_gf hm_260 dX12_count_114 (v := .inl ((mI S) 94 7)) (zT_is (zT_pi hS) s_94) (zT_t (zT_pi hS) s_94) rfl f_12_118_12 rfl ?_
            exact zw_iret hm_260 dX12_count_117 (HQ _ _ h)
          rw [if_neg hc1] at h
          by_cases hc2 : wh = (2 : Int32)
          · rw [if_pos hc2] at h
            refine zw_jmp hm_260 dX12_count_41 (t := 118) (st₉ := []) rfl rfl rfl (ma_jmp_tab (by rw [hc2]; decide +kernel)) ?_
            refine zw_push hm_260 dX12_count_118 (v := .inr (.inr (some 94))) rfl ?_
            refine zw_gf hm_260 dX12_count_119 (v := .inl ((mI S) 94 44)) (zT_is (zT_pi hS) s_94) (zT_t (zT_pi hS) s_94) rfl f_12_240_12 rfl ?_
            exact zw_iret hm_260 dX12_count_122 (HQ _ _ h)
          rw [if_neg hc2] at h
          by_cases hc3 : wh = (3 : Int32)
          · rw [if_pos hc3] at h
            refine zw_jmp hm_260 dX12_count_41 (t := 123) (st₉ := []) rfl rfl rfl (ma_jmp_tab (by rw [hc3]; decide +kernel)) ?_
            refine zw_push hm_260 dX12_count_123 (v := .inr (.inr (some 94))) rfl ?_
            refine zw_gf hm_260 dX12_count_124 (v := .inl ((mI S) 94 45)) (zT_is (zT_pi hS) s_94) (zT_t (zT_pi hS) s_94) rfl f_12_243_12 rfl ?_
            exact zw_iret hm_260 dX12_count_127 (HQ _ _ h)
          rw [if_neg hc3] at h
          by_cases hc4 : wh = (4 : Int32)
          · rw [if_pos hc4] at h
            refine zw_jmp hm_260 dX12_count_41 (t := 128) (st₉ := []) rfl rfl rfl (ma_jmp_tab (by rw [hc4]; decide +kernel)) ?_
            refine zw_push hm_260 dX12_count_128 (v := .inr (.inr (some 94))) rfl ?_
            refine zw_gf hm_260 dX12_count_129 (v := .inl ((mI S) 94 46)) (zT_is (zT_pi hS) s_94) (zT_t (zT_pi hS) s_94) rfl f_12_246_12 rfl ?_
            exact zw_iret hm_260 dX12_count_132 (HQ _ _ h)
          rw [if_neg hc4] at h
          by_cases hc5 : wh = (5 : Int32)
          · rw [if_pos hc5] at h
            refine zw_jmp hm_260 dX12_count_41 (t := 133) (st₉ := []) rfl rfl rfl (ma_jmp_tab (by rw [hc5]; decide +kernel)) ?_
            refine zw_push hm_260 dX12_count_133 (v := .inr (.inr (some 94))) rfl ?_
            refine zw_gf hm_260 dX12_count_134 (v := .inl ((mI S) 94 47)) (zT_is (zT_pi hS) s_94) (zT_t (zT_pi hS) s_94) rfl f_12_249_12 rfl ?_
            exact zw_iret hm_260 dX12_count_137 (HQ _ _ h)
          rw [if_neg hc5] at h
          by_cases hc6 : wh = (6 : Int32)
          · rw [if_pos hc6] at h
            refine zw_jmp hm_260 dX12_count_41 (t := 138) (st₉ := []) rfl rfl rfl (ma_jmp_tab (by rw [hc6]; decide +kernel)) ?_
            refine zw_push hm_260 dX12_count_138 (v := .inr (.inr (some 94))) rfl ?_
            refine zw_gf hm_260 dX12_count_139 (v := .inl ((mI S) 94 48)) (zT_is (zT_pi hS) s_94) (zT_t (zT_pi hS) s_94) rfl f_12_252_12 rfl ?_
            exact zw_iret hm_260 dX12_count_142 (HQ _ _ h)
          rw [if_neg hc6] at h
          by_cases hc7 : wh = (7 : Int32)
          · rw [if_pos hc7] at h
            refine zw_jmp hm_260 dX12_count_41 (t := 143) (st₉ := []) rfl rfl rfl (ma_jmp_tab (by rw [hc7]; decide +kernel)) ?_
            refine zw_push hm_260 dX12_count_143 (v := .inr (.inr (some 94))) rfl ?_
            refine zw_gf hm_260 dX12_count_144 (v := .inl ((mI S) 94 49)) (zT_is (zT_pi hS) s_94) (zT_t (zT_pi hS) s_94) rfl f_12_255_12 rfl ?_
            exact zw_iret hm_260 dX12_count_147 (HQ _ _ h)
          rw [if_neg hc7] at h
          by_cases hc8 : wh = (8 : Int32)
          · rw [if_pos hc8] at h
            refine zw_jmp hm_260 dX12_count_41 (t := 148) (st₉ := []) rfl rfl rfl (ma_jmp_tab (by rw [hc8]; decide +kernel)) ?_
            refine zw_push hm_260 dX12_count_148 (v := .inr (.inr (some 94))) rfl ?_
            refine zw_gf hm_260 dX12_count_149 (v := .inl ((mI S) 94 50)) (zT_is (zT_pi hS) s_94) (zT_t (zT_pi hS) s_94) rfl f_12_258_12 rfl ?_
            exact zw_iret hm_260 dX12_count_152 (HQ _ _ h)
          rw [if_neg hc8] at h
          by_cases hc9 : wh = (9 : Int32)
          · rw [if_pos hc9] at h
            refine zw_jmp hm_260 dX12_count_41 (t := 153) (st₉ := []) rfl rfl rfl (ma_jmp_tab (by rw [hc9]; decide +kernel)) ?_
            refine zw_push hm_260 dX12_count_153 (v := .inr (.inr (some 94))) rfl ?_
            refine zw_gf hm_260 dX12_count_154 (v := .inl ((mI S) 94 55)) (zT_is (zT_pi hS) s_94) (zT_t (zT_pi hS) s_94) rfl f_12_261_12 rfl ?_
            exact zw_iret hm_260 dX12_count_157 (HQ _ _ h)
          rw [if_neg hc9] at h
          by_cases hc10 : wh = (10 : Int32)
          · rw [if_pos hc10] at h
            refine zw_jmp hm_260 dX12_count_41 (t := 158) (st₉ := []) rfl rfl rfl (ma_jmp_tab (by rw [hc10]; decide +kernel)) ?_
            refine zw_push hm_260 dX12_count_158 (v := .inr (.inr (some 94))) rfl ?_
            refine zw_gf hm_260 dX12_count_159 (v := .inl ((mI S) 94 10)) (zT_is (zT_pi hS) s_94) (zT_t (zT_pi hS) s_94) rfl f_12_199_12 rfl ?_
            refine zw_push hm_260 dX12_count_162 (v := .inl (3 : Int32)) rfl ?_
            refine zw_if2 hm_260 dX12_count_163 (t := 173) rfl zc2_ne ?_ ?_
            · intro hc
              rw [if_neg hc] at h
              refine zw_push hm_260 dX12_count_173 (v := .inr (.inr (some 94))) rfl ?_
              refine zw_gf hm_260 dX12_count_174 (v := .inl ((mI S) 94 10)) (zT_is (zT_pi hS) s_94) (zT_t (zT_pi hS) s_94) rfl f_12_199_12 rfl ?_
              refine zw_push hm_260 dX12_count_177 (v := .inl (6 : Int32)) rfl ?_
              refine zw_if2 hm_260 dX12_count_179 (t := 189) rfl zc2_ne ?_ ?_
              · intro hc
                rw [if_neg hc] at h
                refine zw_push hm_260 dX12_count_189 (v := .inr (.inr (some 94))) rfl ?_
                refine zw_gf hm_260 dX12_count_190 (v := .inl ((mI S) 94 10)) (zT_is (zT_pi hS) s_94) (zT_t (zT_pi hS) s_94) rfl f_12_199_12 rfl ?_
                refine zw_push hm_260 dX12_count_193 (v := .inl (5 : Int32)) rfl ?_
                refine zw_if2 hm_260 dX12_count_194 (t := 216) rfl zc2_ne ?_ ?_
                · intro hc
                  rw [if_neg hc] at h
                  refine zw_push hm_260 dX12_count_216 (v := .inl (0 : Int32)) rfl ?_
                  exact zw_iret hm_260 dX12_count_217 (HQ _ _ h)
                · intro hc
                  rw [if_pos (Classical.not_not.mp hc)] at h
                  refine zw_push hm_260 dX12_count_197 (v := .inr (.inr (some 94))) rfl ?_
                  refine zw_gf hm_260 dX12_count_198 (v := .inl ((mI S) 94 58)) (zT_is (zT_pi hS) s_94) (zT_t (zT_pi hS) s_94) rfl f_12_270_12 rfl ?_
                  refine zw_if0 hm_260 dX12_count_201 (t := 216) rfl zc0_eq ?_ ?_
                  · intro hc
                    rw [if_pos hc] at h
                    refine zw_push hm_260 dX12_count_216 (v := .inl (0 : Int32)) rfl ?_
                    exact zw_iret hm_260 dX12_count_217 (HQ _ _ h)
                  · intro hc
                    rw [if_neg hc] at h
                    refine zw_push hm_260 dX12_count_204 (v := .inr (.inr (some 94))) rfl ?_
                    refine zw_gf hm_260 dX12_count_205 (v := .inl ((mI S) 94 56)) (zT_is (zT_pi hS) s_94) (zT_t (zT_pi hS) s_94) rfl f_12_264_12 rfl ?_
                    refine zw_push hm_260 dX12_count_208 (v := .inr (.inr (some 94))) rfl ?_
                    refine zw_gf hm_260 dX12_count_209 (v := .inl ((mI S) 94 57)) (zT_is (zT_pi hS) s_94) (zT_t (zT_pi hS) s_94) rfl f_12_267_12 rfl ?_
                    refine zw_stk hm_260 dX12_count_212 (st₉ := [.inl (((mI S) 94 56) - ((mI S) 94 57))]) rfl rfl ?_
                    refine zw_goto hm_260 dX12_count_213 (t := 217) rfl ?_
                    exact zw_iret hm_260 dX12_count_217 (HQ _ _ h)
              · intro hc
                rw [if_pos (Classical.not_not.mp hc)] at h
                refine zw_push hm_260 dX12_count_182 (v := .inr (.inr (some 94))) rfl ?_
                refine zw_cv hm_260 dX12_count_183 v_12_454_12 hm_233 [] [] rfl (zT_rt (zT_pi hS) s_94 rfl) ⟨by omega, by omega⟩ rfl (h _ _ (ma_put S 94 0 (.inl (0 : Int32))) _ (by omega) (by omega) (zT_pi hS) rfl (fun o9 m5 hv => ?_))
                obtain ⟨v6, rfl, h⟩ := zmi_of hv
                show ma_wp X d w 260 186 [(0, .inr (.inr (some 94))), (1, .inl wh)] [.inl v6] (zst S m5) _
                refine zw_goto hm_260 dX12_count_186 (t := 217) rfl ?_
                exact zw_iret hm_260 dX12_count_217 (HQ _ _ h)
            · intro hc
              rw [if_pos (Classical.not_not.mp hc)] at h
              refine zw_push hm_260 dX12_count_166 (v := .inr (.inr (some 94))) rfl ?_
              refine zw_cv hm_260 dX12_count_167 v_12_505_12 hm_261 [] [] rfl (zT_rt (zT_pi hS) s_94 rfl) ⟨by omega, by omega⟩ rfl (h _ _ (ma_put S 94 0 (.inl (0 : Int32))) _ (by omega) (by omega) (zT_pi hS) rfl (fun o9 m7 hv => ?_))
              obtain ⟨v8, rfl, h⟩ := zmi_of hv
              show ma_wp X d w 260 170 [(0, .inr (.inr (some 94))), (1, .inl wh)] [.inl v8] (zst S m7) _
              refine zw_goto hm_260 dX12_count_170 (t := 217) rfl ?_
              exact zw_iret hm_260 dX12_count_217 (HQ _ _ h)
          rw [if_neg hc10] at h
          by_cases hc11 : wh = (11 : Int32)
          · rw [if_pos hc11] at h
            refine zw_jmp hm_260 dX12_count_41 (t := 218) (st₉ := []) rfl rfl rfl (ma_jmp_tab (by rw [hc11]; decide +kernel)) ?_
            refine zw_push hm_260 dX12_count_218 (v := .inr (.inr (some 94))) rfl ?_
            refine zw_gf hm_260 dX12_count_219 (v := .inl ((mI S) 94 10)) (zT_is (zT_pi hS) s_94) (zT_t (zT_pi hS) s_94) rfl f_12_199_12 rfl ?_
            refine zw_push hm_260 dX12_count_222 (v := .inl (1 : Int32)) rfl ?_
            refine zw_if2 hm_260 dX12_count_223 (t := 242) rfl zc2_eq ?_ ?_
            · intro hc
              rw [if_pos hc] at h
              refine zw_push hm_260 dX12_count_242 (v := .inr (.inr (some 94))) rfl ?_
              refine zw_gf hm_260 dX12_count_243 (v := .inl ((mI S) 94 59)) (zT_is (zT_pi hS) s_94) (zT_t (zT_pi hS) s_94) rfl f_12_276_12 rfl ?_
              refine zw_goto hm_260 dX12_count_246 (t := 281) rfl ?_
              exact zw_iret hm_260 dX12_count_281 (HQ _ _ h)
            · intro hc
              rw [if_neg hc] at h
              refine zw_push hm_260 dX12_count_226 (v := .inr (.inr (some 94))) rfl ?_
              refine zw_gf hm_260 dX12_count_227 (v := .inl ((mI S) 94 10)) (zT_is (zT_pi hS) s_94) (zT_t (zT_pi hS) s_94) rfl f_12_199_12 rfl ?_
              refine zw_push hm_260 dX12_count_230 (v := .inl (2 : Int32)) rfl ?_
              refine zw_if2 hm_260 dX12_count_231 (t := 242) rfl zc2_eq ?_ ?_
              · intro hc
                rw [if_pos hc] at h
                refine zw_push hm_260 dX12_count_242 (v := .inr (.inr (some 94))) rfl ?_
                refine zw_gf hm_260 dX12_count_243 (v := .inl ((mI S) 94 59)) (zT_is (zT_pi hS) s_94) (zT_t (zT_pi hS) s_94) rfl f_12_276_12 rfl ?_
                refine zw_goto hm_260 dX12_count_246 (t := 281) rfl ?_
                exact zw_iret hm_260 dX12_count_281 (HQ _ _ h)
              · intro hc
                rw [if_neg hc] at h
                refine zw_push hm_260 dX12_count_234 (v := .inr (.inr (some 94))) rfl ?_
                refine zw_gf hm_260 dX12_count_235 (v := .inl ((mI S) 94 10)) (zT_is (zT_pi hS) s_94) (zT_t (zT_pi hS) s_94) rfl f_12_199_12 rfl ?_
                refine zw_push hm_260 dX12_count_238 (v := .inl (3 : Int32)) rfl ?_
                refine zw_if2 hm_260 dX12_count_239 (t := 249) rfl zc2_ne ?_ ?_
                · intro hc
                  rw [if_neg hc] at h
                  refine zw_push hm_260 dX12_count_249 (v := .inr (.inr (some 94))) rfl ?_
                  refine zw_gf hm_260 dX12_count_250 (v := .inl ((mI S) 94 10)) (zT_is (zT_pi hS) s_94) (zT_t (zT_pi hS) s_94) rfl f_12_199_12 rfl ?_
                  refine zw_push hm_260 dX12_count_253 (v := .inl (6 : Int32)) rfl ?_
                  refine zw_if2 hm_260 dX12_count_255 (t := 280) rfl zc2_ne ?_ ?_
                  · intro hc
                    rw [if_neg hc] at h
                    refine zw_push hm_260 dX12_count_280 (v := .inl (0 : Int32)) rfl ?_
                    exact zw_iret hm_260 dX12_count_281 (HQ _ _ h)
                  · intro hc
                    rw [if_pos (Classical.not_not.mp hc)] at h
                    refine zw_push hm_260 dX12_count_258 (v := .inr (.inr (some 94))) rfl ?_
                    refine zw_gf hm_260 dX12_count_259 (v := .inl ((mI S) 94 63)) (zT_is (zT_pi hS) s_94) (zT_t (zT_pi hS) s_94) rfl f_12_285_12 rfl ?_
                    refine zw_push hm_260 dX12_count_262 (v := .inr (.inr (some 94))) rfl ?_
                    refine zw_gf hm_260 dX12_count_263 (v := .inl ((mI S) 94 18)) (zT_is (zT_pi hS) s_94) (zT_t (zT_pi hS) s_94) rfl f_12_222_12 rfl ?_
                    refine zw_stk hm_260 dX12_count_266 (st₉ := [.inl (((mI S) 94 63) * ((mI S) 94 18))]) rfl rfl ?_
                    refine zw_push hm_260 dX12_count_267 (v := .inr (.inr (some 94))) rfl ?_
                    refine zw_gf hm_260 dX12_count_268 (v := .inr (.inr (some 116))) (zT_is (zT_pi hS) s_94) (zT_t (zT_pi hS) s_94) rfl f_12_80_12 (zT_f (zT_pi hS) r_94_65) ?_
                    refine zw_push hm_260 dX12_count_271 (v := .inr (.inr (some 94))) rfl ?_
                    refine zw_gf hm_260 dX12_count_272 (v := .inl ((mI S) 94 63)) (zT_is (zT_pi hS) s_94) (zT_t (zT_pi hS) s_94) rfl f_12_285_12 rfl ?_
                    obtain ⟨hg, h⟩ := h
                    refine zw_ia hm_260 dX12_count_275 (zT_is (zT_pi hS) s_116) (zT_h (zT_pi hS) s_116) rfl hg ?_
                    show ma_wp X d w 260 276 [(0, .inr (.inr (some 94))), (1, .inl wh)] [.inl ((mI S) 116 ((mI S) 94 63).toNatClampNeg), .inl (((mI S) 94 63) * ((mI S) 94 18))] (ma_put S 94 0 (.inl (0 : Int32))) _
                    refine zw_stk hm_260 dX12_count_276 (st₉ := [.inl ((((mI S) 94 63) * ((mI S) 94 18)) + ((mI S) 116 ((mI S) 94 63).toNatClampNeg))]) rfl rfl ?_
                    refine zw_goto hm_260 dX12_count_277 (t := 281) rfl ?_
                    exact zw_iret hm_260 dX12_count_281 (HQ _ _ h)
                · intro hc
                  rw [if_pos (Classical.not_not.mp hc)] at h
                  refine zw_push hm_260 dX12_count_242 (v := .inr (.inr (some 94))) rfl ?_
                  refine zw_gf hm_260 dX12_count_243 (v := .inl ((mI S) 94 59)) (zT_is (zT_pi hS) s_94) (zT_t (zT_pi hS) s_94) rfl f_12_276_12 rfl ?_
                  refine zw_goto hm_260 dX12_count_246 (t := 281) rfl ?_
                  exact zw_iret hm_260 dX12_count_281 (HQ _ _ h)
          rw [if_neg hc11] at h
          by_cases hc12 : wh = (12 : Int32)
          · rw [if_pos hc12] at h
            refine zw_jmp hm_260 dX12_count_41 (t := 282) (st₉ := []) rfl rfl rfl (ma_jmp_tab (by rw [hc12]; decide +kernel)) ?_
            refine zw_push hm_260 dX12_count_282 (v := .inr (.inr (some 94))) rfl ?_
            refine zw_gf hm_260 dX12_count_283 (v := .inl ((mI S) 94 58)) (zT_is (zT_pi hS) s_94) (zT_t (zT_pi hS) s_94) rfl f_12_270_12 rfl ?_
            refine zw_if0 hm_260 dX12_count_286 (t := 293) rfl zc0_eq ?_ ?_
            · intro hc
              rw [if_pos hc] at h
              refine zw_push hm_260 dX12_count_293 (v := .inl (0 : Int32)) rfl ?_
              exact zw_iret hm_260 dX12_count_294 (HQ _ _ h)
            · intro hc
              rw [if_neg hc] at h
              refine zw_push hm_260 dX12_count_289 (v := .inl (1 : Int32)) rfl ?_
              refine zw_goto hm_260 dX12_count_290 (t := 294) rfl ?_
              exact zw_iret hm_260 dX12_count_294 (HQ _ _ h)
          rw [if_neg hc12] at h
          refine zw_jmp hm_260 dX12_count_41 (t := 295) (st₉ := []) rfl rfl rfl (ma_jmp_def (m := 13) (by decide) (fun j hj => by
              have hj2 : j = 0 ∨ j = 1 ∨ j = 2 ∨ j = 3 ∨ j = 4 ∨ j = 5 ∨ j = 6 ∨ j = 7 ∨ j = 8 ∨ j = 9 ∨ j = 10 ∨ j = 11 ∨ j = 12 := by omega
              rcases hj2 with rfl | rfl | rfl | rfl | rfl | rfl | rfl | rfl | rfl | rfl | rfl | rfl | rfl
              · exact hc0
              · exact hc1
              · exact hc2
              · exact hc3
              · exact hc4
              · exact hc5
              · exact hc6
              · exact hc7
              · exact hc8
              · exact hc9
              · exact hc10
              · exact hc11
              · exact hc12
              ) rfl) ?_
          refine zw_push hm_260 dX12_count_295 (v := .inr (.inr (some 94))) rfl ?_
          refine zw_gf hm_260 dX12_count_296 (v := .inl ((mI S) 94 10)) (zT_is (zT_pi hS) s_94) (zT_t (zT_pi hS) s_94) rfl f_12_199_12 rfl ?_
          refine zw_push hm_260 dX12_count_299 (v := .inl (3 : Int32)) rfl ?_
          refine zw_if2 hm_260 dX12_count_300 (t := 310) rfl zc2_ne ?_ ?_
          · intro hc
            rw [if_neg hc] at h
            refine zw_push hm_260 dX12_count_310 (v := .inr (.inr (some 94))) rfl ?_
            refine zw_gf hm_260 dX12_count_311 (v := .inl ((mI S) 94 10)) (zT_is (zT_pi hS) s_94) (zT_t (zT_pi hS) s_94) rfl f_12_199_12 rfl ?_
            refine zw_push hm_260 dX12_count_314 (v := .inl (6 : Int32)) rfl ?_
            refine zw_if2 hm_260 dX12_count_316 (t := 326) rfl zc2_ne ?_ ?_
            · intro hc
              rw [if_neg hc] at h
              refine zw_push hm_260 dX12_count_326 (v := .inl (0 : Int32)) rfl ?_
              exact zw_iret hm_260 dX12_count_327 (HQ _ _ h)
            · intro hc
              rw [if_pos (Classical.not_not.mp hc)] at h
              refine zw_push hm_260 dX12_count_319 (v := .inr (.inr (some 94))) rfl ?_
              refine zw_gf hm_260 dX12_count_320 (v := .inl ((mI S) 94 63)) (zT_is (zT_pi hS) s_94) (zT_t (zT_pi hS) s_94) rfl f_12_285_12 rfl ?_
              refine zw_goto hm_260 dX12_count_323 (t := 327) rfl ?_
              exact zw_iret hm_260 dX12_count_327 (HQ _ _ h)
          · intro hc
            rw [if_pos (Classical.not_not.mp hc)] at h
            refine zw_push hm_260 dX12_count_303 (v := .inr (.inr (some 94))) rfl ?_
            refine zw_gf hm_260 dX12_count_304 (v := .inl ((mI S) 94 60)) (zT_is (zT_pi hS) s_94) (zT_t (zT_pi hS) s_94) rfl f_12_279_12 rfl ?_
            refine zw_goto hm_260 dX12_count_307 (t := 327) rfl ?_
            exact zw_iret hm_260 dX12_count_327 (HQ _ _ h)
        · intro hc
          rw [if_pos (Classical.not_not.mp hc)] at h
          refine zw_push hm_260 dX12_count_27 (v := .inl (2 : Int32)) rfl ?_
          refine zw_goto hm_260 dX12_count_28 (t := 32) rfl ?_
          refine zw_cv hm_260 dX12_count_32 v_12_110_12 hm_167 [.inl (2 : Int32)] [] rfl (zT_rt hS s_94 rfl) ⟨by omega, by omega⟩ rfl ?_
          show ma_wp X (d - 1) (w - 21) 167 0 [(0, .inr (.inr (some 94))), (1, .inl (2 : Int32))] [] S _
          refine zw_push hm_167 dX12_fails_0 (v := .inr (.inr (some 94))) rfl ?_
          refine zw_push hm_167 dX12_fails_1 (v := .inl (2 : Int32)) rfl ?_
          refine zw_pf hm_167 dX12_fails_2 (zT_is hS s_94) (zT_t hS s_94) p_12_1_12 zk_int ?_
          refine zw_push hm_167 dX12_fails_5 (v := .inl (2 : Int32)) rfl ?_
          refine zw_if0 hm_167 dX12_fails_6 (t := 13) rfl zc0_eq (fun hc => absurd hc (by decide)) (fun _ => ?_)
          refine zw_push hm_167 dX12_fails_9 (v := .inl (1 : Int32)) rfl ?_
          refine zw_goto hm_167 dX12_fails_10 (t := 14) rfl ?_
          refine zw_bret hm_167 dX12_fails_14 (by decide) ?_
          show ma_wp X d w 260 35 [(0, .inr (.inr (some 94))), (1, .inl wh)] [.inl (1 : Int32)] (ma_put S 94 0 (.inl (2 : Int32))) _
          refine zw_if0 hm_260 dX12_count_35 (t := 40) rfl zc0_eq (fun hc => absurd hc (by decide)) (fun _ => ?_)
          refine zw_push hm_260 dX12_count_38 (v := .inl (0 : Int32)) rfl ?_
          exact zw_iret hm_260 dX12_count_39 (HQ _ _ h)
    · intro hc
      rw [if_neg hc] at h
      refine zw_push hm_260 dX12_count_11 (v := .inl (1 : Int32)) rfl ?_
      refine zw_goto hm_260 dX12_count_12 (t := 32) rfl ?_
      refine zw_cv hm_260 dX12_count_32 v_12_110_12 hm_167 [.inl (1 : Int32)] [] rfl (zT_rt hS s_94 rfl) ⟨by omega, by omega⟩ rfl ?_
      show ma_wp X (d - 1) (w - 21) 167 0 [(0, .inr (.inr (some 94))), (1, .inl (1 : Int32))] [] S _
      refine zw_push hm_167 dX12_fails_0 (v := .inr (.inr (some 94))) rfl ?_
      refine zw_push hm_167 dX12_fails_1 (v := .inl (1 : Int32)) rfl ?_
      refine zw_pf hm_167 dX12_fails_2 (zT_is hS s_94) (zT_t hS s_94) p_12_1_12 zk_int ?_
      refine zw_push hm_167 dX12_fails_5 (v := .inl (1 : Int32)) rfl ?_
      refine zw_if0 hm_167 dX12_fails_6 (t := 13) rfl zc0_eq (fun hc => absurd hc (by decide)) (fun _ => ?_)
      refine zw_push hm_167 dX12_fails_9 (v := .inl (1 : Int32)) rfl ?_
      refine zw_goto hm_167 dX12_fails_10 (t := 14) rfl ?_
      refine zw_bret hm_167 dX12_fails_14 (by decide) ?_
      show ma_wp X d w 260 35 [(0, .inr (.inr (some 94))), (1, .inl wh)] [.inl (1 : Int32)] (ma_put S 94 0 (.inl (1 : Int32))) _
      refine zw_if0 hm_260 dX12_count_35 (t := 40) rfl zc0_eq (fun hc => absurd hc (by decide)) (fun _ => ?_)
      refine zw_push hm_260 dX12_count_38 (v := .inl (0 : Int32)) rfl ?_
      exact zw_iret hm_260 dX12_count_39 (HQ _ _ h)
theorem sp_260 {X : Nat × (Nat → Int32)} {P : Option ma_V → (Nat → Nat → Int32) → Prop} {T : Nat} {m : Nat → Nat → Int32} (wh : Int32) (hV : zV m) (r_W : zW (m 94 7) (m 98) (m 101) (m 102) (m 108)) (r_GW : zGW T (m 94 55) (m 109)) (r_GU : zGU T (m 94 46) (m 99)) (r_OW : zOw (m 99) (m 103) (m 111)) (r_DX : zDX (m 94 10) (m 99) (m 112) (m 113) (m 114) (m 94 55) (m 98) (m 101) (m 102) (m 108)) (r_GG : zGG (m 94 58) (m 94 56) (m 94 57) (m 106)) (r_HA : zHA (m 94 10) (m 94 11) (m 94 13) (m 94 14) (m 94 16) (m 94 61) (m 94 59) (m 94 60) (m 99) (m 102) (m 103) (m 111) (m 117) (m 98) (m 101) (m 108)) (r_RGc : zRG (m 94 10) (m 94 18) (m 94 64) (m 94 63) (m 99) (m 103) (m 102) (m 116)) (hpre8 : (m 94 58).toInt = 0 ∨ (m 94 10).toInt = 5) (KZ : ∀ v m₉, zV (zov wr_260 m m₉) → (zW (m 94 7) (m 98) (m 101) (m 102) (m 108)) → (zGW T (m 94 55) (m 109)) → (zGU T (m 94 46) (m 99)) → (zOw (m 99) (m 103) (m 111)) → (zDX (m 94 10) (m 99) (m 112) (m 113) (m 114) (m 94 55) (m 98) (m 101) (m 102) (m 108)) → (zGG (m 94 58) (m 94 56) (m 94 57) (m 106)) → (zHA (m 94 10) (m 94 11) (m 94 13) (m 94 14) (m 94 16) (m 94 61) (m 94 59) (m 94 60) (m 99) (m 102) (m 103) (m 111) (m 117) (m 98) (m 101) (m 108)) → (zRG (m 94 10) (m 94 18) (m 94 64) (m 94 63) (m 99) (m 103) (m 102) (m 116)) → ((m 94 58).toInt = 0 ∨ (m 94 10).toInt = 5) → P (some (.inl v)) (zov wr_260 m m₉)) : zm X 1 22 260 0 [(0, .inr (.inr (some 94))), (1, .inl wh)] m P := by
  have K : ∀ v m₉, zF wr_260 m m₉ → zV m₉ → (zW (m₉ 94 7) (m₉ 98) (m₉ 101) (m₉ 102) (m₉ 108)) → (zGW T (m₉ 94 55) (m₉ 109)) → (zGU T (m₉ 94 46) (m₉ 99)) → (zOw (m₉ 99) (m₉ 103) (m₉ 111)) → (zDX (m₉ 94 10) (m₉ 99) (m₉ 112) (m₉ 113) (m₉ 114) (m₉ 94 55) (m₉ 98) (m₉ 101) (m₉ 102) (m₉ 108)) → (zGG (m₉ 94 58) (m₉ 94 56) (m₉ 94 57) (m₉ 106)) → (zHA (m₉ 94 10) (m₉ 94 11) (m₉ 94 13) (m₉ 94 14) (m₉ 94 16) (m₉ 94 61) (m₉ 94 59) (m₉ 94 60) (m₉ 99) (m₉ 102) (m₉ 103) (m₉ 111) (m₉ 117) (m₉ 98) (m₉ 101) (m₉ 108)) → (zRG (m₉ 94 10) (m₉ 94 18) (m₉ 94 64) (m₉ 94 63) (m₉ 99) (m₉ 103) (m₉ 102) (m₉ 116)) → ((m₉ 94 58).toInt = 0 ∨ (m₉ 94 10).toInt = 5) → P (some (.inl v)) m₉ := by
    intro v m₉ hf z q0 q1 q2 q3 q4 q5 q6 q7 q8
    have e := zov_eq hf
    rw [e] at z ⊢
    try rw [e] at q0
    try rw [e] at q1
    try rw [e] at q2
    try rw [e] at q3
    try rw [e] at q4
    try rw [e] at q5
    try rw [e] at q6
    try rw [e] at q7
    try rw [e] at q8
    exact KZ v m₉ z q0 q1 q2 q3 q4 q5 q6 q7 q8
  refine g_260_0 wh ?_
  have f1 : 0 ≤ (m 94 58).toInt ∧ (m 94 58).toInt ≤ 1 := rs_94_58 (m := m) hV
  have f2 : 0 ≤ (m 94 10).toInt ∧ (m 94 10).toInt ≤ 6 := rs_94_10 (m := m) hV
  have b3 := i_bd wh
  have li4 : (0 : Int32).toInt = 0 := rfl
  refine zd (fun (h5 : wh < (0 : Int32)) => ?_) (fun (h5 : ¬ wh < (0 : Int32)) => ?_)
  · skip
    have g6 := i_lt h5
    have hV7 : zV (ma_u m 94 0 (1 : Int32)) := uf_94_0 hV
    exact K ((0 : Int32)) _ (zF_u zF_rfl rfl) hV7 r_W r_GW r_GU r_OW r_DX r_GG r_HA r_RGc (show (m 94 58).toInt = 0 ∨ (m 94 10).toInt = 5 from by omega)
  · skip
    have g8 := i_nlt h5
    have li9 : (13 : Int32).toInt = 13 := rfl
    refine zd (fun (h10 : wh ≤ (13 : Int32)) => ?_) (fun (h10 : ¬ wh ≤ (13 : Int32)) => ?_)
    · skip
      have g11 := i_le h10
      have li12 : (1 : Int32).toInt = 1 := rfl
      refine zd (fun (h13 : wh ≤ (1 : Int32)) => ?_) (fun (h13 : ¬ wh ≤ (1 : Int32)) => ?_)
      · skip
        have g14 := i_le h13
        refine zd (fun (h15 : wh = (0 : Int32)) => ?_) (fun (h15 : ¬ wh = (0 : Int32)) => ?_)
        · skip
          have g16 := i_eq h15
          have hV17 : zV (ma_u m 94 0 (0 : Int32)) := uf_94_0 hV
          have f18 : 0 ≤ (m 94 3).toInt ∧ (m 94 3).toInt ≤ 100 := rs_94_3 (m := m) hV
          exact K ((m 94 3)) _ (zF_u zF_rfl rfl) hV17 r_W r_GW r_GU r_OW r_DX r_GG r_HA r_RGc (show (m 94 58).toInt = 0 ∨ (m 94 10).toInt = 5 from by omega)
        · skip
          have g19 := i_ne h15
          refine zd (fun (h20 : wh = (1 : Int32)) => ?_) (fun (h20 : ¬ wh = (1 : Int32)) => ?_)
          · skip
            have g21 := i_eq h20
            have hV22 : zV (ma_u m 94 0 (0 : Int32)) := uf_94_0 hV
            have f23 : 0 ≤ (m 94 7).toInt ∧ (m 94 7).toInt ≤ 16 := rs_94_7 (m := m) hV
            exact K ((m 94 7)) _ (zF_u zF_rfl rfl) hV22 r_W r_GW r_GU r_OW r_DX r_GG r_HA r_RGc (show (m 94 58).toInt = 0 ∨ (m 94 10).toInt = 5 from by omega)
          · skip
            have g24 := i_ne h20
            have li25 : (2 : Int32).toInt = 2 := rfl
            refine zd (fun (h26 : wh = (2 : Int32)) => ?_) (fun (h26 : ¬ wh = (2 : Int32)) => ?_)
            · skip
              have g27 := i_eq h26
              have hV28 : zV (ma_u m 94 0 (0 : Int32)) := uf_94_0 hV
              have b29 := i_bd (m 94 44)
              exact K ((m 94 44)) _ (zF_u zF_rfl rfl) hV28 r_W r_GW r_GU r_OW r_DX r_GG r_HA r_RGc (show (m 94 58).toInt = 0 ∨ (m 94 10).toInt = 5 from by omega)
            · skip
              have g30 := i_ne h26
              have li31 : (3 : Int32).toInt = 3 := rfl
              refine zd (fun (h32 : wh = (3 : Int32)) => ?_) (fun (h32 : ¬ wh = (3 : Int32)) => ?_)
              · skip
                have g33 := i_eq h32
                have hV34 : zV (ma_u m 94 0 (0 : Int32)) := uf_94_0 hV
                have b35 := i_bd (m 94 45)
                exact K ((m 94 45)) _ (zF_u zF_rfl rfl) hV34 r_W r_GW r_GU r_OW r_DX r_GG r_HA r_RGc (show (m 94 58).toInt = 0 ∨ (m 94 10).toInt = 5 from by omega)
              · skip
                have g36 := i_ne h32
                have li37 : (4 : Int32).toInt = 4 := rfl
                refine zd (fun (h38 : wh = (4 : Int32)) => ?_) (fun (h38 : ¬ wh = (4 : Int32)) => ?_)
                · skip
                  have g39 := i_eq h38
                  have hV40 : zV (ma_u m 94 0 (0 : Int32)) := uf_94_0 hV
                  have f41 : 0 ≤ (m 94 46).toInt ∧ (m 94 46).toInt ≤ 100000 := rs_94_46 (m := m) hV
                  exact K ((m 94 46)) _ (zF_u zF_rfl rfl) hV40 r_W r_GW r_GU r_OW r_DX r_GG r_HA r_RGc (show (m 94 58).toInt = 0 ∨ (m 94 10).toInt = 5 from by omega)
                · skip
                  have g42 := i_ne h38
                  have li43 : (5 : Int32).toInt = 5 := rfl
                  refine zd (fun (h44 : wh = (5 : Int32)) => ?_) (fun (h44 : ¬ wh = (5 : Int32)) => ?_)
                  · skip
                    have g45 := i_eq h44
                    have hV46 : zV (ma_u m 94 0 (0 : Int32)) := uf_94_0 hV
                    have b47 := i_bd (m 94 47)
                    exact K ((m 94 47)) _ (zF_u zF_rfl rfl) hV46 r_W r_GW r_GU r_OW r_DX r_GG r_HA r_RGc (show (m 94 58).toInt = 0 ∨ (m 94 10).toInt = 5 from by omega)
                  · skip
                    have g48 := i_ne h44
                    have li49 : (6 : Int32).toInt = 6 := rfl
                    refine zd (fun (h50 : wh = (6 : Int32)) => ?_) (fun (h50 : ¬ wh = (6 : Int32)) => ?_)
                    · skip
                      have g51 := i_eq h50
                      have hV52 : zV (ma_u m 94 0 (0 : Int32)) := uf_94_0 hV
                      have b53 := i_bd (m 94 48)
                      exact K ((m 94 48)) _ (zF_u zF_rfl rfl) hV52 r_W r_GW r_GU r_OW r_DX r_GG r_HA r_RGc (show (m 94 58).toInt = 0 ∨ (m 94 10).toInt = 5 from by omega)
                    · skip
                      have g54 := i_ne h50
                      have li55 : (7 : Int32).toInt = 7 := rfl
                      refine zd (fun (h56 : wh = (7 : Int32)) => ?_) (fun (h56 : ¬ wh = (7 : Int32)) => ?_)
                      · skip
                        have g57 := i_eq h56
                        have hV58 : zV (ma_u m 94 0 (0 : Int32)) := uf_94_0 hV
                        have b59 := i_bd (m 94 49)
                        exact K ((m 94 49)) _ (zF_u zF_rfl rfl) hV58 r_W r_GW r_GU r_OW r_DX r_GG r_HA r_RGc (show (m 94 58).toInt = 0 ∨ (m 94 10).toInt = 5 from by omega)
                      · skip
                        have g60 := i_ne h56
                        have li61 : (8 : Int32).toInt = 8 := rfl
                        refine zd (fun (h62 : wh = (8 : Int32)) => ?_) (fun (h62 : ¬ wh = (8 : Int32)) => ?_)
                        · skip
                          have g63 := i_eq h62
                          have hV64 : zV (ma_u m 94 0 (0 : Int32)) := uf_94_0 hV
                          have b65 := i_bd (m 94 50)
                          exact K ((m 94 50)) _ (zF_u zF_rfl rfl) hV64 r_W r_GW r_GU r_OW r_DX r_GG r_HA r_RGc (show (m 94 58).toInt = 0 ∨ (m 94 10).toInt = 5 from by omega)
                        · skip
                          have g66 := i_ne h62
                          have li67 : (9 : Int32).toInt = 9 := rfl
                          refine zd (fun (h68 : wh = (9 : Int32)) => ?_) (fun (h68 : ¬ wh = (9 : Int32)) => ?_)
                          · skip
                            have g69 := i_eq h68
                            have hV70 : zV (ma_u m 94 0 (0 : Int32)) := uf_94_0 hV
                            have f71 : 0 ≤ (m 94 55).toInt ∧ (m 94 55).toInt ≤ 3100 := rs_94_55 (m := m) hV
                            exact K ((m 94 55)) _ (zF_u zF_rfl rfl) hV70 r_W r_GW r_GU r_OW r_DX r_GG r_HA r_RGc (show (m 94 58).toInt = 0 ∨ (m 94 10).toInt = 5 from by omega)
                          · skip
                            have g72 := i_ne h68
                            have li73 : (10 : Int32).toInt = 10 := rfl
                            refine zd (fun (h74 : wh = (10 : Int32)) => ?_) (fun (h74 : ¬ wh = (10 : Int32)) => ?_)
                            · skip
                              have g75 := i_eq h74
                              refine zd (fun (h76 : (m 94 10) = (3 : Int32)) => ?_) (fun (h76 : ¬ (m 94 10) = (3 : Int32)) => ?_)
                              · skip
                                have g77 := i_eq h76
                                have hV78 : zV (ma_u m 94 0 (0 : Int32)) := uf_94_0 hV
                                refine sp_261  hV78  (fun v4 m3 hV_m3  => zmi_n ?_)
                                have b79 := i_bd v4
                                exact K (v4) _ (zF_zov (zF_u zF_rfl rfl) ws_261_260) hV_m3 r_W r_GW r_GU r_OW r_DX r_GG r_HA r_RGc (show (m 94 58).toInt = 0 ∨ (m 94 10).toInt = 5 from by omega)
                              · skip
                                have g80 := i_ne h76
                                refine zd (fun (h81 : (m 94 10) = (6 : Int32)) => ?_) (fun (h81 : ¬ (m 94 10) = (6 : Int32)) => ?_)
                                · skip
                                  have g82 := i_eq h81
                                  have hV83 : zV (ma_u m 94 0 (0 : Int32)) := uf_94_0 hV
                                  refine sp_233  hV83  (fun v2 m1 hV_m1 p0_m1 => zmi_n ?_)
                                  have p0_m1 : v2.toInt ≤ 0 ∨ ∃ r : Nat, (r : Int) < (m 94 64).toInt ∧ (m 116) r = 0 := p0_m1
                                  have b84 := i_bd v2
                                  exact K (v2) _ (zF_zov (zF_u zF_rfl rfl) ws_233_260) hV_m1 r_W r_GW r_GU r_OW r_DX r_GG r_HA r_RGc (show (m 94 58).toInt = 0 ∨ (m 94 10).toInt = 5 from by omega)
                                · skip
                                  have g85 := i_ne h81
                                  refine zd (fun (h86 : (m 94 10) = (5 : Int32)) => ?_) (fun (h86 : ¬ (m 94 10) = (5 : Int32)) => ?_)
                                  · skip
                                    have g87 := i_eq h86
                                    refine zd (fun (h88 : (m 94 58) = (0 : Int32)) => ?_) (fun (h88 : ¬ (m 94 58) = (0 : Int32)) => ?_)
                                    · skip
                                      have g89 := i_eq h88
                                      have hV90 : zV (ma_u m 94 0 (0 : Int32)) := uf_94_0 hV
                                      exact K ((0 : Int32)) _ (zF_u zF_rfl rfl) hV90 r_W r_GW r_GU r_OW r_DX r_GG r_HA r_RGc (show (m 94 58).toInt = 0 ∨ (m 94 10).toInt = 5 from by omega)
                                    · skip
                                      have g91 := i_ne h88
                                      have hV92 : zV (ma_u m 94 0 (0 : Int32)) := uf_94_0 hV
                                      have f93 : 0 ≤ (m 94 56).toInt ∧ (m 94 56).toInt ≤ 3100 := rs_94_56 (m := m) hV
                                      have f94 : 0 ≤ (m 94 57).toInt ∧ (m 94 57).toInt ≤ 3100 := rs_94_57 (m := m) hV
                                      first | have e95 : ((m 94 56) - (m 94 57)).toInt = (m 94 56).toInt - (m 94 57).toInt := i_sub (by omega) (by omega) | have b96 := i_bd ((m 94 56) - (m 94 57))
                                      exact K (((m 94 56) - (m 94 57))) _ (zF_u zF_rfl rfl) hV92 r_W r_GW r_GU r_OW r_DX r_GG r_HA r_RGc (show (m 94 58).toInt = 0 ∨ (m 94 10).toInt = 5 from by omega)
                                  · skip
                                    have g97 := i_ne h86
                                    have hV98 : zV (ma_u m 94 0 (0 : Int32)) := uf_94_0 hV
                                    exact K ((0 : Int32)) _ (zF_u zF_rfl rfl) hV98 r_W r_GW r_GU r_OW r_DX r_GG r_HA r_RGc (show (m 94 58).toInt = 0 ∨ (m 94 10).toInt = 5 from by omega)
                            · skip
                              have g99 := i_ne h74
                              have li100 : (11 : Int32).toInt = 11 := rfl
                              refine zd (fun (h101 : wh = (11 : Int32)) => ?_) (fun (h101 : ¬ wh = (11 : Int32)) => ?_)
                              · skip
                                have g102 := i_eq h101
                                refine zd (fun (h103 : (m 94 10) = (1 : Int32)) => ?_) (fun (h103 : ¬ (m 94 10) = (1 : Int32)) => ?_)
                                · skip
                                  have g104 := i_eq h103
                                  have hV105 : zV (ma_u m 94 0 (0 : Int32)) := uf_94_0 hV
                                  have f106 : 0 ≤ (m 94 59).toInt ∧ (m 94 59).toInt ≤ 4600 := rs_94_59 (m := m) hV
                                  exact K ((m 94 59)) _ (zF_u zF_rfl rfl) hV105 r_W r_GW r_GU r_OW r_DX r_GG r_HA r_RGc (show (m 94 58).toInt = 0 ∨ (m 94 10).toInt = 5 from by omega)
                                · skip
                                  have g107 := i_ne h103
                                  refine zd (fun (h108 : (m 94 10) = (2 : Int32)) => ?_) (fun (h108 : ¬ (m 94 10) = (2 : Int32)) => ?_)
                                  · skip
                                    have g109 := i_eq h108
                                    have hV110 : zV (ma_u m 94 0 (0 : Int32)) := uf_94_0 hV
                                    have f111 : 0 ≤ (m 94 59).toInt ∧ (m 94 59).toInt ≤ 4600 := rs_94_59 (m := m) hV
                                    exact K ((m 94 59)) _ (zF_u zF_rfl rfl) hV110 r_W r_GW r_GU r_OW r_DX r_GG r_HA r_RGc (show (m 94 58).toInt = 0 ∨ (m 94 10).toInt = 5 from by omega)
                                  · skip
                                    have g112 := i_ne h108
                                    refine zd (fun (h113 : (m 94 10) = (3 : Int32)) => ?_) (fun (h113 : ¬ (m 94 10) = (3 : Int32)) => ?_)
                                    · skip
                                      have g114 := i_eq h113
                                      have hV115 : zV (ma_u m 94 0 (0 : Int32)) := uf_94_0 hV
                                      have f116 : 0 ≤ (m 94 59).toInt ∧ (m 94 59).toInt ≤ 4600 := rs_94_59 (m := m) hV
                                      exact K ((m 94 59)) _ (zF_u zF_rfl rfl) hV115 r_W r_GW r_GU r_OW r_DX r_GG r_HA r_RGc (show (m 94 58).toInt = 0 ∨ (m 94 10).toInt = 5 from by omega)
                                    · skip
                                      have g117 := i_ne h113
                                      refine zd (fun (h118 : (m 94 10) = (6 : Int32)) => ?_) (fun (h118 : ¬ (m 94 10) = (6 : Int32)) => ?_)
                                      · skip
                                        have g119 := i_eq h118
                                        have f120 : 0 ≤ (m 94 63).toInt ∧ (m 94 63).toInt ≤ 127 := rs_94_63 (m := m) hV
                                        have hg121 : (0 ≤ (m 94 63) ∧ (m 94 63).toNatClampNeg < 128) := i_ix (by omega) (by omega)
                                        refine ⟨hg121, ?_⟩
                                        have hV122 : zV (ma_u m 94 0 (0 : Int32)) := uf_94_0 hV
                                        have f123 : 0 ≤ (m 94 18).toInt ∧ (m 94 18).toInt ≤ 256 := rs_94_18 (m := m) hV
                                        first | have f124 := i_muln (x := (m 94 63)) (y := (m 94 18)) (by omega) (by omega) (by omega) (by omega) | have b125 := i_bd ((m 94 63) * (m 94 18))
                                        first | have f126 : 0 ≤ (m 116 (m 94 63).toNatClampNeg).toInt ∧ (m 116 (m 94 63).toNatClampNeg).toInt ≤ 4600 := ra_116 (m := m) hV (k := (m 94 63).toNatClampNeg) (i_ix (n := 128) (by omega) (by omega)).2 | have b127 := i_bd (m 116 (m 94 63).toNatClampNeg)
                                        first | have e128 : (((m 94 63) * (m 94 18)) + (m 116 (m 94 63).toNatClampNeg)).toInt = ((m 94 63) * (m 94 18)).toInt + (m 116 (m 94 63).toNatClampNeg).toInt := i_add (by omega) (by omega) | have b129 := i_bd (((m 94 63) * (m 94 18)) + (m 116 (m 94 63).toNatClampNeg))
                                        exact K ((((m 94 63) * (m 94 18)) + (m 116 (m 94 63).toNatClampNeg))) _ (zF_u zF_rfl rfl) hV122 r_W r_GW r_GU r_OW r_DX r_GG r_HA r_RGc (show (m 94 58).toInt = 0 ∨ (m 94 10).toInt = 5 from by omega)
                                      · skip
                                        have g130 := i_ne h118
                                        have hV131 : zV (ma_u m 94 0 (0 : Int32)) := uf_94_0 hV
                                        exact K ((0 : Int32)) _ (zF_u zF_rfl rfl) hV131 r_W r_GW r_GU r_OW r_DX r_GG r_HA r_RGc (show (m 94 58).toInt = 0 ∨ (m 94 10).toInt = 5 from by omega)
                              · skip
                                have g132 := i_ne h101
                                have li133 : (12 : Int32).toInt = 12 := rfl
                                refine zd (fun (h134 : wh = (12 : Int32)) => ?_) (fun (h134 : ¬ wh = (12 : Int32)) => ?_)
                                · skip
                                  have g135 := i_eq h134
                                  refine zd (fun (h136 : (m 94 58) = (0 : Int32)) => ?_) (fun (h136 : ¬ (m 94 58) = (0 : Int32)) => ?_)
                                  · skip
                                    have g137 := i_eq h136
                                    have hV138 : zV (ma_u m 94 0 (0 : Int32)) := uf_94_0 hV
                                    exact K ((0 : Int32)) _ (zF_u zF_rfl rfl) hV138 r_W r_GW r_GU r_OW r_DX r_GG r_HA r_RGc (show (m 94 58).toInt = 0 ∨ (m 94 10).toInt = 5 from by omega)
                                  · skip
                                    have g139 := i_ne h136
                                    have hV140 : zV (ma_u m 94 0 (0 : Int32)) := uf_94_0 hV
                                    exact K ((1 : Int32)) _ (zF_u zF_rfl rfl) hV140 r_W r_GW r_GU r_OW r_DX r_GG r_HA r_RGc (show (m 94 58).toInt = 0 ∨ (m 94 10).toInt = 5 from by omega)
                                · skip
                                  have g141 := i_ne h134
                                  refine zd (fun (h142 : (m 94 10) = (3 : Int32)) => ?_) (fun (h142 : ¬ (m 94 10) = (3 : Int32)) => ?_)
                                  · skip
                                    have g143 := i_eq h142
                                    have hV144 : zV (ma_u m 94 0 (0 : Int32)) := uf_94_0 hV
                                    have f145 : 0 ≤ (m 94 60).toInt ∧ (m 94 60).toInt ≤ 1600 := rs_94_60 (m := m) hV
                                    exact K ((m 94 60)) _ (zF_u zF_rfl rfl) hV144 r_W r_GW r_GU r_OW r_DX r_GG r_HA r_RGc (show (m 94 58).toInt = 0 ∨ (m 94 10).toInt = 5 from by omega)
                                  · skip
                                    have g146 := i_ne h142
                                    refine zd (fun (h147 : (m 94 10) = (6 : Int32)) => ?_) (fun (h147 : ¬ (m 94 10) = (6 : Int32)) => ?_)
                                    · skip
                                      have g148 := i_eq h147
                                      have hV149 : zV (ma_u m 94 0 (0 : Int32)) := uf_94_0 hV
                                      have f150 : 0 ≤ (m 94 63).toInt ∧ (m 94 63).toInt ≤ 127 := rs_94_63 (m := m) hV
                                      exact K ((m 94 63)) _ (zF_u zF_rfl rfl) hV149 r_W r_GW r_GU r_OW r_DX r_GG r_HA r_RGc (show (m 94 58).toInt = 0 ∨ (m 94 10).toInt = 5 from by omega)
                                    · skip
                                      have g151 := i_ne h147
                                      have hV152 : zV (ma_u m 94 0 (0 : Int32)) := uf_94_0 hV
                                      exact K ((0 : Int32)) _ (zF_u zF_rfl rfl) hV152 r_W r_GW r_GU r_OW r_DX r_GG r_HA r_RGc (show (m 94 58).toInt = 0 ∨ (m 94 10).toInt = 5 from by omega)
      · skip
        have g153 := i_nle h13
        have f154 : 0 ≤ (m 94 8).toInt ∧ (m 94 8).toInt ≤ 1 := rs_94_8 (m := m) hV
        refine zd (fun (h155 : (m 94 8) = (0 : Int32)) => ?_) (fun (h155 : ¬ (m 94 8) = (0 : Int32)) => ?_)
        · skip
          have g156 := i_eq h155
          have hV157 : zV (ma_u m 94 0 (2 : Int32)) := uf_94_0 hV
          exact K ((0 : Int32)) _ (zF_u zF_rfl rfl) hV157 r_W r_GW r_GU r_OW r_DX r_GG r_HA r_RGc (show (m 94 58).toInt = 0 ∨ (m 94 10).toInt = 5 from by omega)
        · skip
          have g158 := i_ne h155
          refine zd (fun (h159 : wh = (0 : Int32)) => ?_) (fun (h159 : ¬ wh = (0 : Int32)) => ?_)
          · skip
            have g160 := i_eq h159
            have hV161 : zV (ma_u m 94 0 (0 : Int32)) := uf_94_0 hV
            have f162 : 0 ≤ (m 94 3).toInt ∧ (m 94 3).toInt ≤ 100 := rs_94_3 (m := m) hV
            exact K ((m 94 3)) _ (zF_u zF_rfl rfl) hV161 r_W r_GW r_GU r_OW r_DX r_GG r_HA r_RGc (show (m 94 58).toInt = 0 ∨ (m 94 10).toInt = 5 from by omega)
          · skip
            have g163 := i_ne h159
            refine zd (fun (h164 : wh = (1 : Int32)) => ?_) (fun (h164 : ¬ wh = (1 : Int32)) => ?_)
            · skip
              have g165 := i_eq h164
              have hV166 : zV (ma_u m 94 0 (0 : Int32)) := uf_94_0 hV
              have f167 : 0 ≤ (m 94 7).toInt ∧ (m 94 7).toInt ≤ 16 := rs_94_7 (m := m) hV
              exact K ((m 94 7)) _ (zF_u zF_rfl rfl) hV166 r_W r_GW r_GU r_OW r_DX r_GG r_HA r_RGc (show (m 94 58).toInt = 0 ∨ (m 94 10).toInt = 5 from by omega)
            · skip
              have g168 := i_ne h164
              have li169 : (2 : Int32).toInt = 2 := rfl
              refine zd (fun (h170 : wh = (2 : Int32)) => ?_) (fun (h170 : ¬ wh = (2 : Int32)) => ?_)
              · skip
                have g171 := i_eq h170
                have hV172 : zV (ma_u m 94 0 (0 : Int32)) := uf_94_0 hV
                have b173 := i_bd (m 94 44)
                exact K ((m 94 44)) _ (zF_u zF_rfl rfl) hV172 r_W r_GW r_GU r_OW r_DX r_GG r_HA r_RGc (show (m 94 58).toInt = 0 ∨ (m 94 10).toInt = 5 from by omega)
              · skip
                have g174 := i_ne h170
                have li175 : (3 : Int32).toInt = 3 := rfl
                refine zd (fun (h176 : wh = (3 : Int32)) => ?_) (fun (h176 : ¬ wh = (3 : Int32)) => ?_)
                · skip
                  have g177 := i_eq h176
                  have hV178 : zV (ma_u m 94 0 (0 : Int32)) := uf_94_0 hV
                  have b179 := i_bd (m 94 45)
                  exact K ((m 94 45)) _ (zF_u zF_rfl rfl) hV178 r_W r_GW r_GU r_OW r_DX r_GG r_HA r_RGc (show (m 94 58).toInt = 0 ∨ (m 94 10).toInt = 5 from by omega)
                · skip
                  have g180 := i_ne h176
                  have li181 : (4 : Int32).toInt = 4 := rfl
                  refine zd (fun (h182 : wh = (4 : Int32)) => ?_) (fun (h182 : ¬ wh = (4 : Int32)) => ?_)
                  · skip
                    have g183 := i_eq h182
                    have hV184 : zV (ma_u m 94 0 (0 : Int32)) := uf_94_0 hV
                    have f185 : 0 ≤ (m 94 46).toInt ∧ (m 94 46).toInt ≤ 100000 := rs_94_46 (m := m) hV
                    exact K ((m 94 46)) _ (zF_u zF_rfl rfl) hV184 r_W r_GW r_GU r_OW r_DX r_GG r_HA r_RGc (show (m 94 58).toInt = 0 ∨ (m 94 10).toInt = 5 from by omega)
                  · skip
                    have g186 := i_ne h182
                    have li187 : (5 : Int32).toInt = 5 := rfl
                    refine zd (fun (h188 : wh = (5 : Int32)) => ?_) (fun (h188 : ¬ wh = (5 : Int32)) => ?_)
                    · skip
                      have g189 := i_eq h188
                      have hV190 : zV (ma_u m 94 0 (0 : Int32)) := uf_94_0 hV
                      have b191 := i_bd (m 94 47)
                      exact K ((m 94 47)) _ (zF_u zF_rfl rfl) hV190 r_W r_GW r_GU r_OW r_DX r_GG r_HA r_RGc (show (m 94 58).toInt = 0 ∨ (m 94 10).toInt = 5 from by omega)
                    · skip
                      have g192 := i_ne h188
                      have li193 : (6 : Int32).toInt = 6 := rfl
                      refine zd (fun (h194 : wh = (6 : Int32)) => ?_) (fun (h194 : ¬ wh = (6 : Int32)) => ?_)
                      · skip
                        have g195 := i_eq h194
                        have hV196 : zV (ma_u m 94 0 (0 : Int32)) := uf_94_0 hV
                        have b197 := i_bd (m 94 48)
                        exact K ((m 94 48)) _ (zF_u zF_rfl rfl) hV196 r_W r_GW r_GU r_OW r_DX r_GG r_HA r_RGc (show (m 94 58).toInt = 0 ∨ (m 94 10).toInt = 5 from by omega)
                      · skip
                        have g198 := i_ne h194
                        have li199 : (7 : Int32).toInt = 7 := rfl
                        refine zd (fun (h200 : wh = (7 : Int32)) => ?_) (fun (h200 : ¬ wh = (7 : Int32)) => ?_)
                        · skip
                          have g201 := i_eq h200
                          have hV202 : zV (ma_u m 94 0 (0 : Int32)) := uf_94_0 hV
                          have b203 := i_bd (m 94 49)
                          exact K ((m 94 49)) _ (zF_u zF_rfl rfl) hV202 r_W r_GW r_GU r_OW r_DX r_GG r_HA r_RGc (show (m 94 58).toInt = 0 ∨ (m 94 10).toInt = 5 from by omega)
                        · skip
                          have g204 := i_ne h200
                          have li205 : (8 : Int32).toInt = 8 := rfl
                          refine zd (fun (h206 : wh = (8 : Int32)) => ?_) (fun (h206 : ¬ wh = (8 : Int32)) => ?_)
                          · skip
                            have g207 := i_eq h206
                            have hV208 : zV (ma_u m 94 0 (0 : Int32)) := uf_94_0 hV
                            have b209 := i_bd (m 94 50)
                            exact K ((m 94 50)) _ (zF_u zF_rfl rfl) hV208 r_W r_GW r_GU r_OW r_DX r_GG r_HA r_RGc (show (m 94 58).toInt = 0 ∨ (m 94 10).toInt = 5 from by omega)
                          · skip
                            have g210 := i_ne h206
                            have li211 : (9 : Int32).toInt = 9 := rfl
                            refine zd (fun (h212 : wh = (9 : Int32)) => ?_) (fun (h212 : ¬ wh = (9 : Int32)) => ?_)
                            · skip
                              have g213 := i_eq h212
                              have hV214 : zV (ma_u m 94 0 (0 : Int32)) := uf_94_0 hV
                              have f215 : 0 ≤ (m 94 55).toInt ∧ (m 94 55).toInt ≤ 3100 := rs_94_55 (m := m) hV
                              exact K ((m 94 55)) _ (zF_u zF_rfl rfl) hV214 r_W r_GW r_GU r_OW r_DX r_GG r_HA r_RGc (show (m 94 58).toInt = 0 ∨ (m 94 10).toInt = 5 from by omega)
                            · skip
                              have g216 := i_ne h212
                              have li217 : (10 : Int32).toInt = 10 := rfl
                              refine zd (fun (h218 : wh = (10 : Int32)) => ?_) (fun (h218 : ¬ wh = (10 : Int32)) => ?_)
                              · skip
                                have g219 := i_eq h218
                                refine zd (fun (h220 : (m 94 10) = (3 : Int32)) => ?_) (fun (h220 : ¬ (m 94 10) = (3 : Int32)) => ?_)
                                · skip
                                  have g221 := i_eq h220
                                  have hV222 : zV (ma_u m 94 0 (0 : Int32)) := uf_94_0 hV
                                  refine sp_261  hV222  (fun v8 m7 hV_m7  => zmi_n ?_)
                                  have b223 := i_bd v8
                                  exact K (v8) _ (zF_zov (zF_u zF_rfl rfl) ws_261_260) hV_m7 r_W r_GW r_GU r_OW r_DX r_GG r_HA r_RGc (show (m 94 58).toInt = 0 ∨ (m 94 10).toInt = 5 from by omega)
                                · skip
                                  have g224 := i_ne h220
                                  refine zd (fun (h225 : (m 94 10) = (6 : Int32)) => ?_) (fun (h225 : ¬ (m 94 10) = (6 : Int32)) => ?_)
                                  · skip
                                    have g226 := i_eq h225
                                    have hV227 : zV (ma_u m 94 0 (0 : Int32)) := uf_94_0 hV
                                    refine sp_233  hV227  (fun v6 m5 hV_m5 p0_m5 => zmi_n ?_)
                                    have p0_m5 : v6.toInt ≤ 0 ∨ ∃ r : Nat, (r : Int) < (m 94 64).toInt ∧ (m 116) r = 0 := p0_m5
                                    have b228 := i_bd v6
                                    exact K (v6) _ (zF_zov (zF_u zF_rfl rfl) ws_233_260) hV_m5 r_W r_GW r_GU r_OW r_DX r_GG r_HA r_RGc (show (m 94 58).toInt = 0 ∨ (m 94 10).toInt = 5 from by omega)
                                  · skip
                                    have g229 := i_ne h225
                                    refine zd (fun (h230 : (m 94 10) = (5 : Int32)) => ?_) (fun (h230 : ¬ (m 94 10) = (5 : Int32)) => ?_)
                                    · skip
                                      have g231 := i_eq h230
                                      refine zd (fun (h232 : (m 94 58) = (0 : Int32)) => ?_) (fun (h232 : ¬ (m 94 58) = (0 : Int32)) => ?_)
                                      · skip
                                        have g233 := i_eq h232
                                        have hV234 : zV (ma_u m 94 0 (0 : Int32)) := uf_94_0 hV
                                        exact K ((0 : Int32)) _ (zF_u zF_rfl rfl) hV234 r_W r_GW r_GU r_OW r_DX r_GG r_HA r_RGc (show (m 94 58).toInt = 0 ∨ (m 94 10).toInt = 5 from by omega)
                                      · skip
                                        have g235 := i_ne h232
                                        have hV236 : zV (ma_u m 94 0 (0 : Int32)) := uf_94_0 hV
                                        have f237 : 0 ≤ (m 94 56).toInt ∧ (m 94 56).toInt ≤ 3100 := rs_94_56 (m := m) hV
                                        have f238 : 0 ≤ (m 94 57).toInt ∧ (m 94 57).toInt ≤ 3100 := rs_94_57 (m := m) hV
                                        first | have e239 : ((m 94 56) - (m 94 57)).toInt = (m 94 56).toInt - (m 94 57).toInt := i_sub (by omega) (by omega) | have b240 := i_bd ((m 94 56) - (m 94 57))
                                        exact K (((m 94 56) - (m 94 57))) _ (zF_u zF_rfl rfl) hV236 r_W r_GW r_GU r_OW r_DX r_GG r_HA r_RGc (show (m 94 58).toInt = 0 ∨ (m 94 10).toInt = 5 from by omega)
                                    · skip
                                      have g241 := i_ne h230
                                      have hV242 : zV (ma_u m 94 0 (0 : Int32)) := uf_94_0 hV
                                      exact K ((0 : Int32)) _ (zF_u zF_rfl rfl) hV242 r_W r_GW r_GU r_OW r_DX r_GG r_HA r_RGc (show (m 94 58).toInt = 0 ∨ (m 94 10).toInt = 5 from by omega)
                              · skip
                                have g243 := i_ne h218
                                have li244 : (11 : Int32).toInt = 11 := rfl
                                refine zd (fun (h245 : wh = (11 : Int32)) => ?_) (fun (h245 : ¬ wh = (11 : Int32)) => ?_)
                                · skip
                                  have g246 := i_eq h245
                                  refine zd (fun (h247 : (m 94 10) = (1 : Int32)) => ?_) (fun (h247 : ¬ (m 94 10) = (1 : Int32)) => ?_)
                                  · skip
                                    have g248 := i_eq h247
                                    have hV249 : zV (ma_u m 94 0 (0 : Int32)) := uf_94_0 hV
                                    have f250 : 0 ≤ (m 94 59).toInt ∧ (m 94 59).toInt ≤ 4600 := rs_94_59 (m := m) hV
                                    exact K ((m 94 59)) _ (zF_u zF_rfl rfl) hV249 r_W r_GW r_GU r_OW r_DX r_GG r_HA r_RGc (show (m 94 58).toInt = 0 ∨ (m 94 10).toInt = 5 from by omega)
                                  · skip
                                    have g251 := i_ne h247
                                    refine zd (fun (h252 : (m 94 10) = (2 : Int32)) => ?_) (fun (h252 : ¬ (m 94 10) = (2 : Int32)) => ?_)
                                    · skip
                                      have g253 := i_eq h252
                                      have hV254 : zV (ma_u m 94 0 (0 : Int32)) := uf_94_0 hV
                                      have f255 : 0 ≤ (m 94 59).toInt ∧ (m 94 59).toInt ≤ 4600 := rs_94_59 (m := m) hV
                                      exact K ((m 94 59)) _ (zF_u zF_rfl rfl) hV254 r_W r_GW r_GU r_OW r_DX r_GG r_HA r_RGc (show (m 94 58).toInt = 0 ∨ (m 94 10).toInt = 5 from by omega)
                                    · skip
                                      have g256 := i_ne h252
                                      refine zd (fun (h257 : (m 94 10) = (3 : Int32)) => ?_) (fun (h257 : ¬ (m 94 10) = (3 : Int32)) => ?_)
                                      · skip
                                        have g258 := i_eq h257
                                        have hV259 : zV (ma_u m 94 0 (0 : Int32)) := uf_94_0 hV
                                        have f260 : 0 ≤ (m 94 59).toInt ∧ (m 94 59).toInt ≤ 4600 := rs_94_59 (m := m) hV
                                        exact K ((m 94 59)) _ (zF_u zF_rfl rfl) hV259 r_W r_GW r_GU r_OW r_DX r_GG r_HA r_RGc (show (m 94 58).toInt = 0 ∨ (m 94 10).toInt = 5 from by omega)
                                      · skip
                                        have g261 := i_ne h257
                                        refine zd (fun (h262 : (m 94 10) = (6 : Int32)) => ?_) (fun (h262 : ¬ (m 94 10) = (6 : Int32)) => ?_)
                                        · skip
                                          have g263 := i_eq h262
                                          have f264 : 0 ≤ (m 94 63).toInt ∧ (m 94 63).toInt ≤ 127 := rs_94_63 (m := m) hV
                                          have hg265 : (0 ≤ (m 94 63) ∧ (m 94 63).toNatClampNeg < 128) := i_ix (by omega) (by omega)
                                          refine ⟨hg265, ?_⟩
                                          have hV266 : zV (ma_u m 94 0 (0 : Int32)) := uf_94_0 hV
                                          have f267 : 0 ≤ (m 94 18).toInt ∧ (m 94 18).toInt ≤ 256 := rs_94_18 (m := m) hV
                                          first | have f268 := i_muln (x := (m 94 63)) (y := (m 94 18)) (by omega) (by omega) (by omega) (by omega) | have b269 := i_bd ((m 94 63) * (m 94 18))
                                          first | have f270 : 0 ≤ (m 116 (m 94 63).toNatClampNeg).toInt ∧ (m 116 (m 94 63).toNatClampNeg).toInt ≤ 4600 := ra_116 (m := m) hV (k := (m 94 63).toNatClampNeg) (i_ix (n := 128) (by omega) (by omega)).2 | have b271 := i_bd (m 116 (m 94 63).toNatClampNeg)
                                          first | have e272 : (((m 94 63) * (m 94 18)) + (m 116 (m 94 63).toNatClampNeg)).toInt = ((m 94 63) * (m 94 18)).toInt + (m 116 (m 94 63).toNatClampNeg).toInt := i_add (by omega) (by omega) | have b273 := i_bd (((m 94 63) * (m 94 18)) + (m 116 (m 94 63).toNatClampNeg))
                                          exact K ((((m 94 63) * (m 94 18)) + (m 116 (m 94 63).toNatClampNeg))) _ (zF_u zF_rfl rfl) hV266 r_W r_GW r_GU r_OW r_DX r_GG r_HA r_RGc (show (m 94 58).toInt = 0 ∨ (m 94 10).toInt = 5 from by omega)
                                        · skip
                                          have g274 := i_ne h262
                                          have hV275 : zV (ma_u m 94 0 (0 : Int32)) := uf_94_0 hV
                                          exact K ((0 : Int32)) _ (zF_u zF_rfl rfl) hV275 r_W r_GW r_GU r_OW r_DX r_GG r_HA r_RGc (show (m 94 58).toInt = 0 ∨ (m 94 10).toInt = 5 from by omega)
                                · skip
                                  have g276 := i_ne h245
                                  have li277 : (12 : Int32).toInt = 12 := rfl
                                  refine zd (fun (h278 : wh = (12 : Int32)) => ?_) (fun (h278 : ¬ wh = (12 : Int32)) => ?_)
                                  · skip
                                    have g279 := i_eq h278
                                    refine zd (fun (h280 : (m 94 58) = (0 : Int32)) => ?_) (fun (h280 : ¬ (m 94 58) = (0 : Int32)) => ?_)
                                    · skip
                                      have g281 := i_eq h280
                                      have hV282 : zV (ma_u m 94 0 (0 : Int32)) := uf_94_0 hV
                                      exact K ((0 : Int32)) _ (zF_u zF_rfl rfl) hV282 r_W r_GW r_GU r_OW r_DX r_GG r_HA r_RGc (show (m 94 58).toInt = 0 ∨ (m 94 10).toInt = 5 from by omega)
                                    · skip
                                      have g283 := i_ne h280
                                      have hV284 : zV (ma_u m 94 0 (0 : Int32)) := uf_94_0 hV
                                      exact K ((1 : Int32)) _ (zF_u zF_rfl rfl) hV284 r_W r_GW r_GU r_OW r_DX r_GG r_HA r_RGc (show (m 94 58).toInt = 0 ∨ (m 94 10).toInt = 5 from by omega)
                                  · skip
                                    have g285 := i_ne h278
                                    refine zd (fun (h286 : (m 94 10) = (3 : Int32)) => ?_) (fun (h286 : ¬ (m 94 10) = (3 : Int32)) => ?_)
                                    · skip
                                      have g287 := i_eq h286
                                      have hV288 : zV (ma_u m 94 0 (0 : Int32)) := uf_94_0 hV
                                      have f289 : 0 ≤ (m 94 60).toInt ∧ (m 94 60).toInt ≤ 1600 := rs_94_60 (m := m) hV
                                      exact K ((m 94 60)) _ (zF_u zF_rfl rfl) hV288 r_W r_GW r_GU r_OW r_DX r_GG r_HA r_RGc (show (m 94 58).toInt = 0 ∨ (m 94 10).toInt = 5 from by omega)
                                    · skip
                                      have g290 := i_ne h286
                                      refine zd (fun (h291 : (m 94 10) = (6 : Int32)) => ?_) (fun (h291 : ¬ (m 94 10) = (6 : Int32)) => ?_)
                                      · skip
                                        have g292 := i_eq h291
                                        have hV293 : zV (ma_u m 94 0 (0 : Int32)) := uf_94_0 hV
                                        have f294 : 0 ≤ (m 94 63).toInt ∧ (m 94 63).toInt ≤ 127 := rs_94_63 (m := m) hV
                                        exact K ((m 94 63)) _ (zF_u zF_rfl rfl) hV293 r_W r_GW r_GU r_OW r_DX r_GG r_HA r_RGc (show (m 94 58).toInt = 0 ∨ (m 94 10).toInt = 5 from by omega)
                                      · skip
                                        have g295 := i_ne h291
                                        have hV296 : zV (ma_u m 94 0 (0 : Int32)) := uf_94_0 hV
                                        exact K ((0 : Int32)) _ (zF_u zF_rfl rfl) hV296 r_W r_GW r_GU r_OW r_DX r_GG r_HA r_RGc (show (m 94 58).toInt = 0 ∨ (m 94 10).toInt = 5 from by omega)
    · skip
      have g297 := i_nle h10
      have hV298 : zV (ma_u m 94 0 (1 : Int32)) := uf_94_0 hV
      exact K ((0 : Int32)) _ (zF_u zF_rfl rfl) hV298 r_W r_GW r_GU r_OW r_DX r_GG r_HA r_RGc (show (m 94 58).toInt = 0 ∨ (m 94 10).toInt = 5 from by omega)

/-! from 94.460 -/
/-! the reference (written by wip/tools/gen94m.py) -/
set_option maxRecDepth 100000 in
theorem hm_257 : ma_md 257 = some (12, yX12_step, cX12_step, 4, (some (FieldType.int))) := rfl
theorem dX12_step_0 : decode cX12_step 0 = .ok (.aload_n 0, 1) := by decide +kernel
theorem dX12_step_1 : decode cX12_step 1 = .ok (.iload_n 1, 1) := by decide +kernel
theorem dX12_step_12 : decode cX12_step 12 = .ok (.iconst 1, 1) := by decide +kernel
theorem dX12_step_13 : decode cX12_step 13 = .ok (.goto 27, 3) := by decide +kernel
theorem dX12_step_40 : decode cX12_step 40 = .ok (.invokevirtual 110, 3) := by decide +kernel
theorem dX12_step_43 : decode cX12_step 43 = .ok (.ifCond .eq 5, 3) := by decide +kernel
theorem dX12_step_46 : decode cX12_step 46 = .ok (.iconst 0, 1) := by decide +kernel
theorem dX12_step_47 : decode cX12_step 47 = .ok (.ireturn, 1) := by decide +kernel
theorem dX12_step_5 : decode cX12_step 5 = .ok (.iload_n 1, 1) := by decide +kernel
theorem dX12_step_6 : decode cX12_step 6 = .ok (.sipush 1000, 3) := by decide +kernel
theorem dX12_step_16 : decode cX12_step 16 = .ok (.aload_n 0, 1) := by decide +kernel
theorem dX12_step_27 : decode cX12_step 27 = .ok (.aload_n 0, 1) := by decide +kernel
theorem dX12_step_31 : decode cX12_step 31 = .ok (.iconst 5, 1) := by decide +kernel
theorem dX12_step_39 : decode cX12_step 39 = .ok (.iconst 0, 1) := by decide +kernel
theorem dX12_step_48 : decode cX12_step 48 = .ok (.aload_n 0, 1) := by decide +kernel
theorem dX12_step_57 : decode cX12_step 57 = .ok (.aload_n 0, 1) := by decide +kernel
theorem dX12_step_58 : decode cX12_step 58 = .ok (.iload_n 1, 1) := by decide +kernel
theorem dX12_step_59 : decode cX12_step 59 = .ok (.invokevirtual 402, 3) := by decide +kernel
theorem dX12_step_62 : decode cX12_step 62 = .ok (.istore_n 2, 1) := by decide +kernel
theorem dX12_step_63 : decode cX12_step 63 = .ok (.aload_n 0, 1) := by decide +kernel
theorem dX12_step_64 : decode cX12_step 64 = .ok (.invokevirtual 405, 3) := by decide +kernel
theorem dX12_step_67 : decode cX12_step 67 = .ok (.istore_n 3, 1) := by decide +kernel
theorem dX12_step_68 : decode cX12_step 68 = .ok (.iload_n 2, 1) := by decide +kernel
theorem dX12_step_69 : decode cX12_step 69 = .ok (.ireturn, 1) := by decide +kernel
theorem dX12_step_55 : decode cX12_step 55 = .ok (.iconst 0, 1) := by decide +kernel
theorem dX12_step_56 : decode cX12_step 56 = .ok (.ireturn, 1) := by decide +kernel
theorem dX12_step_52 : decode cX12_step 52 = .ok (.ifCond .ne 5, 3) := by decide +kernel
theorem dX12_step_49 : decode cX12_step 49 = .ok (.getfield 270, 3) := by decide +kernel
theorem dX12_step_35 : decode cX12_step 35 = .ok (.iconst 3, 1) := by decide +kernel
theorem dX12_step_36 : decode cX12_step 36 = .ok (.goto 4, 3) := by decide +kernel
theorem dX12_step_32 : decode cX12_step 32 = .ok (.if_icmp .eq 7, 3) := by decide +kernel
theorem dX12_step_28 : decode cX12_step 28 = .ok (.getfield 199, 3) := by decide +kernel
theorem dX12_step_23 : decode cX12_step 23 = .ok (.iconst 2, 1) := by decide +kernel
theorem dX12_step_24 : decode cX12_step 24 = .ok (.goto 16, 3) := by decide +kernel
theorem dX12_step_20 : decode cX12_step 20 = .ok (.ifCond .ne 7, 3) := by decide +kernel
theorem dX12_step_17 : decode cX12_step 17 = .ok (.getfield 237, 3) := by decide +kernel
theorem dX12_step_9 : decode cX12_step 9 = .ok (.if_icmp .le 7, 3) := by decide +kernel
theorem dX12_step_2 : decode cX12_step 2 = .ok (.ifCond .lt 10, 3) := by decide +kernel
def wr_257 (c k : Nat) : Bool := Nat.beq c 99 || Nat.beq c 105 || Nat.beq c 106 || Nat.beq c 109 || Nat.beq c 110 || Nat.beq c 111 || Nat.beq c 113 || Nat.beq c 114 || Nat.beq c 115 || Nat.beq c 118 || (Nat.beq c 94 && (Nat.beq k 0 || Nat.beq k 44 || Nat.beq k 45 || Nat.beq k 47 || Nat.beq k 49 || Nat.beq k 55 || Nat.beq k 56 || Nat.beq k 57 || Nat.beq k 58 || Nat.beq k 73))
theorem ws_222_257 : ∀ c k, wr_222 c k = true → wr_257 c k = true := by
  intro c k h
  simp only [wr_222, Bool.or_eq_true, Bool.and_eq_true, Nat.beq_eq] at h
  rcases h with (rfl | rfl) | ⟨rfl, (rfl | rfl)⟩ <;> rfl
theorem ws_223_257 : ∀ c k, wr_223 c k = true → wr_257 c k = true := by
  intro c k h
  simp only [wr_223, Bool.or_eq_true, Bool.and_eq_true, Nat.beq_eq] at h
  rcases h with (((((((((rfl | rfl) | rfl) | rfl) | rfl) | rfl) | rfl) | rfl) | rfl) | rfl) | ⟨rfl, (((((((rfl | rfl) | rfl) | rfl) | rfl) | rfl) | rfl) | rfl)⟩ <;> rfl
theorem g_257_0 {X : Nat × (Nat → Int32)} {m : Nat → Nat → Int32} {P : Option ma_V → (Nat → Nat → Int32) → Prop} (nn : Int32) (h : if nn < 0 then (P (some (.inl (0 : Int32))) (ma_u m 94 0 (1 : Int32))) else (if nn ≤ (1000 : Int32) then (if (m 94 8) = 0 then (P (some (.inl (0 : Int32))) (ma_u m 94 0 (2 : Int32))) else (if (m 94 10) = (5 : Int32) then (if (m 94 58) = 0 then (P (some (.inl (0 : Int32))) (ma_u m 94 0 (0 : Int32))) else (zm X 2 44 222 0 [(0, .inr (.inr (some 94))), (1, .inl nn)] (ma_u m 94 0 (0 : Int32)) (zmi (fun v2 m1 => zm X 4 88 223 0 [(0, .inr (.inr (some 94)))] m1 (zmi (fun v4 m3 => P (some (.inl v2)) m3)))))) else (P (some (.inl (0 : Int32))) (ma_u m 94 0 (3 : Int32))))) else (P (some (.inl (0 : Int32))) (ma_u m 94 0 (1 : Int32))))) : zm X 5 109 257 0 [(0, .inr (.inr (some 94))), (1, .inl nn)] m P := by
  intro d w S Q hd hw hS hm HQ
  subst hm
  refine zw_push hm_257 dX12_step_0 (v := .inr (.inr (some 94))) rfl ?_
  refine zw_push hm_257 dX12_step_1 (v := .inl nn) rfl ?_
  refine zw_if0 hm_257 dX12_step_2 (t := 12) rfl zc0_lt ?_ ?_
  · intro hc
    rw [if_pos hc] at h
    refine zw_push hm_257 dX12_step_12 (v := .inl (1 : Int32)) rfl ?_
    refine zw_goto hm_257 dX12_step_13 (t := 40) rfl ?_
    refine zw_cv hm_257 dX12_step_40 v_12_110_12 hm_167 [.inl (1 : Int32)] [] rfl (zT_rt hS s_94 rfl) ⟨by omega, by omega⟩ rfl ?_
    show ma_wp X (d - 1) (w - 21) 167 0 [(0, .inr (.inr (some 94))), (1, .inl (1 : Int32))] [] S _
    refine zw_push hm_167 dX12_fails_0 (v := .inr (.inr (some 94))) rfl ?_
    refine zw_push hm_167 dX12_fails_1 (v := .inl (1 : Int32)) rfl ?_
    refine zw_pf hm_167 dX12_fails_2 (zT_is hS s_94) (zT_t hS s_94) p_12_1_12 zk_int ?_
    refine zw_push hm_167 dX12_fails_5 (v := .inl (1 : Int32)) rfl ?_
    refine zw_if0 hm_167 dX12_fails_6 (t := 13) rfl zc0_eq (fun hc => absurd hc (by decide)) (fun _ => ?_)
    refine zw_push hm_167 dX12_fails_9 (v := .inl (1 : Int32)) rfl ?_
    refine zw_goto hm_167 dX12_fails_10 (t := 14) rfl ?_
    refine zw_bret hm_167 dX12_fails_14 (by decide) ?_
    show ma_wp X d w 257 43 [(0, .inr (.inr (some 94))), (1, .inl nn)] [.inl (1 : Int32)] (ma_put S 94 0 (.inl (1 : Int32))) _
    refine zw_if0 hm_257 dX12_step_43 (t := 48) rfl zc0_eq (fun hc => absurd hc (by decide)) (fun _ => ?_)
    refine zw_push hm_257 dX12_step_46 (v := .inl (0 : Int32)) rfl ?_
    exact zw_iret hm_257 dX12_step_47 (HQ _ _ h)
  · intro hc
    rw [if_neg hc] at h
    refine zw_push hm_257 dX12_step_5 (v := .inl nn) rfl ?_
    refine zw_push hm_257 dX12_step_6 (v := .inl (1000 : Int32)) rfl ?_
    refine zw_if2 hm_257 dX12_step_9 (t := 16) rfl zc2_le ?_ ?_
    · intro hc
      rw [if_pos hc] at h
      refine zw_push hm_257 dX12_step_16 (v := .inr (.inr (some 94))) rfl ?_
      refine zw_gf hm_257 dX12_step_17 (v := .inl ((mI S) 94 8)) (zT_is hS s_94) (zT_t hS s_94) rfl f_12_237_12 rfl ?_
      refine zw_if0 hm_257 dX12_step_20 (t := 27) rfl zc0_ne ?_ ?_
      · intro hc
        rw [if_neg hc] at h
        refine zw_push hm_257 dX12_step_27 (v := .inr (.inr (some 94))) rfl ?_
        refine zw_gf hm_257 dX12_step_28 (v := .inl ((mI S) 94 10)) (zT_is hS s_94) (zT_t hS s_94) rfl f_12_199_12 rfl ?_
        refine zw_push hm_257 dX12_step_31 (v := .inl (5 : Int32)) rfl ?_
        refine zw_if2 hm_257 dX12_step_32 (t := 39) rfl zc2_eq ?_ ?_
        · intro hc
          rw [if_pos hc] at h
          refine zw_push hm_257 dX12_step_39 (v := .inl (0 : Int32)) rfl ?_
          refine zw_cv hm_257 dX12_step_40 v_12_110_12 hm_167 [.inl (0 : Int32)] [] rfl (zT_rt hS s_94 rfl) ⟨by omega, by omega⟩ rfl ?_
          show ma_wp X (d - 1) (w - 21) 167 0 [(0, .inr (.inr (some 94))), (1, .inl (0 : Int32))] [] S _
          refine zw_push hm_167 dX12_fails_0 (v := .inr (.inr (some 94))) rfl ?_
          refine zw_push hm_167 dX12_fails_1 (v := .inl (0 : Int32)) rfl ?_
          refine zw_pf hm_167 dX12_fails_2 (zT_is hS s_94) (zT_t hS s_94) p_12_1_12 zk_int ?_
          refine zw_push hm_167 dX12_fails_5 (v := .inl (0 : Int32)) rfl ?_
          refine zw_if0 hm_167 dX12_fails_6 (t := 13) rfl zc0_eq (fun _ => ?_) (fun hc => absurd (by decide) hc)
          refine zw_push hm_167 dX12_fails_13 (v := .inl (0 : Int32)) rfl ?_
          refine zw_bret hm_167 dX12_fails_14 (by decide) ?_
          show ma_wp X d w 257 43 [(0, .inr (.inr (some 94))), (1, .inl nn)] [.inl (0 : Int32)] (ma_put S 94 0 (.inl (0 : Int32))) _
          refine zw_if0 hm_257 dX12_step_43 (t := 48) rfl zc0_eq (fun _ => ?_) (fun hc => absurd (by decide) hc)
          refine zw_push hm_257 dX12_step_48 (v := .inr (.inr (some 94))) rfl ?_
          refine zw_gf hm_257 dX12_step_49 (v := .inl ((mI S) 94 58)) (zT_is (zT_pi hS) s_94) (zT_t (zT_pi hS) s_94) rfl f_12_270_12 rfl ?_
          refine zw_if0 hm_257 dX12_step_52 (t := 57) rfl zc0_ne ?_ ?_
          · intro hc
            rw [if_neg hc] at h
            refine zw_push hm_257 dX12_step_57 (v := .inr (.inr (some 94))) rfl ?_
            refine zw_push hm_257 dX12_step_58 (v := .inl nn) rfl ?_
            refine zw_cv hm_257 dX12_step_59 v_12_402_12 hm_222 [.inl nn] [] rfl (zT_rt (zT_pi hS) s_94 rfl) ⟨by omega, by omega⟩ rfl (h _ _ (ma_put S 94 0 (.inl (0 : Int32))) _ (by omega) (by omega) (zT_pi hS) rfl (fun o9 m1 hv => ?_))
            obtain ⟨v2, rfl, h⟩ := zmi_of hv
            show ma_wp X d w 257 62 [(0, .inr (.inr (some 94))), (1, .inl nn)] [.inl v2] (zst S m1) _
            refine zw_sto hm_257 dX12_step_62 [(2, .inl v2), (0, .inr (.inr (some 94))), (1, .inl nn)] rfl rfl rfl ?_
            refine zw_push hm_257 dX12_step_63 (v := .inr (.inr (some 94))) rfl ?_
            refine zw_cv hm_257 dX12_step_64 v_12_405_12 hm_223 [] [] rfl (zT_rt (zT_zst hS m1) s_94 rfl) ⟨by omega, by omega⟩ rfl (h _ _ (zst S m1) _ (by omega) (by omega) (zT_zst hS m1) rfl (fun o9 m3 hv => ?_))
            obtain ⟨v4, rfl, h⟩ := zmi_of hv
            show ma_wp X d w 257 67 [(2, .inl v2), (0, .inr (.inr (some 94))), (1, .inl nn)] [.inl v4] (zst S m3) _
            refine zw_sto hm_257 dX12_step_67 [(3, .inl v4), (2, .inl v2), (0, .inr (.inr (some 94))), (1, .inl nn)] rfl rfl rfl ?_
            refine zw_push hm_257 dX12_step_68 (v := .inl v2) rfl ?_
            exact zw_iret hm_257 dX12_step_69 (HQ _ _ h)
          · intro hc
            rw [if_pos (Classical.not_not.mp hc)] at h
            refine zw_push hm_257 dX12_step_55 (v := .inl (0 : Int32)) rfl ?_
            exact zw_iret hm_257 dX12_step_56 (HQ _ _ h)
        · intro hc
          rw [if_neg hc] at h
          refine zw_push hm_257 dX12_step_35 (v := .inl (3 : Int32)) rfl ?_
          refine zw_goto hm_257 dX12_step_36 (t := 40) rfl ?_
          refine zw_cv hm_257 dX12_step_40 v_12_110_12 hm_167 [.inl (3 : Int32)] [] rfl (zT_rt hS s_94 rfl) ⟨by omega, by omega⟩ rfl ?_
          show ma_wp X (d - 1) (w - 21) 167 0 [(0, .inr (.inr (some 94))), (1, .inl (3 : Int32))] [] S _
          refine zw_push hm_167 dX12_fails_0 (v := .inr (.inr (some 94))) rfl ?_
          refine zw_push hm_167 dX12_fails_1 (v := .inl (3 : Int32)) rfl ?_
          refine zw_pf hm_167 dX12_fails_2 (zT_is hS s_94) (zT_t hS s_94) p_12_1_12 zk_int ?_
          refine zw_push hm_167 dX12_fails_5 (v := .inl (3 : Int32)) rfl ?_
          refine zw_if0 hm_167 dX12_fails_6 (t := 13) rfl zc0_eq (fun hc => absurd hc (by decide)) (fun _ => ?_)
          refine zw_push hm_167 dX12_fails_9 (v := .inl (1 : Int32)) rfl ?_
          refine zw_goto hm_167 dX12_fails_10 (t := 14) rfl ?_
          refine zw_bret hm_167 dX12_fails_14 (by decide) ?_
          show ma_wp X d w 257 43 [(0, .inr (.inr (some 94))), (1, .inl nn)] [.inl (1 : Int32)] (ma_put S 94 0 (.inl (3 : Int32))) _
          refine zw_if0 hm_257 dX12_step_43 (t := 48) rfl zc0_eq (fun hc => absurd hc (by decide)) (fun _ => ?_)
          refine zw_push hm_257 dX12_step_46 (v := .inl (0 : Int32)) rfl ?_
          exact zw_iret hm_257 dX12_step_47 (HQ _ _ h)
      · intro hc
        rw [if_pos (Classical.not_not.mp hc)] at h
        refine zw_push hm_257 dX12_step_23 (v := .inl (2 : Int32)) rfl ?_
        refine zw_goto hm_257 dX12_step_24 (t := 40) rfl ?_
        refine zw_cv hm_257 dX12_step_40 v_12_110_12 hm_167 [.inl (2 : Int32)] [] rfl (zT_rt hS s_94 rfl) ⟨by omega, by omega⟩ rfl ?_
        show ma_wp X (d - 1) (w - 21) 167 0 [(0, .inr (.inr (some 94))), (1, .inl (2 : Int32))] [] S _
        refine zw_push hm_167 dX12_fails_0 (v := .inr (.inr (some 94))) rfl ?_
        refine zw_push hm_167 dX12_fails_1 (v := .inl (2 : Int32)) rfl ?_
        refine zw_pf hm_167 dX12_fails_2 (zT_is hS s_94) (zT_t hS s_94) p_12_1_12 zk_int ?_
        refine zw_push hm_167 dX12_fails_5 (v := .inl (2 : Int32)) rfl ?_
        refine zw_if0 hm_167 dX12_fails_6 (t := 13) rfl zc0_eq (fun hc => absurd hc (by decide)) (fun _ => ?_)
        refine zw_push hm_167 dX12_fails_9 (v := .inl (1 : Int32)) rfl ?_
        refine zw_goto hm_167 dX12_fails_10 (t := 14) rfl ?_
        refine zw_bret hm_167 dX12_fails_14 (by decide) ?_
        show ma_wp X d w 257 43 [(0, .inr (.inr (some 94))), (1, .inl nn)] [.inl (1 : Int32)] (ma_put S 94 0 (.inl (2 : Int32))) _
        refine zw_if0 hm_257 dX12_step_43 (t := 48) rfl zc0_eq (fun hc => absurd hc (by decide)) (fun _ => ?_)
        refine zw_push hm_257 dX12_step_46 (v := .inl (0 : Int32)) rfl ?_
        exact zw_iret hm_257 dX12_step_47 (HQ _ _ h)
    · intro hc
      rw [if_neg hc] at h
      refine zw_push hm_257 dX12_step_12 (v := .inl (1 : Int32)) rfl ?_
      refine zw_goto hm_257 dX12_step_13 (t := 40) rfl ?_
      refine zw_cv hm_257 dX12_step_40 v_12_110_12 hm_167 [.inl (1 : Int32)] [] rfl (zT_rt hS s_94 rfl) ⟨by omega, by omega⟩ rfl ?_
      show ma_wp X (d - 1) (w - 21) 167 0 [(0, .inr (.inr (some 94))), (1, .inl (1 : Int32))] [] S _
      refine zw_push hm_167 dX12_fails_0 (v := .inr (.inr (some 94))) rfl ?_
      refine zw_push hm_167 dX12_fails_1 (v := .inl (1 : Int32)) rfl ?_
      refine zw_pf hm_167 dX12_fails_2 (zT_is hS s_94) (zT_t hS s_94) p_12_1_12 zk_int ?_
      refine zw_push hm_167 dX12_fails_5 (v := .inl (1 : Int32)) rfl ?_
      refine zw_if0 hm_167 dX12_fails_6 (t := 13) rfl zc0_eq (fun hc => absurd hc (by decide)) (fun _ => ?_)
      refine zw_push hm_167 dX12_fails_9 (v := .inl (1 : Int32)) rfl ?_
      refine zw_goto hm_167 dX12_fails_10 (t := 14) rfl ?_
      refine zw_bret hm_167 dX12_fails_14 (by decide) ?_
      show ma_wp X d w 257 43 [(0, .inr (.inr (some 94))), (1, .inl nn)] [.inl (1 : Int32)] (ma_put S 94 0 (.inl (1 : Int32))) _
      refine zw_if0 hm_257 dX12_step_43 (t := 48) rfl zc0_eq (fun hc => absurd hc (by decide)) (fun _ => ?_)
      refine zw_push hm_257 dX12_step_46 (v := .inl (0 : Int32)) rfl ?_
      exact zw_iret hm_257 dX12_step_47 (HQ _ _ h)
/-! from 94.461 -/
/-! kinds, links -/
theorem i_shl8 {n : Int32} (h0 : 0 ≤ n.toInt) (h1 : n.toInt ≤ 8) : ((1 : Int32) <<< (n &&& 31)).toInt ≤ 256 := by
  have h : n.toInt = 0 ∨ n.toInt = 1 ∨ n.toInt = 2 ∨ n.toInt = 3 ∨ n.toInt = 4 ∨ n.toInt = 5 ∨ n.toInt = 6 ∨ n.toInt = 7 ∨ n.toInt = 8 := by omega
  rcases h with h | h | h | h | h | h | h | h | h
  · rw [Int32.toInt_inj.mp (h.trans (rfl : (0 : Int32).toInt = 0).symm)]; decide
  · rw [Int32.toInt_inj.mp (h.trans (rfl : (1 : Int32).toInt = 1).symm)]; decide
  · rw [Int32.toInt_inj.mp (h.trans (rfl : (2 : Int32).toInt = 2).symm)]; decide
  · rw [Int32.toInt_inj.mp (h.trans (rfl : (3 : Int32).toInt = 3).symm)]; decide
  · rw [Int32.toInt_inj.mp (h.trans (rfl : (4 : Int32).toInt = 4).symm)]; decide
  · rw [Int32.toInt_inj.mp (h.trans (rfl : (5 : Int32).toInt = 5).symm)]; decide
  · rw [Int32.toInt_inj.mp (h.trans (rfl : (6 : Int32).toInt = 6).symm)]; decide
  · rw [Int32.toInt_inj.mp (h.trans (rfl : (7 : Int32).toInt = 7).symm)]; decide
  · rw [Int32.toInt_inj.mp (h.trans (rfl : (8 : Int32).toInt = 8).symm)]; decide
theorem i_div4 {x y : Int32} (h1 : 0 ≤ x.toInt) (h2 : x.toInt ≤ 1999) (h3 : 4 ≤ y.toInt) : 0 ≤ (x / y).toInt ∧ (x / y).toInt ≤ 499 := by
  have h := i_div (x := x) (y := y) h1 (by omega)
  refine ⟨h.1, ?_⟩
  refine Classical.byContradiction (fun z => ?_)
  have h4 : 500 * 4 ≤ (x / y).toInt * y.toInt := Int.mul_le_mul (by omega) h3 (by omega) (by omega)
  have := h.2.2.2
  omega
section LK1
variable {ks po ro yo ol ca hf tp ot wm x : Int32} {kr kd ws wd wd₉ us rt wk wi at₉ ow di di₉ : Nat → Int32} {s0 i0 : Nat}
theorem W_link (h : zW ks kr kd ws wd) (h1 : -1 ≤ x.toInt) (h2 : x.toInt ≤ 3099) (e : ∀ s₉ i₉ : Nat, s₉ < 3100 → (i₉ : Int) < (ws s₉).toInt → zrf kr kd wd₉ s₉ i₉ = if s₉ = s0 ∧ i₉ = i0 then x else zrf kr kd wd s₉ i₉) : zW ks kr kd ws wd₉ := by
  intro s hs
  refine ⟨fun i hi => ?_, (h s hs).2⟩
  rw [e s i hs hi]
  split
  · exact ⟨h1, h2⟩
  · exact (h s hs).1 i hi
theorem DX_link (h : zDX po us rt wk wi wm kr kd ws wd) (hx : (po.toInt = 2 ∨ po.toInt = 3) → x.toInt < 0 ∨ us x.toNatClampNeg ≠ 0) (e : ∀ s₉ i₉ : Nat, s₉ < 3100 → (i₉ : Int) < (ws s₉).toInt → zrf kr kd wd₉ s₉ i₉ = if s₉ = s0 ∧ i₉ = i0 then x else zrf kr kd wd s₉ i₉) : zDX po us rt wk wi wm kr kd ws wd₉ := by
  intro hp
  obtain ⟨a1, a2, a3, a4⟩ := h hp
  refine ⟨a1, a2, a3, fun s hs hu i hi => ?_⟩
  unfold zcl
  rw [e s i hs hi]
  split
  · exact hx hp
  · exact a4 s hs hu i hi
theorem HA_link (h : zHA po ro yo ol ca hf tp ot us ws at₉ ow di kr kd wd) (hd : ∀ j, di j ≠ 0 → di₉ j ≠ 0) (e : ∀ s₉ i₉ : Nat, s₉ < 3100 → (i₉ : Int) < (ws s₉).toInt → zrf kr kd wd₉ s₉ i₉ = if s₉ = s0 ∧ i₉ = i0 then x else zrf kr kd wd s₉ i₉) (hx : po.toInt = 3 → (at₉ s0).toInt < ol.toInt → x.toInt < 0 ∨ (at₉ x.toNatClampNeg).toInt < ol.toInt ∨ di₉ (((at₉ s0).toInt + 1 + i0) / ca.toInt).toNat ≠ 0) : zHA po ro yo ol ca hf tp ot us ws at₉ ow di₉ kr kd wd₉ := by
  refine ⟨h.1, fun hp => ?_⟩
  obtain ⟨a1, a2, a3, a4, a5⟩ := h.2 hp
  refine ⟨a1, a2, a3, a4, fun s hs hu ha i hi => ?_⟩
  rw [e s i hs hi]
  by_cases z : s = s0 ∧ i = i0
  · rw [if_pos z, z.1, z.2]
    rw [z.1] at ha
    exact hx hp ha
  · rw [if_neg z]
    rcases a5 s hs hu ha i hi with q | q | q
    · exact Or.inl q
    · exact Or.inr (Or.inl q)
    · exact Or.inr (Or.inr (hd _ q))
end LK1
theorem card_ix {a i c : Int32} (h1 : 0 ≤ a.toInt) (h2 : a.toInt ≤ 4599) (h3 : 0 ≤ i.toInt) (h4 : i.toInt ≤ 60) (h5 : 4 ≤ c.toInt) : ((a + (1 : Int32) + i) / c).toNatClampNeg = ((a.toInt + 1 + (i.toNatClampNeg : Int)) / c.toInt).toNat := by
  have e1 : (a + (1 : Int32)).toInt = a.toInt + 1 := i_addk rfl (by omega) (by omega)
  have e2 : (a + (1 : Int32) + i).toInt = (a + (1 : Int32)).toInt + i.toInt := i_add (by omega) (by omega)
  have h := i_div (x := a + (1 : Int32) + i) (y := c) (by omega) (by omega)
  rw [tn_eq, h.2.2.1, tn_cast h3, e2, e1]
theorem W_isr {ks : Int32} {kr kd ws wd : Nat → Int32} {s i : Int32} (h : zW ks kr kd ws wd) (h1 : 0 ≤ s.toInt) (h2 : s.toInt ≤ 3099) (h3 : 0 ≤ i.toInt) (h4 : i.toInt < (ws s.toNatClampNeg).toInt) (h5 : (ws s.toNatClampNeg).toInt ≤ 60) (hk : kd s.toNatClampNeg = 16 ∨ (kd s.toNatClampNeg < 16 ∧ ((kr (kd s.toNatClampNeg).toNatClampNeg >>> (i &&& 31)) &&& 1) = 1)) : -1 ≤ (wd (s * (60 : Int32) + i).toNatClampNeg).toInt ∧ (wd (s * (60 : Int32) + i).toNatClampNeg).toInt ≤ 3099 := by
  have e := zrf_eq (kr := kr) (kd := kd) (wd := wd) h1 h2 h3 (by omega)
  by_cases q2 : kd s.toNatClampNeg = 16
  · rw [if_pos q2] at e
    exact W_ref h h1 h2 h3 h4 e.symm
  · rw [if_neg q2, if_pos (hk.elim (fun z => absurd z q2) id)] at e
    exact W_ref h h1 h2 h3 h4 e.symm

/-! from 94.462 -/
/-! the reference (written by wip/tools/gen94m.py) -/
set_option maxRecDepth 100000 in
theorem hm_166 : ma_md 166 = some (12, yX12_feed, cX12_feed, 6, (some (FieldType.int))) := rfl
theorem v_12_114_12 : ma_vl 12 114 12 = some (1, 168, 1) := by decide +kernel
theorem dX12_feed_0 : decode cX12_feed 0 = .ok (.aload_n 0, 1) := by decide +kernel
theorem dX12_feed_1 : decode cX12_feed 1 = .ok (.aload_n 0, 1) := by decide +kernel
theorem dX12_feed_5 : decode cX12_feed 5 = .ok (.bipush 20, 2) := by decide +kernel
theorem dX12_feed_7 : decode cX12_feed 7 = .ok (.iadd, 1) := by decide +kernel
theorem dX12_feed_8 : decode cX12_feed 8 = .ok (.bipush 100, 2) := by decide +kernel
theorem dX12_feed_17 : decode cX12_feed 17 = .ok (.iconst 0, 1) := by decide +kernel
theorem dX12_feed_18 : decode cX12_feed 18 = .ok (.invokevirtual 110, 3) := by decide +kernel
theorem dX12_feed_21 : decode cX12_feed 21 = .ok (.ifCond .eq 5, 3) := by decide +kernel
theorem dX12_feed_26 : decode cX12_feed 26 = .ok (.aload_n 0, 1) := by decide +kernel
theorem dX12_feed_27 : decode cX12_feed 27 = .ok (.iload_n 1, 1) := by decide +kernel
theorem dX12_feed_28 : decode cX12_feed 28 = .ok (.invokevirtual 114, 3) := by decide +kernel
theorem dX12_feed_31 : decode cX12_feed 31 = .ok (.aload_n 0, 1) := by decide +kernel
theorem dX12_feed_32 : decode cX12_feed 32 = .ok (.iload_n 2, 1) := by decide +kernel
theorem dX12_feed_33 : decode cX12_feed 33 = .ok (.invokevirtual 114, 3) := by decide +kernel
theorem dX12_feed_36 : decode cX12_feed 36 = .ok (.aload_n 0, 1) := by decide +kernel
theorem dX12_feed_37 : decode cX12_feed 37 = .ok (.iload_n 3, 1) := by decide +kernel
theorem dX12_feed_38 : decode cX12_feed 38 = .ok (.invokevirtual 114, 3) := by decide +kernel
theorem dX12_feed_41 : decode cX12_feed 41 = .ok (.aload_n 0, 1) := by decide +kernel
theorem dX12_feed_42 : decode cX12_feed 42 = .ok (.iload 4, 2) := by decide +kernel
theorem dX12_feed_44 : decode cX12_feed 44 = .ok (.invokevirtual 114, 3) := by decide +kernel
theorem dX12_feed_47 : decode cX12_feed 47 = .ok (.aload_n 0, 1) := by decide +kernel
theorem dX12_feed_48 : decode cX12_feed 48 = .ok (.iload 5, 2) := by decide +kernel
theorem dX12_feed_50 : decode cX12_feed 50 = .ok (.invokevirtual 114, 3) := by decide +kernel
theorem dX12_feed_53 : decode cX12_feed 53 = .ok (.aload_n 0, 1) := by decide +kernel
theorem dX12_feed_57 : decode cX12_feed 57 = .ok (.ireturn, 1) := by decide +kernel
theorem dX12_feed_54 : decode cX12_feed 54 = .ok (.getfield 107, 3) := by decide +kernel
theorem dX12_feed_13 : decode cX12_feed 13 = .ok (.iconst 1, 1) := by decide +kernel
theorem dX12_feed_14 : decode cX12_feed 14 = .ok (.goto 4, 3) := by decide +kernel
theorem dX12_feed_24 : decode cX12_feed 24 = .ok (.iconst 0, 1) := by decide +kernel
theorem dX12_feed_25 : decode cX12_feed 25 = .ok (.ireturn, 1) := by decide +kernel
theorem dX12_feed_10 : decode cX12_feed 10 = .ok (.if_icmp .le 7, 3) := by decide +kernel
theorem dX12_feed_2 : decode cX12_feed 2 = .ok (.getfield 107, 3) := by decide +kernel
def wr_166 (c k : Nat) : Bool := Nat.beq c 95 || (Nat.beq c 94 && (Nat.beq k 0 || Nat.beq k 3))
theorem ws_168_166 : ∀ c k, wr_168 c k = true → wr_166 c k = true := by
  intro c k h
  simp only [wr_168, Bool.or_eq_true, Bool.and_eq_true, Nat.beq_eq] at h
  rcases h with rfl | ⟨rfl, rfl⟩ <;> rfl
theorem g_166_0 {X : Nat × (Nat → Int32)} {m : Nat → Nat → Int32} {P : Option ma_V → (Nat → Nat → Int32) → Prop} (xa : Int32) (xb : Int32) (xc : Int32) (xd : Int32) (xe : Int32) (h : if ((m 94 3) + (20 : Int32)) ≤ (100 : Int32) then (zm X 0 0 168 0 [(0, .inr (.inr (some 94))), (1, .inl xa)] (ma_u m 94 0 (0 : Int32)) (zmv (fun m1 => zm X 0 0 168 0 [(0, .inr (.inr (some 94))), (1, .inl xb)] m1 (zmv (fun m3 => zm X 0 0 168 0 [(0, .inr (.inr (some 94))), (1, .inl xc)] m3 (zmv (fun m5 => zm X 0 0 168 0 [(0, .inr (.inr (some 94))), (1, .inl xd)] m5 (zmv (fun m7 => zm X 0 0 168 0 [(0, .inr (.inr (some 94))), (1, .inl xe)] m7 (zmv (fun m9 => P (some (.inl (m9 94 3))) m9))))))))))) else (P (some (.inl (0 : Int32))) (ma_u m 94 0 (1 : Int32)))) : zm X 1 22 166 0 [(0, .inr (.inr (some 94))), (1, .inl xa), (2, .inl xb), (3, .inl xc), (4, .inl xd), (5, .inl xe)] m P := by
  intro d w S Q hd hw hS hm HQ
  subst hm
  refine zw_push hm_166 dX12_feed_0 (v := .inr (.inr (some 94))) rfl ?_
  refine zw_push hm_166 dX12_feed_1 (v := .inr (.inr (some 94))) rfl ?_
  refine zw_gf hm_166 dX12_feed_2 (v := .inl ((mI S) 94 3)) (zT_is hS s_94) (zT_t hS s_94) rfl f_12_107_12 rfl ?_
  refine zw_push hm_166 dX12_feed_5 (v := .inl (20 : Int32)) rfl ?_
  refine zw_stk hm_166 dX12_feed_7 (st₉ := [.inl (((mI S) 94 3) + (20 : Int32)), .inr (.inr (some 94))]) rfl rfl ?_
  refine zw_push hm_166 dX12_feed_8 (v := .inl (100 : Int32)) rfl ?_
  refine zw_if2 hm_166 dX12_feed_10 (t := 17) rfl zc2_le ?_ ?_
  · intro hc
    rw [if_pos hc] at h
    refine zw_push hm_166 dX12_feed_17 (v := .inl (0 : Int32)) rfl ?_
    refine zw_cv hm_166 dX12_feed_18 v_12_110_12 hm_167 [.inl (0 : Int32)] [] rfl (zT_rt hS s_94 rfl) ⟨by omega, by omega⟩ rfl ?_
    show ma_wp X (d - 1) (w - 21) 167 0 [(0, .inr (.inr (some 94))), (1, .inl (0 : Int32))] [] S _
    refine zw_push hm_167 dX12_fails_0 (v := .inr (.inr (some 94))) rfl ?_
    refine zw_push hm_167 dX12_fails_1 (v := .inl (0 : Int32)) rfl ?_
    refine zw_pf hm_167 dX12_fails_2 (zT_is hS s_94) (zT_t hS s_94) p_12_1_12 zk_int ?_
    refine zw_push hm_167 dX12_fails_5 (v := .inl (0 : Int32)) rfl ?_
    refine zw_if0 hm_167 dX12_fails_6 (t := 13) rfl zc0_eq (fun _ => ?_) (fun hc => absurd (by decide) hc)
    refine zw_push hm_167 dX12_fails_13 (v := .inl (0 : Int32)) rfl ?_
    refine zw_bret hm_167 dX12_fails_14 (by decide) ?_
    show ma_wp X d w 166 21 [(0, .inr (.inr (some 94))), (1, .inl xa), (2, .inl xb), (3, .inl xc), (4, .inl xd), (5, .inl xe)] [.inl (0 : Int32)] (ma_put S 94 0 (.inl (0 : Int32))) _
    refine zw_if0 hm_166 dX12_feed_21 (t := 26) rfl zc0_eq (fun _ => ?_) (fun hc => absurd (by decide) hc)
    refine zw_push hm_166 dX12_feed_26 (v := .inr (.inr (some 94))) rfl ?_
    refine zw_push hm_166 dX12_feed_27 (v := .inl xa) rfl ?_
    refine zw_cv hm_166 dX12_feed_28 v_12_114_12 hm_168 [.inl xa] [] rfl (zT_rt (zT_pi hS) s_94 rfl) ⟨by omega, by omega⟩ rfl (h _ _ (ma_put S 94 0 (.inl (0 : Int32))) _ (by omega) (by omega) (zT_pi hS) rfl (fun o9 m1 hv => ?_))
    obtain ⟨rfl, h⟩ := zmv_of hv
    show ma_wp X d w 166 31 [(0, .inr (.inr (some 94))), (1, .inl xa), (2, .inl xb), (3, .inl xc), (4, .inl xd), (5, .inl xe)] [] (zst S m1) _
    refine zw_push hm_166 dX12_feed_31 (v := .inr (.inr (some 94))) rfl ?_
    refine zw_push hm_166 dX12_feed_32 (v := .inl xb) rfl ?_
    refine zw_cv hm_166 dX12_feed_33 v_12_114_12 hm_168 [.inl xb] [] rfl (zT_rt (zT_zst hS m1) s_94 rfl) ⟨by omega, by omega⟩ rfl (h _ _ (zst S m1) _ (by omega) (by omega) (zT_zst hS m1) rfl (fun o9 m3 hv => ?_))
    obtain ⟨rfl, h⟩ := zmv_of hv
    show ma_wp X d w 166 36 [(0, .inr (.inr (some 94))), (1, .inl xa), (2, .inl xb), (3, .inl xc), (4, .inl xd), (5, .inl xe)] [] (zst S m3) _
    refine zw_push hm_166 dX12_feed_36 (v := .inr (.inr (some 94))) rfl ?_
    refine zw_push hm_166 dX12_feed_37 (v := .inl xc) rfl ?_
    refine zw_cv hm_166 dX12_feed_38 v_12_114_12 hm_168 [.inl xc] [] rfl (zT_rt (zT_zst hS m3) s_94 rfl) ⟨by omega, by omega⟩ rfl (h _ _ (zst S m3) _ (by omega) (by omega) (zT_zst hS m3) rfl (fun o9 m5 hv => ?_))
    obtain ⟨rfl, h⟩ := zmv_of hv
    show ma_wp X d w 166 41 [(0, .inr (.inr (some 94))), (1, .inl xa), (2, .inl xb), (3, .inl xc), (4, .inl xd), (5, .inl xe)] [] (zst S m5) _
    refine zw_push hm_166 dX12_feed_41 (v := .inr (.inr (some 94))) rfl ?_
    refine zw_push hm_166 dX12_feed_42 (v := .inl xd) rfl ?_
    refine zw_cv hm_166 dX12_feed_44 v_12_114_12 hm_168 [.inl xd] [] rfl (zT_rt (zT_zst hS m5) s_94 rfl) ⟨by omega, by omega⟩ rfl (h _ _ (zst S m5) _ (by omega) (by omega) (zT_zst hS m5) rfl (fun o9 m7 hv => ?_))
    obtain ⟨rfl, h⟩ := zmv_of hv
    show ma_wp X d w 166 47 [(0, .inr (.inr (some 94))), (1, .inl xa), (2, .inl xb), (3, .inl xc), (4, .inl xd), (5, .inl xe)] [] (zst S m7) _
    refine zw_push hm_166 dX12_feed_47 (v := .inr (.inr (some 94))) rfl ?_
    refine zw_push hm_166 dX12_feed_48 (v := .inl xe) rfl ?_
    refine zw_cv hm_166 dX12_feed_50 v_12_114_12 hm_168 [.inl xe] [] rfl (zT_rt (zT_zst hS m7) s_94 rfl) ⟨by omega, by omega⟩ rfl (h _ _ (zst S m7) _ (by omega) (by omega) (zT_zst hS m7) rfl (fun o9 m9 hv => ?_))
    obtain ⟨rfl, h⟩ := zmv_of hv
    show ma_wp X d w 166 53 [(0, .inr (.inr (some 94))), (1, .inl xa), (2, .inl xb), (3, .inl xc), (4, .inl xd), (5, .inl xe)] [] (zst S m9) _
    refine zw_push hm_166 dX12_feed_53 (v := .inr (.inr (some 94))) rfl ?_
    refine zw_gf hm_166 dX12_feed_54 (v := .inl (m9 94 3)) (zT_is (zT_zst hS m9) s_94) (zT_t (zT_zst hS m9) s_94) rfl f_12_107_12 rfl ?_
    exact zw_iret hm_166 dX12_feed_57 (HQ _ _ h)
  · intro hc
    rw [if_neg hc] at h
    refine zw_push hm_166 dX12_feed_13 (v := .inl (1 : Int32)) rfl ?_
    refine zw_goto hm_166 dX12_feed_14 (t := 18) rfl ?_
    refine zw_cv hm_166 dX12_feed_18 v_12_110_12 hm_167 [.inl (1 : Int32)] [] rfl (zT_rt hS s_94 rfl) ⟨by omega, by omega⟩ rfl ?_
    show ma_wp X (d - 1) (w - 21) 167 0 [(0, .inr (.inr (some 94))), (1, .inl (1 : Int32))] [] S _
    refine zw_push hm_167 dX12_fails_0 (v := .inr (.inr (some 94))) rfl ?_
    refine zw_push hm_167 dX12_fails_1 (v := .inl (1 : Int32)) rfl ?_
    refine zw_pf hm_167 dX12_fails_2 (zT_is hS s_94) (zT_t hS s_94) p_12_1_12 zk_int ?_
    refine zw_push hm_167 dX12_fails_5 (v := .inl (1 : Int32)) rfl ?_
    refine zw_if0 hm_167 dX12_fails_6 (t := 13) rfl zc0_eq (fun hc => absurd hc (by decide)) (fun _ => ?_)
    refine zw_push hm_167 dX12_fails_9 (v := .inl (1 : Int32)) rfl ?_
    refine zw_goto hm_167 dX12_fails_10 (t := 14) rfl ?_
    refine zw_bret hm_167 dX12_fails_14 (by decide) ?_
    show ma_wp X d w 166 21 [(0, .inr (.inr (some 94))), (1, .inl xa), (2, .inl xb), (3, .inl xc), (4, .inl xd), (5, .inl xe)] [.inl (1 : Int32)] (ma_put S 94 0 (.inl (1 : Int32))) _
    refine zw_if0 hm_166 dX12_feed_21 (t := 26) rfl zc0_eq (fun hc => absurd hc (by decide)) (fun _ => ?_)
    refine zw_push hm_166 dX12_feed_24 (v := .inl (0 : Int32)) rfl ?_
    exact zw_iret hm_166 dX12_feed_25 (HQ _ _ h)
theorem sp_166 {X : Nat × (Nat → Int32)} {P : Option ma_V → (Nat → Nat → Int32) → Prop} {m : Nat → Nat → Int32} (xa : Int32) (xb : Int32) (xc : Int32) (xd : Int32) (xe : Int32) (hV : zV m)  (KZ : ∀ v m₉, zV (zov wr_166 m m₉) → ((81 ≤ (m 94 3).toInt ∧ (m₉ 94 0).toInt = 1 ∧ (m₉ 94 3).toInt = (m 94 3).toInt) ∨ ((m 94 3).toInt ≤ 80 ∧ (m₉ 94 0).toInt = 0 ∧ (m₉ 94 3).toInt = (m 94 3).toInt + 20 ∧ v.toInt = (m 94 3).toInt + 20)) → P (some (.inl v)) (zov wr_166 m m₉)) : zm X 1 22 166 0 [(0, .inr (.inr (some 94))), (1, .inl xa), (2, .inl xb), (3, .inl xc), (4, .inl xd), (5, .inl xe)] m P := by
  have K : ∀ v m₉, zF wr_166 m m₉ → zV m₉ → ((81 ≤ (m 94 3).toInt ∧ (m₉ 94 0).toInt = 1 ∧ (m₉ 94 3).toInt = (m 94 3).toInt) ∨ ((m 94 3).toInt ≤ 80 ∧ (m₉ 94 0).toInt = 0 ∧ (m₉ 94 3).toInt = (m 94 3).toInt + 20 ∧ v.toInt = (m 94 3).toInt + 20)) → P (some (.inl v)) m₉ := by
    intro v m₉ hf z q0
    have e := zov_eq hf
    rw [e] at z ⊢
    try rw [e] at q0
    exact KZ v m₉ z q0
  refine g_166_0 xa xb xc xd xe ?_
  have f1 : 0 ≤ (m 94 3).toInt ∧ (m 94 3).toInt ≤ 100 := rs_94_3 (m := m) hV
  first | have e2 : ((m 94 3) + (20 : Int32)).toInt = (m 94 3).toInt + (20) := i_addk rfl (by omega) (by omega) | have b3 := i_bd ((m 94 3) + (20 : Int32))
  have li4 : (100 : Int32).toInt = 100 := rfl
  refine zd (fun (h5 : ((m 94 3) + (20 : Int32)) ≤ (100 : Int32)) => ?_) (fun (h5 : ¬ ((m 94 3) + (20 : Int32)) ≤ (100 : Int32)) => ?_)
  · skip
    have g6 := i_le h5
    have hV7 : zV (ma_u m 94 0 (0 : Int32)) := uf_94_0 hV
    refine sp_168 (xa) hV7 (show (m 94 3).toInt ≤ 96 from by omega) (fun m1 hV_m1 p0_m1 => zmv_n ?_)
    have p0_m1 : (m1 94 3).toInt = (m 94 3).toInt + 4 := p0_m1
    have f8 : 0 ≤ (m1 94 3).toInt ∧ (m1 94 3).toInt ≤ 100 := rs_94_3 (m := (zov wr_168 (ma_u m 94 0 (0 : Int32)) m1)) hV_m1
    refine sp_168 (xb) hV_m1 (show (m1 94 3).toInt ≤ 96 from by omega) (fun m3 hV_m3 p0_m3 => zmv_n ?_)
    have p0_m3 : (m3 94 3).toInt = (m1 94 3).toInt + 4 := p0_m3
    have f9 : 0 ≤ (m3 94 3).toInt ∧ (m3 94 3).toInt ≤ 100 := rs_94_3 (m := (zov wr_168 (zov wr_168 (ma_u m 94 0 (0 : Int32)) m1) m3)) hV_m3
    refine sp_168 (xc) hV_m3 (show (m3 94 3).toInt ≤ 96 from by omega) (fun m5 hV_m5 p0_m5 => zmv_n ?_)
    have p0_m5 : (m5 94 3).toInt = (m3 94 3).toInt + 4 := p0_m5
    have f10 : 0 ≤ (m5 94 3).toInt ∧ (m5 94 3).toInt ≤ 100 := rs_94_3 (m := (zov wr_168 (zov wr_168 (zov wr_168 (ma_u m 94 0 (0 : Int32)) m1) m3) m5)) hV_m5
    refine sp_168 (xd) hV_m5 (show (m5 94 3).toInt ≤ 96 from by omega) (fun m7 hV_m7 p0_m7 => zmv_n ?_)
    have p0_m7 : (m7 94 3).toInt = (m5 94 3).toInt + 4 := p0_m7
    have f11 : 0 ≤ (m7 94 3).toInt ∧ (m7 94 3).toInt ≤ 100 := rs_94_3 (m := (zov wr_168 (zov wr_168 (zov wr_168 (zov wr_168 (ma_u m 94 0 (0 : Int32)) m1) m3) m5) m7)) hV_m7
    refine sp_168 (xe) hV_m7 (show (m7 94 3).toInt ≤ 96 from by omega) (fun m9 hV_m9 p0_m9 => zmv_n ?_)
    have p0_m9 : (m9 94 3).toInt = (m7 94 3).toInt + 4 := p0_m9
    have f12 : 0 ≤ (m9 94 3).toInt ∧ (m9 94 3).toInt ≤ 100 := rs_94_3 (m := (zov wr_168 (zov wr_168 (zov wr_168 (zov wr_168 (zov wr_168 (ma_u m 94 0 (0 : Int32)) m1) m3) m5) m7) m9)) hV_m9
    have li13 : (0 : Int32).toInt = 0 := rfl
    exact K ((m9 94 3)) _ (zF_zov (zF_zov (zF_zov (zF_zov (zF_zov (zF_u zF_rfl rfl) ws_168_166) ws_168_166) ws_168_166) ws_168_166) ws_168_166) hV_m9 (show (81 ≤ (m 94 3).toInt ∧ (0 : Int32).toInt = 1 ∧ (m9 94 3).toInt = (m 94 3).toInt) ∨ ((m 94 3).toInt ≤ 80 ∧ (0 : Int32).toInt = 0 ∧ (m9 94 3).toInt = (m 94 3).toInt + 20 ∧ (m9 94 3).toInt = (m 94 3).toInt + 20) from by omega)
  · skip
    have g14 := i_nle h5
    have hV15 : zV (ma_u m 94 0 (1 : Int32)) := uf_94_0 hV
    have li16 : (0 : Int32).toInt = 0 := rfl
    have li17 : (1 : Int32).toInt = 1 := rfl
    exact K ((0 : Int32)) _ (zF_u zF_rfl rfl) hV15 (show (81 ≤ (m 94 3).toInt ∧ (1 : Int32).toInt = 1 ∧ (m 94 3).toInt = (m 94 3).toInt) ∨ ((m 94 3).toInt ≤ 80 ∧ (1 : Int32).toInt = 0 ∧ (m 94 3).toInt = (m 94 3).toInt + 20 ∧ (0 : Int32).toInt = (m 94 3).toInt + 20) from by omega)
set_option maxRecDepth 100000 in
theorem hm_169 : ma_md 169 = some (12, yX12_end, cX12_end, 2, (some (FieldType.int))) := rfl
theorem dX12_end_0 : decode cX12_end 0 = .ok (.aload_n 0, 1) := by decide +kernel
theorem dX12_end_1 : decode cX12_end 1 = .ok (.iload_n 1, 1) := by decide +kernel
theorem dX12_end_13 : decode cX12_end 13 = .ok (.iconst 1, 1) := by decide +kernel
theorem dX12_end_14 : decode cX12_end 14 = .ok (.goto 4, 3) := by decide +kernel
theorem dX12_end_18 : decode cX12_end 18 = .ok (.invokevirtual 110, 3) := by decide +kernel
theorem dX12_end_21 : decode cX12_end 21 = .ok (.ifCond .eq 5, 3) := by decide +kernel
theorem dX12_end_24 : decode cX12_end 24 = .ok (.iconst 0, 1) := by decide +kernel
theorem dX12_end_25 : decode cX12_end 25 = .ok (.ireturn, 1) := by decide +kernel
theorem dX12_end_5 : decode cX12_end 5 = .ok (.iload_n 1, 1) := by decide +kernel
theorem dX12_end_6 : decode cX12_end 6 = .ok (.aload_n 0, 1) := by decide +kernel
theorem dX12_end_17 : decode cX12_end 17 = .ok (.iconst 0, 1) := by decide +kernel
theorem dX12_end_26 : decode cX12_end 26 = .ok (.aload_n 0, 1) := by decide +kernel
theorem dX12_end_27 : decode cX12_end 27 = .ok (.iload_n 1, 1) := by decide +kernel
theorem dX12_end_31 : decode cX12_end 31 = .ok (.iload_n 1, 1) := by decide +kernel
theorem dX12_end_32 : decode cX12_end 32 = .ok (.ireturn, 1) := by decide +kernel
theorem dX12_end_28 : decode cX12_end 28 = .ok (.putfield 107, 3) := by decide +kernel
theorem dX12_end_10 : decode cX12_end 10 = .ok (.if_icmp .le 7, 3) := by decide +kernel
theorem dX12_end_7 : decode cX12_end 7 = .ok (.getfield 107, 3) := by decide +kernel
theorem dX12_end_2 : decode cX12_end 2 = .ok (.ifCond .lt 11, 3) := by decide +kernel
def wr_169 (c k : Nat) : Bool := (Nat.beq c 94 && (Nat.beq k 0 || Nat.beq k 3))
theorem g_169_0 {X : Nat × (Nat → Int32)} {m : Nat → Nat → Int32} {P : Option ma_V → (Nat → Nat → Int32) → Prop} (nn : Int32) (h : if nn < 0 then (P (some (.inl (0 : Int32))) (ma_u m 94 0 (1 : Int32))) else (if nn ≤ (m 94 3) then (P (some (.inl nn)) (ma_u (ma_u m 94 0 (0 : Int32)) 94 3 nn)) else (P (some (.inl (0 : Int32))) (ma_u m 94 0 (1 : Int32))))) : zm X 1 21 169 0 [(0, .inr (.inr (some 94))), (1, .inl nn)] m P := by
  intro d w S Q hd hw hS hm HQ
  subst hm
  refine zw_push hm_169 dX12_end_0 (v := .inr (.inr (some 94))) rfl ?_
  refine zw_push hm_169 dX12_end_1 (v := .inl nn) rfl ?_
  refine zw_if0 hm_169 dX12_end_2 (t := 13) rfl zc0_lt ?_ ?_
  · intro hc
    rw [if_pos hc] at h
    refine zw_push hm_169 dX12_end_13 (v := .inl (1 : Int32)) rfl ?_
    refine zw_goto hm_169 dX12_end_14 (t := 18) rfl ?_
    refine zw_cv hm_169 dX12_end_18 v_12_110_12 hm_167 [.inl (1 : Int32)] [] rfl (zT_rt hS s_94 rfl) ⟨by omega, by omega⟩ rfl ?_
    show ma_wp X (d - 1) (w - 21) 167 0 [(0, .inr (.inr (some 94))), (1, .inl (1 : Int32))] [] S _
    refine zw_push hm_167 dX12_fails_0 (v := .inr (.inr (some 94))) rfl ?_
    refine zw_push hm_167 dX12_fails_1 (v := .inl (1 : Int32)) rfl ?_
    refine zw_pf hm_167 dX12_fails_2 (zT_is hS s_94) (zT_t hS s_94) p_12_1_12 zk_int ?_
    refine zw_push hm_167 dX12_fails_5 (v := .inl (1 : Int32)) rfl ?_
    refine zw_if0 hm_167 dX12_fails_6 (t := 13) rfl zc0_eq (fun hc => absurd hc (by decide)) (fun _ => ?_)
    refine zw_push hm_167 dX12_fails_9 (v := .inl (1 : Int32)) rfl ?_
    refine zw_goto hm_167 dX12_fails_10 (t := 14) rfl ?_
    refine zw_bret hm_167 dX12_fails_14 (by decide) ?_
    show ma_wp X d w 169 21 [(0, .inr (.inr (some 94))), (1, .inl nn)] [.inl (1 : Int32)] (ma_put S 94 0 (.inl (1 : Int32))) _
    refine zw_if0 hm_169 dX12_end_21 (t := 26) rfl zc0_eq (fun hc => absurd hc (by decide)) (fun _ => ?_)
    refine zw_push hm_169 dX12_end_24 (v := .inl (0 : Int32)) rfl ?_
    exact zw_iret hm_169 dX12_end_25 (HQ _ _ h)
  · intro hc
    rw [if_neg hc] at h
    refine zw_push hm_169 dX12_end_5 (v := .inl nn) rfl ?_
    refine zw_push hm_169 dX12_end_6 (v := .inr (.inr (some 94))) rfl ?_
    refine zw_gf hm_169 dX12_end_7 (v := .inl ((mI S) 94 3)) (zT_is hS s_94) (zT_t hS s_94) rfl f_12_107_12 rfl ?_
    refine zw_if2 hm_169 dX12_end_10 (t := 17) rfl zc2_le ?_ ?_
    · intro hc
      rw [if_pos hc] at h
      refine zw_push hm_169 dX12_end_17 (v := .inl (0 : Int32)) rfl ?_
      refine zw_cv hm_169 dX12_end_18 v_12_110_12 hm_167 [.inl (0 : Int32)] [] rfl (zT_rt hS s_94 rfl) ⟨by omega, by omega⟩ rfl ?_
      show ma_wp X (d - 1) (w - 21) 167 0 [(0, .inr (.inr (some 94))), (1, .inl (0 : Int32))] [] S _
      refine zw_push hm_167 dX12_fails_0 (v := .inr (.inr (some 94))) rfl ?_
      refine zw_push hm_167 dX12_fails_1 (v := .inl (0 : Int32)) rfl ?_
      refine zw_pf hm_167 dX12_fails_2 (zT_is hS s_94) (zT_t hS s_94) p_12_1_12 zk_int ?_
      refine zw_push hm_167 dX12_fails_5 (v := .inl (0 : Int32)) rfl ?_
      refine zw_if0 hm_167 dX12_fails_6 (t := 13) rfl zc0_eq (fun _ => ?_) (fun hc => absurd (by decide) hc)
      refine zw_push hm_167 dX12_fails_13 (v := .inl (0 : Int32)) rfl ?_
      refine zw_bret hm_167 dX12_fails_14 (by decide) ?_
      show ma_wp X d w 169 21 [(0, .inr (.inr (some 94))), (1, .inl nn)] [.inl (0 : Int32)] (ma_put S 94 0 (.inl (0 : Int32))) _
      refine zw_if0 hm_169 dX12_end_21 (t := 26) rfl zc0_eq (fun _ => ?_) (fun hc => absurd (by decide) hc)
      refine zw_push hm_169 dX12_end_26 (v := .inr (.inr (some 94))) rfl ?_
      refine zw_push hm_169 dX12_end_27 (v := .inl nn) rfl ?_
      refine zw_pf hm_169 dX12_end_28 (zT_is (zT_pi hS) s_94) (zT_t (zT_pi hS) s_94) p_12_107_12 zk_int ?_
      refine zw_push hm_169 dX12_end_31 (v := .inl nn) rfl ?_
      exact zw_iret hm_169 dX12_end_32 (HQ _ _ h)
    · intro hc
      rw [if_neg hc] at h
      refine zw_push hm_169 dX12_end_13 (v := .inl (1 : Int32)) rfl ?_
      refine zw_goto hm_169 dX12_end_14 (t := 18) rfl ?_
      refine zw_cv hm_169 dX12_end_18 v_12_110_12 hm_167 [.inl (1 : Int32)] [] rfl (zT_rt hS s_94 rfl) ⟨by omega, by omega⟩ rfl ?_
      show ma_wp X (d - 1) (w - 21) 167 0 [(0, .inr (.inr (some 94))), (1, .inl (1 : Int32))] [] S _
      refine zw_push hm_167 dX12_fails_0 (v := .inr (.inr (some 94))) rfl ?_
      refine zw_push hm_167 dX12_fails_1 (v := .inl (1 : Int32)) rfl ?_
      refine zw_pf hm_167 dX12_fails_2 (zT_is hS s_94) (zT_t hS s_94) p_12_1_12 zk_int ?_
      refine zw_push hm_167 dX12_fails_5 (v := .inl (1 : Int32)) rfl ?_
      refine zw_if0 hm_167 dX12_fails_6 (t := 13) rfl zc0_eq (fun hc => absurd hc (by decide)) (fun _ => ?_)
      refine zw_push hm_167 dX12_fails_9 (v := .inl (1 : Int32)) rfl ?_
      refine zw_goto hm_167 dX12_fails_10 (t := 14) rfl ?_
      refine zw_bret hm_167 dX12_fails_14 (by decide) ?_
      show ma_wp X d w 169 21 [(0, .inr (.inr (some 94))), (1, .inl nn)] [.inl (1 : Int32)] (ma_put S 94 0 (.inl (1 : Int32))) _
      refine zw_if0 hm_169 dX12_end_21 (t := 26) rfl zc0_eq (fun hc => absurd hc (by decide)) (fun _ => ?_)
      refine zw_push hm_169 dX12_end_24 (v := .inl (0 : Int32)) rfl ?_
      exact zw_iret hm_169 dX12_end_25 (HQ _ _ h)
theorem sp_169 {X : Nat × (Nat → Int32)} {P : Option ma_V → (Nat → Nat → Int32) → Prop} {m : Nat → Nat → Int32} (nn : Int32) (hV : zV m)  (KZ : ∀ v m₉, zV (zov wr_169 m m₉) → (((nn.toInt < 0 ∨ (m 94 3).toInt < nn.toInt) ∧ (m₉ 94 0).toInt = 1 ∧ (m₉ 94 3).toInt = (m 94 3).toInt) ∨ (0 ≤ nn.toInt ∧ nn.toInt ≤ (m 94 3).toInt ∧ (m₉ 94 0).toInt = 0 ∧ (m₉ 94 3).toInt = nn.toInt ∧ v.toInt = nn.toInt)) → P (some (.inl v)) (zov wr_169 m m₉)) : zm X 1 21 169 0 [(0, .inr (.inr (some 94))), (1, .inl nn)] m P := by
  have K : ∀ v m₉, zF wr_169 m m₉ → zV m₉ → (((nn.toInt < 0 ∨ (m 94 3).toInt < nn.toInt) ∧ (m₉ 94 0).toInt = 1 ∧ (m₉ 94 3).toInt = (m 94 3).toInt) ∨ (0 ≤ nn.toInt ∧ nn.toInt ≤ (m 94 3).toInt ∧ (m₉ 94 0).toInt = 0 ∧ (m₉ 94 3).toInt = nn.toInt ∧ v.toInt = nn.toInt)) → P (some (.inl v)) m₉ := by
    intro v m₉ hf z q0
    have e := zov_eq hf
    rw [e] at z ⊢
    try rw [e] at q0
    exact KZ v m₉ z q0
  refine g_169_0 nn ?_
  have b1 := i_bd nn
  have li2 : (0 : Int32).toInt = 0 := rfl
  refine zd (fun (h3 : nn < (0 : Int32)) => ?_) (fun (h3 : ¬ nn < (0 : Int32)) => ?_)
  · skip
    have g4 := i_lt h3
    have hV5 : zV (ma_u m 94 0 (1 : Int32)) := uf_94_0 hV
    have f6 : 0 ≤ (m 94 3).toInt ∧ (m 94 3).toInt ≤ 100 := rs_94_3 (m := m) hV
    have li7 : (1 : Int32).toInt = 1 := rfl
    exact K ((0 : Int32)) _ (zF_u zF_rfl rfl) hV5 (show ((nn.toInt < 0 ∨ (m 94 3).toInt < nn.toInt) ∧ (1 : Int32).toInt = 1 ∧ (m 94 3).toInt = (m 94 3).toInt) ∨ (0 ≤ nn.toInt ∧ nn.toInt ≤ (m 94 3).toInt ∧ (1 : Int32).toInt = 0 ∧ (m 94 3).toInt = nn.toInt ∧ (0 : Int32).toInt = nn.toInt) from by omega)
  · skip
    have g8 := i_nlt h3
    have f9 : 0 ≤ (m 94 3).toInt ∧ (m 94 3).toInt ≤ 100 := rs_94_3 (m := m) hV
    refine zd (fun (h10 : nn ≤ (m 94 3)) => ?_) (fun (h10 : ¬ nn ≤ (m 94 3)) => ?_)
    · skip
      have g11 := i_le h10
      have hV12 : zV (ma_u m 94 0 (0 : Int32)) := uf_94_0 hV
      have hV13 : zV (ma_u (ma_u m 94 0 (0 : Int32)) 94 3 nn) := us_94_3 hV12 (by omega) (by omega)
      exact K (nn) _ (zF_u (zF_u zF_rfl rfl) rfl) hV13 (show ((nn.toInt < 0 ∨ (m 94 3).toInt < nn.toInt) ∧ (0 : Int32).toInt = 1 ∧ nn.toInt = (m 94 3).toInt) ∨ (0 ≤ nn.toInt ∧ nn.toInt ≤ (m 94 3).toInt ∧ (0 : Int32).toInt = 0 ∧ nn.toInt = nn.toInt ∧ nn.toInt = nn.toInt) from by omega)
    · skip
      have g14 := i_nle h10
      have hV15 : zV (ma_u m 94 0 (1 : Int32)) := uf_94_0 hV
      have li16 : (1 : Int32).toInt = 1 := rfl
      exact K ((0 : Int32)) _ (zF_u zF_rfl rfl) hV15 (show ((nn.toInt < 0 ∨ (m 94 3).toInt < nn.toInt) ∧ (1 : Int32).toInt = 1 ∧ (m 94 3).toInt = (m 94 3).toInt) ∨ (0 ≤ nn.toInt ∧ nn.toInt ≤ (m 94 3).toInt ∧ (1 : Int32).toInt = 0 ∧ (m 94 3).toInt = nn.toInt ∧ (0 : Int32).toInt = nn.toInt) from by omega)

/-! from 94.463 -/
/-! the reference (written by wip/tools/gen94m.py) -/
set_option maxRecDepth 100000 in
theorem hm_170 : ma_md 170 = some (12, yX12_kind, cX12_kind, 4, (some (FieldType.int))) := rfl
theorem s_97 : zs 97 = some (20, 16) := rfl
theorem r_94_5 : zfi 94 5 = some 97 := rfl
theorem f_12_20_12 : ma_fld 12 20 12 = some 5 := by decide +kernel
theorem p_12_118_12 : ma_pk 12 118 12 7 = true := by decide +kernel
theorem dX12_kind_0 : decode cX12_kind 0 = .ok (.iload_n 1, 1) := by decide +kernel
theorem dX12_kind_10 : decode cX12_kind 10 = .ok (.iconst 1, 1) := by decide +kernel
theorem dX12_kind_11 : decode cX12_kind 11 = .ok (.goto 4, 3) := by decide +kernel
theorem dX12_kind_15 : decode cX12_kind 15 = .ok (.istore_n 3, 1) := by decide +kernel
theorem dX12_kind_16 : decode cX12_kind 16 = .ok (.aload_n 0, 1) := by decide +kernel
theorem dX12_kind_17 : decode cX12_kind 17 = .ok (.iload_n 3, 1) := by decide +kernel
theorem dX12_kind_18 : decode cX12_kind 18 = .ok (.ifCond .ne 14, 3) := by decide +kernel
theorem dX12_kind_32 : decode cX12_kind 32 = .ok (.iconst 1, 1) := by decide +kernel
theorem dX12_kind_33 : decode cX12_kind 33 = .ok (.goto 17, 3) := by decide +kernel
theorem dX12_kind_50 : decode cX12_kind 50 = .ok (.invokevirtual 110, 3) := by decide +kernel
theorem dX12_kind_53 : decode cX12_kind 53 = .ok (.ifCond .eq 5, 3) := by decide +kernel
theorem dX12_kind_56 : decode cX12_kind 56 = .ok (.iconst 0, 1) := by decide +kernel
theorem dX12_kind_57 : decode cX12_kind 57 = .ok (.ireturn, 1) := by decide +kernel
theorem dX12_kind_4 : decode cX12_kind 4 = .ok (.iload_n 1, 1) := by decide +kernel
theorem dX12_kind_5 : decode cX12_kind 5 = .ok (.bipush 8, 2) := by decide +kernel
theorem dX12_kind_14 : decode cX12_kind 14 = .ok (.iconst 0, 1) := by decide +kernel
theorem dX12_kind_21 : decode cX12_kind 21 = .ok (.iload_n 2, 1) := by decide +kernel
theorem dX12_kind_25 : decode cX12_kind 25 = .ok (.iload_n 2, 1) := by decide +kernel
theorem dX12_kind_26 : decode cX12_kind 26 = .ok (.iconst 1, 1) := by decide +kernel
theorem dX12_kind_27 : decode cX12_kind 27 = .ok (.iload_n 1, 1) := by decide +kernel
theorem dX12_kind_28 : decode cX12_kind 28 = .ok (.ishl, 1) := by decide +kernel
theorem dX12_kind_36 : decode cX12_kind 36 = .ok (.aload_n 0, 1) := by decide +kernel
theorem dX12_kind_40 : decode cX12_kind 40 = .ok (.bipush 16, 2) := by decide +kernel
theorem dX12_kind_49 : decode cX12_kind 49 = .ok (.iconst 0, 1) := by decide +kernel
theorem dX12_kind_58 : decode cX12_kind 58 = .ok (.aload_n 0, 1) := by decide +kernel
theorem dX12_kind_62 : decode cX12_kind 62 = .ok (.aload_n 0, 1) := by decide +kernel
theorem dX12_kind_66 : decode cX12_kind 66 = .ok (.iload_n 1, 1) := by decide +kernel
theorem dX12_kind_68 : decode cX12_kind 68 = .ok (.aload_n 0, 1) := by decide +kernel
theorem dX12_kind_72 : decode cX12_kind 72 = .ok (.aload_n 0, 1) := by decide +kernel
theorem dX12_kind_76 : decode cX12_kind 76 = .ok (.iload_n 2, 1) := by decide +kernel
theorem dX12_kind_78 : decode cX12_kind 78 = .ok (.aload_n 0, 1) := by decide +kernel
theorem dX12_kind_79 : decode cX12_kind 79 = .ok (.dup, 1) := by decide +kernel
theorem dX12_kind_83 : decode cX12_kind 83 = .ok (.iconst 1, 1) := by decide +kernel
theorem dX12_kind_84 : decode cX12_kind 84 = .ok (.iadd, 1) := by decide +kernel
theorem dX12_kind_88 : decode cX12_kind 88 = .ok (.aload_n 0, 1) := by decide +kernel
theorem dX12_kind_92 : decode cX12_kind 92 = .ok (.iconst 1, 1) := by decide +kernel
theorem dX12_kind_93 : decode cX12_kind 93 = .ok (.isub, 1) := by decide +kernel
theorem dX12_kind_94 : decode cX12_kind 94 = .ok (.ireturn, 1) := by decide +kernel
theorem dX12_kind_89 : decode cX12_kind 89 = .ok (.getfield 118, 3) := by decide +kernel
theorem dX12_kind_85 : decode cX12_kind 85 = .ok (.putfield 118, 3) := by decide +kernel
theorem dX12_kind_80 : decode cX12_kind 80 = .ok (.getfield 118, 3) := by decide +kernel
theorem dX12_kind_77 : decode cX12_kind 77 = .ok (.iastore, 1) := by decide +kernel
theorem dX12_kind_73 : decode cX12_kind 73 = .ok (.getfield 118, 3) := by decide +kernel
theorem dX12_kind_69 : decode cX12_kind 69 = .ok (.getfield 24, 3) := by decide +kernel
theorem dX12_kind_67 : decode cX12_kind 67 = .ok (.iastore, 1) := by decide +kernel
theorem dX12_kind_63 : decode cX12_kind 63 = .ok (.getfield 118, 3) := by decide +kernel
theorem dX12_kind_59 : decode cX12_kind 59 = .ok (.getfield 20, 3) := by decide +kernel
theorem dX12_kind_45 : decode cX12_kind 45 = .ok (.iconst 2, 1) := by decide +kernel
theorem dX12_kind_46 : decode cX12_kind 46 = .ok (.goto 4, 3) := by decide +kernel
theorem dX12_kind_42 : decode cX12_kind 42 = .ok (.if_icmp .ne 7, 3) := by decide +kernel
theorem dX12_kind_37 : decode cX12_kind 37 = .ok (.getfield 118, 3) := by decide +kernel
theorem dX12_kind_29 : decode cX12_kind 29 = .ok (.if_icmp .lt 7, 3) := by decide +kernel
theorem dX12_kind_22 : decode cX12_kind 22 = .ok (.ifCond .lt 10, 3) := by decide +kernel
theorem dX12_kind_7 : decode cX12_kind 7 = .ok (.if_icmp .le 7, 3) := by decide +kernel
theorem dX12_kind_1 : decode cX12_kind 1 = .ok (.ifCond .lt 9, 3) := by decide +kernel
def wr_170 (c k : Nat) : Bool := Nat.beq c 97 || Nat.beq c 98 || (Nat.beq c 94 && (Nat.beq k 0 || Nat.beq k 7))
theorem g_170_0 {X : Nat × (Nat → Int32)} {m : Nat → Nat → Int32} {P : Option ma_V → (Nat → Nat → Int32) → Prop} (nw : Int32) (rf : Int32) (h : if nw < 0 then (P (some (.inl (0 : Int32))) (ma_u m 94 0 (1 : Int32))) else (if nw ≤ (8 : Int32) then (if rf < 0 then (P (some (.inl (0 : Int32))) (ma_u m 94 0 (1 : Int32))) else (if rf < ((1 : Int32) <<< (nw &&& 31)) then (if (m 94 7) = (16 : Int32) then (P (some (.inl (0 : Int32))) (ma_u m 94 0 (2 : Int32))) else ((0 ≤ (m 94 7) ∧ (m 94 7).toNatClampNeg < 16) ∧ ((0 ≤ (m 94 7) ∧ (m 94 7).toNatClampNeg < 16) ∧ (P (some (.inl (((m 94 7) + (1 : Int32)) - (1 : Int32)))) (ma_u (ma_u (ma_u (ma_u m 94 0 (0 : Int32)) 97 (m 94 7).toNatClampNeg nw) 98 (m 94 7).toNatClampNeg rf) 94 7 ((m 94 7) + (1 : Int32))))))) else (P (some (.inl (0 : Int32))) (ma_u m 94 0 (1 : Int32))))) else (P (some (.inl (0 : Int32))) (ma_u m 94 0 (1 : Int32))))) : zm X 1 21 170 0 [(0, .inr (.inr (some 94))), (1, .inl nw), (2, .inl rf)] m P := by
  intro d w S Q hd hw hS hm HQ
  subst hm
  refine zw_push hm_170 dX12_kind_0 (v := .inl nw) rfl ?_
  refine zw_if0 hm_170 dX12_kind_1 (t := 10) rfl zc0_lt ?_ ?_
  · intro hc
    rw [if_pos hc] at h
    refine zw_push hm_170 dX12_kind_10 (v := .inl (1 : Int32)) rfl ?_
    refine zw_goto hm_170 dX12_kind_11 (t := 15) rfl ?_
    refine zw_sto hm_170 dX12_kind_15 [(3, .inl (1 : Int32)), (0, .inr (.inr (some 94))), (1, .inl nw), (2, .inl rf)] rfl rfl rfl ?_
    refine zw_push hm_170 dX12_kind_16 (v := .inr (.inr (some 94))) rfl ?_
    refine zw_push hm_170 dX12_kind_17 (v := .inl (1 : Int32)) rfl ?_
    refine zw_if0 hm_170 dX12_kind_18 (t := 32) rfl zc0_ne (fun _ => ?_) (fun hc => absurd (by decide) hc)
    refine zw_push hm_170 dX12_kind_32 (v := .inl (1 : Int32)) rfl ?_
    refine zw_goto hm_170 dX12_kind_33 (t := 50) rfl ?_
    refine zw_cv hm_170 dX12_kind_50 v_12_110_12 hm_167 [.inl (1 : Int32)] [] rfl (zT_rt hS s_94 rfl) ⟨by omega, by omega⟩ rfl ?_
    show ma_wp X (d - 1) (w - 21) 167 0 [(0, .inr (.inr (some 94))), (1, .inl (1 : Int32))] [] S _
    refine zw_push hm_167 dX12_fails_0 (v := .inr (.inr (some 94))) rfl ?_
    refine zw_push hm_167 dX12_fails_1 (v := .inl (1 : Int32)) rfl ?_
    refine zw_pf hm_167 dX12_fails_2 (zT_is hS s_94) (zT_t hS s_94) p_12_1_12 zk_int ?_
    refine zw_push hm_167 dX12_fails_5 (v := .inl (1 : Int32)) rfl ?_
    refine zw_if0 hm_167 dX12_fails_6 (t := 13) rfl zc0_eq (fun hc => absurd hc (by decide)) (fun _ => ?_)
    refine zw_push hm_167 dX12_fails_9 (v := .inl (1 : Int32)) rfl ?_
    refine zw_goto hm_167 dX12_fails_10 (t := 14) rfl ?_
    refine zw_bret hm_167 dX12_fails_14 (by decide) ?_
    show ma_wp X d w 170 53 [(3, .inl (1 : Int32)), (0, .inr (.inr (some 94))), (1, .inl nw), (2, .inl rf)] [.inl (1 : Int32)] (ma_put S 94 0 (.inl (1 : Int32))) _
    refine zw_if0 hm_170 dX12_kind_53 (t := 58) rfl zc0_eq (fun hc => absurd hc (by decide)) (fun _ => ?_)
    refine zw_push hm_170 dX12_kind_56 (v := .inl (0 : Int32)) rfl ?_
    exact zw_iret hm_170 dX12_kind_57 (HQ _ _ h)
  · intro hc
    rw [if_neg hc] at h
    refine zw_push hm_170 dX12_kind_4 (v := .inl nw) rfl ?_
    refine zw_push hm_170 dX12_kind_5 (v := .inl (8 : Int32)) rfl ?_
    refine zw_if2 hm_170 dX12_kind_7 (t := 14) rfl zc2_le ?_ ?_
    · intro hc
      rw [if_pos hc] at h
      refine zw_push hm_170 dX12_kind_14 (v := .inl (0 : Int32)) rfl ?_
      refine zw_sto hm_170 dX12_kind_15 [(3, .inl (0 : Int32)), (0, .inr (.inr (some 94))), (1, .inl nw), (2, .inl rf)] rfl rfl rfl ?_
      refine zw_push hm_170 dX12_kind_16 (v := .inr (.inr (some 94))) rfl ?_
      refine zw_push hm_170 dX12_kind_17 (v := .inl (0 : Int32)) rfl ?_
      refine zw_if0 hm_170 dX12_kind_18 (t := 32) rfl zc0_ne (fun hc => absurd hc (by decide)) (fun _ => ?_)
      refine zw_push hm_170 dX12_kind_21 (v := .inl rf) rfl ?_
      refine zw_if0 hm_170 dX12_kind_22 (t := 32) rfl zc0_lt ?_ ?_
      · intro hc
        rw [if_pos hc] at h
        refine zw_push hm_170 dX12_kind_32 (v := .inl (1 : Int32)) rfl ?_
        refine zw_goto hm_170 dX12_kind_33 (t := 50) rfl ?_
        refine zw_cv hm_170 dX12_kind_50 v_12_110_12 hm_167 [.inl (1 : Int32)] [] rfl (zT_rt hS s_94 rfl) ⟨by omega, by omega⟩ rfl ?_
        show ma_wp X (d - 1) (w - 21) 167 0 [(0, .inr (.inr (some 94))), (1, .inl (1 : Int32))] [] S _
        refine zw_push hm_167 dX12_fails_0 (v := .inr (.inr (some 94))) rfl ?_
        refine zw_push hm_167 dX12_fails_1 (v := .inl (1 : Int32)) rfl ?_
        refine zw_pf hm_167 dX12_fails_2 (zT_is hS s_94) (zT_t hS s_94) p_12_1_12 zk_int ?_
        refine zw_push hm_167 dX12_fails_5 (v := .inl (1 : Int32)) rfl ?_
        refine zw_if0 hm_167 dX12_fails_6 (t := 13) rfl zc0_eq (fun hc => absurd hc (by decide)) (fun _ => ?_)
        refine zw_push hm_167 dX12_fails_9 (v := .inl (1 : Int32)) rfl ?_
        refine zw_goto hm_167 dX12_fails_10 (t := 14) rfl ?_
        refine zw_bret hm_167 dX12_fails_14 (by decide) ?_
        show ma_wp X d w 170 53 [(3, .inl (0 : Int32)), (0, .inr (.inr (some 94))), (1, .inl nw), (2, .inl rf)] [.inl (1 : Int32)] (ma_put S 94 0 (.inl (1 : Int32))) _
        refine zw_if0 hm_170 dX12_kind_53 (t := 58) rfl zc0_eq (fun hc => absurd hc (by decide)) (fun _ => ?_)
        refine zw_push hm_170 dX12_kind_56 (v := .inl (0 : Int32)) rfl ?_
        exact zw_iret hm_170 dX12_kind_57 (HQ _ _ h)
      · intro hc
        rw [if_neg hc] at h
        refine zw_push hm_170 dX12_kind_25 (v := .inl rf) rfl ?_
        refine zw_push hm_170 dX12_kind_26 (v := .inl (1 : Int32)) rfl ?_
        refine zw_push hm_170 dX12_kind_27 (v := .inl nw) rfl ?_
        refine zw_stk hm_170 dX12_kind_28 (st₉ := [.inl ((1 : Int32) <<< (nw &&& 31)), .inl rf, .inr (.inr (some 94))]) rfl rfl ?_
        refine zw_if2 hm_170 dX12_kind_29 (t := 36) rfl zc2_lt ?_ ?_
        · intro hc
          rw [if_pos hc] at h
          refine zw_push hm_170 dX12_kind_36 (v := .inr (.inr (some 94))) rfl ?_
          refine zw_gf hm_170 dX12_kind_37 (v := .inl ((mI S) 94 7)) (zT_is hS s_94) (zT_t hS s_94) rfl f_12_118_12 rfl ?_
          refine zw_push hm_170 dX12_kind_40 (v := .inl (16 : Int32)) rfl ?_
          refine zw_if2 hm_170 dX12_kind_42 (t := 49) rfl zc2_ne ?_ ?_
          · intro hc
            rw [if_neg hc] at h
            refine zw_push hm_170 dX12_kind_49 (v := .inl (0 : Int32)) rfl ?_
            refine zw_cv hm_170 dX12_kind_50 v_12_110_12 hm_167 [.inl (0 : Int32)] [] rfl (zT_rt hS s_94 rfl) ⟨by omega, by omega⟩ rfl ?_
            show ma_wp X (d - 1) (w - 21) 167 0 [(0, .inr (.inr (some 94))), (1, .inl (0 : Int32))] [] S _
            refine zw_push hm_167 dX12_fails_0 (v := .inr (.inr (some 94))) rfl ?_
            refine zw_push hm_167 dX12_fails_1 (v := .inl (0 : Int32)) rfl ?_
            refine zw_pf hm_167 dX12_fails_2 (zT_is hS s_94) (zT_t hS s_94) p_12_1_12 zk_int ?_
            refine zw_push hm_167 dX12_fails_5 (v := .inl (0 : Int32)) rfl ?_
            refine zw_if0 hm_167 dX12_fails_6 (t := 13) rfl zc0_eq (fun _ => ?_) (fun hc => absurd (by decide) hc)
            refine zw_push hm_167 dX12_fails_13 (v := .inl (0 : Int32)) rfl ?_
            refine zw_bret hm_167 dX12_fails_14 (by decide) ?_
            show ma_wp X d w 170 53 [(3, .inl (0 : Int32)), (0, .inr (.inr (some 94))), (1, .inl nw), (2, .inl rf)] [.inl (0 : Int32)] (ma_put S 94 0 (.inl (0 : Int32))) _
            refine zw_if0 hm_170 dX12_kind_53 (t := 58) rfl zc0_eq (fun _ => ?_) (fun hc => absurd (by decide) hc)
            refine zw_push hm_170 dX12_kind_58 (v := .inr (.inr (some 94))) rfl ?_
            refine zw_gf hm_170 dX12_kind_59 (v := .inr (.inr (some 97))) (zT_is (zT_pi hS) s_94) (zT_t (zT_pi hS) s_94) rfl f_12_20_12 (zT_f (zT_pi hS) r_94_5) ?_
            refine zw_push hm_170 dX12_kind_62 (v := .inr (.inr (some 94))) rfl ?_
            refine zw_gf hm_170 dX12_kind_63 (v := .inl ((mI S) 94 7)) (zT_is (zT_pi hS) s_94) (zT_t (zT_pi hS) s_94) rfl f_12_118_12 rfl ?_
            refine zw_push hm_170 dX12_kind_66 (v := .inl nw) rfl ?_
            obtain ⟨hg, h⟩ := h
            refine zw_ias hm_170 dX12_kind_67 (zT_is (zT_pi hS) s_97) (zT_h (zT_pi hS) s_97) rfl hg ?_
            refine zw_push hm_170 dX12_kind_68 (v := .inr (.inr (some 94))) rfl ?_
            refine zw_gf hm_170 dX12_kind_69 (v := .inr (.inr (some 98))) (zT_is (zT_pi (zT_pi hS)) s_94) (zT_t (zT_pi (zT_pi hS)) s_94) rfl f_12_24_12 (zT_f (zT_pi (zT_pi hS)) r_94_6) ?_
            refine zw_push hm_170 dX12_kind_72 (v := .inr (.inr (some 94))) rfl ?_
            refine zw_gf hm_170 dX12_kind_73 (v := .inl ((mI S) 94 7)) (zT_is (zT_pi (zT_pi hS)) s_94) (zT_t (zT_pi (zT_pi hS)) s_94) rfl f_12_118_12 rfl ?_
            refine zw_push hm_170 dX12_kind_76 (v := .inl rf) rfl ?_
            obtain ⟨hg, h⟩ := h
            refine zw_ias hm_170 dX12_kind_77 (zT_is (zT_pi (zT_pi hS)) s_98) (zT_h (zT_pi (zT_pi hS)) s_98) rfl hg ?_
            refine zw_push hm_170 dX12_kind_78 (v := .inr (.inr (some 94))) rfl ?_
            refine zw_stk hm_170 dX12_kind_79 (st₉ := [.inr (.inr (some 94)), .inr (.inr (some 94))]) rfl rfl ?_
            refine zw_gf hm_170 dX12_kind_80 (v := .inl ((mI S) 94 7)) (zT_is (zT_pi (zT_pi (zT_pi hS))) s_94) (zT_t (zT_pi (zT_pi (zT_pi hS))) s_94) rfl f_12_118_12 rfl ?_
            refine zw_push hm_170 dX12_kind_83 (v := .inl (1 : Int32)) rfl ?_
            refine zw_stk hm_170 dX12_kind_84 (st₉ := [.inl (((mI S) 94 7) + (1 : Int32)), .inr (.inr (some 94))]) rfl rfl ?_
            refine zw_pf hm_170 dX12_kind_85 (zT_is (zT_pi (zT_pi (zT_pi hS))) s_94) (zT_t (zT_pi (zT_pi (zT_pi hS))) s_94) p_12_118_12 zk_int ?_
            refine zw_push hm_170 dX12_kind_88 (v := .inr (.inr (some 94))) rfl ?_
            refine zw_gf hm_170 dX12_kind_89 (v := .inl (((mI S) 94 7) + (1 : Int32))) (zT_is (zT_pi (zT_pi (zT_pi (zT_pi hS)))) s_94) (zT_t (zT_pi (zT_pi (zT_pi (zT_pi hS)))) s_94) rfl f_12_118_12 rfl ?_
            refine zw_push hm_170 dX12_kind_92 (v := .inl (1 : Int32)) rfl ?_
            refine zw_stk hm_170 dX12_kind_93 (st₉ := [.inl ((((mI S) 94 7) + (1 : Int32)) - (1 : Int32))]) rfl rfl ?_
            exact zw_iret hm_170 dX12_kind_94 (HQ _ _ h)
          · intro hc
            rw [if_pos (Classical.not_not.mp hc)] at h
            refine zw_push hm_170 dX12_kind_45 (v := .inl (2 : Int32)) rfl ?_
            refine zw_goto hm_170 dX12_kind_46 (t := 50) rfl ?_
            refine zw_cv hm_170 dX12_kind_50 v_12_110_12 hm_167 [.inl (2 : Int32)] [] rfl (zT_rt hS s_94 rfl) ⟨by omega, by omega⟩ rfl ?_
            show ma_wp X (d - 1) (w - 21) 167 0 [(0, .inr (.inr (some 94))), (1, .inl (2 : Int32))] [] S _
            refine zw_push hm_167 dX12_fails_0 (v := .inr (.inr (some 94))) rfl ?_
            refine zw_push hm_167 dX12_fails_1 (v := .inl (2 : Int32)) rfl ?_
            refine zw_pf hm_167 dX12_fails_2 (zT_is hS s_94) (zT_t hS s_94) p_12_1_12 zk_int ?_
            refine zw_push hm_167 dX12_fails_5 (v := .inl (2 : Int32)) rfl ?_
            refine zw_if0 hm_167 dX12_fails_6 (t := 13) rfl zc0_eq (fun hc => absurd hc (by decide)) (fun _ => ?_)
            refine zw_push hm_167 dX12_fails_9 (v := .inl (1 : Int32)) rfl ?_
            refine zw_goto hm_167 dX12_fails_10 (t := 14) rfl ?_
            refine zw_bret hm_167 dX12_fails_14 (by decide) ?_
            show ma_wp X d w 170 53 [(3, .inl (0 : Int32)), (0, .inr (.inr (some 94))), (1, .inl nw), (2, .inl rf)] [.inl (1 : Int32)] (ma_put S 94 0 (.inl (2 : Int32))) _
            refine zw_if0 hm_170 dX12_kind_53 (t := 58) rfl zc0_eq (fun hc => absurd hc (by decide)) (fun _ => ?_)
            refine zw_push hm_170 dX12_kind_56 (v := .inl (0 : Int32)) rfl ?_
            exact zw_iret hm_170 dX12_kind_57 (HQ _ _ h)
        · intro hc
          rw [if_neg hc] at h
          refine zw_push hm_170 dX12_kind_32 (v := .inl (1 : Int32)) rfl ?_
          refine zw_goto hm_170 dX12_kind_33 (t := 50) rfl ?_
          refine zw_cv hm_170 dX12_kind_50 v_12_110_12 hm_167 [.inl (1 : Int32)] [] rfl (zT_rt hS s_94 rfl) ⟨by omega, by omega⟩ rfl ?_
          show ma_wp X (d - 1) (w - 21) 167 0 [(0, .inr (.inr (some 94))), (1, .inl (1 : Int32))] [] S _
          refine zw_push hm_167 dX12_fails_0 (v := .inr (.inr (some 94))) rfl ?_
          refine zw_push hm_167 dX12_fails_1 (v := .inl (1 : Int32)) rfl ?_
          refine zw_pf hm_167 dX12_fails_2 (zT_is hS s_94) (zT_t hS s_94) p_12_1_12 zk_int ?_
          refine zw_push hm_167 dX12_fails_5 (v := .inl (1 : Int32)) rfl ?_
          refine zw_if0 hm_167 dX12_fails_6 (t := 13) rfl zc0_eq (fun hc => absurd hc (by decide)) (fun _ => ?_)
          refine zw_push hm_167 dX12_fails_9 (v := .inl (1 : Int32)) rfl ?_
          refine zw_goto hm_167 dX12_fails_10 (t := 14) rfl ?_
          refine zw_bret hm_167 dX12_fails_14 (by decide) ?_
          show ma_wp X d w 170 53 [(3, .inl (0 : Int32)), (0, .inr (.inr (some 94))), (1, .inl nw), (2, .inl rf)] [.inl (1 : Int32)] (ma_put S 94 0 (.inl (1 : Int32))) _
          refine zw_if0 hm_170 dX12_kind_53 (t := 58) rfl zc0_eq (fun hc => absurd hc (by decide)) (fun _ => ?_)
          refine zw_push hm_170 dX12_kind_56 (v := .inl (0 : Int32)) rfl ?_
          exact zw_iret hm_170 dX12_kind_57 (HQ _ _ h)
    · intro hc
      rw [if_neg hc] at h
      refine zw_push hm_170 dX12_kind_10 (v := .inl (1 : Int32)) rfl ?_
      refine zw_goto hm_170 dX12_kind_11 (t := 15) rfl ?_
      refine zw_sto hm_170 dX12_kind_15 [(3, .inl (1 : Int32)), (0, .inr (.inr (some 94))), (1, .inl nw), (2, .inl rf)] rfl rfl rfl ?_
      refine zw_push hm_170 dX12_kind_16 (v := .inr (.inr (some 94))) rfl ?_
      refine zw_push hm_170 dX12_kind_17 (v := .inl (1 : Int32)) rfl ?_
      refine zw_if0 hm_170 dX12_kind_18 (t := 32) rfl zc0_ne (fun _ => ?_) (fun hc => absurd (by decide) hc)
      refine zw_push hm_170 dX12_kind_32 (v := .inl (1 : Int32)) rfl ?_
      refine zw_goto hm_170 dX12_kind_33 (t := 50) rfl ?_
      refine zw_cv hm_170 dX12_kind_50 v_12_110_12 hm_167 [.inl (1 : Int32)] [] rfl (zT_rt hS s_94 rfl) ⟨by omega, by omega⟩ rfl ?_
      show ma_wp X (d - 1) (w - 21) 167 0 [(0, .inr (.inr (some 94))), (1, .inl (1 : Int32))] [] S _
      refine zw_push hm_167 dX12_fails_0 (v := .inr (.inr (some 94))) rfl ?_
      refine zw_push hm_167 dX12_fails_1 (v := .inl (1 : Int32)) rfl ?_
      refine zw_pf hm_167 dX12_fails_2 (zT_is hS s_94) (zT_t hS s_94) p_12_1_12 zk_int ?_
      refine zw_push hm_167 dX12_fails_5 (v := .inl (1 : Int32)) rfl ?_
      refine zw_if0 hm_167 dX12_fails_6 (t := 13) rfl zc0_eq (fun hc => absurd hc (by decide)) (fun _ => ?_)
      refine zw_push hm_167 dX12_fails_9 (v := .inl (1 : Int32)) rfl ?_
      refine zw_goto hm_167 dX12_fails_10 (t := 14) rfl ?_
      refine zw_bret hm_167 dX12_fails_14 (by decide) ?_
      show ma_wp X d w 170 53 [(3, .inl (1 : Int32)), (0, .inr (.inr (some 94))), (1, .inl nw), (2, .inl rf)] [.inl (1 : Int32)] (ma_put S 94 0 (.inl (1 : Int32))) _
      refine zw_if0 hm_170 dX12_kind_53 (t := 58) rfl zc0_eq (fun hc => absurd hc (by decide)) (fun _ => ?_)
      refine zw_push hm_170 dX12_kind_56 (v := .inl (0 : Int32)) rfl ?_
      exact zw_iret hm_170 dX12_kind_57 (HQ _ _ h)
theorem sp_170 {X : Nat × (Nat → Int32)} {P : Option ma_V → (Nat → Nat → Int32) → Prop} {T : Nat} {m : Nat → Nat → Int32} (nw : Int32) (rf : Int32) (hV : zV m) (r_W : zW (m 94 7) (m 98) (m 101) (m 102) (m 108)) (r_GW : zGW T (m 94 55) (m 109)) (r_GU : zGU T (m 94 46) (m 99)) (r_OW : zOw (m 99) (m 103) (m 111)) (r_DX : zDX (m 94 10) (m 99) (m 112) (m 113) (m 114) (m 94 55) (m 98) (m 101) (m 102) (m 108)) (r_GG : zGG (m 94 58) (m 94 56) (m 94 57) (m 106)) (r_HA : zHA (m 94 10) (m 94 11) (m 94 13) (m 94 14) (m 94 16) (m 94 61) (m 94 59) (m 94 60) (m 99) (m 102) (m 103) (m 111) (m 117) (m 98) (m 101) (m 108)) (r_RGc : zRG (m 94 10) (m 94 18) (m 94 64) (m 94 63) (m 99) (m 103) (m 102) (m 116)) (hpre8 : (m 94 58).toInt = 0 ∨ (m 94 10).toInt = 5) (KZ : ∀ v m₉, zV (zov wr_170 m m₉) → (zW (m₉ 94 7) (m₉ 98) (m 101) (m 102) (m 108)) → (zGW T (m 94 55) (m 109)) → (zGU T (m 94 46) (m 99)) → (zOw (m 99) (m 103) (m 111)) → (zDX (m 94 10) (m 99) (m 112) (m 113) (m 114) (m 94 55) (m₉ 98) (m 101) (m 102) (m 108)) → (zGG (m 94 58) (m 94 56) (m 94 57) (m 106)) → (zHA (m 94 10) (m 94 11) (m 94 13) (m 94 14) (m 94 16) (m 94 61) (m 94 59) (m 94 60) (m 99) (m 102) (m 103) (m 111) (m 117) (m₉ 98) (m 101) (m 108)) → (zRG (m 94 10) (m 94 18) (m 94 64) (m 94 63) (m 99) (m 103) (m 102) (m 116)) → ((m 94 58).toInt = 0 ∨ (m 94 10).toInt = 5) → P (some (.inl v)) (zov wr_170 m m₉)) : zm X 1 21 170 0 [(0, .inr (.inr (some 94))), (1, .inl nw), (2, .inl rf)] m P := by
  have K : ∀ v m₉, zF wr_170 m m₉ → zV m₉ → (zW (m₉ 94 7) (m₉ 98) (m₉ 101) (m₉ 102) (m₉ 108)) → (zGW T (m₉ 94 55) (m₉ 109)) → (zGU T (m₉ 94 46) (m₉ 99)) → (zOw (m₉ 99) (m₉ 103) (m₉ 111)) → (zDX (m₉ 94 10) (m₉ 99) (m₉ 112) (m₉ 113) (m₉ 114) (m₉ 94 55) (m₉ 98) (m₉ 101) (m₉ 102) (m₉ 108)) → (zGG (m₉ 94 58) (m₉ 94 56) (m₉ 94 57) (m₉ 106)) → (zHA (m₉ 94 10) (m₉ 94 11) (m₉ 94 13) (m₉ 94 14) (m₉ 94 16) (m₉ 94 61) (m₉ 94 59) (m₉ 94 60) (m₉ 99) (m₉ 102) (m₉ 103) (m₉ 111) (m₉ 117) (m₉ 98) (m₉ 101) (m₉ 108)) → (zRG (m₉ 94 10) (m₉ 94 18) (m₉ 94 64) (m₉ 94 63) (m₉ 99) (m₉ 103) (m₉ 102) (m₉ 116)) → ((m₉ 94 58).toInt = 0 ∨ (m₉ 94 10).toInt = 5) → P (some (.inl v)) m₉ := by
    intro v m₉ hf z q0 q1 q2 q3 q4 q5 q6 q7 q8
    have e := zov_eq hf
    rw [e] at z ⊢
    try rw [e] at q0
    try rw [e] at q1
    try rw [e] at q2
    try rw [e] at q3
    try rw [e] at q4
    try rw [e] at q5
    try rw [e] at q6
    try rw [e] at q7
    try rw [e] at q8
    exact KZ v m₉ z q0 q1 q2 q3 q4 q5 q6 q7 q8
  refine g_170_0 nw rf ?_
  have f1 : 0 ≤ (m 94 58).toInt ∧ (m 94 58).toInt ≤ 1 := rs_94_58 (m := m) hV
  have f2 : 0 ≤ (m 94 10).toInt ∧ (m 94 10).toInt ≤ 6 := rs_94_10 (m := m) hV
  have b3 := i_bd nw
  have li4 : (0 : Int32).toInt = 0 := rfl
  refine zd (fun (h5 : nw < (0 : Int32)) => ?_) (fun (h5 : ¬ nw < (0 : Int32)) => ?_)
  · skip
    have g6 := i_lt h5
    have hV7 : zV (ma_u m 94 0 (1 : Int32)) := uf_94_0 hV
    exact K ((0 : Int32)) _ (zF_u zF_rfl rfl) hV7 r_W r_GW r_GU r_OW r_DX r_GG r_HA r_RGc (show (m 94 58).toInt = 0 ∨ (m 94 10).toInt = 5 from by omega)
  · skip
    have g8 := i_nlt h5
    have li9 : (8 : Int32).toInt = 8 := rfl
    refine zd (fun (h10 : nw ≤ (8 : Int32)) => ?_) (fun (h10 : ¬ nw ≤ (8 : Int32)) => ?_)
    · skip
      have g11 := i_le h10
      have b12 := i_bd rf
      refine zd (fun (h13 : rf < (0 : Int32)) => ?_) (fun (h13 : ¬ rf < (0 : Int32)) => ?_)
      · skip
        have g14 := i_lt h13
        have hV15 : zV (ma_u m 94 0 (1 : Int32)) := uf_94_0 hV
        exact K ((0 : Int32)) _ (zF_u zF_rfl rfl) hV15 r_W r_GW r_GU r_OW r_DX r_GG r_HA r_RGc (show (m 94 58).toInt = 0 ∨ (m 94 10).toInt = 5 from by omega)
      · skip
        have g16 := i_nlt h13
        have b17 := i_bd ((1 : Int32) <<< (nw &&& 31))
        refine zd (fun (h18 : rf < ((1 : Int32) <<< (nw &&& 31))) => ?_) (fun (h18 : ¬ rf < ((1 : Int32) <<< (nw &&& 31))) => ?_)
        · skip
          have g19 := i_lt h18
          have f20 : 0 ≤ (m 94 7).toInt ∧ (m 94 7).toInt ≤ 16 := rs_94_7 (m := m) hV
          have li21 : (16 : Int32).toInt = 16 := rfl
          refine zd (fun (h22 : (m 94 7) = (16 : Int32)) => ?_) (fun (h22 : ¬ (m 94 7) = (16 : Int32)) => ?_)
          · skip
            have g23 := i_eq h22
            have hV24 : zV (ma_u m 94 0 (2 : Int32)) := uf_94_0 hV
            exact K ((0 : Int32)) _ (zF_u zF_rfl rfl) hV24 r_W r_GW r_GU r_OW r_DX r_GG r_HA r_RGc (show (m 94 58).toInt = 0 ∨ (m 94 10).toInt = 5 from by omega)
          · skip
            have g25 := i_ne h22
            have hg26 : (0 ≤ (m 94 7) ∧ (m 94 7).toNatClampNeg < 16) := i_ix (by omega) (by omega)
            refine ⟨hg26, ?_⟩
            try have sh := i_shl8 (n := nw) (by omega) (by omega)
            have hg27 : (0 ≤ (m 94 7) ∧ (m 94 7).toNatClampNeg < 16) := i_ix (by omega) (by omega)
            refine ⟨hg27, ?_⟩
            have hV28 : zV (ma_u m 94 0 (0 : Int32)) := uf_94_0 hV
            have hV29 : zV (ma_u (ma_u m 94 0 (0 : Int32)) 97 (m 94 7).toNatClampNeg nw) := ua_97 hV28 (by omega) (by omega)
            have hV30 : zV (ma_u (ma_u (ma_u m 94 0 (0 : Int32)) 97 (m 94 7).toNatClampNeg nw) 98 (m 94 7).toNatClampNeg rf) := ua_98 hV29 (by omega) (by omega)
            first | have e32 : ((m 94 7) + (1 : Int32)).toInt = (m 94 7).toInt + (1) := i_addk rfl (by omega) (by omega) | have b33 := i_bd ((m 94 7) + (1 : Int32))
            have hV31 : zV (ma_u (ma_u (ma_u (ma_u m 94 0 (0 : Int32)) 97 (m 94 7).toNatClampNeg nw) 98 (m 94 7).toNatClampNeg rf) 94 7 ((m 94 7) + (1 : Int32))) := us_94_7 hV30 (by omega) (by omega)
            first | have e34 : (((m 94 7) + (1 : Int32)) - (1 : Int32)).toInt = ((m 94 7) + (1 : Int32)).toInt - (1) := i_subk rfl (by omega) (by omega) | have b35 := i_bd (((m 94 7) + (1 : Int32)) - (1 : Int32))
            exact K ((((m 94 7) + (1 : Int32)) - (1 : Int32))) _ (zF_u (zF_u (zF_u (zF_u zF_rfl rfl) rfl) rfl) rfl) hV31 (show zW ((m 94 7) + (1 : Int32)) ((ma_u m 98 (m 94 7).toNatClampNeg rf) 98) (m 101) (m 102) (m 108) from by first | (exact W_same r_W (by omega) (zrf_kind r_W (tn_cast (by omega)) (fun t ht => (ra_101 hV ht).1))) | (exfalso; omega; done) | (exfalso; contradiction; done)) r_GW r_GU r_OW (show zDX (m 94 10) (m 99) (m 112) (m 113) (m 114) (m 94 55) ((ma_u m 98 (m 94 7).toNatClampNeg rf) 98) (m 101) (m 102) (m 108) from by first | (exact DX_same r_DX (zrf_kind r_W (tn_cast (by omega)) (fun t ht => (ra_101 hV ht).1))) | (exfalso; omega; done) | (exfalso; contradiction; done)) r_GG (show zHA (m 94 10) (m 94 11) (m 94 13) (m 94 14) (m 94 16) (m 94 61) (m 94 59) (m 94 60) (m 99) (m 102) (m 103) (m 111) (m 117) ((ma_u m 98 (m 94 7).toNatClampNeg rf) 98) (m 101) (m 108) from by first | (exact HA_same r_HA (zrf_kind r_W (tn_cast (by omega)) (fun t ht => (ra_101 hV ht).1))) | (exfalso; omega; done) | (exfalso; contradiction; done)) r_RGc (show (m 94 58).toInt = 0 ∨ (m 94 10).toInt = 5 from by omega)
        · skip
          have g36 := i_nlt h18
          have hV37 : zV (ma_u m 94 0 (1 : Int32)) := uf_94_0 hV
          exact K ((0 : Int32)) _ (zF_u zF_rfl rfl) hV37 r_W r_GW r_GU r_OW r_DX r_GG r_HA r_RGc (show (m 94 58).toInt = 0 ∨ (m 94 10).toInt = 5 from by omega)
    · skip
      have g38 := i_nle h10
      have hV39 : zV (ma_u m 94 0 (1 : Int32)) := uf_94_0 hV
      exact K ((0 : Int32)) _ (zF_u zF_rfl rfl) hV39 r_W r_GW r_GU r_OW r_DX r_GG r_HA r_RGc (show (m 94 58).toInt = 0 ∨ (m 94 10).toInt = 5 from by omega)

