/-! from 94.450 -/
/-! the reference (written by wip/tools/gen94m.py) -/
set_option maxRecDepth 100000 in
theorem hm_182 : ma_md 182 = some (12, yX12_isNamed, cX12_isNamed, 2, (some (FieldType.boolean))) := rfl
set_option maxRecDepth 100000 in
theorem hm_250 : ma_md 250 = some (12, yX12_root, cX12_root, 5, (some (FieldType.int))) := rfl
theorem v_12_481_12 : ma_vl 12 481 12 = some (1, 238, 2) := by decide +kernel
theorem v_12_493_12 : ma_vl 12 493 12 = some (1, 182, 1) := by decide +kernel
theorem dX12_root_0 : decode cX12_root 0 = .ok (.aload_n 0, 1) := by decide +kernel
theorem dX12_root_1 : decode cX12_root 1 = .ok (.aload_n 0, 1) := by decide +kernel
theorem dX12_root_2 : decode cX12_root 2 = .ok (.iload_n 1, 1) := by decide +kernel
theorem dX12_root_3 : decode cX12_root 3 = .ok (.invokevirtual 493, 3) := by decide +kernel
theorem dX12_isNamed_0 : decode cX12_isNamed 0 = .ok (.iload_n 1, 1) := by decide +kernel
theorem dX12_isNamed_14 : decode cX12_isNamed 14 = .ok (.iconst 0, 1) := by decide +kernel
theorem dX12_root_6 : decode cX12_root 6 = .ok (.ifCond .ne 7, 3) := by decide +kernel
theorem dX12_root_9 : decode cX12_root 9 = .ok (.iconst 1, 1) := by decide +kernel
theorem dX12_root_10 : decode cX12_root 10 = .ok (.goto 15, 3) := by decide +kernel
theorem dX12_root_25 : decode cX12_root 25 = .ok (.invokevirtual 110, 3) := by decide +kernel
theorem dX12_root_28 : decode cX12_root 28 = .ok (.ifCond .eq 5, 3) := by decide +kernel
theorem dX12_root_31 : decode cX12_root 31 = .ok (.iconst 0, 1) := by decide +kernel
theorem dX12_root_32 : decode cX12_root 32 = .ok (.ireturn, 1) := by decide +kernel
theorem dX12_isNamed_15 : decode cX12_isNamed 15 = .ok (.ireturn, 1) := by decide +kernel
theorem dX12_isNamed_4 : decode cX12_isNamed 4 = .ok (.iload_n 1, 1) := by decide +kernel
theorem dX12_isNamed_5 : decode cX12_isNamed 5 = .ok (.bipush 16, 2) := by decide +kernel
theorem dX12_isNamed_10 : decode cX12_isNamed 10 = .ok (.iconst 1, 1) := by decide +kernel
theorem dX12_isNamed_11 : decode cX12_isNamed 11 = .ok (.goto 4, 3) := by decide +kernel
theorem dX12_root_13 : decode cX12_root 13 = .ok (.aload_n 0, 1) := by decide +kernel
theorem dX12_root_24 : decode cX12_root 24 = .ok (.iconst 0, 1) := by decide +kernel
theorem dX12_root_33 : decode cX12_root 33 = .ok (.iload_n 2, 1) := by decide +kernel
theorem dX12_root_34 : decode cX12_root 34 = .ok (.iconst (-1), 1) := by decide +kernel
theorem dX12_root_42 : decode cX12_root 42 = .ok (.aload_n 0, 1) := by decide +kernel
theorem dX12_root_43 : decode cX12_root 43 = .ok (.iload_n 2, 1) := by decide +kernel
theorem dX12_root_44 : decode cX12_root 44 = .ok (.invokevirtual 499, 3) := by decide +kernel
theorem dX12_root_47 : decode cX12_root 47 = .ok (.istore_n 3, 1) := by decide +kernel
theorem dX12_root_48 : decode cX12_root 48 = .ok (.aload_n 0, 1) := by decide +kernel
theorem dX12_root_49 : decode cX12_root 49 = .ok (.iload_n 2, 1) := by decide +kernel
theorem dX12_root_50 : decode cX12_root 50 = .ok (.iconst (-1), 1) := by decide +kernel
theorem dX12_root_62 : decode cX12_root 62 = .ok (.iconst 0, 1) := by decide +kernel
theorem dX12_root_63 : decode cX12_root 63 = .ok (.invokevirtual 110, 3) := by decide +kernel
theorem dX12_root_66 : decode cX12_root 66 = .ok (.ifCond .eq 5, 3) := by decide +kernel
theorem dX12_root_71 : decode cX12_root 71 = .ok (.aload_n 0, 1) := by decide +kernel
theorem dX12_root_72 : decode cX12_root 72 = .ok (.aload_n 0, 1) := by decide +kernel
theorem dX12_root_76 : decode cX12_root 76 = .ok (.iload_n 1, 1) := by decide +kernel
theorem dX12_root_78 : decode cX12_root 78 = .ok (.invokevirtual 502, 3) := by decide +kernel
theorem dX12_root_81 : decode cX12_root 81 = .ok (.istore 4, 2) := by decide +kernel
theorem dX12_root_83 : decode cX12_root 83 = .ok (.aload_n 0, 1) := by decide +kernel
theorem dX12_root_84 : decode cX12_root 84 = .ok (.iload_n 1, 1) := by decide +kernel
theorem dX12_root_85 : decode cX12_root 85 = .ok (.iload_n 3, 1) := by decide +kernel
theorem dX12_root_86 : decode cX12_root 86 = .ok (.invokevirtual 481, 3) := by decide +kernel
theorem dX12_root_89 : decode cX12_root 89 = .ok (.iload 4, 2) := by decide +kernel
theorem dX12_root_91 : decode cX12_root 91 = .ok (.ireturn, 1) := by decide +kernel
theorem dX12_root_77 : decode cX12_root 77 = .ok (.iaload, 1) := by decide +kernel
theorem dX12_root_73 : decode cX12_root 73 = .ok (.getfield 68, 3) := by decide +kernel
theorem dX12_root_54 : decode cX12_root 54 = .ok (.iload_n 3, 1) := by decide +kernel
theorem dX12_root_58 : decode cX12_root 58 = .ok (.iconst 3, 1) := by decide +kernel
theorem dX12_root_59 : decode cX12_root 59 = .ok (.goto 4, 3) := by decide +kernel
theorem dX12_root_69 : decode cX12_root 69 = .ok (.iconst 0, 1) := by decide +kernel
theorem dX12_root_70 : decode cX12_root 70 = .ok (.ireturn, 1) := by decide +kernel
theorem dX12_root_55 : decode cX12_root 55 = .ok (.ifCond .ge 7, 3) := by decide +kernel
theorem dX12_root_51 : decode cX12_root 51 = .ok (.if_icmp .eq 11, 3) := by decide +kernel
theorem dX12_root_38 : decode cX12_root 38 = .ok (.iconst (-1), 1) := by decide +kernel
theorem dX12_root_39 : decode cX12_root 39 = .ok (.goto 8, 3) := by decide +kernel
theorem dX12_root_35 : decode cX12_root 35 = .ok (.if_icmp .ne 7, 3) := by decide +kernel
theorem dX12_root_20 : decode cX12_root 20 = .ok (.iconst 2, 1) := by decide +kernel
theorem dX12_root_21 : decode cX12_root 21 = .ok (.goto 4, 3) := by decide +kernel
theorem dX12_root_17 : decode cX12_root 17 = .ok (.ifCond .ne 7, 3) := by decide +kernel
theorem dX12_root_14 : decode cX12_root 14 = .ok (.getfield 237, 3) := by decide +kernel
theorem dX12_isNamed_7 : decode cX12_isNamed 7 = .ok (.if_icmp .ge 7, 3) := by decide +kernel
theorem dX12_isNamed_1 : decode cX12_isNamed 1 = .ok (.ifCond .lt 13, 3) := by decide +kernel
def wr_250 (c k : Nat) : Bool := Nat.beq c 99 || Nat.beq c 105 || Nat.beq c 106 || Nat.beq c 109 || Nat.beq c 110 || Nat.beq c 111 || Nat.beq c 112 || Nat.beq c 113 || Nat.beq c 114 || Nat.beq c 115 || Nat.beq c 118 || Nat.beq c 120 || Nat.beq c 121 || (Nat.beq c 94 && (Nat.beq k 0 || Nat.beq k 44 || Nat.beq k 45 || Nat.beq k 49 || Nat.beq k 55 || Nat.beq k 56 || Nat.beq k 73 || Nat.beq k 80))
theorem ws_238_250 : ∀ c k, wr_238 c k = true → wr_250 c k = true := by
  intro c k h
  simp only [wr_238, wr_250, Bool.or_eq_true, Bool.and_eq_true, Nat.beq_eq] at h ⊢
  omega
theorem ws_245_250 : ∀ c k, wr_245 c k = true → wr_250 c k = true := by
  intro c k h
  simp only [wr_245, wr_250, Bool.or_eq_true, Bool.and_eq_true, Nat.beq_eq] at h ⊢
  omega
theorem g_250_0 {X : Nat × (Nat → Int32)} {m : Nat → Nat → Int32} {P : Option ma_V → (Nat → Nat → Int32) → Prop} (ix : Int32) (ob : Int32) (h : if ix < 0 then (P (some (.inl (0 : Int32))) (ma_u m 94 0 (1 : Int32))) else (if (16 : Int32) ≤ ix then (P (some (.inl (0 : Int32))) (ma_u m 94 0 (1 : Int32))) else (if (m 94 8) = 0 then (P (some (.inl (0 : Int32))) (ma_u m 94 0 (2 : Int32))) else (if ob = (-1 : Int32) then (if ob = (-1 : Int32) then ((0 ≤ ix ∧ ix.toNatClampNeg < 16) ∧ (if 0 ≤ (m 112 ix.toNatClampNeg) then ((0 ≤ (m 112 ix.toNatClampNeg) ∧ (m 112 ix.toNatClampNeg).toNatClampNeg < 3100) ∧ (zm X 4 88 238 0 [(0, .inr (.inr (some 94))), (1, .inl ix), (2, .inl (-1 : Int32))] (ma_u (ma_u m 94 0 (0 : Int32)) 94 0 (0 : Int32)) (zmv (fun m11 => P (some (.inl (m 100 (m 112 ix.toNatClampNeg).toNatClampNeg))) m11)))) else (zm X 4 88 238 0 [(0, .inr (.inr (some 94))), (1, .inl ix), (2, .inl (-1 : Int32))] (ma_u (ma_u m 94 0 (0 : Int32)) 94 0 (0 : Int32)) (zmv (fun m13 => P (some (.inl (-1 : Int32))) m13))))) else (P (some (.inl (0 : Int32))) (ma_u (ma_u m 94 0 (0 : Int32)) 94 0 (3 : Int32)))) else (zm X 4 87 245 0 [(0, .inr (.inr (some 94))), (1, .inl ob)] (ma_u m 94 0 (0 : Int32)) (zmi (fun v2 m1 => if ob = (-1 : Int32) then ((0 ≤ ix ∧ ix.toNatClampNeg < 16) ∧ (if 0 ≤ (m1 112 ix.toNatClampNeg) then ((0 ≤ (m1 112 ix.toNatClampNeg) ∧ (m1 112 ix.toNatClampNeg).toNatClampNeg < 3100) ∧ (zm X 4 88 238 0 [(0, .inr (.inr (some 94))), (1, .inl ix), (2, .inl v2)] (ma_u m1 94 0 (0 : Int32)) (zmv (fun m3 => P (some (.inl (m1 100 (m1 112 ix.toNatClampNeg).toNatClampNeg))) m3)))) else (zm X 4 88 238 0 [(0, .inr (.inr (some 94))), (1, .inl ix), (2, .inl v2)] (ma_u m1 94 0 (0 : Int32)) (zmv (fun m5 => P (some (.inl (-1 : Int32))) m5))))) else (if 0 ≤ v2 then ((0 ≤ ix ∧ ix.toNatClampNeg < 16) ∧ (if 0 ≤ (m1 112 ix.toNatClampNeg) then ((0 ≤ (m1 112 ix.toNatClampNeg) ∧ (m1 112 ix.toNatClampNeg).toNatClampNeg < 3100) ∧ (zm X 4 88 238 0 [(0, .inr (.inr (some 94))), (1, .inl ix), (2, .inl v2)] (ma_u m1 94 0 (0 : Int32)) (zmv (fun m7 => P (some (.inl (m1 100 (m1 112 ix.toNatClampNeg).toNatClampNeg))) m7)))) else (zm X 4 88 238 0 [(0, .inr (.inr (some 94))), (1, .inl ix), (2, .inl v2)] (ma_u m1 94 0 (0 : Int32)) (zmv (fun m9 => P (some (.inl (-1 : Int32))) m9))))) else (P (some (.inl (0 : Int32))) (ma_u m1 94 0 (3 : Int32))))))))))) : zm X 5 111 250 0 [(0, .inr (.inr (some 94))), (1, .inl ix), (2, .inl ob)] m P := by
  intro d w S Q hd hw hS hm HQ
  subst hm
  refine zw_push hm_250 dX12_root_0 (v := .inr (.inr (some 94))) rfl ?_
  refine zw_push hm_250 dX12_root_1 (v := .inr (.inr (some 94))) rfl ?_
  refine zw_push hm_250 dX12_root_2 (v := .inl ix) rfl ?_
  refine zw_cv hm_250 dX12_root_3 v_12_493_12 hm_182 [.inl ix] [.inr (.inr (some 94))] rfl (zT_rt hS s_94 rfl) ⟨by omega, by omega⟩ rfl ?_
  show ma_wp X (d - 1) (w - 21) 182 0 [(0, .inr (.inr (some 94))), (1, .inl ix)] [] S _
  refine zw_push hm_182 dX12_isNamed_0 (v := .inl ix) rfl ?_
  refine zw_if0 hm_182 dX12_isNamed_1 (t := 14) rfl zc0_lt ?_ ?_
  · intro hc
    rw [if_pos hc] at h
    refine zw_push hm_182 dX12_isNamed_14 (v := .inl (0 : Int32)) rfl ?_
    refine zw_bret hm_182 dX12_isNamed_15 (by decide) ?_
    show ma_wp X d w 250 6 [(0, .inr (.inr (some 94))), (1, .inl ix), (2, .inl ob)] [.inl (0 : Int32), .inr (.inr (some 94))] S _
    refine zw_if0 hm_250 dX12_root_6 (t := 13) rfl zc0_ne (fun hc => absurd hc (by decide)) (fun _ => ?_)
    refine zw_push hm_250 dX12_root_9 (v := .inl (1 : Int32)) rfl ?_
    refine zw_goto hm_250 dX12_root_10 (t := 25) rfl ?_
    refine zw_cv hm_250 dX12_root_25 v_12_110_12 hm_167 [.inl (1 : Int32)] [] rfl (zT_rt hS s_94 rfl) ⟨by omega, by omega⟩ rfl ?_
    show ma_wp X (d - 1) (w - 21) 167 0 [(0, .inr (.inr (some 94))), (1, .inl (1 : Int32))] [] S _
    refine zw_push hm_167 dX12_fails_0 (v := .inr (.inr (some 94))) rfl ?_
    refine zw_push hm_167 dX12_fails_1 (v := .inl (1 : Int32)) rfl ?_
    refine zw_pf hm_167 dX12_fails_2 (zT_is hS s_94) (zT_t hS s_94) p_12_1_12 zk_int ?_
    refine zw_push hm_167 dX12_fails_5 (v := .inl (1 : Int32)) rfl ?_
    refine zw_if0 hm_167 dX12_fails_6 (t := 13) rfl zc0_eq (fun hc => absurd hc (by decide)) (fun _ => ?_)
    refine zw_push hm_167 dX12_fails_9 (v := .inl (1 : Int32)) rfl ?_
    refine zw_goto hm_167 dX12_fails_10 (t := 14) rfl ?_
    refine zw_bret hm_167 dX12_fails_14 (by decide) ?_
    show ma_wp X d w 250 28 [(0, .inr (.inr (some 94))), (1, .inl ix), (2, .inl ob)] [.inl (1 : Int32)] (ma_put S 94 0 (.inl (1 : Int32))) _
    refine zw_if0 hm_250 dX12_root_28 (t := 33) rfl zc0_eq (fun hc => absurd hc (by decide)) (fun _ => ?_)
    refine zw_push hm_250 dX12_root_31 (v := .inl (0 : Int32)) rfl ?_
    exact zw_iret hm_250 dX12_root_32 (HQ _ _ h)
  · intro hc
    rw [if_neg hc] at h
    refine zw_push hm_182 dX12_isNamed_4 (v := .inl ix) rfl ?_
    refine zw_push hm_182 dX12_isNamed_5 (v := .inl (16 : Int32)) rfl ?_
    refine zw_if2 hm_182 dX12_isNamed_7 (t := 14) rfl zc2_ge ?_ ?_
    · intro hc
      rw [if_pos hc] at h
      refine zw_push hm_182 dX12_isNamed_14 (v := .inl (0 : Int32)) rfl ?_
      refine zw_bret hm_182 dX12_isNamed_15 (by decide) ?_
      show ma_wp X d w 250 6 [(0, .inr (.inr (some 94))), (1, .inl ix), (2, .inl ob)] [.inl (0 : Int32), .inr (.inr (some 94))] S _
      refine zw_if0 hm_250 dX12_root_6 (t := 13) rfl zc0_ne (fun hc => absurd hc (by decide)) (fun _ => ?_)
      refine zw_push hm_250 dX12_root_9 (v := .inl (1 : Int32)) rfl ?_
      refine zw_goto hm_250 dX12_root_10 (t := 25) rfl ?_
      refine zw_cv hm_250 dX12_root_25 v_12_110_12 hm_167 [.inl (1 : Int32)] [] rfl (zT_rt hS s_94 rfl) ⟨by omega, by omega⟩ rfl ?_
      show ma_wp X (d - 1) (w - 21) 167 0 [(0, .inr (.inr (some 94))), (1, .inl (1 : Int32))] [] S _
      refine zw_push hm_167 dX12_fails_0 (v := .inr (.inr (some 94))) rfl ?_
      refine zw_push hm_167 dX12_fails_1 (v := .inl (1 : Int32)) rfl ?_
      refine zw_pf hm_167 dX12_fails_2 (zT_is hS s_94) (zT_t hS s_94) p_12_1_12 zk_int ?_
      refine zw_push hm_167 dX12_fails_5 (v := .inl (1 : Int32)) rfl ?_
      refine zw_if0 hm_167 dX12_fails_6 (t := 13) rfl zc0_eq (fun hc => absurd hc (by decide)) (fun _ => ?_)
      refine zw_push hm_167 dX12_fails_9 (v := .inl (1 : Int32)) rfl ?_
      refine zw_goto hm_167 dX12_fails_10 (t := 14) rfl ?_
      refine zw_bret hm_167 dX12_fails_14 (by decide) ?_
      show ma_wp X d w 250 28 [(0, .inr (.inr (some 94))), (1, .inl ix), (2, .inl ob)] [.inl (1 : Int32)] (ma_put S 94 0 (.inl (1 : Int32))) _
      refine zw_if0 hm_250 dX12_root_28 (t := 33) rfl zc0_eq (fun hc => absurd hc (by decide)) (fun _ => ?_)
      refine zw_push hm_250 dX12_root_31 (v := .inl (0 : Int32)) rfl ?_
      exact zw_iret hm_250 dX12_root_32 (HQ _ _ h)
    · intro hc
      rw [if_neg hc] at h
      refine zw_push hm_182 dX12_isNamed_10 (v := .inl (1 : Int32)) rfl ?_
      refine zw_goto hm_182 dX12_isNamed_11 (t := 15) rfl ?_
      refine zw_bret hm_182 dX12_isNamed_15 (by decide) ?_
      show ma_wp X d w 250 6 [(0, .inr (.inr (some 94))), (1, .inl ix), (2, .inl ob)] [.inl (1 : Int32), .inr (.inr (some 94))] S _
      refine zw_if0 hm_250 dX12_root_6 (t := 13) rfl zc0_ne (fun _ => ?_) (fun hc => absurd (by decide) hc)
      refine zw_push hm_250 dX12_root_13 (v := .inr (.inr (some 94))) rfl ?_
      refine zw_gf hm_250 dX12_root_14 (v := .inl ((mI S) 94 8)) (zT_is hS s_94) (zT_t hS s_94) rfl f_12_237_12 rfl ?_
      refine zw_if0 hm_250 dX12_root_17 (t := 24) rfl zc0_ne ?_ ?_
      · intro hc
        rw [if_neg hc] at h
        refine zw_push hm_250 dX12_root_24 (v := .inl (0 : Int32)) rfl ?_
        refine zw_cv hm_250 dX12_root_25 v_12_110_12 hm_167 [.inl (0 : Int32)] [] rfl (zT_rt hS s_94 rfl) ⟨by omega, by omega⟩ rfl ?_
        show ma_wp X (d - 1) (w - 21) 167 0 [(0, .inr (.inr (some 94))), (1, .inl (0 : Int32))] [] S _
        refine zw_push hm_167 dX12_fails_0 (v := .inr (.inr (some 94))) rfl ?_
        refine zw_push hm_167 dX12_fails_1 (v := .inl (0 : Int32)) rfl ?_
        refine zw_pf hm_167 dX12_fails_2 (zT_is hS s_94) (zT_t hS s_94) p_12_1_12 zk_int ?_
        refine zw_push hm_167 dX12_fails_5 (v := .inl (0 : Int32)) rfl ?_
        refine zw_if0 hm_167 dX12_fails_6 (t := 13) rfl zc0_eq (fun _ => ?_) (fun hc => absurd (by decide) hc)
        refine zw_push hm_167 dX12_fails_13 (v := .inl (0 : Int32)) rfl ?_
        refine zw_bret hm_167 dX12_fails_14 (by decide) ?_
        show ma_wp X d w 250 28 [(0, .inr (.inr (some 94))), (1, .inl ix), (2, .inl ob)] [.inl (0 : Int32)] (ma_put S 94 0 (.inl (0 : Int32))) _
        refine zw_if0 hm_250 dX12_root_28 (t := 33) rfl zc0_eq (fun _ => ?_) (fun hc => absurd (by decide) hc)
        refine zw_push hm_250 dX12_root_33 (v := .inl ob) rfl ?_
        refine zw_push hm_250 dX12_root_34 (v := .inl (-1 : Int32)) rfl ?_
        refine zw_if2 hm_250 dX12_root_35 (t := 42) rfl zc2_ne ?_ ?_
        · intro hc
          rw [if_neg hc] at h
          refine zw_push hm_250 dX12_root_42 (v := .inr (.inr (some 94))) rfl ?_
          refine zw_push hm_250 dX12_root_43 (v := .inl ob) rfl ?_
          refine zw_cv hm_250 dX12_root_44 v_12_499_12 hm_245 [.inl ob] [] rfl (zT_rt (zT_pi hS) s_94 rfl) ⟨by omega, by omega⟩ rfl (h _ _ (ma_put S 94 0 (.inl (0 : Int32))) _ (by omega) (by omega) (zT_pi hS) rfl (fun o9 m1 hv => ?_))
          obtain ⟨v2, rfl, h⟩ := zmi_of hv
          show ma_wp X d w 250 47 [(0, .inr (.inr (some 94))), (1, .inl ix), (2, .inl ob)] [.inl v2] (zst S m1) _
          refine zw_sto hm_250 dX12_root_47 [(3, .inl v2), (0, .inr (.inr (some 94))), (1, .inl ix), (2, .inl ob)] rfl rfl rfl ?_
          refine zw_push hm_250 dX12_root_48 (v := .inr (.inr (some 94))) rfl ?_
          refine zw_push hm_250 dX12_root_49 (v := .inl ob) rfl ?_
          refine zw_push hm_250 dX12_root_50 (v := .inl (-1 : Int32)) rfl ?_
          refine zw_if2 hm_250 dX12_root_51 (t := 62) rfl zc2_eq ?_ ?_
          · intro hc
            rw [if_pos hc] at h
            refine zw_push hm_250 dX12_root_62 (v := .inl (0 : Int32)) rfl ?_
            refine zw_cv hm_250 dX12_root_63 v_12_110_12 hm_167 [.inl (0 : Int32)] [] rfl (zT_rt (zT_zst hS m1) s_94 rfl) ⟨by omega, by omega⟩ rfl ?_
            show ma_wp X (d - 1) (w - 21) 167 0 [(0, .inr (.inr (some 94))), (1, .inl (0 : Int32))] [] (zst S m1) _
            refine zw_push hm_167 dX12_fails_0 (v := .inr (.inr (some 94))) rfl ?_
            refine zw_push hm_167 dX12_fails_1 (v := .inl (0 : Int32)) rfl ?_
            refine zw_pf hm_167 dX12_fails_2 (zT_is (zT_zst hS m1) s_94) (zT_t (zT_zst hS m1) s_94) p_12_1_12 zk_int ?_
            refine zw_push hm_167 dX12_fails_5 (v := .inl (0 : Int32)) rfl ?_
            refine zw_if0 hm_167 dX12_fails_6 (t := 13) rfl zc0_eq (fun _ => ?_) (fun hc => absurd (by decide) hc)
            refine zw_push hm_167 dX12_fails_13 (v := .inl (0 : Int32)) rfl ?_
            refine zw_bret hm_167 dX12_fails_14 (by decide) ?_
            show ma_wp X d w 250 66 [(3, .inl v2), (0, .inr (.inr (some 94))), (1, .inl ix), (2, .inl ob)] [.inl (0 : Int32)] (ma_put (zst S m1) 94 0 (.inl (0 : Int32))) _
            refine zw_if0 hm_250 dX12_root_66 (t := 71) rfl zc0_eq (fun _ => ?_) (fun hc => absurd (by decide) hc)
            refine zw_push hm_250 dX12_root_71 (v := .inr (.inr (some 94))) rfl ?_
            refine zw_push hm_250 dX12_root_72 (v := .inr (.inr (some 94))) rfl ?_
            refine zw_gf hm_250 dX12_root_73 (v := .inr (.inr (some 112))) (zT_is (zT_pi (zT_zst hS m1)) s_94) (zT_t (zT_pi (zT_zst hS m1)) s_94) rfl f_12_68_12 (zT_f (zT_pi (zT_zst hS m1)) r_94_51) ?_
            refine zw_push hm_250 dX12_root_76 (v := .inl ix) rfl ?_
            obtain ⟨hg, h⟩ := h
            refine zw_ia hm_250 dX12_root_77 (zT_is (zT_pi (zT_zst hS m1)) s_112) (zT_h (zT_pi (zT_zst hS m1)) s_112) rfl hg ?_
            show ma_wp X d w 250 78 [(3, .inl v2), (0, .inr (.inr (some 94))), (1, .inl ix), (2, .inl ob)] [.inl (m1 112 ix.toNatClampNeg), .inr (.inr (some 94))] (ma_put (zst S m1) 94 0 (.inl (0 : Int32))) _
            refine zw_cv hm_250 dX12_root_78 v_12_502_12 hm_248 [.inl (m1 112 ix.toNatClampNeg)] [] rfl (zT_rt (zT_pi (zT_zst hS m1)) s_94 rfl) ⟨by omega, by omega⟩ rfl ?_
            show ma_wp X (d - 1) (w - 21) 248 0 [(0, .inr (.inr (some 94))), (1, .inl (m1 112 ix.toNatClampNeg))] [] (ma_put (zst S m1) 94 0 (.inl (0 : Int32))) _
            refine zw_push hm_248 dX12_numberOf_0 (v := .inl (m1 112 ix.toNatClampNeg)) rfl ?_
            refine zw_if0 hm_248 dX12_numberOf_1 (t := 8) rfl zc0_ge ?_ ?_
            · intro hc
              rw [if_pos hc] at h
              refine zw_push hm_248 dX12_numberOf_8 (v := .inr (.inr (some 94))) rfl ?_
              refine zw_gf hm_248 dX12_numberOf_9 (v := .inr (.inr (some 100))) (zT_is (zT_pi (zT_zst hS m1)) s_94) (zT_t (zT_pi (zT_zst hS m1)) s_94) rfl f_12_31_12 (zT_f (zT_pi (zT_zst hS m1)) r_94_32) ?_
              refine zw_push hm_248 dX12_numberOf_12 (v := .inl (m1 112 ix.toNatClampNeg)) rfl ?_
              obtain ⟨hg, h⟩ := h
              refine zw_ia hm_248 dX12_numberOf_13 (zT_is (zT_pi (zT_zst hS m1)) s_100) (zT_h (zT_pi (zT_zst hS m1)) s_100) rfl hg ?_
              show ma_wp X (d - 1) (w - 21) 248 14 [(0, .inr (.inr (some 94))), (1, .inl (m1 112 ix.toNatClampNeg))] [.inl (m1 100 (m1 112 ix.toNatClampNeg).toNatClampNeg)] (ma_put (zst S m1) 94 0 (.inl (0 : Int32))) _
              refine zw_iret hm_248 dX12_numberOf_14 ?_
              show ma_wp X d w 250 81 [(3, .inl v2), (0, .inr (.inr (some 94))), (1, .inl ix), (2, .inl ob)] [.inl (m1 100 (m1 112 ix.toNatClampNeg).toNatClampNeg)] (ma_put (zst S m1) 94 0 (.inl (0 : Int32))) _
              refine zw_sto hm_250 dX12_root_81 [(4, .inl (m1 100 (m1 112 ix.toNatClampNeg).toNatClampNeg)), (3, .inl v2), (0, .inr (.inr (some 94))), (1, .inl ix), (2, .inl ob)] rfl rfl rfl ?_
              refine zw_push hm_250 dX12_root_83 (v := .inr (.inr (some 94))) rfl ?_
              refine zw_push hm_250 dX12_root_84 (v := .inl ix) rfl ?_
              refine zw_push hm_250 dX12_root_85 (v := .inl v2) rfl ?_
              refine zw_cv hm_250 dX12_root_86 v_12_481_12 hm_238 [.inl v2, .inl ix] [] rfl (zT_rt (zT_pi (zT_zst hS m1)) s_94 rfl) ⟨by omega, by omega⟩ rfl (h _ _ (ma_put (zst S m1) 94 0 (.inl (0 : Int32))) _ (by omega) (by omega) (zT_pi (zT_zst hS m1)) rfl (fun o9 m3 hv => ?_))
              obtain ⟨rfl, h⟩ := zmv_of hv
              show ma_wp X d w 250 89 [(4, .inl (m1 100 (m1 112 ix.toNatClampNeg).toNatClampNeg)), (3, .inl v2), (0, .inr (.inr (some 94))), (1, .inl ix), (2, .inl ob)] [] (zst S m3) _
              refine zw_push hm_250 dX12_root_89 (v := .inl (m1 100 (m1 112 ix.toNatClampNeg).toNatClampNeg)) rfl ?_
              exact zw_iret hm_250 dX12_root_91 (HQ _ _ h)
            · intro hc
              rw [if_neg hc] at h
              refine zw_push hm_248 dX12_numberOf_4 (v := .inl (-1 : Int32)) rfl ?_
              refine zw_goto hm_248 dX12_numberOf_5 (t := 14) rfl ?_
              refine zw_iret hm_248 dX12_numberOf_14 ?_
              show ma_wp X d w 250 81 [(3, .inl v2), (0, .inr (.inr (some 94))), (1, .inl ix), (2, .inl ob)] [.inl (-1 : Int32)] (ma_put (zst S m1) 94 0 (.inl (0 : Int32))) _
              refine zw_sto hm_250 dX12_root_81 [(4, .inl (-1 : Int32)), (3, .inl v2), (0, .inr (.inr (some 94))), (1, .inl ix), (2, .inl ob)] rfl rfl rfl ?_
              refine zw_push hm_250 dX12_root_83 (v := .inr (.inr (some 94))) rfl ?_
              refine zw_push hm_250 dX12_root_84 (v := .inl ix) rfl ?_
              refine zw_push hm_250 dX12_root_85 (v := .inl v2) rfl ?_
              refine zw_cv hm_250 dX12_root_86 v_12_481_12 hm_238 [.inl v2, .inl ix] [] rfl (zT_rt (zT_pi (zT_zst hS m1)) s_94 rfl) ⟨by omega, by omega⟩ rfl (h _ _ (ma_put (zst S m1) 94 0 (.inl (0 : Int32))) _ (by omega) (by omega) (zT_pi (zT_zst hS m1)) rfl (fun o9 m5 hv => ?_))
              obtain ⟨rfl, h⟩ := zmv_of hv
              show ma_wp X d w 250 89 [(4, .inl (-1 : Int32)), (3, .inl v2), (0, .inr (.inr (some 94))), (1, .inl ix), (2, .inl ob)] [] (zst S m5) _
              refine zw_push hm_250 dX12_root_89 (v := .inl (-1 : Int32)) rfl ?_
              exact zw_iret hm_250 dX12_root_91 (HQ _ _ h)
          · intro hc
            rw [if_neg hc] at h
            refine zw_push hm_250 dX12_root_54 (v := .inl v2) rfl ?_
            refine zw_if0 hm_250 dX12_root_55 (t := 62) rfl zc0_ge ?_ ?_
            · intro hc
              rw [if_pos hc] at h
              refine zw_push hm_250 dX12_root_62 (v := .inl (0 : Int32)) rfl ?_
              refine zw_cv hm_250 dX12_root_63 v_12_110_12 hm_167 [.inl (0 : Int32)] [] rfl (zT_rt (zT_zst hS m1) s_94 rfl) ⟨by omega, by omega⟩ rfl ?_
              show ma_wp X (d - 1) (w - 21) 167 0 [(0, .inr (.inr (some 94))), (1, .inl (0 : Int32))] [] (zst S m1) _
              refine zw_push hm_167 dX12_fails_0 (v := .inr (.inr (some 94))) rfl ?_
              refine zw_push hm_167 dX12_fails_1 (v := .inl (0 : Int32)) rfl ?_
              refine zw_pf hm_167 dX12_fails_2 (zT_is (zT_zst hS m1) s_94) (zT_t (zT_zst hS m1) s_94) p_12_1_12 zk_int ?_
              refine zw_push hm_167 dX12_fails_5 (v := .inl (0 : Int32)) rfl ?_
              refine zw_if0 hm_167 dX12_fails_6 (t := 13) rfl zc0_eq (fun _ => ?_) (fun hc => absurd (by decide) hc)
              refine zw_push hm_167 dX12_fails_13 (v := .inl (0 : Int32)) rfl ?_
              refine zw_bret hm_167 dX12_fails_14 (by decide) ?_
              show ma_wp X d w 250 66 [(3, .inl v2), (0, .inr (.inr (some 94))), (1, .inl ix), (2, .inl ob)] [.inl (0 : Int32)] (ma_put (zst S m1) 94 0 (.inl (0 : Int32))) _
              refine zw_if0 hm_250 dX12_root_66 (t := 71) rfl zc0_eq (fun _ => ?_) (fun hc => absurd (by decide) hc)
              refine zw_push hm_250 dX12_root_71 (v := .inr (.inr (some 94))) rfl ?_
              refine zw_push hm_250 dX12_root_72 (v := .inr (.inr (some 94))) rfl ?_
              refine zw_gf hm_250 dX12_root_73 (v := .inr (.inr (some 112))) (zT_is (zT_pi (zT_zst hS m1)) s_94) (zT_t (zT_pi (zT_zst hS m1)) s_94) rfl f_12_68_12 (zT_f (zT_pi (zT_zst hS m1)) r_94_51) ?_
              refine zw_push hm_250 dX12_root_76 (v := .inl ix) rfl ?_
              obtain ⟨hg, h⟩ := h
              refine zw_ia hm_250 dX12_root_77 (zT_is (zT_pi (zT_zst hS m1)) s_112) (zT_h (zT_pi (zT_zst hS m1)) s_112) rfl hg ?_
              show ma_wp X d w 250 78 [(3, .inl v2), (0, .inr (.inr (some 94))), (1, .inl ix), (2, .inl ob)] [.inl (m1 112 ix.toNatClampNeg), .inr (.inr (some 94))] (ma_put (zst S m1) 94 0 (.inl (0 : Int32))) _
              refine zw_cv hm_250 dX12_root_78 v_12_502_12 hm_248 [.inl (m1 112 ix.toNatClampNeg)] [] rfl (zT_rt (zT_pi (zT_zst hS m1)) s_94 rfl) ⟨by omega, by omega⟩ rfl ?_
              show ma_wp X (d - 1) (w - 21) 248 0 [(0, .inr (.inr (some 94))), (1, .inl (m1 112 ix.toNatClampNeg))] [] (ma_put (zst S m1) 94 0 (.inl (0 : Int32))) _
              refine zw_push hm_248 dX12_numberOf_0 (v := .inl (m1 112 ix.toNatClampNeg)) rfl ?_
              refine zw_if0 hm_248 dX12_numberOf_1 (t := 8) rfl zc0_ge ?_ ?_
              · intro hc
                rw [if_pos hc] at h
                refine zw_push hm_248 dX12_numberOf_8 (v := .inr (.inr (some 94))) rfl ?_
                refine zw_gf hm_248 dX12_numberOf_9 (v := .inr (.inr (some 100))) (zT_is (zT_pi (zT_zst hS m1)) s_94) (zT_t (zT_pi (zT_zst hS m1)) s_94) rfl f_12_31_12 (zT_f (zT_pi (zT_zst hS m1)) r_94_32) ?_
                refine zw_push hm_248 dX12_numberOf_12 (v := .inl (m1 112 ix.toNatClampNeg)) rfl ?_
                obtain ⟨hg, h⟩ := h
                refine zw_ia hm_248 dX12_numberOf_13 (zT_is (zT_pi (zT_zst hS m1)) s_100) (zT_h (zT_pi (zT_zst hS m1)) s_100) rfl hg ?_
                show ma_wp X (d - 1) (w - 21) 248 14 [(0, .inr (.inr (some 94))), (1, .inl (m1 112 ix.toNatClampNeg))] [.inl (m1 100 (m1 112 ix.toNatClampNeg).toNatClampNeg)] (ma_put (zst S m1) 94 0 (.inl (0 : Int32))) _
                refine zw_iret hm_248 dX12_numberOf_14 ?_
                show ma_wp X d w 250 81 [(3, .inl v2), (0, .inr (.inr (some 94))), (1, .inl ix), (2, .inl ob)] [.inl (m1 100 (m1 112 ix.toNatClampNeg).toNatClampNeg)] (ma_put (zst S m1) 94 0 (.inl (0 : Int32))) _
                refine zw_sto hm_250 dX12_root_81 [(4, .inl (m1 100 (m1 112 ix.toNatClampNeg).toNatClampNeg)), (3, .inl v2), (0, .inr (.inr (some 94))), (1, .inl ix), (2, .inl ob)] rfl rfl rfl ?_
                refine zw_push hm_250 dX12_root_83 (v := .inr (.inr (some 94))) rfl ?_
                refine zw_push hm_250 dX12_root_84 (v := .inl ix) rfl ?_
                refine zw_push hm_250 dX12_root_85 (v := .inl v2) rfl ?_
                refine zw_cv hm_250 dX12_root_86 v_12_481_12 hm_238 [.inl v2, .inl ix] [] rfl (zT_rt (zT_pi (zT_zst hS m1)) s_94 rfl) ⟨by omega, by omega⟩ rfl (h _ _ (ma_put (zst S m1) 94 0 (.inl (0 : Int32))) _ (by omega) (by omega) (zT_pi (zT_zst hS m1)) rfl (fun o9 m7 hv => ?_))
                obtain ⟨rfl, h⟩ := zmv_of hv
                show ma_wp X d w 250 89 [(4, .inl (m1 100 (m1 112 ix.toNatClampNeg).toNatClampNeg)), (3, .inl v2), (0, .inr (.inr (some 94))), (1, .inl ix), (2, .inl ob)] [] (zst S m7) _
                refine zw_push hm_250 dX12_root_89 (v := .inl (m1 100 (m1 112 ix.toNatClampNeg).toNatClampNeg)) rfl ?_
                exact zw_iret hm_250 dX12_root_91 (HQ _ _ h)
              · intro hc
                rw [if_neg hc] at h
                refine zw_push hm_248 dX12_numberOf_4 (v := .inl (-1 : Int32)) rfl ?_
                refine zw_goto hm_248 dX12_numberOf_5 (t := 14) rfl ?_
                refine zw_iret hm_248 dX12_numberOf_14 ?_
                show ma_wp X d w 250 81 [(3, .inl v2), (0, .inr (.inr (some 94))), (1, .inl ix), (2, .inl ob)] [.inl (-1 : Int32)] (ma_put (zst S m1) 94 0 (.inl (0 : Int32))) _
                refine zw_sto hm_250 dX12_root_81 [(4, .inl (-1 : Int32)), (3, .inl v2), (0, .inr (.inr (some 94))), (1, .inl ix), (2, .inl ob)] rfl rfl rfl ?_
                refine zw_push hm_250 dX12_root_83 (v := .inr (.inr (some 94))) rfl ?_
                refine zw_push hm_250 dX12_root_84 (v := .inl ix) rfl ?_
                refine zw_push hm_250 dX12_root_85 (v := .inl v2) rfl ?_
                refine zw_cv hm_250 dX12_root_86 v_12_481_12 hm_238 [.inl v2, .inl ix] [] rfl (zT_rt (zT_pi (zT_zst hS m1)) s_94 rfl) ⟨by omega, by omega⟩ rfl (h _ _ (ma_put (zst S m1) 94 0 (.inl (0 : Int32))) _ (by omega) (by omega) (zT_pi (zT_zst hS m1)) rfl (fun o9 m9 hv => ?_))
                obtain ⟨rfl, h⟩ := zmv_of hv
                show ma_wp X d w 250 89 [(4, .inl (-1 : Int32)), (3, .inl v2), (0, .inr (.inr (some 94))), (1, .inl ix), (2, .inl ob)] [] (zst S m9) _
                refine zw_push hm_250 dX12_root_89 (v := .inl (-1 : Int32)) rfl ?_
                exact zw_iret hm_250 dX12_root_91 (HQ _ _ h)
            · intro hc
              rw [if_neg hc] at h
              refine zw_push hm_250 dX12_root_58 (v := .inl (3 : Int32)) rfl ?_
              refine zw_goto hm_250 dX12_root_59 (t := 63) rfl ?_
              refine zw_cv hm_250 dX12_root_63 v_12_110_12 hm_167 [.inl (3 : Int32)] [] rfl (zT_rt (zT_zst hS m1) s_94 rfl) ⟨by omega, by omega⟩ rfl ?_
              show ma_wp X (d - 1) (w - 21) 167 0 [(0, .inr (.inr (some 94))), (1, .inl (3 : Int32))] [] (zst S m1) _
              refine zw_push hm_167 dX12_fails_0 (v := .inr (.inr (some 94))) rfl ?_
              refine zw_push hm_167 dX12_fails_1 (v := .inl (3 : Int32)) rfl ?_
              refine zw_pf hm_167 dX12_fails_2 (zT_is (zT_zst hS m1) s_94) (zT_t (zT_zst hS m1) s_94) p_12_1_12 zk_int ?_
              refine zw_push hm_167 dX12_fails_5 (v := .inl (3 : Int32)) rfl ?_
              refine zw_if0 hm_167 dX12_fails_6 (t := 13) rfl zc0_eq (fun hc => absurd hc (by decide)) (fun _ => ?_)
              refine zw_push hm_167 dX12_fails_9 (v := .inl (1 : Int32)) rfl ?_
              refine zw_goto hm_167 dX12_fails_10 (t := 14) rfl ?_
              refine zw_bret hm_167 dX12_fails_14 (by decide) ?_
              show ma_wp X d w 250 66 [(3, .inl v2), (0, .inr (.inr (some 94))), (1, .inl ix), (2, .inl ob)] [.inl (1 : Int32)] (ma_put (zst S m1) 94 0 (.inl (3 : Int32))) _
              refine zw_if0 hm_250 dX12_root_66 (t := 71) rfl zc0_eq (fun hc => absurd hc (by decide)) (fun _ => ?_)
              refine zw_push hm_250 dX12_root_69 (v := .inl (0 : Int32)) rfl ?_
              exact zw_iret hm_250 dX12_root_70 (HQ _ _ h)
        · intro hc
          rw [if_pos (Classical.not_not.mp hc)] at h
          refine zw_push hm_250 dX12_root_38 (v := .inl (-1 : Int32)) rfl ?_
          refine zw_goto hm_250 dX12_root_39 (t := 47) rfl ?_
          refine zw_sto hm_250 dX12_root_47 [(3, .inl (-1 : Int32)), (0, .inr (.inr (some 94))), (1, .inl ix), (2, .inl ob)] rfl rfl rfl ?_
          refine zw_push hm_250 dX12_root_48 (v := .inr (.inr (some 94))) rfl ?_
          refine zw_push hm_250 dX12_root_49 (v := .inl ob) rfl ?_
          refine zw_push hm_250 dX12_root_50 (v := .inl (-1 : Int32)) rfl ?_
          refine zw_if2 hm_250 dX12_root_51 (t := 62) rfl zc2_eq ?_ ?_
          · intro hc
            rw [if_pos hc] at h
            refine zw_push hm_250 dX12_root_62 (v := .inl (0 : Int32)) rfl ?_
            refine zw_cv hm_250 dX12_root_63 v_12_110_12 hm_167 [.inl (0 : Int32)] [] rfl (zT_rt (zT_pi hS) s_94 rfl) ⟨by omega, by omega⟩ rfl ?_
            show ma_wp X (d - 1) (w - 21) 167 0 [(0, .inr (.inr (some 94))), (1, .inl (0 : Int32))] [] (ma_put S 94 0 (.inl (0 : Int32))) _
            refine zw_push hm_167 dX12_fails_0 (v := .inr (.inr (some 94))) rfl ?_
            refine zw_push hm_167 dX12_fails_1 (v := .inl (0 : Int32)) rfl ?_
            refine zw_pf hm_167 dX12_fails_2 (zT_is (zT_pi hS) s_94) (zT_t (zT_pi hS) s_94) p_12_1_12 zk_int ?_
            refine zw_push hm_167 dX12_fails_5 (v := .inl (0 : Int32)) rfl ?_
            refine zw_if0 hm_167 dX12_fails_6 (t := 13) rfl zc0_eq (fun _ => ?_) (fun hc => absurd (by decide) hc)
            refine zw_push hm_167 dX12_fails_13 (v := .inl (0 : Int32)) rfl ?_
            refine zw_bret hm_167 dX12_fails_14 (by decide) ?_
            show ma_wp X d w 250 66 [(3, .inl (-1 : Int32)), (0, .inr (.inr (some 94))), (1, .inl ix), (2, .inl ob)] [.inl (0 : Int32)] (ma_put (ma_put S 94 0 (.inl (0 : Int32))) 94 0 (.inl (0 : Int32))) _
            refine zw_if0 hm_250 dX12_root_66 (t := 71) rfl zc0_eq (fun _ => ?_) (fun hc => absurd (by decide) hc)
            refine zw_push hm_250 dX12_root_71 (v := .inr (.inr (some 94))) rfl ?_
            refine zw_push hm_250 dX12_root_72 (v := .inr (.inr (some 94))) rfl ?_
            refine zw_gf hm_250 dX12_root_73 (v := .inr (.inr (some 112))) (zT_is (zT_pi (zT_pi hS)) s_94) (zT_t (zT_pi (zT_pi hS)) s_94) rfl f_12_68_12 (zT_f (zT_pi (zT_pi hS)) r_94_51) ?_
            refine zw_push hm_250 dX12_root_76 (v := .inl ix) rfl ?_
            obtain ⟨hg, h⟩ := h
            refine zw_ia hm_250 dX12_root_77 (zT_is (zT_pi (zT_pi hS)) s_112) (zT_h (zT_pi (zT_pi hS)) s_112) rfl hg ?_
            show ma_wp X d w 250 78 [(3, .inl (-1 : Int32)), (0, .inr (.inr (some 94))), (1, .inl ix), (2, .inl ob)] [.inl ((mI S) 112 ix.toNatClampNeg), .inr (.inr (some 94))] (ma_put (ma_put S 94 0 (.inl (0 : Int32))) 94 0 (.inl (0 : Int32))) _
            refine zw_cv hm_250 dX12_root_78 v_12_502_12 hm_248 [.inl ((mI S) 112 ix.toNatClampNeg)] [] rfl (zT_rt (zT_pi (zT_pi hS)) s_94 rfl) ⟨by omega, by omega⟩ rfl ?_
            show ma_wp X (d - 1) (w - 21) 248 0 [(0, .inr (.inr (some 94))), (1, .inl ((mI S) 112 ix.toNatClampNeg))] [] (ma_put (ma_put S 94 0 (.inl (0 : Int32))) 94 0 (.inl (0 : Int32))) _
            refine zw_push hm_248 dX12_numberOf_0 (v := .inl ((mI S) 112 ix.toNatClampNeg)) rfl ?_
            refine zw_if0 hm_248 dX12_numberOf_1 (t := 8) rfl zc0_ge ?_ ?_
            · intro hc
              rw [if_pos hc] at h
              refine zw_push hm_248 dX12_numberOf_8 (v := .inr (.inr (some 94))) rfl ?_
              refine zw_gf hm_248 dX12_numberOf_9 (v := .inr (.inr (some 100))) (zT_is (zT_pi (zT_pi hS)) s_94) (zT_t (zT_pi (zT_pi hS)) s_94) rfl f_12_31_12 (zT_f (zT_pi (zT_pi hS)) r_94_32) ?_
              refine zw_push hm_248 dX12_numberOf_12 (v := .inl ((mI S) 112 ix.toNatClampNeg)) rfl ?_
              obtain ⟨hg, h⟩ := h
              refine zw_ia hm_248 dX12_numberOf_13 (zT_is (zT_pi (zT_pi hS)) s_100) (zT_h (zT_pi (zT_pi hS)) s_100) rfl hg ?_
              show ma_wp X (d - 1) (w - 21) 248 14 [(0, .inr (.inr (some 94))), (1, .inl ((mI S) 112 ix.toNatClampNeg))] [.inl ((mI S) 100 ((mI S) 112 ix.toNatClampNeg).toNatClampNeg)] (ma_put (ma_put S 94 0 (.inl (0 : Int32))) 94 0 (.inl (0 : Int32))) _
              refine zw_iret hm_248 dX12_numberOf_14 ?_
              show ma_wp X d w 250 81 [(3, .inl (-1 : Int32)), (0, .inr (.inr (some 94))), (1, .inl ix), (2, .inl ob)] [.inl ((mI S) 100 ((mI S) 112 ix.toNatClampNeg).toNatClampNeg)] (ma_put (ma_put S 94 0 (.inl (0 : Int32))) 94 0 (.inl (0 : Int32))) _
              refine zw_sto hm_250 dX12_root_81 [(4, .inl ((mI S) 100 ((mI S) 112 ix.toNatClampNeg).toNatClampNeg)), (3, .inl (-1 : Int32)), (0, .inr (.inr (some 94))), (1, .inl ix), (2, .inl ob)] rfl rfl rfl ?_
              refine zw_push hm_250 dX12_root_83 (v := .inr (.inr (some 94))) rfl ?_
              refine zw_push hm_250 dX12_root_84 (v := .inl ix) rfl ?_
              refine zw_push hm_250 dX12_root_85 (v := .inl (-1 : Int32)) rfl ?_
              refine zw_cv hm_250 dX12_root_86 v_12_481_12 hm_238 [.inl (-1 : Int32), .inl ix] [] rfl (zT_rt (zT_pi (zT_pi hS)) s_94 rfl) ⟨by omega, by omega⟩ rfl (h _ _ (ma_put (ma_put S 94 0 (.inl (0 : Int32))) 94 0 (.inl (0 : Int32))) _ (by omega) (by omega) (zT_pi (zT_pi hS)) rfl (fun o9 m11 hv => ?_))
              obtain ⟨rfl, h⟩ := zmv_of hv
              show ma_wp X d w 250 89 [(4, .inl ((mI S) 100 ((mI S) 112 ix.toNatClampNeg).toNatClampNeg)), (3, .inl (-1 : Int32)), (0, .inr (.inr (some 94))), (1, .inl ix), (2, .inl ob)] [] (zst S m11) _
              refine zw_push hm_250 dX12_root_89 (v := .inl ((mI S) 100 ((mI S) 112 ix.toNatClampNeg).toNatClampNeg)) rfl ?_
              exact zw_iret hm_250 dX12_root_91 (HQ _ _ h)
            · intro hc
              rw [if_neg hc] at h
              refine zw_push hm_248 dX12_numberOf_4 (v := .inl (-1 : Int32)) rfl ?_
              refine zw_goto hm_248 dX12_numberOf_5 (t := 14) rfl ?_
              refine zw_iret hm_248 dX12_numberOf_14 ?_
              show ma_wp X d w 250 81 [(3, .inl (-1 : Int32)), (0, .inr (.inr (some 94))), (1, .inl ix), (2, .inl ob)] [.inl (-1 : Int32)] (ma_put (ma_put S 94 0 (.inl (0 : Int32))) 94 0 (.inl (0 : Int32))) _
              refine zw_sto hm_250 dX12_root_81 [(4, .inl (-1 : Int32)), (3, .inl (-1 : Int32)), (0, .inr (.inr (some 94))), (1, .inl ix), (2, .inl ob)] rfl rfl rfl ?_
              refine zw_push hm_250 dX12_root_83 (v := .inr (.inr (some 94))) rfl ?_
              refine zw_push hm_250 dX12_root_84 (v := .inl ix) rfl ?_
              refine zw_push hm_250 dX12_root_85 (v := .inl (-1 : Int32)) rfl ?_
              refine zw_cv hm_250 dX12_root_86 v_12_481_12 hm_238 [.inl (-1 : Int32), .inl ix] [] rfl (zT_rt (zT_pi (zT_pi hS)) s_94 rfl) ⟨by omega, by omega⟩ rfl (h _ _ (ma_put (ma_put S 94 0 (.inl (0 : Int32))) 94 0 (.inl (0 : Int32))) _ (by omega) (by omega) (zT_pi (zT_pi hS)) rfl (fun o9 m13 hv => ?_))
              obtain ⟨rfl, h⟩ := zmv_of hv
              show ma_wp X d w 250 89 [(4, .inl (-1 : Int32)), (3, .inl (-1 : Int32)), (0, .inr (.inr (some 94))), (1, .inl ix), (2, .inl ob)] [] (zst S m13) _
              refine zw_push hm_250 dX12_root_89 (v := .inl (-1 : Int32)) rfl ?_
              exact zw_iret hm_250 dX12_root_91 (HQ _ _ h)
          · intro hc
            rw [if_neg hc] at h
            refine zw_push hm_250 dX12_root_54 (v := .inl (-1 : Int32)) rfl ?_
            refine zw_if0 hm_250 dX12_root_55 (t := 62) rfl zc0_ge (fun hc => absurd hc (by decide)) (fun _ => ?_)
            refine zw_push hm_250 dX12_root_58 (v := .inl (3 : Int32)) rfl ?_
            refine zw_goto hm_250 dX12_root_59 (t := 63) rfl ?_
            refine zw_cv hm_250 dX12_root_63 v_12_110_12 hm_167 [.inl (3 : Int32)] [] rfl (zT_rt (zT_pi hS) s_94 rfl) ⟨by omega, by omega⟩ rfl ?_
            show ma_wp X (d - 1) (w - 21) 167 0 [(0, .inr (.inr (some 94))), (1, .inl (3 : Int32))] [] (ma_put S 94 0 (.inl (0 : Int32))) _
            refine zw_push hm_167 dX12_fails_0 (v := .inr (.inr (some 94))) rfl ?_
            refine zw_push hm_167 dX12_fails_1 (v := .inl (3 : Int32)) rfl ?_
            refine zw_pf hm_167 dX12_fails_2 (zT_is (zT_pi hS) s_94) (zT_t (zT_pi hS) s_94) p_12_1_12 zk_int ?_
            refine zw_push hm_167 dX12_fails_5 (v := .inl (3 : Int32)) rfl ?_
            refine zw_if0 hm_167 dX12_fails_6 (t := 13) rfl zc0_eq (fun hc => absurd hc (by decide)) (fun _ => ?_)
            refine zw_push hm_167 dX12_fails_9 (v := .inl (1 : Int32)) rfl ?_
            refine zw_goto hm_167 dX12_fails_10 (t := 14) rfl ?_
            refine zw_bret hm_167 dX12_fails_14 (by decide) ?_
            show ma_wp X d w 250 66 [(3, .inl (-1 : Int32)), (0, .inr (.inr (some 94))), (1, .inl ix), (2, .inl ob)] [.inl (1 : Int32)] (ma_put (ma_put S 94 0 (.inl (0 : Int32))) 94 0 (.inl (3 : Int32))) _
            refine zw_if0 hm_250 dX12_root_66 (t := 71) rfl zc0_eq (fun hc => absurd hc (by decide)) (fun _ => ?_)
            refine zw_push hm_250 dX12_root_69 (v := .inl (0 : Int32)) rfl ?_
            exact zw_iret hm_250 dX12_root_70 (HQ _ _ h)
      · intro hc
        rw [if_pos (Classical.not_not.mp hc)] at h
        refine zw_push hm_250 dX12_root_20 (v := .inl (2 : Int32)) rfl ?_
        refine zw_goto hm_250 dX12_root_21 (t := 25) rfl ?_
        refine zw_cv hm_250 dX12_root_25 v_12_110_12 hm_167 [.inl (2 : Int32)] [] rfl (zT_rt hS s_94 rfl) ⟨by omega, by omega⟩ rfl ?_
        show ma_wp X (d - 1) (w - 21) 167 0 [(0, .inr (.inr (some 94))), (1, .inl (2 : Int32))] [] S _
        refine zw_push hm_167 dX12_fails_0 (v := .inr (.inr (some 94))) rfl ?_
        refine zw_push hm_167 dX12_fails_1 (v := .inl (2 : Int32)) rfl ?_
        refine zw_pf hm_167 dX12_fails_2 (zT_is hS s_94) (zT_t hS s_94) p_12_1_12 zk_int ?_
        refine zw_push hm_167 dX12_fails_5 (v := .inl (2 : Int32)) rfl ?_
        refine zw_if0 hm_167 dX12_fails_6 (t := 13) rfl zc0_eq (fun hc => absurd hc (by decide)) (fun _ => ?_)
        refine zw_push hm_167 dX12_fails_9 (v := .inl (1 : Int32)) rfl ?_
        refine zw_goto hm_167 dX12_fails_10 (t := 14) rfl ?_
        refine zw_bret hm_167 dX12_fails_14 (by decide) ?_
        show ma_wp X d w 250 28 [(0, .inr (.inr (some 94))), (1, .inl ix), (2, .inl ob)] [.inl (1 : Int32)] (ma_put S 94 0 (.inl (2 : Int32))) _
        refine zw_if0 hm_250 dX12_root_28 (t := 33) rfl zc0_eq (fun hc => absurd hc (by decide)) (fun _ => ?_)
        refine zw_push hm_250 dX12_root_31 (v := .inl (0 : Int32)) rfl ?_
        exact zw_iret hm_250 dX12_root_32 (HQ _ _ h)
theorem sp_250 {X : Nat × (Nat → Int32)} {P : Option ma_V → (Nat → Nat → Int32) → Prop} {T : Nat} {m : Nat → Nat → Int32} (ix : Int32) (ob : Int32) (hV : zV m) (r_W : zW (m 94 7) (m 98) (m 101) (m 102) (m 108)) (r_GW : zGW T (m 94 55) (m 109)) (r_GU : zGU T (m 94 46) (m 99)) (r_OW : zOw (m 99) (m 103) (m 111)) (r_DX : zDX (m 94 10) (m 99) (m 112) (m 113) (m 114) (m 94 55) (m 98) (m 101) (m 102) (m 108)) (r_GG : zGG (m 94 58) (m 94 56) (m 94 57) (m 106)) (r_HA : zHA (m 94 10) (m 94 11) (m 94 13) (m 94 14) (m 94 16) (m 94 61) (m 94 59) (m 94 60) (m 99) (m 102) (m 103) (m 111) (m 117) (m 98) (m 101) (m 108)) (r_RGc : zRG (m 94 10) (m 94 18) (m 94 64) (m 94 63) (m 99) (m 103) (m 102) (m 116)) (hpre8 : (m 94 58).toInt = 0 ∨ (m 94 10).toInt = 5) (KZ : ∀ v m₉, zV (zov wr_250 m m₉) → (zW (m 94 7) (m 98) (m 101) (m 102) (m 108)) → (zGW T (m₉ 94 55) (m₉ 109)) → (zGU T (m 94 46) (m₉ 99)) → (zOw (m₉ 99) (m 103) (m₉ 111)) → (zDX (m 94 10) (m₉ 99) (m₉ 112) (m₉ 113) (m₉ 114) (m₉ 94 55) (m 98) (m 101) (m 102) (m 108)) → (zGG (m 94 58) (m₉ 94 56) (m 94 57) (m₉ 106)) → (zHA (m 94 10) (m 94 11) (m 94 13) (m 94 14) (m 94 16) (m 94 61) (m 94 59) (m 94 60) (m₉ 99) (m 102) (m 103) (m₉ 111) (m 117) (m 98) (m 101) (m 108)) → (zRG (m 94 10) (m 94 18) (m 94 64) (m 94 63) (m₉ 99) (m 103) (m 102) (m 116)) → ((m 94 58).toInt = 0 ∨ (m 94 10).toInt = 5) → P (some (.inl v)) (zov wr_250 m m₉)) : zm X 5 111 250 0 [(0, .inr (.inr (some 94))), (1, .inl ix), (2, .inl ob)] m P := by
  have K : ∀ v m₉, zF wr_250 m m₉ → zV m₉ → (zW (m₉ 94 7) (m₉ 98) (m₉ 101) (m₉ 102) (m₉ 108)) → (zGW T (m₉ 94 55) (m₉ 109)) → (zGU T (m₉ 94 46) (m₉ 99)) → (zOw (m₉ 99) (m₉ 103) (m₉ 111)) → (zDX (m₉ 94 10) (m₉ 99) (m₉ 112) (m₉ 113) (m₉ 114) (m₉ 94 55) (m₉ 98) (m₉ 101) (m₉ 102) (m₉ 108)) → (zGG (m₉ 94 58) (m₉ 94 56) (m₉ 94 57) (m₉ 106)) → (zHA (m₉ 94 10) (m₉ 94 11) (m₉ 94 13) (m₉ 94 14) (m₉ 94 16) (m₉ 94 61) (m₉ 94 59) (m₉ 94 60) (m₉ 99) (m₉ 102) (m₉ 103) (m₉ 111) (m₉ 117) (m₉ 98) (m₉ 101) (m₉ 108)) → (zRG (m₉ 94 10) (m₉ 94 18) (m₉ 94 64) (m₉ 94 63) (m₉ 99) (m₉ 103) (m₉ 102) (m₉ 116)) → ((m₉ 94 58).toInt = 0 ∨ (m₉ 94 10).toInt = 5) → P (some (.inl v)) m₉ := by
    intro v m₉ hf z q0 q1 q2 q3 q4 q5 q6 q7 q8
    have e := zov_eq hf
    rw [e] at z ⊢
    try rw [e] at q0
    try rw [e] at q1
    try rw [e] at q2
    try rw [e] at q3
    try rw [e] at q4
    try rw [e] at q5
    try rw [e] at q6
    try rw [e] at q7
    try rw [e] at q8
    exact KZ v m₉ z q0 q1 q2 q3 q4 q5 q6 q7 q8
  refine g_250_0 ix ob ?_
  have f1 : 0 ≤ (m 94 58).toInt ∧ (m 94 58).toInt ≤ 1 := rs_94_58 (m := m) hV
  have f2 : 0 ≤ (m 94 10).toInt ∧ (m 94 10).toInt ≤ 6 := rs_94_10 (m := m) hV
  have b3 := i_bd ix
  have li4 : (0 : Int32).toInt = 0 := rfl
  refine zd (fun (h5 : ix < (0 : Int32)) => ?_) (fun (h5 : ¬ ix < (0 : Int32)) => ?_)
  · skip
    have g6 := i_lt h5
    have hV7 : zV (ma_u m 94 0 (1 : Int32)) := uf_94_0 hV
    exact K ((0 : Int32)) _ (zF_u zF_rfl rfl) hV7 r_W r_GW r_GU r_OW r_DX r_GG r_HA r_RGc (show (m 94 58).toInt = 0 ∨ (m 94 10).toInt = 5 from by omega)
  · skip
    have g8 := i_nlt h5
    have li9 : (16 : Int32).toInt = 16 := rfl
    refine zd (fun (h10 : (16 : Int32) ≤ ix) => ?_) (fun (h10 : ¬ (16 : Int32) ≤ ix) => ?_)
    · skip
      have g11 := i_le h10
      have hV12 : zV (ma_u m 94 0 (1 : Int32)) := uf_94_0 hV
      exact K ((0 : Int32)) _ (zF_u zF_rfl rfl) hV12 r_W r_GW r_GU r_OW r_DX r_GG r_HA r_RGc (show (m 94 58).toInt = 0 ∨ (m 94 10).toInt = 5 from by omega)
    · skip
      have g13 := i_nle h10
      have f14 : 0 ≤ (m 94 8).toInt ∧ (m 94 8).toInt ≤ 1 := rs_94_8 (m := m) hV
      refine zd (fun (h15 : (m 94 8) = (0 : Int32)) => ?_) (fun (h15 : ¬ (m 94 8) = (0 : Int32)) => ?_)
      · skip
        have g16 := i_eq h15
        have hV17 : zV (ma_u m 94 0 (2 : Int32)) := uf_94_0 hV
        exact K ((0 : Int32)) _ (zF_u zF_rfl rfl) hV17 r_W r_GW r_GU r_OW r_DX r_GG r_HA r_RGc (show (m 94 58).toInt = 0 ∨ (m 94 10).toInt = 5 from by omega)
      · skip
        have g18 := i_ne h15
        have b19 := i_bd ob
        have li20 : (-1 : Int32).toInt = -1 := rfl
        refine zd (fun (h21 : ob = (-1 : Int32)) => ?_) (fun (h21 : ¬ ob = (-1 : Int32)) => ?_)
        · skip
          have g22 := i_eq h21
          refine zd (fun (h23 : ob = (-1 : Int32)) => ?_) (fun (h23 : ¬ ob = (-1 : Int32)) => ?_)
          · skip
            have g24 := i_eq h23
            have hg25 : (0 ≤ ix ∧ ix.toNatClampNeg < 16) := i_ix (by omega) (by omega)
            refine ⟨hg25, ?_⟩
            first | have f26 : -1 ≤ (m 112 ix.toNatClampNeg).toInt ∧ (m 112 ix.toNatClampNeg).toInt ≤ 3099 := ra_112 (m := m) hV (k := ix.toNatClampNeg) (i_ix (n := 16) (by omega) (by omega)).2 | have b27 := i_bd (m 112 ix.toNatClampNeg)
            refine zd (fun (h28 : (0 : Int32) ≤ (m 112 ix.toNatClampNeg)) => ?_) (fun (h28 : ¬ (0 : Int32) ≤ (m 112 ix.toNatClampNeg)) => ?_)
            · skip
              have g29 := i_le h28
              have hg30 : (0 ≤ (m 112 ix.toNatClampNeg) ∧ (m 112 ix.toNatClampNeg).toNatClampNeg < 3100) := i_ix (by omega) (by omega)
              refine ⟨hg30, ?_⟩
              have hV31 : zV (ma_u m 94 0 (0 : Int32)) := uf_94_0 hV
              have hV32 : zV (ma_u (ma_u m 94 0 (0 : Int32)) 94 0 (0 : Int32)) := uf_94_0 hV31
              refine sp_238 (ix) ((-1 : Int32)) hV32 (by omega) (by omega) (by omega) (by omega) (show ((m 94 10).toInt = 2 ∨ (m 94 10).toInt = 3) → (-1 : Int32).toInt < 0 ∨ (m 99) (-1 : Int32).toNatClampNeg ≠ 0 from by first | (exact fun _ => Or.inl (by decide)) | (exfalso; omega; done) | (exfalso; contradiction; done)) r_W r_GW r_GU r_OW r_DX r_GG r_HA r_RGc (show (m 94 58).toInt = 0 ∨ (m 94 10).toInt = 5 from by omega) (fun m11 hV_m11 p0_m11 p1_m11 p2_m11 p3_m11 p4_m11 p5_m11 p6_m11 p7_m11 => zmv_n ?_)
              have p0_m11 : zGW T (m11 94 55) (m11 109) := p0_m11
              have p1_m11 : zGU T (m 94 46) (m11 99) := p1_m11
              have p2_m11 : zOw (m11 99) (m 103) (m11 111) := p2_m11
              have p3_m11 : zDX (m 94 10) (m11 99) (m11 112) (m11 113) (m11 114) (m11 94 55) (m 98) (m 101) (m 102) (m 108) := p3_m11
              have p4_m11 : zGG (m 94 58) (m11 94 56) (m 94 57) (m11 106) := p4_m11
              have p5_m11 : zHA (m 94 10) (m 94 11) (m 94 13) (m 94 14) (m 94 16) (m 94 61) (m 94 59) (m 94 60) (m11 99) (m 102) (m 103) (m11 111) (m 117) (m 98) (m 101) (m 108) := p5_m11
              have p6_m11 : zRG (m 94 10) (m 94 18) (m 94 64) (m 94 63) (m11 99) (m 103) (m 102) (m 116) := p6_m11
              have p7_m11 : (m 94 58).toInt = 0 ∨ (m 94 10).toInt = 5 := p7_m11
              first | have f33 : 0 ≤ (m 100 (m 112 ix.toNatClampNeg).toNatClampNeg).toInt ∧ (m 100 (m 112 ix.toNatClampNeg).toNatClampNeg).toInt ≤ 100000 := ra_100 (m := m) hV (k := (m 112 ix.toNatClampNeg).toNatClampNeg) (i_ix (n := 3100) (by omega) (by omega)).2 | have b34 := i_bd (m 100 (m 112 ix.toNatClampNeg).toNatClampNeg)
              exact K ((m 100 (m 112 ix.toNatClampNeg).toNatClampNeg)) _ (zF_zov (zF_u (zF_u zF_rfl rfl) rfl) ws_238_250) hV_m11 r_W p0_m11 p1_m11 p2_m11 p3_m11 p4_m11 p5_m11 p6_m11 (show (m 94 58).toInt = 0 ∨ (m 94 10).toInt = 5 from by omega)
            · skip
              have g35 := i_nle h28
              have hV36 : zV (ma_u m 94 0 (0 : Int32)) := uf_94_0 hV
              have hV37 : zV (ma_u (ma_u m 94 0 (0 : Int32)) 94 0 (0 : Int32)) := uf_94_0 hV36
              refine sp_238 (ix) ((-1 : Int32)) hV37 (by omega) (by omega) (by omega) (by omega) (show ((m 94 10).toInt = 2 ∨ (m 94 10).toInt = 3) → (-1 : Int32).toInt < 0 ∨ (m 99) (-1 : Int32).toNatClampNeg ≠ 0 from by first | (exact fun _ => Or.inl (by decide)) | (exfalso; omega; done) | (exfalso; contradiction; done)) r_W r_GW r_GU r_OW r_DX r_GG r_HA r_RGc (show (m 94 58).toInt = 0 ∨ (m 94 10).toInt = 5 from by omega) (fun m13 hV_m13 p0_m13 p1_m13 p2_m13 p3_m13 p4_m13 p5_m13 p6_m13 p7_m13 => zmv_n ?_)
              have p0_m13 : zGW T (m13 94 55) (m13 109) := p0_m13
              have p1_m13 : zGU T (m 94 46) (m13 99) := p1_m13
              have p2_m13 : zOw (m13 99) (m 103) (m13 111) := p2_m13
              have p3_m13 : zDX (m 94 10) (m13 99) (m13 112) (m13 113) (m13 114) (m13 94 55) (m 98) (m 101) (m 102) (m 108) := p3_m13
              have p4_m13 : zGG (m 94 58) (m13 94 56) (m 94 57) (m13 106) := p4_m13
              have p5_m13 : zHA (m 94 10) (m 94 11) (m 94 13) (m 94 14) (m 94 16) (m 94 61) (m 94 59) (m 94 60) (m13 99) (m 102) (m 103) (m13 111) (m 117) (m 98) (m 101) (m 108) := p5_m13
              have p6_m13 : zRG (m 94 10) (m 94 18) (m 94 64) (m 94 63) (m13 99) (m 103) (m 102) (m 116) := p6_m13
              have p7_m13 : (m 94 58).toInt = 0 ∨ (m 94 10).toInt = 5 := p7_m13
              exact K ((-1 : Int32)) _ (zF_zov (zF_u (zF_u zF_rfl rfl) rfl) ws_238_250) hV_m13 r_W p0_m13 p1_m13 p2_m13 p3_m13 p4_m13 p5_m13 p6_m13 (show (m 94 58).toInt = 0 ∨ (m 94 10).toInt = 5 from by omega)
          · skip
            have g38 := i_ne h23
            have hV39 : zV (ma_u m 94 0 (0 : Int32)) := uf_94_0 hV
            have hV40 : zV (ma_u (ma_u m 94 0 (0 : Int32)) 94 0 (3 : Int32)) := uf_94_0 hV39
            exact K ((0 : Int32)) _ (zF_u (zF_u zF_rfl rfl) rfl) hV40 r_W r_GW r_GU r_OW r_DX r_GG r_HA r_RGc (show (m 94 58).toInt = 0 ∨ (m 94 10).toInt = 5 from by omega)
        · skip
          have g41 := i_ne h21
          have hV42 : zV (ma_u m 94 0 (0 : Int32)) := uf_94_0 hV
          refine sp_245 (ob) hV42 r_W r_DX (fun v2 m1 hV_m1 p0_m1 p1_m1 => zmi_n ?_)
          have p0_m1 : -1 ≤ v2.toInt ∧ v2.toInt ≤ 3099 := p0_m1
          have p1_m1 : v2.toInt < 0 ∨ (m 99) v2.toNatClampNeg ≠ 0 := p1_m1
          refine zd (fun (h43 : ob = (-1 : Int32)) => ?_) (fun (h43 : ¬ ob = (-1 : Int32)) => ?_)
          · skip
            have g44 := i_eq h43
            have hg45 : (0 ≤ ix ∧ ix.toNatClampNeg < 16) := i_ix (by omega) (by omega)
            refine ⟨hg45, ?_⟩
            first | have f46 : -1 ≤ (m 112 ix.toNatClampNeg).toInt ∧ (m 112 ix.toNatClampNeg).toInt ≤ 3099 := ra_112 (m := m) hV (k := ix.toNatClampNeg) (i_ix (n := 16) (by omega) (by omega)).2 | have b47 := i_bd (m 112 ix.toNatClampNeg)
            refine zd (fun (h48 : (0 : Int32) ≤ (m 112 ix.toNatClampNeg)) => ?_) (fun (h48 : ¬ (0 : Int32) ≤ (m 112 ix.toNatClampNeg)) => ?_)
            · skip
              have g49 := i_le h48
              have hg50 : (0 ≤ (m 112 ix.toNatClampNeg) ∧ (m 112 ix.toNatClampNeg).toNatClampNeg < 3100) := i_ix (by omega) (by omega)
              refine ⟨hg50, ?_⟩
              have b51 := i_bd v2
              have hV52 : zV (ma_u (zov wr_245 (ma_u m 94 0 (0 : Int32)) m1) 94 0 (0 : Int32)) := uf_94_0 hV_m1
              refine sp_238 (ix) (v2) hV52 (by omega) (by omega) (by omega) (by omega) (show ((m 94 10).toInt = 2 ∨ (m 94 10).toInt = 3) → v2.toInt < 0 ∨ (m 99) v2.toNatClampNeg ≠ 0 from by first | (exact fun _ => p1_m1) | (exact fun _ => Or.inl (by decide)) | (exfalso; omega; done) | (exfalso; contradiction; done)) r_W r_GW r_GU r_OW r_DX r_GG r_HA r_RGc (show (m 94 58).toInt = 0 ∨ (m 94 10).toInt = 5 from by omega) (fun m3 hV_m3 p0_m3 p1_m3 p2_m3 p3_m3 p4_m3 p5_m3 p6_m3 p7_m3 => zmv_n ?_)
              have p0_m3 : zGW T (m3 94 55) (m3 109) := p0_m3
              have p1_m3 : zGU T (m 94 46) (m3 99) := p1_m3
              have p2_m3 : zOw (m3 99) (m 103) (m3 111) := p2_m3
              have p3_m3 : zDX (m 94 10) (m3 99) (m3 112) (m3 113) (m3 114) (m3 94 55) (m 98) (m 101) (m 102) (m 108) := p3_m3
              have p4_m3 : zGG (m 94 58) (m3 94 56) (m 94 57) (m3 106) := p4_m3
              have p5_m3 : zHA (m 94 10) (m 94 11) (m 94 13) (m 94 14) (m 94 16) (m 94 61) (m 94 59) (m 94 60) (m3 99) (m 102) (m 103) (m3 111) (m 117) (m 98) (m 101) (m 108) := p5_m3
              have p6_m3 : zRG (m 94 10) (m 94 18) (m 94 64) (m 94 63) (m3 99) (m 103) (m 102) (m 116) := p6_m3
              have p7_m3 : (m 94 58).toInt = 0 ∨ (m 94 10).toInt = 5 := p7_m3
              first | have f53 : 0 ≤ (m 100 (m 112 ix.toNatClampNeg).toNatClampNeg).toInt ∧ (m 100 (m 112 ix.toNatClampNeg).toNatClampNeg).toInt ≤ 100000 := ra_100 (m := m) hV (k := (m 112 ix.toNatClampNeg).toNatClampNeg) (i_ix (n := 3100) (by omega) (by omega)).2 | have b54 := i_bd (m 100 (m 112 ix.toNatClampNeg).toNatClampNeg)
              exact K ((m 100 (m 112 ix.toNatClampNeg).toNatClampNeg)) _ (zF_zov (zF_u (zF_zov (zF_u zF_rfl rfl) ws_245_250) rfl) ws_238_250) hV_m3 r_W p0_m3 p1_m3 p2_m3 p3_m3 p4_m3 p5_m3 p6_m3 (show (m 94 58).toInt = 0 ∨ (m 94 10).toInt = 5 from by omega)
            · skip
              have g55 := i_nle h48
              have b56 := i_bd v2
              have hV57 : zV (ma_u (zov wr_245 (ma_u m 94 0 (0 : Int32)) m1) 94 0 (0 : Int32)) := uf_94_0 hV_m1
              refine sp_238 (ix) (v2) hV57 (by omega) (by omega) (by omega) (by omega) (show ((m 94 10).toInt = 2 ∨ (m 94 10).toInt = 3) → v2.toInt < 0 ∨ (m 99) v2.toNatClampNeg ≠ 0 from by first | (exact fun _ => p1_m1) | (exact fun _ => Or.inl (by decide)) | (exfalso; omega; done) | (exfalso; contradiction; done)) r_W r_GW r_GU r_OW r_DX r_GG r_HA r_RGc (show (m 94 58).toInt = 0 ∨ (m 94 10).toInt = 5 from by omega) (fun m5 hV_m5 p0_m5 p1_m5 p2_m5 p3_m5 p4_m5 p5_m5 p6_m5 p7_m5 => zmv_n ?_)
              have p0_m5 : zGW T (m5 94 55) (m5 109) := p0_m5
              have p1_m5 : zGU T (m 94 46) (m5 99) := p1_m5
              have p2_m5 : zOw (m5 99) (m 103) (m5 111) := p2_m5
              have p3_m5 : zDX (m 94 10) (m5 99) (m5 112) (m5 113) (m5 114) (m5 94 55) (m 98) (m 101) (m 102) (m 108) := p3_m5
              have p4_m5 : zGG (m 94 58) (m5 94 56) (m 94 57) (m5 106) := p4_m5
              have p5_m5 : zHA (m 94 10) (m 94 11) (m 94 13) (m 94 14) (m 94 16) (m 94 61) (m 94 59) (m 94 60) (m5 99) (m 102) (m 103) (m5 111) (m 117) (m 98) (m 101) (m 108) := p5_m5
              have p6_m5 : zRG (m 94 10) (m 94 18) (m 94 64) (m 94 63) (m5 99) (m 103) (m 102) (m 116) := p6_m5
              have p7_m5 : (m 94 58).toInt = 0 ∨ (m 94 10).toInt = 5 := p7_m5
              exact K ((-1 : Int32)) _ (zF_zov (zF_u (zF_zov (zF_u zF_rfl rfl) ws_245_250) rfl) ws_238_250) hV_m5 r_W p0_m5 p1_m5 p2_m5 p3_m5 p4_m5 p5_m5 p6_m5 (show (m 94 58).toInt = 0 ∨ (m 94 10).toInt = 5 from by omega)
          · skip
            have g58 := i_ne h43
            have b59 := i_bd v2
            refine zd (fun (h60 : (0 : Int32) ≤ v2) => ?_) (fun (h60 : ¬ (0 : Int32) ≤ v2) => ?_)
            · skip
              have g61 := i_le h60
              have hg62 : (0 ≤ ix ∧ ix.toNatClampNeg < 16) := i_ix (by omega) (by omega)
              refine ⟨hg62, ?_⟩
              first | have f63 : -1 ≤ (m 112 ix.toNatClampNeg).toInt ∧ (m 112 ix.toNatClampNeg).toInt ≤ 3099 := ra_112 (m := m) hV (k := ix.toNatClampNeg) (i_ix (n := 16) (by omega) (by omega)).2 | have b64 := i_bd (m 112 ix.toNatClampNeg)
              refine zd (fun (h65 : (0 : Int32) ≤ (m 112 ix.toNatClampNeg)) => ?_) (fun (h65 : ¬ (0 : Int32) ≤ (m 112 ix.toNatClampNeg)) => ?_)
              · skip
                have g66 := i_le h65
                have hg67 : (0 ≤ (m 112 ix.toNatClampNeg) ∧ (m 112 ix.toNatClampNeg).toNatClampNeg < 3100) := i_ix (by omega) (by omega)
                refine ⟨hg67, ?_⟩
                have hV68 : zV (ma_u (zov wr_245 (ma_u m 94 0 (0 : Int32)) m1) 94 0 (0 : Int32)) := uf_94_0 hV_m1
                refine sp_238 (ix) (v2) hV68 (by omega) (by omega) (by omega) (by omega) (show ((m 94 10).toInt = 2 ∨ (m 94 10).toInt = 3) → v2.toInt < 0 ∨ (m 99) v2.toNatClampNeg ≠ 0 from by first | (exact fun _ => p1_m1) | (exact fun _ => Or.inl (by decide)) | (exfalso; omega; done) | (exfalso; contradiction; done)) r_W r_GW r_GU r_OW r_DX r_GG r_HA r_RGc (show (m 94 58).toInt = 0 ∨ (m 94 10).toInt = 5 from by omega) (fun m7 hV_m7 p0_m7 p1_m7 p2_m7 p3_m7 p4_m7 p5_m7 p6_m7 p7_m7 => zmv_n ?_)
                have p0_m7 : zGW T (m7 94 55) (m7 109) := p0_m7
                have p1_m7 : zGU T (m 94 46) (m7 99) := p1_m7
                have p2_m7 : zOw (m7 99) (m 103) (m7 111) := p2_m7
                have p3_m7 : zDX (m 94 10) (m7 99) (m7 112) (m7 113) (m7 114) (m7 94 55) (m 98) (m 101) (m 102) (m 108) := p3_m7
                have p4_m7 : zGG (m 94 58) (m7 94 56) (m 94 57) (m7 106) := p4_m7
                have p5_m7 : zHA (m 94 10) (m 94 11) (m 94 13) (m 94 14) (m 94 16) (m 94 61) (m 94 59) (m 94 60) (m7 99) (m 102) (m 103) (m7 111) (m 117) (m 98) (m 101) (m 108) := p5_m7
                have p6_m7 : zRG (m 94 10) (m 94 18) (m 94 64) (m 94 63) (m7 99) (m 103) (m 102) (m 116) := p6_m7
                have p7_m7 : (m 94 58).toInt = 0 ∨ (m 94 10).toInt = 5 := p7_m7
                first | have f69 : 0 ≤ (m 100 (m 112 ix.toNatClampNeg).toNatClampNeg).toInt ∧ (m 100 (m 112 ix.toNatClampNeg).toNatClampNeg).toInt ≤ 100000 := ra_100 (m := m) hV (k := (m 112 ix.toNatClampNeg).toNatClampNeg) (i_ix (n := 3100) (by omega) (by omega)).2 | have b70 := i_bd (m 100 (m 112 ix.toNatClampNeg).toNatClampNeg)
                exact K ((m 100 (m 112 ix.toNatClampNeg).toNatClampNeg)) _ (zF_zov (zF_u (zF_zov (zF_u zF_rfl rfl) ws_245_250) rfl) ws_238_250) hV_m7 r_W p0_m7 p1_m7 p2_m7 p3_m7 p4_m7 p5_m7 p6_m7 (show (m 94 58).toInt = 0 ∨ (m 94 10).toInt = 5 from by omega)
              · skip
                have g71 := i_nle h65
                have hV72 : zV (ma_u (zov wr_245 (ma_u m 94 0 (0 : Int32)) m1) 94 0 (0 : Int32)) := uf_94_0 hV_m1
                refine sp_238 (ix) (v2) hV72 (by omega) (by omega) (by omega) (by omega) (show ((m 94 10).toInt = 2 ∨ (m 94 10).toInt = 3) → v2.toInt < 0 ∨ (m 99) v2.toNatClampNeg ≠ 0 from by first | (exact fun _ => p1_m1) | (exact fun _ => Or.inl (by decide)) | (exfalso; omega; done) | (exfalso; contradiction; done)) r_W r_GW r_GU r_OW r_DX r_GG r_HA r_RGc (show (m 94 58).toInt = 0 ∨ (m 94 10).toInt = 5 from by omega) (fun m9 hV_m9 p0_m9 p1_m9 p2_m9 p3_m9 p4_m9 p5_m9 p6_m9 p7_m9 => zmv_n ?_)
                have p0_m9 : zGW T (m9 94 55) (m9 109) := p0_m9
                have p1_m9 : zGU T (m 94 46) (m9 99) := p1_m9
                have p2_m9 : zOw (m9 99) (m 103) (m9 111) := p2_m9
                have p3_m9 : zDX (m 94 10) (m9 99) (m9 112) (m9 113) (m9 114) (m9 94 55) (m 98) (m 101) (m 102) (m 108) := p3_m9
                have p4_m9 : zGG (m 94 58) (m9 94 56) (m 94 57) (m9 106) := p4_m9
                have p5_m9 : zHA (m 94 10) (m 94 11) (m 94 13) (m 94 14) (m 94 16) (m 94 61) (m 94 59) (m 94 60) (m9 99) (m 102) (m 103) (m9 111) (m 117) (m 98) (m 101) (m 108) := p5_m9
                have p6_m9 : zRG (m 94 10) (m 94 18) (m 94 64) (m 94 63) (m9 99) (m 103) (m 102) (m 116) := p6_m9
                have p7_m9 : (m 94 58).toInt = 0 ∨ (m 94 10).toInt = 5 := p7_m9
                exact K ((-1 : Int32)) _ (zF_zov (zF_u (zF_zov (zF_u zF_rfl rfl) ws_245_250) rfl) ws_238_250) hV_m9 r_W p0_m9 p1_m9 p2_m9 p3_m9 p4_m9 p5_m9 p6_m9 (show (m 94 58).toInt = 0 ∨ (m 94 10).toInt = 5 from by omega)
            · skip
              have g73 := i_nle h60
              have hV74 : zV (ma_u (zov wr_245 (ma_u m 94 0 (0 : Int32)) m1) 94 0 (3 : Int32)) := uf_94_0 hV_m1
              exact K ((0 : Int32)) _ (zF_u (zF_zov (zF_u zF_rfl rfl) ws_245_250) rfl) hV74 r_W r_GW r_GU r_OW r_DX r_GG r_HA r_RGc (show (m 94 58).toInt = 0 ∨ (m 94 10).toInt = 5 from by omega)

