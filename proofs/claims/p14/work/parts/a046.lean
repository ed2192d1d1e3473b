/-! from 94.455 -/
/-! the reference (written by wip/tools/gen94m.py) -/
set_option maxRecDepth 100000 in
theorem hm_252 : ma_md 252 = some (12, yX12_strong, cX12_strong, 4, (some (FieldType.int))) := rfl
theorem dX12_strong_0 : decode cX12_strong 0 = .ok (.aload_n 0, 1) := by decide +kernel
theorem dX12_strong_1 : decode cX12_strong 1 = .ok (.aload_n 0, 1) := by decide +kernel
theorem dX12_strong_2 : decode cX12_strong 2 = .ok (.iload_n 1, 1) := by decide +kernel
theorem dX12_strong_3 : decode cX12_strong 3 = .ok (.invokevirtual 493, 3) := by decide +kernel
theorem dX12_strong_6 : decode cX12_strong 6 = .ok (.ifCond .eq 11, 3) := by decide +kernel
theorem dX12_strong_17 : decode cX12_strong 17 = .ok (.iconst 1, 1) := by decide +kernel
theorem dX12_strong_18 : decode cX12_strong 18 = .ok (.goto 15, 3) := by decide +kernel
theorem dX12_strong_33 : decode cX12_strong 33 = .ok (.invokevirtual 110, 3) := by decide +kernel
theorem dX12_strong_36 : decode cX12_strong 36 = .ok (.ifCond .eq 5, 3) := by decide +kernel
theorem dX12_strong_39 : decode cX12_strong 39 = .ok (.iconst 0, 1) := by decide +kernel
theorem dX12_strong_40 : decode cX12_strong 40 = .ok (.ireturn, 1) := by decide +kernel
theorem dX12_strong_9 : decode cX12_strong 9 = .ok (.aload_n 0, 1) := by decide +kernel
theorem dX12_strong_10 : decode cX12_strong 10 = .ok (.iload_n 2, 1) := by decide +kernel
theorem dX12_strong_11 : decode cX12_strong 11 = .ok (.invokevirtual 493, 3) := by decide +kernel
theorem dX12_strong_14 : decode cX12_strong 14 = .ok (.ifCond .ne 7, 3) := by decide +kernel
theorem dX12_strong_21 : decode cX12_strong 21 = .ok (.aload_n 0, 1) := by decide +kernel
theorem dX12_strong_32 : decode cX12_strong 32 = .ok (.iconst 0, 1) := by decide +kernel
theorem dX12_strong_41 : decode cX12_strong 41 = .ok (.aload_n 0, 1) := by decide +kernel
theorem dX12_strong_45 : decode cX12_strong 45 = .ok (.iload_n 1, 1) := by decide +kernel
theorem dX12_strong_47 : decode cX12_strong 47 = .ok (.istore_n 3, 1) := by decide +kernel
theorem dX12_strong_48 : decode cX12_strong 48 = .ok (.iload_n 3, 1) := by decide +kernel
theorem dX12_strong_54 : decode cX12_strong 54 = .ok (.aload_n 0, 1) := by decide +kernel
theorem dX12_strong_66 : decode cX12_strong 66 = .ok (.aload_n 0, 1) := by decide +kernel
theorem dX12_strong_67 : decode cX12_strong 67 = .ok (.iload_n 2, 1) := by decide +kernel
theorem dX12_strong_68 : decode cX12_strong 68 = .ok (.iload_n 3, 1) := by decide +kernel
theorem dX12_strong_69 : decode cX12_strong 69 = .ok (.invokevirtual 481, 3) := by decide +kernel
theorem dX12_strong_72 : decode cX12_strong 72 = .ok (.aload_n 0, 1) := by decide +kernel
theorem dX12_strong_76 : decode cX12_strong 76 = .ok (.iload_n 3, 1) := by decide +kernel
theorem dX12_strong_78 : decode cX12_strong 78 = .ok (.ireturn, 1) := by decide +kernel
theorem dX12_strong_77 : decode cX12_strong 77 = .ok (.iaload, 1) := by decide +kernel
theorem dX12_strong_73 : decode cX12_strong 73 = .ok (.getfield 31, 3) := by decide +kernel
theorem dX12_strong_61 : decode cX12_strong 61 = .ok (.aload_n 0, 1) := by decide +kernel
theorem dX12_strong_62 : decode cX12_strong 62 = .ok (.iload_n 3, 1) := by decide +kernel
theorem dX12_strong_63 : decode cX12_strong 63 = .ok (.invokevirtual 396, 3) := by decide +kernel
theorem dX12_strong_58 : decode cX12_strong 58 = .ok (.ifCond .eq 8, 3) := by decide +kernel
theorem dX12_strong_55 : decode cX12_strong 55 = .ok (.getfield 270, 3) := by decide +kernel
theorem dX12_strong_52 : decode cX12_strong 52 = .ok (.iconst (-1), 1) := by decide +kernel
theorem dX12_strong_53 : decode cX12_strong 53 = .ok (.ireturn, 1) := by decide +kernel
theorem dX12_strong_49 : decode cX12_strong 49 = .ok (.ifCond .ge 5, 3) := by decide +kernel
theorem dX12_strong_46 : decode cX12_strong 46 = .ok (.iaload, 1) := by decide +kernel
theorem dX12_strong_42 : decode cX12_strong 42 = .ok (.getfield 71, 3) := by decide +kernel
theorem dX12_strong_28 : decode cX12_strong 28 = .ok (.iconst 2, 1) := by decide +kernel
theorem dX12_strong_29 : decode cX12_strong 29 = .ok (.goto 4, 3) := by decide +kernel
theorem dX12_strong_25 : decode cX12_strong 25 = .ok (.ifCond .ne 7, 3) := by decide +kernel
theorem dX12_strong_22 : decode cX12_strong 22 = .ok (.getfield 237, 3) := by decide +kernel
def wr_252 (c k : Nat) : Bool := Nat.beq c 99 || Nat.beq c 105 || Nat.beq c 106 || Nat.beq c 109 || Nat.beq c 111 || Nat.beq c 112 || Nat.beq c 113 || Nat.beq c 114 || Nat.beq c 115 || Nat.beq c 120 || Nat.beq c 121 || (Nat.beq c 94 && (Nat.beq k 0 || Nat.beq k 44 || Nat.beq k 45 || Nat.beq k 49 || Nat.beq k 55 || Nat.beq k 56 || Nat.beq k 80))
theorem ws_238_252 : ∀ c k, wr_238 c k = true → wr_252 c k = true := by
  intro c k h
  simp only [wr_238, wr_252, Bool.or_eq_true, Bool.and_eq_true, Nat.beq_eq] at h ⊢
  omega
theorem g_252_0 {X : Nat × (Nat → Int32)} {m : Nat → Nat → Int32} {P : Option ma_V → (Nat → Nat → Int32) → Prop} (ix : Int32) (r1 : Int32) (h : if ix < 0 then (P (some (.inl (0 : Int32))) (ma_u m 94 0 (1 : Int32))) else (if (16 : Int32) ≤ ix then (P (some (.inl (0 : Int32))) (ma_u m 94 0 (1 : Int32))) else (if r1 < 0 then (P (some (.inl (0 : Int32))) (ma_u m 94 0 (1 : Int32))) else (if (16 : Int32) ≤ r1 then (P (some (.inl (0 : Int32))) (ma_u m 94 0 (1 : Int32))) else (if (m 94 8) = 0 then (P (some (.inl (0 : Int32))) (ma_u m 94 0 (2 : Int32))) else ((0 ≤ ix ∧ ix.toNatClampNeg < 16) ∧ (if 0 ≤ (m 113 ix.toNatClampNeg) then (if (m 94 58) = 0 then (zm X 4 88 238 0 [(0, .inr (.inr (some 94))), (1, .inl r1), (2, .inl (m 113 ix.toNatClampNeg))] (ma_u m 94 0 (0 : Int32)) (zmv (fun m1 => (0 ≤ (m 113 ix.toNatClampNeg) ∧ (m 113 ix.toNatClampNeg).toNatClampNeg < 3100) ∧ (P (some (.inl (m1 100 (m 113 ix.toNatClampNeg).toNatClampNeg))) m1)))) else (if (m 113 ix.toNatClampNeg) < 0 then (zm X 4 88 238 0 [(0, .inr (.inr (some 94))), (1, .inl r1), (2, .inl (m 113 ix.toNatClampNeg))] (ma_u m 94 0 (0 : Int32)) (zmv (fun m3 => (0 ≤ (m 113 ix.toNatClampNeg) ∧ (m 113 ix.toNatClampNeg).toNatClampNeg < 3100) ∧ (P (some (.inl (m3 100 (m 113 ix.toNatClampNeg).toNatClampNeg))) m3)))) else ((0 ≤ (m 113 ix.toNatClampNeg) ∧ (m 113 ix.toNatClampNeg).toNatClampNeg < 3100) ∧ (if (m 106 (m 113 ix.toNatClampNeg).toNatClampNeg) = 0 then ((0 ≤ (m 113 ix.toNatClampNeg) ∧ (m 113 ix.toNatClampNeg).toNatClampNeg < 3100) ∧ ((0 ≤ (m 94 56) ∧ (m 94 56).toNatClampNeg < 3100) ∧ (zm X 4 88 238 0 [(0, .inr (.inr (some 94))), (1, .inl r1), (2, .inl (m 113 ix.toNatClampNeg))] (ma_u (ma_u (ma_u (ma_u m 94 0 (0 : Int32)) 106 (m 113 ix.toNatClampNeg).toNatClampNeg (1 : Int32)) 115 (m 94 56).toNatClampNeg (m 113 ix.toNatClampNeg)) 94 56 ((m 94 56) + (1 : Int32))) (zmv (fun m5 => (0 ≤ (m 113 ix.toNatClampNeg) ∧ (m 113 ix.toNatClampNeg).toNatClampNeg < 3100) ∧ (P (some (.inl (m5 100 (m 113 ix.toNatClampNeg).toNatClampNeg))) m5)))))) else (zm X 4 88 238 0 [(0, .inr (.inr (some 94))), (1, .inl r1), (2, .inl (m 113 ix.toNatClampNeg))] (ma_u m 94 0 (0 : Int32)) (zmv (fun m7 => (0 ≤ (m 113 ix.toNatClampNeg) ∧ (m 113 ix.toNatClampNeg).toNatClampNeg < 3100) ∧ (P (some (.inl (m7 100 (m 113 ix.toNatClampNeg).toNatClampNeg))) m7)))))))) else (P (some (.inl (-1 : Int32))) (ma_u m 94 0 (0 : Int32)))))))))) : zm X 5 111 252 0 [(0, .inr (.inr (some 94))), (1, .inl ix), (2, .inl r1)] m P := by
  intro d w S Q hd hw hS hm HQ
  subst hm
  refine zw_push hm_252 dX12_strong_0 (v := .inr (.inr (some 94))) rfl ?_
  refine zw_push hm_252 dX12_strong_1 (v := .inr (.inr (some 94))) rfl ?_
  refine zw_push hm_252 dX12_strong_2 (v := .inl ix) rfl ?_
  refine zw_cv hm_252 dX12_strong_3 v_12_493_12 hm_182 [.inl ix] [.inr (.inr (some 94))] rfl (zT_rt hS s_94 rfl) ⟨by omega, by omega⟩ rfl ?_
  show ma_wp X (d - 1) (w - 21) 182 0 [(0, .inr (.inr (some 94))), (1, .inl ix)] [] S _
  refine zw_push hm_182 dX12_isNamed_0 (v := .inl ix) rfl ?_
  refine zw_if0 hm_182 dX12_isNamed_1 (t := 14) rfl zc0_lt ?_ ?_
  · intro hc
    rw [if_pos hc] at h
    refine zw_push hm_182 dX12_isNamed_14 (v := .inl (0 : Int32)) rfl ?_
    refine zw_bret hm_182 dX12_isNamed_15 (by decide) ?_
    show ma_wp X d w 252 6 [(0, .inr (.inr (some 94))), (1, .inl ix), (2, .inl r1)] [.inl (0 : Int32), .inr (.inr (some 94))] S _
    refine zw_if0 hm_252 dX12_strong_6 (t := 17) rfl zc0_eq (fun _ => ?_) (fun hc => absurd (by decide) hc)
    refine zw_push hm_252 dX12_strong_17 (v := .inl (1 : Int32)) rfl ?_
    refine zw_goto hm_252 dX12_strong_18 (t := 33) rfl ?_
    refine zw_cv hm_252 dX12_strong_33 v_12_110_12 hm_167 [.inl (1 : Int32)] [] rfl (zT_rt hS s_94 rfl) ⟨by omega, by omega⟩ rfl ?_
    show ma_wp X (d - 1) (w - 21) 167 0 [(0, .inr (.inr (some 94))), (1, .inl (1 : Int32))] [] S _
    refine zw_push hm_167 dX12_fails_0 (v := .inr (.inr (some 94))) rfl ?_
    refine zw_push hm_167 dX12_fails_1 (v := .inl (1 : Int32)) rfl ?_
    refine zw_pf hm_167 dX12_fails_2 (zT_is hS s_94) (zT_t hS s_94) p_12_1_12 zk_int ?_
    refine zw_push hm_167 dX12_fails_5 (v := .inl (1 : Int32)) rfl ?_
    refine zw_if0 hm_167 dX12_fails_6 (t := 13) rfl zc0_eq (fun hc => absurd hc (by decide)) (fun _ => ?_)
    refine zw_push hm_167 dX12_fails_9 (v := .inl (1 : Int32)) rfl ?_
    refine zw_goto hm_167 dX12_fails_10 (t := 14) rfl ?_
    refine zw_bret hm_167 dX12_fails_14 (by decide) ?_
    show ma_wp X d w 252 36 [(0, .inr (.inr (some 94))), (1, .inl ix), (2, .inl r1)] [.inl (1 : Int32)] (ma_put S 94 0 (.inl (1 : Int32))) _
    refine zw_if0 hm_252 dX12_strong_36 (t := 41) rfl zc0_eq (fun hc => absurd hc (by decide)) (fun _ => ?_)
    refine zw_push hm_252 dX12_strong_39 (v := .inl (0 : Int32)) rfl ?_
    exact zw_iret hm_252 dX12_strong_40 (HQ _ _ h)
  · intro hc
    rw [if_neg hc] at h
    refine zw_push hm_182 dX12_isNamed_4 (v := .inl ix) rfl ?_
    refine zw_push hm_182 dX12_isNamed_5 (v := .inl (16 : Int32)) rfl ?_
    refine zw_if2 hm_182 dX12_isNamed_7 (t := 14) rfl zc2_ge ?_ ?_
    · intro hc
      rw [if_pos hc] at h
      refine zw_push hm_182 dX12_isNamed_14 (v := .inl (0 : Int32)) rfl ?_
      refine zw_bret hm_182 dX12_isNamed_15 (by decide) ?_
      show ma_wp X d w 252 6 [(0, .inr (.inr (some 94))), (1, .inl ix), (2, .inl r1)] [.inl (0 : Int32), .inr (.inr (some 94))] S _
      refine zw_if0 hm_252 dX12_strong_6 (t := 17) rfl zc0_eq (fun _ => ?_) (fun hc => absurd (by decide) hc)
      refine zw_push hm_252 dX12_strong_17 (v := .inl (1 : Int32)) rfl ?_
      refine zw_goto hm_252 dX12_strong_18 (t := 33) rfl ?_
      refine zw_cv hm_252 dX12_strong_33 v_12_110_12 hm_167 [.inl (1 : Int32)] [] rfl (zT_rt hS s_94 rfl) ⟨by omega, by omega⟩ rfl ?_
      show ma_wp X (d - 1) (w - 21) 167 0 [(0, .inr (.inr (some 94))), (1, .inl (1 : Int32))] [] S _
      refine zw_push hm_167 dX12_fails_0 (v := .inr (.inr (some 94))) rfl ?_
      refine zw_push hm_167 dX12_fails_1 (v := .inl (1 : Int32)) rfl ?_
      refine zw_pf hm_167 dX12_fails_2 (zT_is hS s_94) (zT_t hS s_94) p_12_1_12 zk_int ?_
      refine zw_push hm_167 dX12_fails_5 (v := .inl (1 : Int32)) rfl ?_
      refine zw_if0 hm_167 dX12_fails_6 (t := 13) rfl zc0_eq (fun hc => absurd hc (by decide)) (fun _ => ?_)
      refine zw_push hm_167 dX12_fails_9 (v := .inl (1 : Int32)) rfl ?_
      refine zw_goto hm_167 dX12_fails_10 (t := 14) rfl ?_
      refine zw_bret hm_167 dX12_fails_14 (by decide) ?_
      show ma_wp X d w 252 36 [(0, .inr (.inr (some 94))), (1, .inl ix), (2, .inl r1)] [.inl (1 : Int32)] (ma_put S 94 0 (.inl (1 : Int32))) _
      refine zw_if0 hm_252 dX12_strong_36 (t := 41) rfl zc0_eq (fun hc => absurd hc (by decide)) (fun _ => ?_)
      refine zw_push hm_252 dX12_strong_39 (v := .inl (0 : Int32)) rfl ?_
      exact zw_iret hm_252 dX12_strong_40 (HQ _ _ h)
    · intro hc
      rw [if_neg hc] at h
      refine zw_push hm_182 dX12_isNamed_10 (v := .inl (1 : Int32)) rfl ?_
      refine zw_goto hm_182 dX12_isNamed_11 (t := 15) rfl ?_
      refine zw_bret hm_182 dX12_isNamed_15 (by decide) ?_
      show ma_wp X d w 252 6 [(0, .inr (.inr (some 94))), (1, .inl ix), (2, .inl r1)] [.inl (1 : Int32), .inr (.inr (some 94))] S _
      refine zw_if0 hm_252 dX12_strong_6 (t := 17) rfl zc0_eq (fun hc => absurd hc (by decide)) (fun _ => ?_)
      refine zw_push hm_252 dX12_strong_9 (v := .inr (.inr (some 94))) rfl ?_
      refine zw_push hm_252 dX12_strong_10 (v := .inl r1) rfl ?_
      refine zw_cv hm_252 dX12_strong_11 v_12_493_12 hm_182 [.inl r1] [.inr (.inr (some 94))] rfl (zT_rt hS s_94 rfl) ⟨by omega, by omega⟩ rfl ?_
      show ma_wp X (d - 1) (w - 21) 182 0 [(0, .inr (.inr (some 94))), (1, .inl r1)] [] S _
      refine zw_push hm_182 dX12_isNamed_0 (v := .inl r1) rfl ?_
      refine zw_if0 hm_182 dX12_isNamed_1 (t := 14) rfl zc0_lt ?_ ?_
      · intro hc
        rw [if_pos hc] at h
        refine zw_push hm_182 dX12_isNamed_14 (v := .inl (0 : Int32)) rfl ?_
        refine zw_bret hm_182 dX12_isNamed_15 (by decide) ?_
        show ma_wp X d w 252 14 [(0, .inr (.inr (some 94))), (1, .inl ix), (2, .inl r1)] [.inl (0 : Int32), .inr (.inr (some 94))] S _
        refine zw_if0 hm_252 dX12_strong_14 (t := 21) rfl zc0_ne (fun hc => absurd hc (by decide)) (fun _ => ?_)
        refine zw_push hm_252 dX12_strong_17 (v := .inl (1 : Int32)) rfl ?_
        refine zw_goto hm_252 dX12_strong_18 (t := 33) rfl ?_
        refine zw_cv hm_252 dX12_strong_33 v_12_110_12 hm_167 [.inl (1 : Int32)] [] rfl (zT_rt hS s_94 rfl) ⟨by omega, by omega⟩ rfl ?_
        show ma_wp X (d - 1) (w - 21) 167 0 [(0, .inr (.inr (some 94))), (1, .inl (1 : Int32))] [] S _
        refine zw_push hm_167 dX12_fails_0 (v := .inr (.inr (some 94))) rfl ?_
        refine zw_push hm_167 dX12_fails_1 (v := .inl (1 : Int32)) rfl ?_
        refine zw_pf hm_167 dX12_fails_2 (zT_is hS s_94) (zT_t hS s_94) p_12_1_12 zk_int ?_
        refine zw_push hm_167 dX12_fails_5 (v := .inl (1 : Int32)) rfl ?_
        refine zw_if0 hm_167 dX12_fails_6 (t := 13) rfl zc0_eq (fun hc => absurd hc (by decide)) (fun _ => ?_)
        refine zw_push hm_167 dX12_fails_9 (v := .inl (1 : Int32)) rfl ?_
        refine zw_goto hm_167 dX12_fails_10 (t := 14) rfl ?_
        refine zw_bret hm_167 dX12_fails_14 (by decide) ?_
        show ma_wp X d w 252 36 [(0, .inr (.inr (some 94))), (1, .inl ix), (2, .inl r1)] [.inl (1 : Int32)] (ma_put S 94 0 (.inl (1 : Int32))) _
        refine zw_if0 hm_252 dX12_strong_36 (t := 41) rfl zc0_eq (fun hc => absurd hc (by decide)) (fun _ => ?_)
        refine zw_push hm_252 dX12_strong_39 (v := .inl (0 : Int32)) rfl ?_
        exact zw_iret hm_252 dX12_strong_40 (HQ _ _ h)
      · intro hc
        rw [if_neg hc] at h
        refine zw_push hm_182 dX12_isNamed_4 (v := .inl r1) rfl ?_
        refine zw_push hm_182 dX12_isNamed_5 (v := .inl (16 : Int32)) rfl ?_
        refine zw_if2 hm_182 dX12_isNamed_7 (t := 14) rfl zc2_ge ?_ ?_
        · intro hc
          rw [if_pos hc] at h
          refine zw_push hm_182 dX12_isNamed_14 (v := .inl (0 : Int32)) rfl ?_
          refine zw_bret hm_182 dX12_isNamed_15 (by decide) ?_
          show ma_wp X d w 252 14 [(0, .inr (.inr (some 94))), (1, .inl ix), (2, .inl r1)] [.inl (0 : Int32), .inr (.inr (some 94))] S _
          refine zw_if0 hm_252 dX12_strong_14 (t := 21) rfl zc0_ne (fun hc => absurd hc (by decide)) (fun _ => ?_)
          refine zw_push hm_252 dX12_strong_17 (v := .inl (1 : Int32)) rfl ?_
          refine zw_goto hm_252 dX12_strong_18 (t := 33) rfl ?_
          refine zw_cv hm_252 dX12_strong_33 v_12_110_12 hm_167 [.inl (1 : Int32)] [] rfl (zT_rt hS s_94 rfl) ⟨by omega, by omega⟩ rfl ?_
          show ma_wp X (d - 1) (w - 21) 167 0 [(0, .inr (.inr (some 94))), (1, .inl (1 : Int32))] [] S _
          refine zw_push hm_167 dX12_fails_0 (v := .inr (.inr (some 94))) rfl ?_
          refine zw_push hm_167 dX12_fails_1 (v := .inl (1 : Int32)) rfl ?_
          refine zw_pf hm_167 dX12_fails_2 (zT_is hS s_94) (zT_t hS s_94) p_12_1_12 zk_int ?_
          refine zw_push hm_167 dX12_fails_5 (v := .inl (1 : Int32)) rfl ?_
          refine zw_if0 hm_167 dX12_fails_6 (t := 13) rfl zc0_eq (fun hc => absurd hc (by decide)) (fun _ => ?_)
          refine zw_push hm_167 dX12_fails_9 (v := .inl (1 : Int32)) rfl ?_
          refine zw_goto hm_167 dX12_fails_10 (t := 14) rfl ?_
          refine zw_bret hm_167 dX12_fails_14 (by decide) ?_
          show ma_wp X d w 252 36 [(0, .inr (.inr (some 94))), (1, .inl ix), (2, .inl r1)] [.inl (1 : Int32)] (ma_put S 94 0 (.inl (1 : Int32))) _
          refine zw_if0 hm_252 dX12_strong_36 (t := 41) rfl zc0_eq (fun hc => absurd hc (by decide)) (fun _ => ?_)
          refine zw_push hm_252 dX12_strong_39 (v := .inl (0 : Int32)) rfl ?_
          exact zw_iret hm_252 dX12_strong_40 (HQ _ _ h)
        · intro hc
          rw [if_neg hc] at h
          refine zw_push hm_182 dX12_isNamed_10 (v := .inl (1 : Int32)) rfl ?_
          refine zw_goto hm_182 dX12_isNamed_11 (t := 15) rfl ?_
          refine zw_bret hm_182 dX12_isNamed_15 (by decide) ?_
          show ma_wp X d w 252 14 [(0, .inr (.inr (some 94))), (1, .inl ix), (2, .inl r1)] [.inl (1 : Int32), .inr (.inr (some 94))] S _
          refine zw_if0 hm_252 dX12_strong_14 (t := 21) rfl zc0_ne (fun _ => ?_) (fun hc => absurd (by decide) hc)
          refine zw_push hm_252 dX12_strong_21 (v := .inr (.inr (some 94))) rfl ?_
          refine zw_gf hm_252 dX12_strong_22 (v := .inl ((mI S) 94 8)) (zT_is hS s_94) (zT_t hS s_94) rfl f_12_237_12 rfl ?_
          refine zw_if0 hm_252 dX12_strong_25 (t := 32) rfl zc0_ne ?_ ?_
          · intro hc
            rw [if_neg hc] at h
            refine zw_push hm_252 dX12_strong_32 (v := .inl (0 : Int32)) rfl ?_
            refine zw_cv hm_252 dX12_strong_33 v_12_110_12 hm_167 [.inl (0 : Int32)] [] rfl (zT_rt hS s_94 rfl) ⟨by omega, by omega⟩ rfl ?_
            show ma_wp X (d - 1) (w - 21) 167 0 [(0, .inr (.inr (some 94))), (1, .inl (0 : Int32))] [] S _
            refine zw_push hm_167 dX12_fails_0 (v := .inr (.inr (some 94))) rfl ?_
            refine zw_push hm_167 dX12_fails_1 (v := .inl (0 : Int32)) rfl ?_
            refine zw_pf hm_167 dX12_fails_2 (zT_is hS s_94) (zT_t hS s_94) p_12_1_12 zk_int ?_
            refine zw_push hm_167 dX12_fails_5 (v := .inl (0 : Int32)) rfl ?_
            refine zw_if0 hm_167 dX12_fails_6 (t := 13) rfl zc0_eq (fun _ => ?_) (fun hc => absurd (by decide) hc)
            refine zw_push hm_167 dX12_fails_13 (v := .inl (0 : Int32)) rfl ?_
            refine zw_bret hm_167 dX12_fails_14 (by decide) ?_
            show ma_wp X d w 252 36 [(0, .inr (.inr (some 94))), (1, .inl ix), (2, .inl r1)] [.inl (0 : Int32)] (ma_put S 94 0 (.inl (0 : Int32))) _
            refine zw_if0 hm_252 dX12_strong_36 (t := 41) rfl zc0_eq (fun _ => ?_) (fun hc => absurd (by decide) hc)
            refine zw_push hm_252 dX12_strong_41 (v := .inr (.inr (some 94))) rfl ?_
            refine zw_gf hm_252 dX12_strong_42 (v := .inr (.inr (some 113))) (zT_is (zT_pi hS) s_94) (zT_t (zT_pi hS) s_94) rfl f_12_71_12 (zT_f (zT_pi hS) r_94_52) ?_
            refine zw_push hm_252 dX12_strong_45 (v := .inl ix) rfl ?_
            obtain ⟨hg, h⟩ := h
            refine zw_ia hm_252 dX12_strong_46 (zT_is (zT_pi hS) s_113) (zT_h (zT_pi hS) s_113) rfl hg ?_
            show ma_wp X d w 252 47 [(0, .inr (.inr (some 94))), (1, .inl ix), (2, .inl r1)] [.inl ((mI S) 113 ix.toNatClampNeg)] (ma_put S 94 0 (.inl (0 : Int32))) _
            refine zw_sto hm_252 dX12_strong_47 [(3, .inl ((mI S) 113 ix.toNatClampNeg)), (0, .inr (.inr (some 94))), (1, .inl ix), (2, .inl r1)] rfl rfl rfl ?_
            refine zw_push hm_252 dX12_strong_48 (v := .inl ((mI S) 113 ix.toNatClampNeg)) rfl ?_
            refine zw_if0 hm_252 dX12_strong_49 (t := 54) rfl zc0_ge ?_ ?_
            · intro hc
              rw [if_pos hc] at h
              refine zw_push hm_252 dX12_strong_54 (v := .inr (.inr (some 94))) rfl ?_
              refine zw_gf hm_252 dX12_strong_55 (v := .inl ((mI S) 94 58)) (zT_is (zT_pi hS) s_94) (zT_t (zT_pi hS) s_94) rfl f_12_270_12 rfl ?_
              refine zw_if0 hm_252 dX12_strong_58 (t := 66) rfl zc0_eq ?_ ?_
              · intro hc
                rw [if_pos hc] at h
                refine zw_push hm_252 dX12_strong_66 (v := .inr (.inr (some 94))) rfl ?_
                refine zw_push hm_252 dX12_strong_67 (v := .inl r1) rfl ?_
                refine zw_push hm_252 dX12_strong_68 (v := .inl ((mI S) 113 ix.toNatClampNeg)) rfl ?_
                refine zw_cv hm_252 dX12_strong_69 v_12_481_12 hm_238 [.inl ((mI S) 113 ix.toNatClampNeg), .inl r1] [] rfl (zT_rt (zT_pi hS) s_94 rfl) ⟨by omega, by omega⟩ rfl (h _ _ (ma_put S 94 0 (.inl (0 : Int32))) _ (by omega) (by omega) (zT_pi hS) rfl (fun o9 m1 hv => ?_))
                obtain ⟨rfl, h⟩ := zmv_of hv
                show ma_wp X d w 252 72 [(3, .inl ((mI S) 113 ix.toNatClampNeg)), (0, .inr (.inr (some 94))), (1, .inl ix), (2, .inl r1)] [] (zst S m1) _
                refine zw_push hm_252 dX12_strong_72 (v := .inr (.inr (some 94))) rfl ?_
                refine zw_gf hm_252 dX12_strong_73 (v := .inr (.inr (some 100))) (zT_is (zT_zst hS m1) s_94) (zT_t (zT_zst hS m1) s_94) rfl f_12_31_12 (zT_f (zT_zst hS m1) r_94_32) ?_
                refine zw_push hm_252 dX12_strong_76 (v := .inl ((mI S) 113 ix.toNatClampNeg)) rfl ?_
                obtain ⟨hg, h⟩ := h
                refine zw_ia hm_252 dX12_strong_77 (zT_is (zT_zst hS m1) s_100) (zT_h (zT_zst hS m1) s_100) rfl hg ?_
                show ma_wp X d w 252 78 [(3, .inl ((mI S) 113 ix.toNatClampNeg)), (0, .inr (.inr (some 94))), (1, .inl ix), (2, .inl r1)] [.inl (m1 100 ((mI S) 113 ix.toNatClampNeg).toNatClampNeg)] (zst S m1) _
                exact zw_iret hm_252 dX12_strong_78 (HQ _ _ h)
              · intro hc
                rw [if_neg hc] at h
                refine zw_push hm_252 dX12_strong_61 (v := .inr (.inr (some 94))) rfl ?_
                refine zw_push hm_252 dX12_strong_62 (v := .inl ((mI S) 113 ix.toNatClampNeg)) rfl ?_
                refine zw_cv hm_252 dX12_strong_63 v_12_396_12 hm_221 [.inl ((mI S) 113 ix.toNatClampNeg)] [] rfl (zT_rt (zT_pi hS) s_94 rfl) ⟨by omega, by omega⟩ rfl ?_
                show ma_wp X (d - 1) (w - 21) 221 0 [(0, .inr (.inr (some 94))), (1, .inl ((mI S) 113 ix.toNatClampNeg))] [] (ma_put S 94 0 (.inl (0 : Int32))) _
                refine zw_push hm_221 dX12_toGrey_0 (v := .inl ((mI S) 113 ix.toNatClampNeg)) rfl ?_
                refine zw_if0 hm_221 dX12_toGrey_1 (t := 13) rfl zc0_lt ?_ ?_
                · intro hc
                  rw [if_pos hc] at h
                  refine zw_vret hm_221 dX12_toGrey_13 ?_
                  show ma_wp X d w 252 66 [(3, .inl ((mI S) 113 ix.toNatClampNeg)), (0, .inr (.inr (some 94))), (1, .inl ix), (2, .inl r1)] [] (ma_put S 94 0 (.inl (0 : Int32))) _
                  refine zw_push hm_252 dX12_strong_66 (v := .inr (.inr (some 94))) rfl ?_
                  refine zw_push hm_252 dX12_strong_67 (v := .inl r1) rfl ?_
                  refine zw_push hm_252 dX12_strong_68 (v := .inl ((mI S) 113 ix.toNatClampNeg)) rfl ?_
                  refine zw_cv hm_252 dX12_strong_69 v_12_481_12 hm_238 [.inl ((mI S) 113 ix.toNatClampNeg), .inl r1] [] rfl (zT_rt (zT_pi hS) s_94 rfl) ⟨by omega, by omega⟩ rfl (h _ _ (ma_put S 94 0 (.inl (0 : Int32))) _ (by omega) (by omega) (zT_pi hS) rfl (fun o9 m3 hv => ?_))
                  obtain ⟨rfl, h⟩ := zmv_of hv
                  show ma_wp X d w 252 72 [(3, .inl ((mI S) 113 ix.toNatClampNeg)), (0, .inr (.inr (some 94))), (1, .inl ix), (2, .inl r1)] [] (zst S m3) _
                  refine zw_push hm_252 dX12_strong_72 (v := .inr (.inr (some 94))) rfl ?_
                  refine zw_gf hm_252 dX12_strong_73 (v := .inr (.inr (some 100))) (zT_is (zT_zst hS m3) s_94) (zT_t (zT_zst hS m3) s_94) rfl f_12_31_12 (zT_f (zT_zst hS m3) r_94_32) ?_
                  refine zw_push hm_252 dX12_strong_76 (v := .inl ((mI S) 113 ix.toNatClampNeg)) rfl ?_
                  obtain ⟨hg, h⟩ := h
                  refine zw_ia hm_252 dX12_strong_77 (zT_is (zT_zst hS m3) s_100) (zT_h (zT_zst hS m3) s_100) rfl hg ?_
                  show ma_wp X d w 252 78 [(3, .inl ((mI S) 113 ix.toNatClampNeg)), (0, .inr (.inr (some 94))), (1, .inl ix), (2, .inl r1)] [.inl (m3 100 ((mI S) 113 ix.toNatClampNeg).toNatClampNeg)] (zst S m3) _
                  exact zw_iret hm_252 dX12_strong_78 (HQ _ _ h)
                · intro hc
                  rw [if_neg hc] at h
                  refine zw_push hm_221 dX12_toGrey_4 (v := .inr (.inr (some 94))) rfl ?_
                  refine zw_gf hm_221 dX12_toGrey_5 (v := .inr (.inr (some 106))) (zT_is (zT_pi hS) s_94) (zT_t (zT_pi hS) s_94) rfl f_12_49_12 (zT_f (zT_pi hS) r_94_38) ?_
                  refine zw_push hm_221 dX12_toGrey_8 (v := .inl ((mI S) 113 ix.toNatClampNeg)) rfl ?_
                  obtain ⟨hg, h⟩ := h
                  refine zw_ia hm_221 dX12_toGrey_9 (zT_is (zT_pi hS) s_106) (zT_h (zT_pi hS) s_106) rfl hg ?_
                  show ma_wp X (d - 1) (w - 21) 221 10 [(0, .inr (.inr (some 94))), (1, .inl ((mI S) 113 ix.toNatClampNeg))] [.inl ((mI S) 106 ((mI S) 113 ix.toNatClampNeg).toNatClampNeg)] (ma_put S 94 0 (.inl (0 : Int32))) _
                  refine zw_if0 hm_221 dX12_toGrey_10 (t := 14) rfl zc0_eq ?_ ?_
                  · intro hc
                    rw [if_pos hc] at h
                    refine zw_push hm_221 dX12_toGrey_14 (v := .inr (.inr (some 94))) rfl ?_
                    refine zw_gf hm_221 dX12_toGrey_15 (v := .inr (.inr (some 106))) (zT_is (zT_pi hS) s_94) (zT_t (zT_pi hS) s_94) rfl f_12_49_12 (zT_f (zT_pi hS) r_94_38) ?_
                    refine zw_push hm_221 dX12_toGrey_18 (v := .inl ((mI S) 113 ix.toNatClampNeg)) rfl ?_
                    refine zw_push hm_221 dX12_toGrey_19 (v := .inl (1 : Int32)) rfl ?_
                    obtain ⟨hg, h⟩ := h
                    refine zw_ias hm_221 dX12_toGrey_20 (zT_is (zT_pi hS) s_106) (zT_h (zT_pi hS) s_106) rfl hg ?_
                    refine zw_push hm_221 dX12_toGrey_21 (v := .inr (.inr (some 94))) rfl ?_
                    refine zw_gf hm_221 dX12_toGrey_22 (v := .inr (.inr (some 115))) (zT_is (zT_pi (zT_pi hS)) s_94) (zT_t (zT_pi (zT_pi hS)) s_94) rfl f_12_77_12 (zT_f (zT_pi (zT_pi hS)) r_94_54) ?_
                    refine zw_push hm_221 dX12_toGrey_25 (v := .inr (.inr (some 94))) rfl ?_
                    refine zw_gf hm_221 dX12_toGrey_26 (v := .inl ((mI S) 94 56)) (zT_is (zT_pi (zT_pi hS)) s_94) (zT_t (zT_pi (zT_pi hS)) s_94) rfl f_12_264_12 rfl ?_
                    refine zw_push hm_221 dX12_toGrey_29 (v := .inl ((mI S) 113 ix.toNatClampNeg)) rfl ?_
                    obtain ⟨hg, h⟩ := h
                    refine zw_ias hm_221 dX12_toGrey_30 (zT_is (zT_pi (zT_pi hS)) s_115) (zT_h (zT_pi (zT_pi hS)) s_115) rfl hg ?_
                    refine zw_push hm_221 dX12_toGrey_31 (v := .inr (.inr (some 94))) rfl ?_
                    refine zw_stk hm_221 dX12_toGrey_32 (st₉ := [.inr (.inr (some 94)), .inr (.inr (some 94))]) rfl rfl ?_
                    refine zw_gf hm_221 dX12_toGrey_33 (v := .inl ((mI S) 94 56)) (zT_is (zT_pi (zT_pi (zT_pi hS))) s_94) (zT_t (zT_pi (zT_pi (zT_pi hS))) s_94) rfl f_12_264_12 rfl ?_
                    refine zw_push hm_221 dX12_toGrey_36 (v := .inl (1 : Int32)) rfl ?_
                    refine zw_stk hm_221 dX12_toGrey_37 (st₉ := [.inl (((mI S) 94 56) + (1 : Int32)), .inr (.inr (some 94))]) rfl rfl ?_
                    refine zw_pf hm_221 dX12_toGrey_38 (zT_is (zT_pi (zT_pi (zT_pi hS))) s_94) (zT_t (zT_pi (zT_pi (zT_pi hS))) s_94) p_12_264_12 zk_int ?_
                    refine zw_vret hm_221 dX12_toGrey_41 ?_
                    show ma_wp X d w 252 66 [(3, .inl ((mI S) 113 ix.toNatClampNeg)), (0, .inr (.inr (some 94))), (1, .inl ix), (2, .inl r1)] [] (ma_put (ma_put (ma_put (ma_put S 94 0 (.inl (0 : Int32))) 106 ((mI S) 113 ix.toNatClampNeg).toNatClampNeg (.inl (1 : Int32))) 115 ((mI S) 94 56).toNatClampNeg (.inl ((mI S) 113 ix.toNatClampNeg))) 94 56 (.inl (((mI S) 94 56) + (1 : Int32)))) _
                    refine zw_push hm_252 dX12_strong_66 (v := .inr (.inr (some 94))) rfl ?_
                    refine zw_push hm_252 dX12_strong_67 (v := .inl r1) rfl ?_
                    refine zw_push hm_252 dX12_strong_68 (v := .inl ((mI S) 113 ix.toNatClampNeg)) rfl ?_
                    refine zw_cv hm_252 dX12_strong_69 v_12_481_12 hm_238 [.inl ((mI S) 113 ix.toNatClampNeg), .inl r1] [] rfl (zT_rt (zT_pi (zT_pi (zT_pi (zT_pi hS)))) s_94 rfl) ⟨by omega, by omega⟩ rfl (h _ _ (ma_put (ma_put (ma_put (ma_put S 94 0 (.inl (0 : Int32))) 106 ((mI S) 113 ix.toNatClampNeg).toNatClampNeg (.inl (1 : Int32))) 115 ((mI S) 94 56).toNatClampNeg (.inl ((mI S) 113 ix.toNatClampNeg))) 94 56 (.inl (((mI S) 94 56) + (1 : Int32)))) _ (by omega) (by omega) (zT_pi (zT_pi (zT_pi (zT_pi hS)))) rfl (fun o9 m5 hv => ?_))
                    obtain ⟨rfl, h⟩ := zmv_of hv
                    show ma_wp X d w 252 72 [(3, .inl ((mI S) 113 ix.toNatClampNeg)), (0, .inr (.inr (some 94))), (1, .inl ix), (2, .inl r1)] [] (zst S m5) _
                    refine zw_push hm_252 dX12_strong_72 (v := .inr (.inr (some 94))) rfl ?_
                    refine zw_gf hm_252 dX12_strong_73 (v := .inr (.inr (some 100))) (zT_is (zT_zst hS m5) s_94) (zT_t (zT_zst hS m5) s_94) rfl f_12_31_12 (zT_f (zT_zst hS m5) r_94_32) ?_
                    refine zw_push hm_252 dX12_strong_76 (v := .inl ((mI S) 113 ix.toNatClampNeg)) rfl ?_
                    obtain ⟨hg, h⟩ := h
                    refine zw_ia hm_252 dX12_strong_77 (zT_is (zT_zst hS m5) s_100) (zT_h (zT_zst hS m5) s_100) rfl hg ?_
                    show ma_wp X d w 252 78 [(3, .inl ((mI S) 113 ix.toNatClampNeg)), (0, .inr (.inr (some 94))), (1, .inl ix), (2, .inl r1)] [.inl (m5 100 ((mI S) 113 ix.toNatClampNeg).toNatClampNeg)] (zst S m5) _
                    exact zw_iret hm_252 dX12_strong_78 (HQ _ _ h)
                  · intro hc
                    rw [if_neg hc] at h
                    refine zw_vret hm_221 dX12_toGrey_13 ?_
                    show ma_wp X d w 252 66 [(3, .inl ((mI S) 113 ix.toNatClampNeg)), (0, .inr (.inr (some 94))), (1, .inl ix), (2, .inl r1)] [] (ma_put S 94 0 (.inl (0 : Int32))) _
                    refine zw_push hm_252 dX12_strong_66 (v := .inr (.inr (some 94))) rfl ?_
                    refine zw_push hm_252 dX12_strong_67 (v := .inl r1) rfl ?_
                    refine zw_push hm_252 dX12_strong_68 (v := .inl ((mI S) 113 ix.toNatClampNeg)) rfl ?_
                    refine zw_cv hm_252 dX12_strong_69 v_12_481_12 hm_238 [.inl ((mI S) 113 ix.toNatClampNeg), .inl r1] [] rfl (zT_rt (zT_pi hS) s_94 rfl) ⟨by omega, by omega⟩ rfl (h _ _ (ma_put S 94 0 (.inl (0 : Int32))) _ (by omega) (by omega) (zT_pi hS) rfl (fun o9 m7 hv => ?_))
                    obtain ⟨rfl, h⟩ := zmv_of hv
                    show ma_wp X d w 252 72 [(3, .inl ((mI S) 113 ix.toNatClampNeg)), (0, .inr (.inr (some 94))), (1, .inl ix), (2, .inl r1)] [] (zst S m7) _
                    refine zw_push hm_252 dX12_strong_72 (v := .inr (.inr (some 94))) rfl ?_
                    refine zw_gf hm_252 dX12_strong_73 (v := .inr (.inr (some 100))) (zT_is (zT_zst hS m7) s_94) (zT_t (zT_zst hS m7) s_94) rfl f_12_31_12 (zT_f (zT_zst hS m7) r_94_32) ?_
                    refine zw_push hm_252 dX12_strong_76 (v := .inl ((mI S) 113 ix.toNatClampNeg)) rfl ?_
                    obtain ⟨hg, h⟩ := h
                    refine zw_ia hm_252 dX12_strong_77 (zT_is (zT_zst hS m7) s_100) (zT_h (zT_zst hS m7) s_100) rfl hg ?_
                    show ma_wp X d w 252 78 [(3, .inl ((mI S) 113 ix.toNatClampNeg)), (0, .inr (.inr (some 94))), (1, .inl ix), (2, .inl r1)] [.inl (m7 100 ((mI S) 113 ix.toNatClampNeg).toNatClampNeg)] (zst S m7) _
                    exact zw_iret hm_252 dX12_strong_78 (HQ _ _ h)
            · intro hc
              rw [if_neg hc] at h
              refine zw_push hm_252 dX12_strong_52 (v := .inl (-1 : Int32)) rfl ?_
              exact zw_iret hm_252 dX12_strong_53 (HQ _ _ h)
          · intro hc
            rw [if_pos (Classical.not_not.mp hc)] at h
            refine zw_push hm_252 dX12_strong_28 (v := .inl (2 : Int32)) rfl ?_
            refine zw_goto hm_252 dX12_strong_29 (t := 33) rfl ?_
            refine zw_cv hm_252 dX12_strong_33 v_12_110_12 hm_167 [.inl (2 : Int32)] [] rfl (zT_rt hS s_94 rfl) ⟨by omega, by omega⟩ rfl ?_
            show ma_wp X (d - 1) (w - 21) 167 0 [(0, .inr (.inr (some 94))), (1, .inl (2 : Int32))] [] S _
            refine zw_push hm_167 dX12_fails_0 (v := .inr (.inr (some 94))) rfl ?_
            refine zw_push hm_167 dX12_fails_1 (v := .inl (2 : Int32)) rfl ?_
            refine zw_pf hm_167 dX12_fails_2 (zT_is hS s_94) (zT_t hS s_94) p_12_1_12 zk_int ?_
            refine zw_push hm_167 dX12_fails_5 (v := .inl (2 : Int32)) rfl ?_
            refine zw_if0 hm_167 dX12_fails_6 (t := 13) rfl zc0_eq (fun hc => absurd hc (by decide)) (fun _ => ?_)
            refine zw_push hm_167 dX12_fails_9 (v := .inl (1 : Int32)) rfl ?_
            refine zw_goto hm_167 dX12_fails_10 (t := 14) rfl ?_
            refine zw_bret hm_167 dX12_fails_14 (by decide) ?_
            show ma_wp X d w 252 36 [(0, .inr (.inr (some 94))), (1, .inl ix), (2, .inl r1)] [.inl (1 : Int32)] (ma_put S 94 0 (.inl (2 : Int32))) _
            refine zw_if0 hm_252 dX12_strong_36 (t := 41) rfl zc0_eq (fun hc => absurd hc (by decide)) (fun _ => ?_)
            refine zw_push hm_252 dX12_strong_39 (v := .inl (0 : Int32)) rfl ?_
            exact zw_iret hm_252 dX12_strong_40 (HQ _ _ h)
theorem sp_252 {X : Nat × (Nat → Int32)} {P : Option ma_V → (Nat → Nat → Int32) → Prop} {T : Nat} {m : Nat → Nat → Int32} (ix : Int32) (r1 : Int32) (hV : zV m) (r_W : zW (m 94 7) (m 98) (m 101) (m 102) (m 108)) (r_GW : zGW T (m 94 55) (m 109)) (r_GU : zGU T (m 94 46) (m 99)) (r_OW : zOw (m 99) (m 103) (m 111)) (r_DX : zDX (m 94 10) (m 99) (m 112) (m 113) (m 114) (m 94 55) (m 98) (m 101) (m 102) (m 108)) (r_GG : zGG (m 94 58) (m 94 56) (m 94 57) (m 106)) (r_HA : zHA (m 94 10) (m 94 11) (m 94 13) (m 94 14) (m 94 16) (m 94 61) (m 94 59) (m 94 60) (m 99) (m 102) (m 103) (m 111) (m 117) (m 98) (m 101) (m 108)) (r_RGc : zRG (m 94 10) (m 94 18) (m 94 64) (m 94 63) (m 99) (m 103) (m 102) (m 116)) (hpre8 : (m 94 58).toInt = 0 ∨ (m 94 10).toInt = 5) (KZ : ∀ v m₉, zV (zov wr_252 m m₉) → (zW (m 94 7) (m 98) (m 101) (m 102) (m 108)) → (zGW T (m₉ 94 55) (m₉ 109)) → (zGU T (m 94 46) (m₉ 99)) → (zOw (m₉ 99) (m 103) (m₉ 111)) → (zDX (m 94 10) (m₉ 99) (m₉ 112) (m₉ 113) (m₉ 114) (m₉ 94 55) (m 98) (m 101) (m 102) (m 108)) → (zGG (m 94 58) (m₉ 94 56) (m 94 57) (m₉ 106)) → (zHA (m 94 10) (m 94 11) (m 94 13) (m 94 14) (m 94 16) (m 94 61) (m 94 59) (m 94 60) (m₉ 99) (m 102) (m 103) (m₉ 111) (m 117) (m 98) (m 101) (m 108)) → (zRG (m 94 10) (m 94 18) (m 94 64) (m 94 63) (m₉ 99) (m 103) (m 102) (m 116)) → ((m 94 58).toInt = 0 ∨ (m 94 10).toInt = 5) → P (some (.inl v)) (zov wr_252 m m₉)) : zm X 5 111 252 0 [(0, .inr (.inr (some 94))), (1, .inl ix), (2, .inl r1)] m P := by
  have K : ∀ v m₉, zF wr_252 m m₉ → zV m₉ → (zW (m₉ 94 7) (m₉ 98) (m₉ 101) (m₉ 102) (m₉ 108)) → (zGW T (m₉ 94 55) (m₉ 109)) → (zGU T (m₉ 94 46) (m₉ 99)) → (zOw (m₉ 99) (m₉ 103) (m₉ 111)) → (zDX (m₉ 94 10) (m₉ 99) (m₉ 112) (m₉ 113) (m₉ 114) (m₉ 94 55) (m₉ 98) (m₉ 101) (m₉ 102) (m₉ 108)) → (zGG (m₉ 94 58) (m₉ 94 56) (m₉ 94 57) (m₉ 106)) → (zHA (m₉ 94 10) (m₉ 94 11) (m₉ 94 13) (m₉ 94 14) (m₉ 94 16) (m₉ 94 61) (m₉ 94 59) (m₉ 94 60) (m₉ 99) (m₉ 102) (m₉ 103) (m₉ 111) (m₉ 117) (m₉ 98) (m₉ 101) (m₉ 108)) → (zRG (m₉ 94 10) (m₉ 94 18) (m₉ 94 64) (m₉ 94 63) (m₉ 99) (m₉ 103) (m₉ 102) (m₉ 116)) → ((m₉ 94 58).toInt = 0 ∨ (m₉ 94 10).toInt = 5) → P (some (.inl v)) m₉ := by
    intro v m₉ hf z q0 q1 q2 q3 q4 q5 q6 q7 q8
    have e := zov_eq hf
    rw [e] at z ⊢
    try rw [e] at q0
    try rw [e] at q1
    try rw [e] at q2
    try rw [e] at q3
    try rw [e] at q4
    try rw [e] at q5
    try rw [e] at q6
    try rw [e] at q7
    try rw [e] at q8
    exact KZ v m₉ z q0 q1 q2 q3 q4 q5 q6 q7 q8
  refine g_252_0 ix r1 ?_
  have f1 : 0 ≤ (m 94 58).toInt ∧ (m 94 58).toInt ≤ 1 := rs_94_58 (m := m) hV
  have f2 : 0 ≤ (m 94 10).toInt ∧ (m 94 10).toInt ≤ 6 := rs_94_10 (m := m) hV
  have b3 := i_bd ix
  have li4 : (0 : Int32).toInt = 0 := rfl
  refine zd (fun (h5 : ix < (0 : Int32)) => ?_) (fun (h5 : ¬ ix < (0 : Int32)) => ?_)
  · skip
    have g6 := i_lt h5
    have hV7 : zV (ma_u m 94 0 (1 : Int32)) := uf_94_0 hV
    exact K ((0 : Int32)) _ (zF_u zF_rfl rfl) hV7 r_W r_GW r_GU r_OW r_DX r_GG r_HA r_RGc (show (m 94 58).toInt = 0 ∨ (m 94 10).toInt = 5 from by omega)
  · skip
    have g8 := i_nlt h5
    have li9 : (16 : Int32).toInt = 16 := rfl
    refine zd (fun (h10 : (16 : Int32) ≤ ix) => ?_) (fun (h10 : ¬ (16 : Int32) ≤ ix) => ?_)
    · skip
      have g11 := i_le h10
      have hV12 : zV (ma_u m 94 0 (1 : Int32)) := uf_94_0 hV
      exact K ((0 : Int32)) _ (zF_u zF_rfl rfl) hV12 r_W r_GW r_GU r_OW r_DX r_GG r_HA r_RGc (show (m 94 58).toInt = 0 ∨ (m 94 10).toInt = 5 from by omega)
    · skip
      have g13 := i_nle h10
      have b14 := i_bd r1
      refine zd (fun (h15 : r1 < (0 : Int32)) => ?_) (fun (h15 : ¬ r1 < (0 : Int32)) => ?_)
      · skip
        have g16 := i_lt h15
        have hV17 : zV (ma_u m 94 0 (1 : Int32)) := uf_94_0 hV
        exact K ((0 : Int32)) _ (zF_u zF_rfl rfl) hV17 r_W r_GW r_GU r_OW r_DX r_GG r_HA r_RGc (show (m 94 58).toInt = 0 ∨ (m 94 10).toInt = 5 from by omega)
      · skip
        have g18 := i_nlt h15
        refine zd (fun (h19 : (16 : Int32) ≤ r1) => ?_) (fun (h19 : ¬ (16 : Int32) ≤ r1) => ?_)
        · skip
          have g20 := i_le h19
          have hV21 : zV (ma_u m 94 0 (1 : Int32)) := uf_94_0 hV
          exact K ((0 : Int32)) _ (zF_u zF_rfl rfl) hV21 r_W r_GW r_GU r_OW r_DX r_GG r_HA r_RGc (show (m 94 58).toInt = 0 ∨ (m 94 10).toInt = 5 from by omega)
        · skip
          have g22 := i_nle h19
          have f23 : 0 ≤ (m 94 8).toInt ∧ (m 94 8).toInt ≤ 1 := rs_94_8 (m := m) hV
          refine zd (fun (h24 : (m 94 8) = (0 : Int32)) => ?_) (fun (h24 : ¬ (m 94 8) = (0 : Int32)) => ?_)
          · skip
            have g25 := i_eq h24
            have hV26 : zV (ma_u m 94 0 (2 : Int32)) := uf_94_0 hV
            exact K ((0 : Int32)) _ (zF_u zF_rfl rfl) hV26 r_W r_GW r_GU r_OW r_DX r_GG r_HA r_RGc (show (m 94 58).toInt = 0 ∨ (m 94 10).toInt = 5 from by omega)
          · skip
            have g27 := i_ne h24
            have hg28 : (0 ≤ ix ∧ ix.toNatClampNeg < 16) := i_ix (by omega) (by omega)
            refine ⟨hg28, ?_⟩
            first | have f29 : -1 ≤ (m 113 ix.toNatClampNeg).toInt ∧ (m 113 ix.toNatClampNeg).toInt ≤ 3099 := ra_113 (m := m) hV (k := ix.toNatClampNeg) (i_ix (n := 16) (by omega) (by omega)).2 | have b30 := i_bd (m 113 ix.toNatClampNeg)
            refine zd (fun (h31 : (0 : Int32) ≤ (m 113 ix.toNatClampNeg)) => ?_) (fun (h31 : ¬ (0 : Int32) ≤ (m 113 ix.toNatClampNeg)) => ?_)
            · skip
              have g32 := i_le h31
              refine zd (fun (h33 : (m 94 58) = (0 : Int32)) => ?_) (fun (h33 : ¬ (m 94 58) = (0 : Int32)) => ?_)
              · skip
                have g34 := i_eq h33
                have hV35 : zV (ma_u m 94 0 (0 : Int32)) := uf_94_0 hV
                refine sp_238 (r1) ((m 113 ix.toNatClampNeg)) hV35 (by omega) (by omega) (by omega) (by omega) (show ((m 94 10).toInt = 2 ∨ (m 94 10).toInt = 3) → (m 113 ix.toNatClampNeg).toInt < 0 ∨ (m 99) (m 113 ix.toNatClampNeg).toNatClampNeg ≠ 0 from by first | (exact fun hp => (r_DX hp).2.1 ix.toNatClampNeg (by rw [tn_cast (by omega)]; omega)) | (exfalso; omega; done) | (exfalso; contradiction; done)) r_W r_GW r_GU r_OW r_DX r_GG r_HA r_RGc (show (m 94 58).toInt = 0 ∨ (m 94 10).toInt = 5 from by omega) (fun m1 hV_m1 p0_m1 p1_m1 p2_m1 p3_m1 p4_m1 p5_m1 p6_m1 p7_m1 => zmv_n ?_)
                have p0_m1 : zGW T (m1 94 55) (m1 109) := p0_m1
                have p1_m1 : zGU T (m 94 46) (m1 99) := p1_m1
                have p2_m1 : zOw (m1 99) (m 103) (m1 111) := p2_m1
                have p3_m1 : zDX (m 94 10) (m1 99) (m1 112) (m1 113) (m1 114) (m1 94 55) (m 98) (m 101) (m 102) (m 108) := p3_m1
                have p4_m1 : zGG (m 94 58) (m1 94 56) (m 94 57) (m1 106) := p4_m1
                have p5_m1 : zHA (m 94 10) (m 94 11) (m 94 13) (m 94 14) (m 94 16) (m 94 61) (m 94 59) (m 94 60) (m1 99) (m 102) (m 103) (m1 111) (m 117) (m 98) (m 101) (m 108) := p5_m1
                have p6_m1 : zRG (m 94 10) (m 94 18) (m 94 64) (m 94 63) (m1 99) (m 103) (m 102) (m 116) := p6_m1
                have p7_m1 : (m 94 58).toInt = 0 ∨ (m 94 10).toInt = 5 := p7_m1
                have hg36 : (0 ≤ (m 113 ix.toNatClampNeg) ∧ (m 113 ix.toNatClampNeg).toNatClampNeg < 3100) := i_ix (by omega) (by omega)
                refine ⟨hg36, ?_⟩
                first | have f37 : 0 ≤ (m 100 (m 113 ix.toNatClampNeg).toNatClampNeg).toInt ∧ (m 100 (m 113 ix.toNatClampNeg).toNatClampNeg).toInt ≤ 100000 := ra_100 (m := m) hV (k := (m 113 ix.toNatClampNeg).toNatClampNeg) (i_ix (n := 3100) (by omega) (by omega)).2 | have b38 := i_bd (m 100 (m 113 ix.toNatClampNeg).toNatClampNeg)
                exact K ((m 100 (m 113 ix.toNatClampNeg).toNatClampNeg)) _ (zF_zov (zF_u zF_rfl rfl) ws_238_252) hV_m1 r_W p0_m1 p1_m1 p2_m1 p3_m1 p4_m1 p5_m1 p6_m1 (show (m 94 58).toInt = 0 ∨ (m 94 10).toInt = 5 from by omega)
              · skip
                have g39 := i_ne h33
                refine zd (fun (h40 : (m 113 ix.toNatClampNeg) < (0 : Int32)) => ?_) (fun (h40 : ¬ (m 113 ix.toNatClampNeg) < (0 : Int32)) => ?_)
                · skip
                  have g41 := i_lt h40
                  have hV42 : zV (ma_u m 94 0 (0 : Int32)) := uf_94_0 hV
                  refine sp_238 (r1) ((m 113 ix.toNatClampNeg)) hV42 (by omega) (by omega) (by omega) (by omega) (show ((m 94 10).toInt = 2 ∨ (m 94 10).toInt = 3) → (m 113 ix.toNatClampNeg).toInt < 0 ∨ (m 99) (m 113 ix.toNatClampNeg).toNatClampNeg ≠ 0 from by first | (exact fun hp => (r_DX hp).2.1 ix.toNatClampNeg (by rw [tn_cast (by omega)]; omega)) | (exfalso; omega; done) | (exfalso; contradiction; done)) r_W r_GW r_GU r_OW r_DX r_GG r_HA r_RGc (show (m 94 58).toInt = 0 ∨ (m 94 10).toInt = 5 from by omega) (fun m3 hV_m3 p0_m3 p1_m3 p2_m3 p3_m3 p4_m3 p5_m3 p6_m3 p7_m3 => zmv_n ?_)
                  have p0_m3 : zGW T (m3 94 55) (m3 109) := p0_m3
                  have p1_m3 : zGU T (m 94 46) (m3 99) := p1_m3
                  have p2_m3 : zOw (m3 99) (m 103) (m3 111) := p2_m3
                  have p3_m3 : zDX (m 94 10) (m3 99) (m3 112) (m3 113) (m3 114) (m3 94 55) (m 98) (m 101) (m 102) (m 108) := p3_m3
                  have p4_m3 : zGG (m 94 58) (m3 94 56) (m 94 57) (m3 106) := p4_m3
                  have p5_m3 : zHA (m 94 10) (m 94 11) (m 94 13) (m 94 14) (m 94 16) (m 94 61) (m 94 59) (m 94 60) (m3 99) (m 102) (m 103) (m3 111) (m 117) (m 98) (m 101) (m 108) := p5_m3
                  have p6_m3 : zRG (m 94 10) (m 94 18) (m 94 64) (m 94 63) (m3 99) (m 103) (m 102) (m 116) := p6_m3
                  have p7_m3 : (m 94 58).toInt = 0 ∨ (m 94 10).toInt = 5 := p7_m3
                  have hg43 : (0 ≤ (m 113 ix.toNatClampNeg) ∧ (m 113 ix.toNatClampNeg).toNatClampNeg < 3100) := i_ix (by omega) (by omega)
                  refine ⟨hg43, ?_⟩
                  first | have f44 : 0 ≤ (m 100 (m 113 ix.toNatClampNeg).toNatClampNeg).toInt ∧ (m 100 (m 113 ix.toNatClampNeg).toNatClampNeg).toInt ≤ 100000 := ra_100 (m := m) hV (k := (m 113 ix.toNatClampNeg).toNatClampNeg) (i_ix (n := 3100) (by omega) (by omega)).2 | have b45 := i_bd (m 100 (m 113 ix.toNatClampNeg).toNatClampNeg)
                  exact K ((m 100 (m 113 ix.toNatClampNeg).toNatClampNeg)) _ (zF_zov (zF_u zF_rfl rfl) ws_238_252) hV_m3 r_W p0_m3 p1_m3 p2_m3 p3_m3 p4_m3 p5_m3 p6_m3 (show (m 94 58).toInt = 0 ∨ (m 94 10).toInt = 5 from by omega)
                · skip
                  have g46 := i_nlt h40
                  have hg47 : (0 ≤ (m 113 ix.toNatClampNeg) ∧ (m 113 ix.toNatClampNeg).toNatClampNeg < 3100) := i_ix (by omega) (by omega)
                  refine ⟨hg47, ?_⟩
                  have b48 := i_bd (m 106 (m 113 ix.toNatClampNeg).toNatClampNeg)
                  refine zd (fun (h49 : (m 106 (m 113 ix.toNatClampNeg).toNatClampNeg) = (0 : Int32)) => ?_) (fun (h49 : ¬ (m 106 (m 113 ix.toNatClampNeg).toNatClampNeg) = (0 : Int32)) => ?_)
                  · skip
                    have g50 := i_eq h49
                    have hg51 : (0 ≤ (m 113 ix.toNatClampNeg) ∧ (m 113 ix.toNatClampNeg).toNatClampNeg < 3100) := i_ix (by omega) (by omega)
                    refine ⟨hg51, ?_⟩
                    have f52 : 0 ≤ (m 94 56).toInt ∧ (m 94 56).toInt ≤ 3100 := rs_94_56 (m := m) hV
                    try have gk := G1_room (r_GG (by omega)) (by assumption) (by omega)
                    have hg53 : (0 ≤ (m 94 56) ∧ (m 94 56).toNatClampNeg < 3100) := i_ix (by omega) (by omega)
                    refine ⟨hg53, ?_⟩
                    have hV54 : zV (ma_u m 94 0 (0 : Int32)) := uf_94_0 hV
                    have hV55 : zV (ma_u (ma_u m 94 0 (0 : Int32)) 106 (m 113 ix.toNatClampNeg).toNatClampNeg (1 : Int32)) := ua_106 hV54
                    have hV56 : zV (ma_u (ma_u (ma_u m 94 0 (0 : Int32)) 106 (m 113 ix.toNatClampNeg).toNatClampNeg (1 : Int32)) 115 (m 94 56).toNatClampNeg (m 113 ix.toNatClampNeg)) := ua_115 hV55 (by omega) (by omega)
                    first | have e58 : ((m 94 56) + (1 : Int32)).toInt = (m 94 56).toInt + (1) := i_addk rfl (by omega) (by omega) | have b59 := i_bd ((m 94 56) + (1 : Int32))
                    have hV57 : zV (ma_u (ma_u (ma_u (ma_u m 94 0 (0 : Int32)) 106 (m 113 ix.toNatClampNeg).toNatClampNeg (1 : Int32)) 115 (m 94 56).toNatClampNeg (m 113 ix.toNatClampNeg)) 94 56 ((m 94 56) + (1 : Int32))) := us_94_56 hV56 (by omega) (by omega)
                    refine sp_238 (r1) ((m 113 ix.toNatClampNeg)) hV57 (by omega) (by omega) (by omega) (by omega) (show ((m 94 10).toInt = 2 ∨ (m 94 10).toInt = 3) → (m 113 ix.toNatClampNeg).toInt < 0 ∨ (m 99) (m 113 ix.toNatClampNeg).toNatClampNeg ≠ 0 from by first | (exact fun hp => (r_DX hp).2.1 ix.toNatClampNeg (by rw [tn_cast (by omega)]; omega)) | (exfalso; omega; done) | (exfalso; contradiction; done)) r_W r_GW r_GU r_OW r_DX (show zGG (m 94 58) ((m 94 56) + (1 : Int32)) (m 94 57) ((ma_u m 106 (m 113 ix.toNatClampNeg).toNatClampNeg (1 : Int32)) 106) from by first | (exact fun z => G1_push (r_GG z) (by assumption) (by omega) (by decide) (by assumption)) | (exact fun z => absurd z (by decide)) | (exact fun z => absurd z (by omega)) | (exfalso; omega; done) | (exfalso; contradiction; done)) r_HA r_RGc (show (m 94 58).toInt = 0 ∨ (m 94 10).toInt = 5 from by omega) (fun m5 hV_m5 p0_m5 p1_m5 p2_m5 p3_m5 p4_m5 p5_m5 p6_m5 p7_m5 => zmv_n ?_)
                    have p0_m5 : zGW T (m5 94 55) (m5 109) := p0_m5
                    have p1_m5 : zGU T (m 94 46) (m5 99) := p1_m5
                    have p2_m5 : zOw (m5 99) (m 103) (m5 111) := p2_m5
                    have p3_m5 : zDX (m 94 10) (m5 99) (m5 112) (m5 113) (m5 114) (m5 94 55) (m 98) (m 101) (m 102) (m 108) := p3_m5
                    have p4_m5 : zGG (m 94 58) (m5 94 56) (m 94 57) (m5 106) := p4_m5
                    have p5_m5 : zHA (m 94 10) (m 94 11) (m 94 13) (m 94 14) (m 94 16) (m 94 61) (m 94 59) (m 94 60) (m5 99) (m 102) (m 103) (m5 111) (m 117) (m 98) (m 101) (m 108) := p5_m5
                    have p6_m5 : zRG (m 94 10) (m 94 18) (m 94 64) (m 94 63) (m5 99) (m 103) (m 102) (m 116) := p6_m5
                    have p7_m5 : (m 94 58).toInt = 0 ∨ (m 94 10).toInt = 5 := p7_m5
                    have hg60 : (0 ≤ (m 113 ix.toNatClampNeg) ∧ (m 113 ix.toNatClampNeg).toNatClampNeg < 3100) := i_ix (by omega) (by omega)
                    refine ⟨hg60, ?_⟩
                    first | have f61 : 0 ≤ (m 100 (m 113 ix.toNatClampNeg).toNatClampNeg).toInt ∧ (m 100 (m 113 ix.toNatClampNeg).toNatClampNeg).toInt ≤ 100000 := ra_100 (m := m) hV (k := (m 113 ix.toNatClampNeg).toNatClampNeg) (i_ix (n := 3100) (by omega) (by omega)).2 | have b62 := i_bd (m 100 (m 113 ix.toNatClampNeg).toNatClampNeg)
                    exact K ((m 100 (m 113 ix.toNatClampNeg).toNatClampNeg)) _ (zF_zov (zF_u (zF_u (zF_u (zF_u zF_rfl rfl) rfl) rfl) rfl) ws_238_252) hV_m5 r_W p0_m5 p1_m5 p2_m5 p3_m5 p4_m5 p5_m5 p6_m5 (show (m 94 58).toInt = 0 ∨ (m 94 10).toInt = 5 from by omega)
                  · skip
                    have g63 := i_ne h49
                    have hV64 : zV (ma_u m 94 0 (0 : Int32)) := uf_94_0 hV
                    refine sp_238 (r1) ((m 113 ix.toNatClampNeg)) hV64 (by omega) (by omega) (by omega) (by omega) (show ((m 94 10).toInt = 2 ∨ (m 94 10).toInt = 3) → (m 113 ix.toNatClampNeg).toInt < 0 ∨ (m 99) (m 113 ix.toNatClampNeg).toNatClampNeg ≠ 0 from by first | (exact fun hp => (r_DX hp).2.1 ix.toNatClampNeg (by rw [tn_cast (by omega)]; omega)) | (exfalso; omega; done) | (exfalso; contradiction; done)) r_W r_GW r_GU r_OW r_DX r_GG r_HA r_RGc (show (m 94 58).toInt = 0 ∨ (m 94 10).toInt = 5 from by omega) (fun m7 hV_m7 p0_m7 p1_m7 p2_m7 p3_m7 p4_m7 p5_m7 p6_m7 p7_m7 => zmv_n ?_)
                    have p0_m7 : zGW T (m7 94 55) (m7 109) := p0_m7
                    have p1_m7 : zGU T (m 94 46) (m7 99) := p1_m7
                    have p2_m7 : zOw (m7 99) (m 103) (m7 111) := p2_m7
                    have p3_m7 : zDX (m 94 10) (m7 99) (m7 112) (m7 113) (m7 114) (m7 94 55) (m 98) (m 101) (m 102) (m 108) := p3_m7
                    have p4_m7 : zGG (m 94 58) (m7 94 56) (m 94 57) (m7 106) := p4_m7
                    have p5_m7 : zHA (m 94 10) (m 94 11) (m 94 13) (m 94 14) (m 94 16) (m 94 61) (m 94 59) (m 94 60) (m7 99) (m 102) (m 103) (m7 111) (m 117) (m 98) (m 101) (m 108) := p5_m7
                    have p6_m7 : zRG (m 94 10) (m 94 18) (m 94 64) (m 94 63) (m7 99) (m 103) (m 102) (m 116) := p6_m7
                    have p7_m7 : (m 94 58).toInt = 0 ∨ (m 94 10).toInt = 5 := p7_m7
                    have hg65 : (0 ≤ (m 113 ix.toNatClampNeg) ∧ (m 113 ix.toNatClampNeg).toNatClampNeg < 3100) := i_ix (by omega) (by omega)
                    refine ⟨hg65, ?_⟩
                    first | have f66 : 0 ≤ (m 100 (m 113 ix.toNatClampNeg).toNatClampNeg).toInt ∧ (m 100 (m 113 ix.toNatClampNeg).toNatClampNeg).toInt ≤ 100000 := ra_100 (m := m) hV (k := (m 113 ix.toNatClampNeg).toNatClampNeg) (i_ix (n := 3100) (by omega) (by omega)).2 | have b67 := i_bd (m 100 (m 113 ix.toNatClampNeg).toNatClampNeg)
                    exact K ((m 100 (m 113 ix.toNatClampNeg).toNatClampNeg)) _ (zF_zov (zF_u zF_rfl rfl) ws_238_252) hV_m7 r_W p0_m7 p1_m7 p2_m7 p3_m7 p4_m7 p5_m7 p6_m7 (show (m 94 58).toInt = 0 ∨ (m 94 10).toInt = 5 from by omega)
            · skip
              have g68 := i_nle h31
              have hV69 : zV (ma_u m 94 0 (0 : Int32)) := uf_94_0 hV
              have li70 : (-1 : Int32).toInt = -1 := rfl
              exact K ((-1 : Int32)) _ (zF_u zF_rfl rfl) hV69 r_W r_GW r_GU r_OW r_DX r_GG r_HA r_RGc (show (m 94 58).toInt = 0 ∨ (m 94 10).toInt = 5 from by omega)

