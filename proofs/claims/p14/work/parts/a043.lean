/-! from 94.451 -/
/-! the reference (written by wip/tools/gen94m.py) -/
set_option maxRecDepth 100000 in
theorem hm_251 : ma_md 251 = some (12, yX12_weak, cX12_weak, 5, (some (FieldType.int))) := rfl
theorem dX12_weak_0 : decode cX12_weak 0 = .ok (.aload_n 0, 1) := by decide +kernel
theorem dX12_weak_1 : decode cX12_weak 1 = .ok (.aload_n 0, 1) := by decide +kernel
theorem dX12_weak_2 : decode cX12_weak 2 = .ok (.iload_n 1, 1) := by decide +kernel
theorem dX12_weak_3 : decode cX12_weak 3 = .ok (.invokevirtual 493, 3) := by decide +kernel
theorem dX12_weak_6 : decode cX12_weak 6 = .ok (.ifCond .ne 7, 3) := by decide +kernel
theorem dX12_weak_9 : decode cX12_weak 9 = .ok (.iconst 1, 1) := by decide +kernel
theorem dX12_weak_10 : decode cX12_weak 10 = .ok (.goto 15, 3) := by decide +kernel
theorem dX12_weak_25 : decode cX12_weak 25 = .ok (.invokevirtual 110, 3) := by decide +kernel
theorem dX12_weak_28 : decode cX12_weak 28 = .ok (.ifCond .eq 5, 3) := by decide +kernel
theorem dX12_weak_31 : decode cX12_weak 31 = .ok (.iconst 0, 1) := by decide +kernel
theorem dX12_weak_32 : decode cX12_weak 32 = .ok (.ireturn, 1) := by decide +kernel
theorem dX12_weak_13 : decode cX12_weak 13 = .ok (.aload_n 0, 1) := by decide +kernel
theorem dX12_weak_24 : decode cX12_weak 24 = .ok (.iconst 0, 1) := by decide +kernel
theorem dX12_weak_33 : decode cX12_weak 33 = .ok (.iload_n 2, 1) := by decide +kernel
theorem dX12_weak_34 : decode cX12_weak 34 = .ok (.iconst (-1), 1) := by decide +kernel
theorem dX12_weak_42 : decode cX12_weak 42 = .ok (.aload_n 0, 1) := by decide +kernel
theorem dX12_weak_43 : decode cX12_weak 43 = .ok (.iload_n 2, 1) := by decide +kernel
theorem dX12_weak_44 : decode cX12_weak 44 = .ok (.invokevirtual 499, 3) := by decide +kernel
theorem dX12_weak_47 : decode cX12_weak 47 = .ok (.istore_n 3, 1) := by decide +kernel
theorem dX12_weak_48 : decode cX12_weak 48 = .ok (.aload_n 0, 1) := by decide +kernel
theorem dX12_weak_49 : decode cX12_weak 49 = .ok (.iload_n 2, 1) := by decide +kernel
theorem dX12_weak_50 : decode cX12_weak 50 = .ok (.iconst (-1), 1) := by decide +kernel
theorem dX12_weak_62 : decode cX12_weak 62 = .ok (.iconst 0, 1) := by decide +kernel
theorem dX12_weak_63 : decode cX12_weak 63 = .ok (.invokevirtual 110, 3) := by decide +kernel
theorem dX12_weak_66 : decode cX12_weak 66 = .ok (.ifCond .eq 5, 3) := by decide +kernel
theorem dX12_weak_71 : decode cX12_weak 71 = .ok (.aload_n 0, 1) := by decide +kernel
theorem dX12_weak_72 : decode cX12_weak 72 = .ok (.aload_n 0, 1) := by decide +kernel
theorem dX12_weak_76 : decode cX12_weak 76 = .ok (.iload_n 1, 1) := by decide +kernel
theorem dX12_weak_78 : decode cX12_weak 78 = .ok (.invokevirtual 502, 3) := by decide +kernel
theorem dX12_weak_81 : decode cX12_weak 81 = .ok (.istore 4, 2) := by decide +kernel
theorem dX12_weak_83 : decode cX12_weak 83 = .ok (.aload_n 0, 1) := by decide +kernel
theorem dX12_weak_87 : decode cX12_weak 87 = .ok (.iload_n 1, 1) := by decide +kernel
theorem dX12_weak_88 : decode cX12_weak 88 = .ok (.iload_n 3, 1) := by decide +kernel
theorem dX12_weak_90 : decode cX12_weak 90 = .ok (.iload 4, 2) := by decide +kernel
theorem dX12_weak_92 : decode cX12_weak 92 = .ok (.ireturn, 1) := by decide +kernel
theorem dX12_weak_89 : decode cX12_weak 89 = .ok (.iastore, 1) := by decide +kernel
theorem dX12_weak_84 : decode cX12_weak 84 = .ok (.getfield 71, 3) := by decide +kernel
theorem dX12_weak_77 : decode cX12_weak 77 = .ok (.iaload, 1) := by decide +kernel
theorem dX12_weak_73 : decode cX12_weak 73 = .ok (.getfield 71, 3) := by decide +kernel
theorem dX12_weak_54 : decode cX12_weak 54 = .ok (.iload_n 3, 1) := by decide +kernel
theorem dX12_weak_58 : decode cX12_weak 58 = .ok (.iconst 3, 1) := by decide +kernel
theorem dX12_weak_59 : decode cX12_weak 59 = .ok (.goto 4, 3) := by decide +kernel
theorem dX12_weak_69 : decode cX12_weak 69 = .ok (.iconst 0, 1) := by decide +kernel
theorem dX12_weak_70 : decode cX12_weak 70 = .ok (.ireturn, 1) := by decide +kernel
theorem dX12_weak_55 : decode cX12_weak 55 = .ok (.ifCond .ge 7, 3) := by decide +kernel
theorem dX12_weak_51 : decode cX12_weak 51 = .ok (.if_icmp .eq 11, 3) := by decide +kernel
theorem dX12_weak_38 : decode cX12_weak 38 = .ok (.iconst (-1), 1) := by decide +kernel
theorem dX12_weak_39 : decode cX12_weak 39 = .ok (.goto 8, 3) := by decide +kernel
theorem dX12_weak_35 : decode cX12_weak 35 = .ok (.if_icmp .ne 7, 3) := by decide +kernel
theorem dX12_weak_20 : decode cX12_weak 20 = .ok (.iconst 2, 1) := by decide +kernel
theorem dX12_weak_21 : decode cX12_weak 21 = .ok (.goto 4, 3) := by decide +kernel
theorem dX12_weak_17 : decode cX12_weak 17 = .ok (.ifCond .ne 7, 3) := by decide +kernel
theorem dX12_weak_14 : decode cX12_weak 14 = .ok (.getfield 237, 3) := by decide +kernel
def wr_251 (c k : Nat) : Bool := Nat.beq c 110 || Nat.beq c 113 || Nat.beq c 118 || (Nat.beq c 94 && (Nat.beq k 0 || Nat.beq k 73))
theorem ws_245_251 : ∀ c k, wr_245 c k = true → wr_251 c k = true := by
  intro c k h
  simp only [wr_245, wr_251, Bool.or_eq_true, Bool.and_eq_true, Nat.beq_eq] at h ⊢
  omega
theorem g_251_0 {X : Nat × (Nat → Int32)} {m : Nat → Nat → Int32} {P : Option ma_V → (Nat → Nat → Int32) → Prop} (ix : Int32) (ob : Int32) (h : if ix < 0 then (P (some (.inl (0 : Int32))) (ma_u m 94 0 (1 : Int32))) else (if (16 : Int32) ≤ ix then (P (some (.inl (0 : Int32))) (ma_u m 94 0 (1 : Int32))) else (if (m 94 8) = 0 then (P (some (.inl (0 : Int32))) (ma_u m 94 0 (2 : Int32))) else (if ob = (-1 : Int32) then (if ob = (-1 : Int32) then ((0 ≤ ix ∧ ix.toNatClampNeg < 16) ∧ (if 0 ≤ (m 113 ix.toNatClampNeg) then ((0 ≤ (m 113 ix.toNatClampNeg) ∧ (m 113 ix.toNatClampNeg).toNatClampNeg < 3100) ∧ ((0 ≤ ix ∧ ix.toNatClampNeg < 16) ∧ (P (some (.inl (m 100 (m 113 ix.toNatClampNeg).toNatClampNeg))) (ma_u (ma_u (ma_u m 94 0 (0 : Int32)) 94 0 (0 : Int32)) 113 ix.toNatClampNeg (-1 : Int32))))) else ((0 ≤ ix ∧ ix.toNatClampNeg < 16) ∧ (P (some (.inl (-1 : Int32))) (ma_u (ma_u (ma_u m 94 0 (0 : Int32)) 94 0 (0 : Int32)) 113 ix.toNatClampNeg (-1 : Int32)))))) else (P (some (.inl (0 : Int32))) (ma_u (ma_u m 94 0 (0 : Int32)) 94 0 (3 : Int32)))) else (zm X 4 87 245 0 [(0, .inr (.inr (some 94))), (1, .inl ob)] (ma_u m 94 0 (0 : Int32)) (zmi (fun v2 m1 => if ob = (-1 : Int32) then ((0 ≤ ix ∧ ix.toNatClampNeg < 16) ∧ (if 0 ≤ (m1 113 ix.toNatClampNeg) then ((0 ≤ (m1 113 ix.toNatClampNeg) ∧ (m1 113 ix.toNatClampNeg).toNatClampNeg < 3100) ∧ ((0 ≤ ix ∧ ix.toNatClampNeg < 16) ∧ (P (some (.inl (m1 100 (m1 113 ix.toNatClampNeg).toNatClampNeg))) (ma_u (ma_u m1 94 0 (0 : Int32)) 113 ix.toNatClampNeg v2)))) else ((0 ≤ ix ∧ ix.toNatClampNeg < 16) ∧ (P (some (.inl (-1 : Int32))) (ma_u (ma_u m1 94 0 (0 : Int32)) 113 ix.toNatClampNeg v2))))) else (if 0 ≤ v2 then ((0 ≤ ix ∧ ix.toNatClampNeg < 16) ∧ (if 0 ≤ (m1 113 ix.toNatClampNeg) then ((0 ≤ (m1 113 ix.toNatClampNeg) ∧ (m1 113 ix.toNatClampNeg).toNatClampNeg < 3100) ∧ ((0 ≤ ix ∧ ix.toNatClampNeg < 16) ∧ (P (some (.inl (m1 100 (m1 113 ix.toNatClampNeg).toNatClampNeg))) (ma_u (ma_u m1 94 0 (0 : Int32)) 113 ix.toNatClampNeg v2)))) else ((0 ≤ ix ∧ ix.toNatClampNeg < 16) ∧ (P (some (.inl (-1 : Int32))) (ma_u (ma_u m1 94 0 (0 : Int32)) 113 ix.toNatClampNeg v2))))) else (P (some (.inl (0 : Int32))) (ma_u m1 94 0 (3 : Int32))))))))))) : zm X 5 109 251 0 [(0, .inr (.inr (some 94))), (1, .inl ix), (2, .inl ob)] m P := by
  intro d w S Q hd hw hS hm HQ
  subst hm
  refine zw_push hm_251 dX12_weak_0 (v := .inr (.inr (some 94))) rfl ?_
  refine zw_push hm_251 dX12_weak_1 (v := .inr (.inr (some 94))) rfl ?_
  refine zw_push hm_251 dX12_weak_2 (v := .inl ix) rfl ?_
  refine zw_cv hm_251 dX12_weak_3 v_12_493_12 hm_182 [.inl ix] [.inr (.inr (some 94))] rfl (zT_rt hS s_94 rfl) ⟨by omega, by omega⟩ rfl ?_
  show ma_wp X (d - 1) (w - 21) 182 0 [(0, .inr (.inr (some 94))), (1, .inl ix)] [] S _
  refine zw_push hm_182 dX12_isNamed_0 (v := .inl ix) rfl ?_
  refine zw_if0 hm_182 dX12_isNamed_1 (t := 14) rfl zc0_lt ?_ ?_
  · intro hc
    rw [if_pos hc] at h
    refine zw_push hm_182 dX12_isNamed_14 (v := .inl (0 : Int32)) rfl ?_
    refine zw_bret hm_182 dX12_isNamed_15 (by decide) ?_
    show ma_wp X d w 251 6 [(0, .inr (.inr (some 94))), (1, .inl ix), (2, .inl ob)] [.inl (0 : Int32), .inr (.inr (some 94))] S _
    refine zw_if0 hm_251 dX12_weak_6 (t := 13) rfl zc0_ne (fun hc => absurd hc (by decide)) (fun _ => ?_)
    refine zw_push hm_251 dX12_weak_9 (v := .inl (1 : Int32)) rfl ?_
    refine zw_goto hm_251 dX12_weak_10 (t := 25) rfl ?_
    refine zw_cv hm_251 dX12_weak_25 v_12_110_12 hm_167 [.inl (1 : Int32)] [] rfl (zT_rt hS s_94 rfl) ⟨by omega, by omega⟩ rfl ?_
    show ma_wp X (d - 1) (w - 21) 167 0 [(0, .inr (.inr (some 94))), (1, .inl (1 : Int32))] [] S _
    refine zw_push hm_167 dX12_fails_0 (v := .inr (.inr (some 94))) rfl ?_
    refine zw_push hm_167 dX12_fails_1 (v := .inl (1 : Int32)) rfl ?_
    refine zw_pf hm_167 dX12_fails_2 (zT_is hS s_94) (zT_t hS s_94) p_12_1_12 zk_int ?_
    refine zw_push hm_167 dX12_fails_5 (v := .inl (1 : Int32)) rfl ?_
    refine zw_if0 hm_167 dX12_fails_6 (t := 13) rfl zc0_eq (fun hc => absurd hc (by decide)) (fun _ => ?_)
    refine zw_push hm_167 dX12_fails_9 (v := .inl (1 : Int32)) rfl ?_
    refine zw_goto hm_167 dX12_fails_10 (t := 14) rfl ?_
    refine zw_bret hm_167 dX12_fails_14 (by decide) ?_
    show ma_wp X d w 251 28 [(0, .inr (.inr (some 94))), (1, .inl ix), (2, .inl ob)] [.inl (1 : Int32)] (ma_put S 94 0 (.inl (1 : Int32))) _
    refine zw_if0 hm_251 dX12_weak_28 (t := 33) rfl zc0_eq (fun hc => absurd hc (by decide)) (fun _ => ?_)
    refine zw_push hm_251 dX12_weak_31 (v := .inl (0 : Int32)) rfl ?_
    exact zw_iret hm_251 dX12_weak_32 (HQ _ _ h)
  · intro hc
    rw [if_neg hc] at h
    refine zw_push hm_182 dX12_isNamed_4 (v := .inl ix) rfl ?_
    refine zw_push hm_182 dX12_isNamed_5 (v := .inl (16 : Int32)) rfl ?_
    refine zw_if2 hm_182 dX12_isNamed_7 (t := 14) rfl zc2_ge ?_ ?_
    · intro hc
      rw [if_pos hc] at h
      refine zw_push hm_182 dX12_isNamed_14 (v := .inl (0 : Int32)) rfl ?_
      refine zw_bret hm_182 dX12_isNamed_15 (by decide) ?_
      show ma_wp X d w 251 6 [(0, .inr (.inr (some 94))), (1, .inl ix), (2, .inl ob)] [.inl (0 : Int32), .inr (.inr (some 94))] S _
      refine zw_if0 hm_251 dX12_weak_6 (t := 13) rfl zc0_ne (fun hc => absurd hc (by decide)) (fun _ => ?_)
      refine zw_push hm_251 dX12_weak_9 (v := .inl (1 : Int32)) rfl ?_
      refine zw_goto hm_251 dX12_weak_10 (t := 25) rfl ?_
      refine zw_cv hm_251 dX12_weak_25 v_12_110_12 hm_167 [.inl (1 : Int32)] [] rfl (zT_rt hS s_94 rfl) ⟨by omega, by omega⟩ rfl ?_
      show ma_wp X (d - 1) (w - 21) 167 0 [(0, .inr (.inr (some 94))), (1, .inl (1 : Int32))] [] S _
      refine zw_push hm_167 dX12_fails_0 (v := .inr (.inr (some 94))) rfl ?_
      refine zw_push hm_167 dX12_fails_1 (v := .inl (1 : Int32)) rfl ?_
      refine zw_pf hm_167 dX12_fails_2 (zT_is hS s_94) (zT_t hS s_94) p_12_1_12 zk_int ?_
      refine zw_push hm_167 dX12_fails_5 (v := .inl (1 : Int32)) rfl ?_
      refine zw_if0 hm_167 dX12_fails_6 (t := 13) rfl zc0_eq (fun hc => absurd hc (by decide)) (fun _ => ?_)
      refine zw_push hm_167 dX12_fails_9 (v := .inl (1 : Int32)) rfl ?_
      refine zw_goto hm_167 dX12_fails_10 (t := 14) rfl ?_
      refine zw_bret hm_167 dX12_fails_14 (by decide) ?_
      show ma_wp X d w 251 28 [(0, .inr (.inr (some 94))), (1, .inl ix), (2, .inl ob)] [.inl (1 : Int32)] (ma_put S 94 0 (.inl (1 : Int32))) _
      refine zw_if0 hm_251 dX12_weak_28 (t := 33) rfl zc0_eq (fun hc => absurd hc (by decide)) (fun _ => ?_)
      refine zw_push hm_251 dX12_weak_31 (v := .inl (0 : Int32)) rfl ?_
      exact zw_iret hm_251 dX12_weak_32 (HQ _ _ h)
    · intro hc
      rw [if_neg hc] at h
      refine zw_push hm_182 dX12_isNamed_10 (v := .inl (1 : Int32)) rfl ?_
      refine zw_goto hm_182 dX12_isNamed_11 (t := 15) rfl ?_
      refine zw_bret hm_182 dX12_isNamed_15 (by decide) ?_
      show ma_wp X d w 251 6 [(0, .inr (.inr (some 94))), (1, .inl ix), (2, .inl ob)] [.inl (1 : Int32), .inr (.inr (some 94))] S _
      refine zw_if0 hm_251 dX12_weak_6 (t := 13) rfl zc0_ne (fun _ => ?_) (fun hc => absurd (by decide) hc)
      refine zw_push hm_251 dX12_weak_13 (v := .inr (.inr (some 94))) rfl ?_
      refine zw_gf hm_251 dX12_weak_14 (v := .inl ((mI S) 94 8)) (zT_is hS s_94) (zT_t hS s_94) rfl f_12_237_12 rfl ?_
      refine zw_if0 hm_251 dX12_weak_17 (t := 24) rfl zc0_ne ?_ ?_
      · intro hc
        rw [if_neg hc] at h
        refine zw_push hm_251 dX12_weak_24 (v := .inl (0 : Int32)) rfl ?_
        refine zw_cv hm_251 dX12_weak_25 v_12_110_12 hm_167 [.inl (0 : Int32)] [] rfl (zT_rt hS s_94 rfl) ⟨by omega, by omega⟩ rfl ?_
        show ma_wp X (d - 1) (w - 21) 167 0 [(0, .inr (.inr (some 94))), (1, .inl (0 : Int32))] [] S _
        refine zw_push hm_167 dX12_fails_0 (v := .inr (.inr (some 94))) rfl ?_
        refine zw_push hm_167 dX12_fails_1 (v := .inl (0 : Int32)) rfl ?_
        refine zw_pf hm_167 dX12_fails_2 (zT_is hS s_94) (zT_t hS s_94) p_12_1_12 zk_int ?_
        refine zw_push hm_167 dX12_fails_5 (v := .inl (0 : Int32)) rfl ?_
        refine zw_if0 hm_167 dX12_fails_6 (t := 13) rfl zc0_eq (fun _ => ?_) (fun hc => absurd (by decide) hc)
        refine zw_push hm_167 dX12_fails_13 (v := .inl (0 : Int32)) rfl ?_
        refine zw_bret hm_167 dX12_fails_14 (by decide) ?_
        show ma_wp X d w 251 28 [(0, .inr (.inr (some 94))), (1, .inl ix), (2, .inl ob)] [.inl (0 : Int32)] (ma_put S 94 0 (.inl (0 : Int32))) _
        refine zw_if0 hm_251 dX12_weak_28 (t := 33) rfl zc0_eq (fun _ => ?_) (fun hc => absurd (by decide) hc)
        refine zw_push hm_251 dX12_weak_33 (v := .inl ob) rfl ?_
        refine zw_push hm_251 dX12_weak_34 (v := .inl (-1 : Int32)) rfl ?_
        refine zw_if2 hm_251 dX12_weak_35 (t := 42) rfl zc2_ne ?_ ?_
        · intro hc
          rw [if_neg hc] at h
          refine zw_push hm_251 dX12_weak_42 (v := .inr (.inr (some 94))) rfl ?_
          refine zw_push hm_251 dX12_weak_43 (v := .inl ob) rfl ?_
          refine zw_cv hm_251 dX12_weak_44 v_12_499_12 hm_245 [.inl ob] [] rfl (zT_rt (zT_pi hS) s_94 rfl) ⟨by omega, by omega⟩ rfl (h _ _ (ma_put S 94 0 (.inl (0 : Int32))) _ (by omega) (by omega) (zT_pi hS) rfl (fun o9 m1 hv => ?_))
          obtain ⟨v2, rfl, h⟩ := zmi_of hv
          show ma_wp X d w 251 47 [(0, .inr (.inr (some 94))), (1, .inl ix), (2, .inl ob)] [.inl v2] (zst S m1) _
          refine zw_sto hm_251 dX12_weak_47 [(3, .inl v2), (0, .inr (.inr (some 94))), (1, .inl ix), (2, .inl ob)] rfl rfl rfl ?_
          refine zw_push hm_251 dX12_weak_48 (v := .inr (.inr (some 94))) rfl ?_
          refine zw_push hm_251 dX12_weak_49 (v := .inl ob) rfl ?_
          refine zw_push hm_251 dX12_weak_50 (v := .inl (-1 : Int32)) rfl ?_
          refine zw_if2 hm_251 dX12_weak_51 (t := 62) rfl zc2_eq ?_ ?_
          · intro hc
            rw [if_pos hc] at h
            refine zw_push hm_251 dX12_weak_62 (v := .inl (0 : Int32)) rfl ?_
            refine zw_cv hm_251 dX12_weak_63 v_12_110_12 hm_167 [.inl (0 : Int32)] [] rfl (zT_rt (zT_zst hS m1) s_94 rfl) ⟨by omega, by omega⟩ rfl ?_
            show ma_wp X (d - 1) (w - 21) 167 0 [(0, .inr (.inr (some 94))), (1, .inl (0 : Int32))] [] (zst S m1) _
            refine zw_push hm_167 dX12_fails_0 (v := .inr (.inr (some 94))) rfl ?_
            refine zw_push hm_167 dX12_fails_1 (v := .inl (0 : Int32)) rfl ?_
            refine zw_pf hm_167 dX12_fails_2 (zT_is (zT_zst hS m1) s_94) (zT_t (zT_zst hS m1) s_94) p_12_1_12 zk_int ?_
            refine zw_push hm_167 dX12_fails_5 (v := .inl (0 : Int32)) rfl ?_
            refine zw_if0 hm_167 dX12_fails_6 (t := 13) rfl zc0_eq (fun _ => ?_) (fun hc => absurd (by decide) hc)
            refine zw_push hm_167 dX12_fails_13 (v := .inl (0 : Int32)) rfl ?_
            refine zw_bret hm_167 dX12_fails_14 (by decide) ?_
            show ma_wp X d w 251 66 [(3, .inl v2), (0, .inr (.inr (some 94))), (1, .inl ix), (2, .inl ob)] [.inl (0 : Int32)] (ma_put (zst S m1) 94 0 (.inl (0 : Int32))) _
            refine zw_if0 hm_251 dX12_weak_66 (t := 71) rfl zc0_eq (fun _ => ?_) (fun hc => absurd (by decide) hc)
            refine zw_push hm_251 dX12_weak_71 (v := .inr (.inr (some 94))) rfl ?_
            refine zw_push hm_251 dX12_weak_72 (v := .inr (.inr (some 94))) rfl ?_
            refine zw_gf hm_251 dX12_weak_73 (v := .inr (.inr (some 113))) (zT_is (zT_pi (zT_zst hS m1)) s_94) (zT_t (zT_pi (zT_zst hS m1)) s_94) rfl f_12_71_12 (zT_f (zT_pi (zT_zst hS m1)) r_94_52) ?_
            refine zw_push hm_251 dX12_weak_76 (v := .inl ix) rfl ?_
            obtain ⟨hg, h⟩ := h
            refine zw_ia hm_251 dX12_weak_77 (zT_is (zT_pi (zT_zst hS m1)) s_113) (zT_h (zT_pi (zT_zst hS m1)) s_113) rfl hg ?_
            show ma_wp X d w 251 78 [(3, .inl v2), (0, .inr (.inr (some 94))), (1, .inl ix), (2, .inl ob)] [.inl (m1 113 ix.toNatClampNeg), .inr (.inr (some 94))] (ma_put (zst S m1) 94 0 (.inl (0 : Int32))) _
            refine zw_cv hm_251 dX12_weak_78 v_12_502_12 hm_248 [.inl (m1 113 ix.toNatClampNeg)] [] rfl (zT_rt (zT_pi (zT_zst hS m1)) s_94 rfl) ⟨by omega, by omega⟩ rfl ?_
            show ma_wp X (d - 1) (w - 21) 248 0 [(0, .inr (.inr (some 94))), (1, .inl (m1 113 ix.toNatClampNeg))] [] (ma_put (zst S m1) 94 0 (.inl (0 : Int32))) _
            refine zw_push hm_248 dX12_numberOf_0 (v := .inl (m1 113 ix.toNatClampNeg)) rfl ?_
            refine zw_if0 hm_248 dX12_numberOf_1 (t := 8) rfl zc0_ge ?_ ?_
            · intro hc
              rw [if_pos hc] at h
              refine zw_push hm_248 dX12_numberOf_8 (v := .inr (.inr (some 94))) rfl ?_
              refine zw_gf hm_248 dX12_numberOf_9 (v := .inr (.inr (some 100))) (zT_is (zT_pi (zT_zst hS m1)) s_94) (zT_t (zT_pi (zT_zst hS m1)) s_94) rfl f_12_31_12 (zT_f (zT_pi (zT_zst hS m1)) r_94_32) ?_
              refine zw_push hm_248 dX12_numberOf_12 (v := .inl (m1 113 ix.toNatClampNeg)) rfl ?_
              obtain ⟨hg, h⟩ := h
              refine zw_ia hm_248 dX12_numberOf_13 (zT_is (zT_pi (zT_zst hS m1)) s_100) (zT_h (zT_pi (zT_zst hS m1)) s_100) rfl hg ?_
              show ma_wp X (d - 1) (w - 21) 248 14 [(0, .inr (.inr (some 94))), (1, .inl (m1 113 ix.toNatClampNeg))] [.inl (m1 100 (m1 113 ix.toNatClampNeg).toNatClampNeg)] (ma_put (zst S m1) 94 0 (.inl (0 : Int32))) _
              refine zw_iret hm_248 dX12_numberOf_14 ?_
              show ma_wp X d w 251 81 [(3, .inl v2), (0, .inr (.inr (some 94))), (1, .inl ix), (2, .inl ob)] [.inl (m1 100 (m1 113 ix.toNatClampNeg).toNatClampNeg)] (ma_put (zst S m1) 94 0 (.inl (0 : Int32))) _
              refine zw_sto hm_251 dX12_weak_81 [(4, .inl (m1 100 (m1 113 ix.toNatClampNeg).toNatClampNeg)), (3, .inl v2), (0, .inr (.inr (some 94))), (1, .inl ix), (2, .inl ob)] rfl rfl rfl ?_
              refine zw_push hm_251 dX12_weak_83 (v := .inr (.inr (some 94))) rfl ?_
              refine zw_gf hm_251 dX12_weak_84 (v := .inr (.inr (some 113))) (zT_is (zT_pi (zT_zst hS m1)) s_94) (zT_t (zT_pi (zT_zst hS m1)) s_94) rfl f_12_71_12 (zT_f (zT_pi (zT_zst hS m1)) r_94_52) ?_
              refine zw_push hm_251 dX12_weak_87 (v := .inl ix) rfl ?_
              refine zw_push hm_251 dX12_weak_88 (v := .inl v2) rfl ?_
              obtain ⟨hg, h⟩ := h
              refine zw_ias hm_251 dX12_weak_89 (zT_is (zT_pi (zT_zst hS m1)) s_113) (zT_h (zT_pi (zT_zst hS m1)) s_113) rfl hg ?_
              refine zw_push hm_251 dX12_weak_90 (v := .inl (m1 100 (m1 113 ix.toNatClampNeg).toNatClampNeg)) rfl ?_
              exact zw_iret hm_251 dX12_weak_92 (HQ _ _ h)
            · intro hc
              rw [if_neg hc] at h
              refine zw_push hm_248 dX12_numberOf_4 (v := .inl (-1 : Int32)) rfl ?_
              refine zw_goto hm_248 dX12_numberOf_5 (t := 14) rfl ?_
              refine zw_iret hm_248 dX12_numberOf_14 ?_
              show ma_wp X d w 251 81 [(3, .inl v2), (0, .inr (.inr (some 94))), (1, .inl ix), (2, .inl ob)] [.inl (-1 : Int32)] (ma_put (zst S m1) 94 0 (.inl (0 : Int32))) _
              refine zw_sto hm_251 dX12_weak_81 [(4, .inl (-1 : Int32)), (3, .inl v2), (0, .inr (.inr (some 94))), (1, .inl ix), (2, .inl ob)] rfl rfl rfl ?_
              refine zw_push hm_251 dX12_weak_83 (v := .inr (.inr (some 94))) rfl ?_
              refine zw_gf hm_251 dX12_weak_84 (v := .inr (.inr (some 113))) (zT_is (zT_pi (zT_zst hS m1)) s_94) (zT_t (zT_pi (zT_zst hS m1)) s_94) rfl f_12_71_12 (zT_f (zT_pi (zT_zst hS m1)) r_94_52) ?_
              refine zw_push hm_251 dX12_weak_87 (v := .inl ix) rfl ?_
              refine zw_push hm_251 dX12_weak_88 (v := .inl v2) rfl ?_
              obtain ⟨hg, h⟩ := h
              refine zw_ias hm_251 dX12_weak_89 (zT_is (zT_pi (zT_zst hS m1)) s_113) (zT_h (zT_pi (zT_zst hS m1)) s_113) rfl hg ?_
              refine zw_push hm_251 dX12_weak_90 (v := .inl (-1 : Int32)) rfl ?_
              exact zw_iret hm_251 dX12_weak_92 (HQ _ _ h)
          · intro hc
            rw [if_neg hc] at h
            refine zw_push hm_251 dX12_weak_54 (v := .inl v2) rfl ?_
            refine zw_if0 hm_251 dX12_weak_55 (t := 62) rfl zc0_ge ?_ ?_
            · intro hc
              rw [if_pos hc] at h
              refine zw_push hm_251 dX12_weak_62 (v := .inl (0 : Int32)) rfl ?_
              refine zw_cv hm_251 dX12_weak_63 v_12_110_12 hm_167 [.inl (0 : Int32)] [] rfl (zT_rt (zT_zst hS m1) s_94 rfl) ⟨by omega, by omega⟩ rfl ?_
              show ma_wp X (d - 1) (w - 21) 167 0 [(0, .inr (.inr (some 94))), (1, .inl (0 : Int32))] [] (zst S m1) _
              refine zw_push hm_167 dX12_fails_0 (v := .inr (.inr (some 94))) rfl ?_
              refine zw_push hm_167 dX12_fails_1 (v := .inl (0 : Int32)) rfl ?_
              refine zw_pf hm_167 dX12_fails_2 (zT_is (zT_zst hS m1) s_94) (zT_t (zT_zst hS m1) s_94) p_12_1_12 zk_int ?_
              refine zw_push hm_167 dX12_fails_5 (v := .inl (0 : Int32)) rfl ?_
              refine zw_if0 hm_167 dX12_fails_6 (t := 13) rfl zc0_eq (fun _ => ?_) (fun hc => absurd (by decide) hc)
              refine zw_push hm_167 dX12_fails_13 (v := .inl (0 : Int32)) rfl ?_
              refine zw_bret hm_167 dX12_fails_14 (by decide) ?_
              show ma_wp X d w 251 66 [(3, .inl v2), (0, .inr (.inr (some 94))), (1, .inl ix), (2, .inl ob)] [.inl (0 : Int32)] (ma_put (zst S m1) 94 0 (.inl (0 : Int32))) _
              refine zw_if0 hm_251 dX12_weak_66 (t := 71) rfl zc0_eq (fun _ => ?_) (fun hc => absurd (by decide) hc)
              refine zw_push hm_251 dX12_weak_71 (v := .inr (.inr (some 94))) rfl ?_
              refine zw_push hm_251 dX12_weak_72 (v := .inr (.inr (some 94))) rfl ?_
              refine zw_gf hm_251 dX12_weak_73 (v := .inr (.inr (some 113))) (zT_is (zT_pi (zT_zst hS m1)) s_94) (zT_t (zT_pi (zT_zst hS m1)) s_94) rfl f_12_71_12 (zT_f (zT_pi (zT_zst hS m1)) r_94_52) ?_
              refine zw_push hm_251 dX12_weak_76 (v := .inl ix) rfl ?_
              obtain ⟨hg, h⟩ := h
              refine zw_ia hm_251 dX12_weak_77 (zT_is (zT_pi (zT_zst hS m1)) s_113) (zT_h (zT_pi (zT_zst hS m1)) s_113) rfl hg ?_
              show ma_wp X d w 251 78 [(3, .inl v2), (0, .inr (.inr (some 94))), (1, .inl ix), (2, .inl ob)] [.inl (m1 113 ix.toNatClampNeg), .inr (.inr (some 94))] (ma_put (zst S m1) 94 0 (.inl (0 : Int32))) _
              refine zw_cv hm_251 dX12_weak_78 v_12_502_12 hm_248 [.inl (m1 113 ix.toNatClampNeg)] [] rfl (zT_rt (zT_pi (zT_zst hS m1)) s_94 rfl) ⟨by omega, by omega⟩ rfl ?_
              show ma_wp X (d - 1) (w - 21) 248 0 [(0, .inr (.inr (some 94))), (1, .inl (m1 113 ix.toNatClampNeg))] [] (ma_put (zst S m1) 94 0 (.inl (0 : Int32))) _
              refine zw_push hm_248 dX12_numberOf_0 (v := .inl (m1 113 ix.toNatClampNeg)) rfl ?_
              refine zw_if0 hm_248 dX12_numberOf_1 (t := 8) rfl zc0_ge ?_ ?_
              · intro hc
                rw [if_pos hc] at h
                refine zw_push hm_248 dX12_numberOf_8 (v := .inr (.inr (some 94))) rfl ?_
                refine zw_gf hm_248 dX12_numberOf_9 (v := .inr (.inr (some 100))) (zT_is (zT_pi (zT_zst hS m1)) s_94) (zT_t (zT_pi (zT_zst hS m1)) s_94) rfl f_12_31_12 (zT_f (zT_pi (zT_zst hS m1)) r_94_32) ?_
                refine zw_push hm_248 dX12_numberOf_12 (v := .inl (m1 113 ix.toNatClampNeg)) rfl ?_
                obtain ⟨hg, h⟩ := h
                refine zw_ia hm_248 dX12_numberOf_13 (zT_is (zT_pi (zT_zst hS m1)) s_100) (zT_h (zT_pi (zT_zst hS m1)) s_100) rfl hg ?_
                show ma_wp X (d - 1) (w - 21) 248 14 [(0, .inr (.inr (some 94))), (1, .inl (m1 113 ix.toNatClampNeg))] [.inl (m1 100 (m1 113 ix.toNatClampNeg).toNatClampNeg)] (ma_put (zst S m1) 94 0 (.inl (0 : Int32))) _
                refine zw_iret hm_248 dX12_numberOf_14 ?_
                show ma_wp X d w 251 81 [(3, .inl v2), (0, .inr (.inr (some 94))), (1, .inl ix), (2, .inl ob)] [.inl (m1 100 (m1 113 ix.toNatClampNeg).toNatClampNeg)] (ma_put (zst S m1) 94 0 (.inl (0 : Int32))) _
                refine zw_sto hm_251 dX12_weak_81 [(4, .inl (m1 100 (m1 113 ix.toNatClampNeg).toNatClampNeg)), (3, .inl v2), (0, .inr (.inr (some 94))), (1, .inl ix), (2, .inl ob)] rfl rfl rfl ?_
                refine zw_push hm_251 dX12_weak_83 (v := .inr (.inr (some 94))) rfl ?_
                refine zw_gf hm_251 dX12_weak_84 (v := .inr (.inr (some 113))) (zT_is (zT_pi (zT_zst hS m1)) s_94) (zT_t (zT_pi (zT_zst hS m1)) s_94) rfl f_12_71_12 (zT_f (zT_pi (zT_zst hS m1)) r_94_52) ?_
                refine zw_push hm_251 dX12_weak_87 (v := .inl ix) rfl ?_
                refine zw_push hm_251 dX12_weak_88 (v := .inl v2) rfl ?_
                obtain ⟨hg, h⟩ := h
                refine zw_ias hm_251 dX12_weak_89 (zT_is (zT_pi (zT_zst hS m1)) s_113) (zT_h (zT_pi (zT_zst hS m1)) s_113) rfl hg ?_
                refine zw_push hm_251 dX12_weak_90 (v := .inl (m1 100 (m1 113 ix.toNatClampNeg).toNatClampNeg)) rfl ?_
                exact zw_iret hm_251 dX12_weak_92 (HQ _ _ h)
              · intro hc
                rw [if_neg hc] at h
                refine zw_push hm_248 dX12_numberOf_4 (v := .inl (-1 : Int32)) rfl ?_
                refine zw_goto hm_248 dX12_numberOf_5 (t := 14) rfl ?_
                refine zw_iret hm_248 dX12_numberOf_14 ?_
                show ma_wp X d w 251 81 [(3, .inl v2), (0, .inr (.inr (some 94))), (1, .inl ix), (2, .inl ob)] [.inl (-1 : Int32)] (ma_put (zst S m1) 94 0 (.inl (0 : Int32))) _
                refine zw_sto hm_251 dX12_weak_81 [(4, .inl (-1 : Int32)), (3, .inl v2), (0, .inr (.inr (some 94))), (1, .inl ix), (2, .inl ob)] rfl rfl rfl ?_
                refine zw_push hm_251 dX12_weak_83 (v := .inr (.inr (some 94))) rfl ?_
                refine zw_gf hm_251 dX12_weak_84 (v := .inr (.inr (some 113))) (zT_is (zT_pi (zT_zst hS m1)) s_94) (zT_t (zT_pi (zT_zst hS m1)) s_94) rfl f_12_71_12 (zT_f (zT_pi (zT_zst hS m1)) r_94_52) ?_
                refine zw_push hm_251 dX12_weak_87 (v := .inl ix) rfl ?_
                refine zw_push hm_251 dX12_weak_88 (v := .inl v2) rfl ?_
                obtain ⟨hg, h⟩ := h
                refine zw_ias hm_251 dX12_weak_89 (zT_is (zT_pi (zT_zst hS m1)) s_113) (zT_h (zT_pi (zT_zst hS m1)) s_113) rfl hg ?_
                refine zw_push hm_251 dX12_weak_90 (v := .inl (-1 : Int32)) rfl ?_
                exact zw_iret hm_251 dX12_weak_92 (HQ _ _ h)
            · intro hc
              rw [if_neg hc] at h
              refine zw_push hm_251 dX12_weak_58 (v := .inl (3 : Int32)) rfl ?_
              refine zw_goto hm_251 dX12_weak_59 (t := 63) rfl ?_
              refine zw_cv hm_251 dX12_weak_63 v_12_110_12 hm_167 [.inl (3 : Int32)] [] rfl (zT_rt (zT_zst hS m1) s_94 rfl) ⟨by omega, by omega⟩ rfl ?_
              show ma_wp X (d - 1) (w - 21) 167 0 [(0, .inr (.inr (some 94))), (1, .inl (3 : Int32))] [] (zst S m1) _
              refine zw_push hm_167 dX12_fails_0 (v := .inr (.inr (some 94))) rfl ?_
              refine zw_push hm_167 dX12_fails_1 (v := .inl (3 : Int32)) rfl ?_
              refine zw_pf hm_167 dX12_fails_2 (zT_is (zT_zst hS m1) s_94) (zT_t (zT_zst hS m1) s_94) p_12_1_12 zk_int ?_
              refine zw_push hm_167 dX12_fails_5 (v := .inl (3 : Int32)) rfl ?_
              refine zw_if0 hm_167 dX12_fails_6 (t := 13) rfl zc0_eq (fun hc => absurd hc (by decide)) (fun _ => ?_)
              refine zw_push hm_167 dX12_fails_9 (v := .inl (1 : Int32)) rfl ?_
              refine zw_goto hm_167 dX12_fails_10 (t := 14) rfl ?_
              refine zw_bret hm_167 dX12_fails_14 (by decide) ?_
              show ma_wp X d w 251 66 [(3, .inl v2), (0, .inr (.inr (some 94))), (1, .inl ix), (2, .inl ob)] [.inl (1 : Int32)] (ma_put (zst S m1) 94 0 (.inl (3 : Int32))) _
              refine zw_if0 hm_251 dX12_weak_66 (t := 71) rfl zc0_eq (fun hc => absurd hc (by decide)) (fun _ => ?_)
              refine zw_push hm_251 dX12_weak_69 (v := .inl (0 : Int32)) rfl ?_
              exact zw_iret hm_251 dX12_weak_70 (HQ _ _ h)
        · intro hc
          rw [if_pos (Classical.not_not.mp hc)] at h
          refine zw_push hm_251 dX12_weak_38 (v := .inl (-1 : Int32)) rfl ?_
          refine zw_goto hm_251 dX12_weak_39 (t := 47) rfl ?_
          refine zw_sto hm_251 dX12_weak_47 [(3, .inl (-1 : Int32)), (0, .inr (.inr (some 94))), (1, .inl ix), (2, .inl ob)] rfl rfl rfl ?_
          refine zw_push hm_251 dX12_weak_48 (v := .inr (.inr (some 94))) rfl ?_
          refine zw_push hm_251 dX12_weak_49 (v := .inl ob) rfl ?_
          refine zw_push hm_251 dX12_weak_50 (v := .inl (-1 : Int32)) rfl ?_
          refine zw_if2 hm_251 dX12_weak_51 (t := 62) rfl zc2_eq ?_ ?_
          · intro hc
            rw [if_pos hc] at h
            refine zw_push hm_251 dX12_weak_62 (v := .inl (0 : Int32)) rfl ?_
            refine zw_cv hm_251 dX12_weak_63 v_12_110_12 hm_167 [.inl (0 : Int32)] [] rfl (zT_rt (zT_pi hS) s_94 rfl) ⟨by omega, by omega⟩ rfl ?_
            show ma_wp X (d - 1) (w - 21) 167 0 [(0, .inr (.inr (some 94))), (1, .inl (0 : Int32))] [] (ma_put S 94 0 (.inl (0 : Int32))) _
            refine zw_push hm_167 dX12_fails_0 (v := .inr (.inr (some 94))) rfl ?_
            refine zw_push hm_167 dX12_fails_1 (v := .inl (0 : Int32)) rfl ?_
            refine zw_pf hm_167 dX12_fails_2 (zT_is (zT_pi hS) s_94) (zT_t (zT_pi hS) s_94) p_12_1_12 zk_int ?_
            refine zw_push hm_167 dX12_fails_5 (v := .inl (0 : Int32)) rfl ?_
            refine zw_if0 hm_167 dX12_fails_6 (t := 13) rfl zc0_eq (fun _ => ?_) (fun hc => absurd (by decide) hc)
            refine zw_push hm_167 dX12_fails_13 (v := .inl (0 : Int32)) rfl ?_
            refine zw_bret hm_167 dX12_fails_14 (by decide) ?_
            show ma_wp X d w 251 66 [(3, .inl (-1 : Int32)), (0, .inr (.inr (some 94))), (1, .inl ix), (2, .inl ob)] [.inl (0 : Int32)] (ma_put (ma_put S 94 0 (.inl (0 : Int32))) 94 0 (.inl (0 : Int32))) _
            refine zw_if0 hm_251 dX12_weak_66 (t := 71) rfl zc0_eq (fun _ => ?_) (fun hc => absurd (by decide) hc)
            refine zw_push hm_251 dX12_weak_71 (v := .inr (.inr (some 94))) rfl ?_
            refine zw_push hm_251 dX12_weak_72 (v := .inr (.inr (some 94))) rfl ?_
            refine zw_gf hm_251 dX12_weak_73 (v := .inr (.inr (some 113))) (zT_is (zT_pi (zT_pi hS)) s_94) (zT_t (zT_pi (zT_pi hS)) s_94) rfl f_12_71_12 (zT_f (zT_pi (zT_pi hS)) r_94_52) ?_
            refine zw_push hm_251 dX12_weak_76 (v := .inl ix) rfl ?_
            obtain ⟨hg, h⟩ := h
            refine zw_ia hm_251 dX12_weak_77 (zT_is (zT_pi (zT_pi hS)) s_113) (zT_h (zT_pi (zT_pi hS)) s_113) rfl hg ?_
            show ma_wp X d w 251 78 [(3, .inl (-1 : Int32)), (0, .inr (.inr (some 94))), (1, .inl ix), (2, .inl ob)] [.inl ((mI S) 113 ix.toNatClampNeg), .inr (.inr (some 94))] (ma_put (ma_put S 94 0 (.inl (0 : Int32))) 94 0 (.inl (0 : Int32))) _
            refine zw_cv hm_251 dX12_weak_78 v_12_502_12 hm_248 [.inl ((mI S) 113 ix.toNatClampNeg)] [] rfl (zT_rt (zT_pi (zT_pi hS)) s_94 rfl) ⟨by omega, by omega⟩ rfl ?_
            show ma_wp X (d - 1) (w - 21) 248 0 [(0, .inr (.inr (some 94))), (1, .inl ((mI S) 113 ix.toNatClampNeg))] [] (ma_put (ma_put S 94 0 (.inl (0 : Int32))) 94 0 (.inl (0 : Int32))) _
            refine zw_push hm_248 dX12_numberOf_0 (v := .inl ((mI S) 113 ix.toNatClampNeg)) rfl ?_
            refine zw_if0 hm_248 dX12_numberOf_1 (t := 8) rfl zc0_ge ?_ ?_
            · intro hc
              rw [if_pos hc] at h
              refine zw_push hm_248 dX12_numberOf_8 (v := .inr (.inr (some 94))) rfl ?_
              refine zw_gf hm_248 dX12_numberOf_9 (v := .inr (.inr (some 100))) (zT_is (zT_pi (zT_pi hS)) s_94) (zT_t (zT_pi (zT_pi hS)) s_94) rfl f_12_31_12 (zT_f (zT_pi (zT_pi hS)) r_94_32) ?_
              refine zw_push hm_248 dX12_numberOf_12 (v := .inl ((mI S) 113 ix.toNatClampNeg)) rfl ?_
              obtain ⟨hg, h⟩ := h
              refine zw_ia hm_248 dX12_numberOf_13 (zT_is (zT_pi (zT_pi hS)) s_100) (zT_h (zT_pi (zT_pi hS)) s_100) rfl hg ?_
              show ma_wp X (d - 1) (w - 21) 248 14 [(0, .inr (.inr (some 94))), (1, .inl ((mI S) 113 ix.toNatClampNeg))] [.inl ((mI S) 100 ((mI S) 113 ix.toNatClampNeg).toNatClampNeg)] (ma_put (ma_put S 94 0 (.inl (0 : Int32))) 94 0 (.inl (0 : Int32))) _
              refine zw_iret hm_248 dX12_numberOf_14 ?_
              show ma_wp X d w 251 81 [(3, .inl (-1 : Int32)), (0, .inr (.inr (some 94))), (1, .inl ix), (2, .inl ob)] [.inl ((mI S) 100 ((mI S) 113 ix.toNatClampNeg).toNatClampNeg)] (ma_put (ma_put S 94 0 (.inl (0 : Int32))) 94 0 (.inl (0 : Int32))) _
              refine zw_sto hm_251 dX12_weak_81 [(4, .inl ((mI S) 100 ((mI S) 113 ix.toNatClampNeg).toNatClampNeg)), (3, .inl (-1 : Int32)), (0, .inr (.inr (some 94))), (1, .inl ix), (2, .inl ob)] rfl rfl rfl ?_
              refine zw_push hm_251 dX12_weak_83 (v := .inr (.inr (some 94))) rfl ?_
              refine zw_gf hm_251 dX12_weak_84 (v := .inr (.inr (some 113))) (zT_is (zT_pi (zT_pi hS)) s_94) (zT_t (zT_pi (zT_pi hS)) s_94) rfl f_12_71_12 (zT_f (zT_pi (zT_pi hS)) r_94_52) ?_
              refine zw_push hm_251 dX12_weak_87 (v := .inl ix) rfl ?_
              refine zw_push hm_251 dX12_weak_88 (v := .inl (-1 : Int32)) rfl ?_
              obtain ⟨hg, h⟩ := h
              refine zw_ias hm_251 dX12_weak_89 (zT_is (zT_pi (zT_pi hS)) s_113) (zT_h (zT_pi (zT_pi hS)) s_113) rfl hg ?_
              refine zw_push hm_251 dX12_weak_90 (v := .inl ((mI S) 100 ((mI S) 113 ix.toNatClampNeg).toNatClampNeg)) rfl ?_
              exact zw_iret hm_251 dX12_weak_92 (HQ _ _ h)
            · intro hc
              rw [if_neg hc] at h
              refine zw_push hm_248 dX12_numberOf_4 (v := .inl (-1 : Int32)) rfl ?_
              refine zw_goto hm_248 dX12_numberOf_5 (t := 14) rfl ?_
              refine zw_iret hm_248 dX12_numberOf_14 ?_
              show ma_wp X d w 251 81 [(3, .inl (-1 : Int32)), (0, .inr (.inr (some 94))), (1, .inl ix), (2, .inl ob)] [.inl (-1 : Int32)] (ma_put (ma_put S 94 0 (.inl (0 : Int32))) 94 0 (.inl (0 : Int32))) _
              refine zw_sto hm_251 dX12_weak_81 [(4, .inl (-1 : Int32)), (3, .inl (-1 : Int32)), (0, .inr (.inr (some 94))), (1, .inl ix), (2, .inl ob)] rfl rfl rfl ?_
              refine zw_push hm_251 dX12_weak_83 (v := .inr (.inr (some 94))) rfl ?_
              refine zw_gf hm_251 dX12_weak_84 (v := .inr (.inr (some 113))) (zT_is (zT_pi (zT_pi hS)) s_94) (zT_t (zT_pi (zT_pi hS)) s_94) rfl f_12_71_12 (zT_f (zT_pi (zT_pi hS)) r_94_52) ?_
              refine zw_push hm_251 dX12_weak_87 (v := .inl ix) rfl ?_
              refine zw_push hm_251 dX12_weak_88 (v := .inl (-1 : Int32)) rfl ?_
              obtain ⟨hg, h⟩ := h
              refine zw_ias hm_251 dX12_weak_89 (zT_is (zT_pi (zT_pi hS)) s_113) (zT_h (zT_pi (zT_pi hS)) s_113) rfl hg ?_
              refine zw_push hm_251 dX12_weak_90 (v := .inl (-1 : Int32)) rfl ?_
              exact zw_iret hm_251 dX12_weak_92 (HQ _ _ h)
          · intro hc
            rw [if_neg hc] at h
            refine zw_push hm_251 dX12_weak_54 (v := .inl (-1 : Int32)) rfl ?_
            refine zw_if0 hm_251 dX12_weak_55 (t := 62) rfl zc0_ge (fun hc => absurd hc (by decide)) (fun _ => ?_)
            refine zw_push hm_251 dX12_weak_58 (v := .inl (3 : Int32)) rfl ?_
            refine zw_goto hm_251 dX12_weak_59 (t := 63) rfl ?_
            refine zw_cv hm_251 dX12_weak_63 v_12_110_12 hm_167 [.inl (3 : Int32)] [] rfl (zT_rt (zT_pi hS) s_94 rfl) ⟨by omega, by omega⟩ rfl ?_
            show ma_wp X (d - 1) (w - 21) 167 0 [(0, .inr (.inr (some 94))), (1, .inl (3 : Int32))] [] (ma_put S 94 0 (.inl (0 : Int32))) _
            refine zw_push hm_167 dX12_fails_0 (v := .inr (.inr (some 94))) rfl ?_
            refine zw_push hm_167 dX12_fails_1 (v := .inl (3 : Int32)) rfl ?_
            refine zw_pf hm_167 dX12_fails_2 (zT_is (zT_pi hS) s_94) (zT_t (zT_pi hS) s_94) p_12_1_12 zk_int ?_
            refine zw_push hm_167 dX12_fails_5 (v := .inl (3 : Int32)) rfl ?_
            refine zw_if0 hm_167 dX12_fails_6 (t := 13) rfl zc0_eq (fun hc => absurd hc (by decide)) (fun _ => ?_)
            refine zw_push hm_167 dX12_fails_9 (v := .inl (1 : Int32)) rfl ?_
            refine zw_goto hm_167 dX12_fails_10 (t := 14) rfl ?_
            refine zw_bret hm_167 dX12_fails_14 (by decide) ?_
            show ma_wp X d w 251 66 [(3, .inl (-1 : Int32)), (0, .inr (.inr (some 94))), (1, .inl ix), (2, .inl ob)] [.inl (1 : Int32)] (ma_put (ma_put S 94 0 (.inl (0 : Int32))) 94 0 (.inl (3 : Int32))) _
            refine zw_if0 hm_251 dX12_weak_66 (t := 71) rfl zc0_eq (fun hc => absurd hc (by decide)) (fun _ => ?_)
            refine zw_push hm_251 dX12_weak_69 (v := .inl (0 : Int32)) rfl ?_
            exact zw_iret hm_251 dX12_weak_70 (HQ _ _ h)
      · intro hc
        rw [if_pos (Classical.not_not.mp hc)] at h
        refine zw_push hm_251 dX12_weak_20 (v := .inl (2 : Int32)) rfl ?_
        refine zw_goto hm_251 dX12_weak_21 (t := 25) rfl ?_
        refine zw_cv hm_251 dX12_weak_25 v_12_110_12 hm_167 [.inl (2 : Int32)] [] rfl (zT_rt hS s_94 rfl) ⟨by omega, by omega⟩ rfl ?_
        show ma_wp X (d - 1) (w - 21) 167 0 [(0, .inr (.inr (some 94))), (1, .inl (2 : Int32))] [] S _
        refine zw_push hm_167 dX12_fails_0 (v := .inr (.inr (some 94))) rfl ?_
        refine zw_push hm_167 dX12_fails_1 (v := .inl (2 : Int32)) rfl ?_
        refine zw_pf hm_167 dX12_fails_2 (zT_is hS s_94) (zT_t hS s_94) p_12_1_12 zk_int ?_
        refine zw_push hm_167 dX12_fails_5 (v := .inl (2 : Int32)) rfl ?_
        refine zw_if0 hm_167 dX12_fails_6 (t := 13) rfl zc0_eq (fun hc => absurd hc (by decide)) (fun _ => ?_)
        refine zw_push hm_167 dX12_fails_9 (v := .inl (1 : Int32)) rfl ?_
        refine zw_goto hm_167 dX12_fails_10 (t := 14) rfl ?_
        refine zw_bret hm_167 dX12_fails_14 (by decide) ?_
        show ma_wp X d w 251 28 [(0, .inr (.inr (some 94))), (1, .inl ix), (2, .inl ob)] [.inl (1 : Int32)] (ma_put S 94 0 (.inl (2 : Int32))) _
        refine zw_if0 hm_251 dX12_weak_28 (t := 33) rfl zc0_eq (fun hc => absurd hc (by decide)) (fun _ => ?_)
        refine zw_push hm_251 dX12_weak_31 (v := .inl (0 : Int32)) rfl ?_
        exact zw_iret hm_251 dX12_weak_32 (HQ _ _ h)
theorem sp_251 {X : Nat × (Nat → Int32)} {P : Option ma_V → (Nat → Nat → Int32) → Prop} {T : Nat} {m : Nat → Nat → Int32} (ix : Int32) (ob : Int32) (hV : zV m) (r_W : zW (m 94 7) (m 98) (m 101) (m 102) (m 108)) (r_GW : zGW T (m 94 55) (m 109)) (r_GU : zGU T (m 94 46) (m 99)) (r_OW : zOw (m 99) (m 103) (m 111)) (r_DX : zDX (m 94 10) (m 99) (m 112) (m 113) (m 114) (m 94 55) (m 98) (m 101) (m 102) (m 108)) (r_GG : zGG (m 94 58) (m 94 56) (m 94 57) (m 106)) (r_HA : zHA (m 94 10) (m 94 11) (m 94 13) (m 94 14) (m 94 16) (m 94 61) (m 94 59) (m 94 60) (m 99) (m 102) (m 103) (m 111) (m 117) (m 98) (m 101) (m 108)) (r_RGc : zRG (m 94 10) (m 94 18) (m 94 64) (m 94 63) (m 99) (m 103) (m 102) (m 116)) (hpre8 : (m 94 58).toInt = 0 ∨ (m 94 10).toInt = 5) (KZ : ∀ v m₉, zV (zov wr_251 m m₉) → (zW (m 94 7) (m 98) (m 101) (m 102) (m 108)) → (zGW T (m 94 55) (m 109)) → (zGU T (m 94 46) (m 99)) → (zOw (m 99) (m 103) (m 111)) → (zDX (m 94 10) (m 99) (m 112) (m₉ 113) (m 114) (m 94 55) (m 98) (m 101) (m 102) (m 108)) → (zGG (m 94 58) (m 94 56) (m 94 57) (m 106)) → (zHA (m 94 10) (m 94 11) (m 94 13) (m 94 14) (m 94 16) (m 94 61) (m 94 59) (m 94 60) (m 99) (m 102) (m 103) (m 111) (m 117) (m 98) (m 101) (m 108)) → (zRG (m 94 10) (m 94 18) (m 94 64) (m 94 63) (m 99) (m 103) (m 102) (m 116)) → ((m 94 58).toInt = 0 ∨ (m 94 10).toInt = 5) → P (some (.inl v)) (zov wr_251 m m₉)) : zm X 5 109 251 0 [(0, .inr (.inr (some 94))), (1, .inl ix), (2, .inl ob)] m P := by
  have K : ∀ v m₉, zF wr_251 m m₉ → zV m₉ → (zW (m₉ 94 7) (m₉ 98) (m₉ 101) (m₉ 102) (m₉ 108)) → (zGW T (m₉ 94 55) (m₉ 109)) → (zGU T (m₉ 94 46) (m₉ 99)) → (zOw (m₉ 99) (m₉ 103) (m₉ 111)) → (zDX (m₉ 94 10) (m₉ 99) (m₉ 112) (m₉ 113) (m₉ 114) (m₉ 94 55) (m₉ 98) (m₉ 101) (m₉ 102) (m₉ 108)) → (zGG (m₉ 94 58) (m₉ 94 56) (m₉ 94 57) (m₉ 106)) → (zHA (m₉ 94 10) (m₉ 94 11) (m₉ 94 13) (m₉ 94 14) (m₉ 94 16) (m₉ 94 61) (m₉ 94 59) (m₉ 94 60) (m₉ 99) (m₉ 102) (m₉ 103) (m₉ 111) (m₉ 117) (m₉ 98) (m₉ 101) (m₉ 108)) → (zRG (m₉ 94 10) (m₉ 94 18) (m₉ 94 64) (m₉ 94 63) (m₉ 99) (m₉ 103) (m₉ 102) (m₉ 116)) → ((m₉ 94 58).toInt = 0 ∨ (m₉ 94 10).toInt = 5) → P (some (.inl v)) m₉ := by
    intro v m₉ hf z q0 q1 q2 q3 q4 q5 q6 q7 q8
    have e := zov_eq hf
    rw [e] at z ⊢
    try rw [e] at q0
    try rw [e] at q1
    try rw [e] at q2
    try rw [e] at q3
    try rw [e] at q4
    try rw [e] at q5
    try rw [e] at q6
    try rw [e] at q7
    try rw [e] at q8
    exact KZ v m₉ z q0 q1 q2 q3 q4 q5 q6 q7 q8
  refine g_251_0 ix ob ?_
  have f1 : 0 ≤ (m 94 58).toInt ∧ (m 94 58).toInt ≤ 1 := rs_94_58 (m := m) hV
  have f2 : 0 ≤ (m 94 10).toInt ∧ (m 94 10).toInt ≤ 6 := rs_94_10 (m := m) hV
  have b3 := i_bd ix
  have li4 : (0 : Int32).toInt = 0 := rfl
  refine zd (fun (h5 : ix < (0 : Int32)) => ?_) (fun (h5 : ¬ ix < (0 : Int32)) => ?_)
  · skip
    have g6 := i_lt h5
    have hV7 : zV (ma_u m 94 0 (1 : Int32)) := uf_94_0 hV
    exact K ((0 : Int32)) _ (zF_u zF_rfl rfl) hV7 r_W r_GW r_GU r_OW r_DX r_GG r_HA r_RGc (show (m 94 58).toInt = 0 ∨ (m 94 10).toInt = 5 from by omega)
  · skip
    have g8 := i_nlt h5
    have li9 : (16 : Int32).toInt = 16 := rfl
    refine zd (fun (h10 : (16 : Int32) ≤ ix) => ?_) (fun (h10 : ¬ (16 : Int32) ≤ ix) => ?_)
    · skip
      have g11 := i_le h10
      have hV12 : zV (ma_u m 94 0 (1 : Int32)) := uf_94_0 hV
      exact K ((0 : Int32)) _ (zF_u zF_rfl rfl) hV12 r_W r_GW r_GU r_OW r_DX r_GG r_HA r_RGc (show (m 94 58).toInt = 0 ∨ (m 94 10).toInt = 5 from by omega)
    · skip
      have g13 := i_nle h10
      have f14 : 0 ≤ (m 94 8).toInt ∧ (m 94 8).toInt ≤ 1 := rs_94_8 (m := m) hV
      refine zd (fun (h15 : (m 94 8) = (0 : Int32)) => ?_) (fun (h15 : ¬ (m 94 8) = (0 : Int32)) => ?_)
      · skip
        have g16 := i_eq h15
        have hV17 : zV (ma_u m 94 0 (2 : Int32)) := uf_94_0 hV
        exact K ((0 : Int32)) _ (zF_u zF_rfl rfl) hV17 r_W r_GW r_GU r_OW r_DX r_GG r_HA r_RGc (show (m 94 58).toInt = 0 ∨ (m 94 10).toInt = 5 from by omega)
      · skip
        have g18 := i_ne h15
        have b19 := i_bd ob
        have li20 : (-1 : Int32).toInt = -1 := rfl
        refine zd (fun (h21 : ob = (-1 : Int32)) => ?_) (fun (h21 : ¬ ob = (-1 : Int32)) => ?_)
        · skip
          have g22 := i_eq h21
          refine zd (fun (h23 : ob = (-1 : Int32)) => ?_) (fun (h23 : ¬ ob = (-1 : Int32)) => ?_)
          · skip
            have g24 := i_eq h23
            have hg25 : (0 ≤ ix ∧ ix.toNatClampNeg < 16) := i_ix (by omega) (by omega)
            refine ⟨hg25, ?_⟩
            first | have f26 : -1 ≤ (m 113 ix.toNatClampNeg).toInt ∧ (m 113 ix.toNatClampNeg).toInt ≤ 3099 := ra_113 (m := m) hV (k := ix.toNatClampNeg) (i_ix (n := 16) (by omega) (by omega)).2 | have b27 := i_bd (m 113 ix.toNatClampNeg)
            refine zd (fun (h28 : (0 : Int32) ≤ (m 113 ix.toNatClampNeg)) => ?_) (fun (h28 : ¬ (0 : Int32) ≤ (m 113 ix.toNatClampNeg)) => ?_)
            · skip
              have g29 := i_le h28
              have hg30 : (0 ≤ (m 113 ix.toNatClampNeg) ∧ (m 113 ix.toNatClampNeg).toNatClampNeg < 3100) := i_ix (by omega) (by omega)
              refine ⟨hg30, ?_⟩
              have hg31 : (0 ≤ ix ∧ ix.toNatClampNeg < 16) := i_ix (by omega) (by omega)
              refine ⟨hg31, ?_⟩
              have hV32 : zV (ma_u m 94 0 (0 : Int32)) := uf_94_0 hV
              have hV33 : zV (ma_u (ma_u m 94 0 (0 : Int32)) 94 0 (0 : Int32)) := uf_94_0 hV32
              have hV34 : zV (ma_u (ma_u (ma_u m 94 0 (0 : Int32)) 94 0 (0 : Int32)) 113 ix.toNatClampNeg (-1 : Int32)) := ua_113 hV33 (by omega) (by omega)
              first | have f35 : 0 ≤ (m 100 (m 113 ix.toNatClampNeg).toNatClampNeg).toInt ∧ (m 100 (m 113 ix.toNatClampNeg).toNatClampNeg).toInt ≤ 100000 := ra_100 (m := m) hV (k := (m 113 ix.toNatClampNeg).toNatClampNeg) (i_ix (n := 3100) (by omega) (by omega)).2 | have b36 := i_bd (m 100 (m 113 ix.toNatClampNeg).toNatClampNeg)
              exact K ((m 100 (m 113 ix.toNatClampNeg).toNatClampNeg)) _ (zF_u (zF_u (zF_u zF_rfl rfl) rfl) rfl) hV34 r_W r_GW r_GU r_OW (show zDX (m 94 10) (m 99) (m 112) ((ma_u m 113 ix.toNatClampNeg (-1 : Int32)) 113) (m 114) (m 94 55) (m 98) (m 101) (m 102) (m 108) from by first | (exact DX_weak r_DX (Or.inl (by decide))) | (exfalso; omega; done) | (exfalso; contradiction; done)) r_GG r_HA r_RGc (show (m 94 58).toInt = 0 ∨ (m 94 10).toInt = 5 from by omega)
            · skip
              have g37 := i_nle h28
              have hg38 : (0 ≤ ix ∧ ix.toNatClampNeg < 16) := i_ix (by omega) (by omega)
              refine ⟨hg38, ?_⟩
              have hV39 : zV (ma_u m 94 0 (0 : Int32)) := uf_94_0 hV
              have hV40 : zV (ma_u (ma_u m 94 0 (0 : Int32)) 94 0 (0 : Int32)) := uf_94_0 hV39
              have hV41 : zV (ma_u (ma_u (ma_u m 94 0 (0 : Int32)) 94 0 (0 : Int32)) 113 ix.toNatClampNeg (-1 : Int32)) := ua_113 hV40 (by omega) (by omega)
              exact K ((-1 : Int32)) _ (zF_u (zF_u (zF_u zF_rfl rfl) rfl) rfl) hV41 r_W r_GW r_GU r_OW (show zDX (m 94 10) (m 99) (m 112) ((ma_u m 113 ix.toNatClampNeg (-1 : Int32)) 113) (m 114) (m 94 55) (m 98) (m 101) (m 102) (m 108) from by first | (exact DX_weak r_DX (Or.inl (by decide))) | (exfalso; omega; done) | (exfalso; contradiction; done)) r_GG r_HA r_RGc (show (m 94 58).toInt = 0 ∨ (m 94 10).toInt = 5 from by omega)
          · skip
            have g42 := i_ne h23
            have hV43 : zV (ma_u m 94 0 (0 : Int32)) := uf_94_0 hV
            have hV44 : zV (ma_u (ma_u m 94 0 (0 : Int32)) 94 0 (3 : Int32)) := uf_94_0 hV43
            exact K ((0 : Int32)) _ (zF_u (zF_u zF_rfl rfl) rfl) hV44 r_W r_GW r_GU r_OW r_DX r_GG r_HA r_RGc (show (m 94 58).toInt = 0 ∨ (m 94 10).toInt = 5 from by omega)
        · skip
          have g45 := i_ne h21
          have hV46 : zV (ma_u m 94 0 (0 : Int32)) := uf_94_0 hV
          refine sp_245 (ob) hV46 r_W r_DX (fun v2 m1 hV_m1 p0_m1 p1_m1 => zmi_n ?_)
          have p0_m1 : -1 ≤ v2.toInt ∧ v2.toInt ≤ 3099 := p0_m1
          have p1_m1 : v2.toInt < 0 ∨ (m 99) v2.toNatClampNeg ≠ 0 := p1_m1
          refine zd (fun (h47 : ob = (-1 : Int32)) => ?_) (fun (h47 : ¬ ob = (-1 : Int32)) => ?_)
          · skip
            have g48 := i_eq h47
            have hg49 : (0 ≤ ix ∧ ix.toNatClampNeg < 16) := i_ix (by omega) (by omega)
            refine ⟨hg49, ?_⟩
            first | have f50 : -1 ≤ (m 113 ix.toNatClampNeg).toInt ∧ (m 113 ix.toNatClampNeg).toInt ≤ 3099 := ra_113 (m := m) hV (k := ix.toNatClampNeg) (i_ix (n := 16) (by omega) (by omega)).2 | have b51 := i_bd (m 113 ix.toNatClampNeg)
            refine zd (fun (h52 : (0 : Int32) ≤ (m 113 ix.toNatClampNeg)) => ?_) (fun (h52 : ¬ (0 : Int32) ≤ (m 113 ix.toNatClampNeg)) => ?_)
            · skip
              have g53 := i_le h52
              have hg54 : (0 ≤ (m 113 ix.toNatClampNeg) ∧ (m 113 ix.toNatClampNeg).toNatClampNeg < 3100) := i_ix (by omega) (by omega)
              refine ⟨hg54, ?_⟩
              have hg55 : (0 ≤ ix ∧ ix.toNatClampNeg < 16) := i_ix (by omega) (by omega)
              refine ⟨hg55, ?_⟩
              have hV56 : zV (ma_u (zov wr_245 (ma_u m 94 0 (0 : Int32)) m1) 94 0 (0 : Int32)) := uf_94_0 hV_m1
              have b58 := i_bd v2
              have hV57 : zV (ma_u (ma_u (zov wr_245 (ma_u m 94 0 (0 : Int32)) m1) 94 0 (0 : Int32)) 113 ix.toNatClampNeg v2) := ua_113 hV56 (by omega) (by omega)
              first | have f59 : 0 ≤ (m 100 (m 113 ix.toNatClampNeg).toNatClampNeg).toInt ∧ (m 100 (m 113 ix.toNatClampNeg).toNatClampNeg).toInt ≤ 100000 := ra_100 (m := m) hV (k := (m 113 ix.toNatClampNeg).toNatClampNeg) (i_ix (n := 3100) (by omega) (by omega)).2 | have b60 := i_bd (m 100 (m 113 ix.toNatClampNeg).toNatClampNeg)
              exact K ((m 100 (m 113 ix.toNatClampNeg).toNatClampNeg)) _ (zF_u (zF_u (zF_zov (zF_u zF_rfl rfl) ws_245_251) rfl) rfl) hV57 r_W r_GW r_GU r_OW (show zDX (m 94 10) (m 99) (m 112) ((ma_u m 113 ix.toNatClampNeg v2) 113) (m 114) (m 94 55) (m 98) (m 101) (m 102) (m 108) from by first | (exact DX_weak r_DX p1_m1) | (exact DX_weak r_DX (Or.inl (by decide))) | (exfalso; omega; done) | (exfalso; contradiction; done)) r_GG r_HA r_RGc (show (m 94 58).toInt = 0 ∨ (m 94 10).toInt = 5 from by omega)
            · skip
              have g61 := i_nle h52
              have hg62 : (0 ≤ ix ∧ ix.toNatClampNeg < 16) := i_ix (by omega) (by omega)
              refine ⟨hg62, ?_⟩
              have hV63 : zV (ma_u (zov wr_245 (ma_u m 94 0 (0 : Int32)) m1) 94 0 (0 : Int32)) := uf_94_0 hV_m1
              have b65 := i_bd v2
              have hV64 : zV (ma_u (ma_u (zov wr_245 (ma_u m 94 0 (0 : Int32)) m1) 94 0 (0 : Int32)) 113 ix.toNatClampNeg v2) := ua_113 hV63 (by omega) (by omega)
              exact K ((-1 : Int32)) _ (zF_u (zF_u (zF_zov (zF_u zF_rfl rfl) ws_245_251) rfl) rfl) hV64 r_W r_GW r_GU r_OW (show zDX (m 94 10) (m 99) (m 112) ((ma_u m 113 ix.toNatClampNeg v2) 113) (m 114) (m 94 55) (m 98) (m 101) (m 102) (m 108) from by first | (exact DX_weak r_DX p1_m1) | (exact DX_weak r_DX (Or.inl (by decide))) | (exfalso; omega; done) | (exfalso; contradiction; done)) r_GG r_HA r_RGc (show (m 94 58).toInt = 0 ∨ (m 94 10).toInt = 5 from by omega)
          · skip
            have g66 := i_ne h47
            have b67 := i_bd v2
            refine zd (fun (h68 : (0 : Int32) ≤ v2) => ?_) (fun (h68 : ¬ (0 : Int32) ≤ v2) => ?_)
            · skip
              have g69 := i_le h68
              have hg70 : (0 ≤ ix ∧ ix.toNatClampNeg < 16) := i_ix (by omega) (by omega)
              refine ⟨hg70, ?_⟩
              first | have f71 : -1 ≤ (m 113 ix.toNatClampNeg).toInt ∧ (m 113 ix.toNatClampNeg).toInt ≤ 3099 := ra_113 (m := m) hV (k := ix.toNatClampNeg) (i_ix (n := 16) (by omega) (by omega)).2 | have b72 := i_bd (m 113 ix.toNatClampNeg)
              refine zd (fun (h73 : (0 : Int32) ≤ (m 113 ix.toNatClampNeg)) => ?_) (fun (h73 : ¬ (0 : Int32) ≤ (m 113 ix.toNatClampNeg)) => ?_)
              · skip
                have g74 := i_le h73
                have hg75 : (0 ≤ (m 113 ix.toNatClampNeg) ∧ (m 113 ix.toNatClampNeg).toNatClampNeg < 3100) := i_ix (by omega) (by omega)
                refine ⟨hg75, ?_⟩
                have hg76 : (0 ≤ ix ∧ ix.toNatClampNeg < 16) := i_ix (by omega) (by omega)
                refine ⟨hg76, ?_⟩
                have hV77 : zV (ma_u (zov wr_245 (ma_u m 94 0 (0 : Int32)) m1) 94 0 (0 : Int32)) := uf_94_0 hV_m1
                have hV78 : zV (ma_u (ma_u (zov wr_245 (ma_u m 94 0 (0 : Int32)) m1) 94 0 (0 : Int32)) 113 ix.toNatClampNeg v2) := ua_113 hV77 (by omega) (by omega)
                first | have f79 : 0 ≤ (m 100 (m 113 ix.toNatClampNeg).toNatClampNeg).toInt ∧ (m 100 (m 113 ix.toNatClampNeg).toNatClampNeg).toInt ≤ 100000 := ra_100 (m := m) hV (k := (m 113 ix.toNatClampNeg).toNatClampNeg) (i_ix (n := 3100) (by omega) (by omega)).2 | have b80 := i_bd (m 100 (m 113 ix.toNatClampNeg).toNatClampNeg)
                exact K ((m 100 (m 113 ix.toNatClampNeg).toNatClampNeg)) _ (zF_u (zF_u (zF_zov (zF_u zF_rfl rfl) ws_245_251) rfl) rfl) hV78 r_W r_GW r_GU r_OW (show zDX (m 94 10) (m 99) (m 112) ((ma_u m 113 ix.toNatClampNeg v2) 113) (m 114) (m 94 55) (m 98) (m 101) (m 102) (m 108) from by first | (exact DX_weak r_DX p1_m1) | (exact DX_weak r_DX (Or.inl (by decide))) | (exfalso; omega; done) | (exfalso; contradiction; done)) r_GG r_HA r_RGc (show (m 94 58).toInt = 0 ∨ (m 94 10).toInt = 5 from by omega)
              · skip
                have g81 := i_nle h73
                have hg82 : (0 ≤ ix ∧ ix.toNatClampNeg < 16) := i_ix (by omega) (by omega)
                refine ⟨hg82, ?_⟩
                have hV83 : zV (ma_u (zov wr_245 (ma_u m 94 0 (0 : Int32)) m1) 94 0 (0 : Int32)) := uf_94_0 hV_m1
                have hV84 : zV (ma_u (ma_u (zov wr_245 (ma_u m 94 0 (0 : Int32)) m1) 94 0 (0 : Int32)) 113 ix.toNatClampNeg v2) := ua_113 hV83 (by omega) (by omega)
                exact K ((-1 : Int32)) _ (zF_u (zF_u (zF_zov (zF_u zF_rfl rfl) ws_245_251) rfl) rfl) hV84 r_W r_GW r_GU r_OW (show zDX (m 94 10) (m 99) (m 112) ((ma_u m 113 ix.toNatClampNeg v2) 113) (m 114) (m 94 55) (m 98) (m 101) (m 102) (m 108) from by first | (exact DX_weak r_DX p1_m1) | (exact DX_weak r_DX (Or.inl (by decide))) | (exfalso; omega; done) | (exfalso; contradiction; done)) r_GG r_HA r_RGc (show (m 94 58).toInt = 0 ∨ (m 94 10).toInt = 5 from by omega)
            · skip
              have g85 := i_nle h68
              have hV86 : zV (ma_u (zov wr_245 (ma_u m 94 0 (0 : Int32)) m1) 94 0 (3 : Int32)) := uf_94_0 hV_m1
              exact K ((0 : Int32)) _ (zF_u (zF_zov (zF_u zF_rfl rfl) ws_245_251) rfl) hV86 r_W r_GW r_GU r_OW r_DX r_GG r_HA r_RGc (show (m 94 58).toInt = 0 ∨ (m 94 10).toInt = 5 from by omega)

