/-! from 94.449 -/
/-! the reference (written by wip/tools/gen94m.py) -/
set_option maxRecDepth 100000 in
theorem hm_248 : ma_md 248 = some (12, yX12_numberOf, cX12_numberOf, 2, (some (FieldType.int))) := rfl
set_option maxRecDepth 100000 in
theorem hm_249 : ma_md 249 = some (12, yX12_get, cX12_get, 4, (some (FieldType.int))) := rfl
theorem v_12_502_12 : ma_vl 12 502 12 = some (1, 248, 1) := by decide +kernel
theorem dX12_get_0 : decode cX12_get 0 = .ok (.aload_n 0, 1) := by decide +kernel
theorem dX12_get_1 : decode cX12_get 1 = .ok (.aload_n 0, 1) := by decide +kernel
theorem dX12_get_12 : decode cX12_get 12 = .ok (.iconst 0, 1) := by decide +kernel
theorem dX12_get_13 : decode cX12_get 13 = .ok (.invokevirtual 110, 3) := by decide +kernel
theorem dX12_get_16 : decode cX12_get 16 = .ok (.ifCond .eq 5, 3) := by decide +kernel
theorem dX12_get_21 : decode cX12_get 21 = .ok (.aload_n 0, 1) := by decide +kernel
theorem dX12_get_22 : decode cX12_get 22 = .ok (.iload_n 1, 1) := by decide +kernel
theorem dX12_get_23 : decode cX12_get 23 = .ok (.invokevirtual 499, 3) := by decide +kernel
theorem dX12_get_26 : decode cX12_get 26 = .ok (.istore_n 3, 1) := by decide +kernel
theorem dX12_get_27 : decode cX12_get 27 = .ok (.aload_n 0, 1) := by decide +kernel
theorem dX12_get_28 : decode cX12_get 28 = .ok (.iload_n 3, 1) := by decide +kernel
theorem dX12_get_36 : decode cX12_get 36 = .ok (.iload_n 2, 1) := by decide +kernel
theorem dX12_get_50 : decode cX12_get 50 = .ok (.iconst 3, 1) := by decide +kernel
theorem dX12_get_51 : decode cX12_get 51 = .ok (.goto 4, 3) := by decide +kernel
theorem dX12_get_55 : decode cX12_get 55 = .ok (.invokevirtual 110, 3) := by decide +kernel
theorem dX12_get_58 : decode cX12_get 58 = .ok (.ifCond .eq 5, 3) := by decide +kernel
theorem dX12_get_61 : decode cX12_get 61 = .ok (.iconst 0, 1) := by decide +kernel
theorem dX12_get_62 : decode cX12_get 62 = .ok (.ireturn, 1) := by decide +kernel
theorem dX12_get_40 : decode cX12_get 40 = .ok (.iload_n 2, 1) := by decide +kernel
theorem dX12_get_41 : decode cX12_get 41 = .ok (.aload_n 0, 1) := by decide +kernel
theorem dX12_get_45 : decode cX12_get 45 = .ok (.iload_n 3, 1) := by decide +kernel
theorem dX12_get_54 : decode cX12_get 54 = .ok (.iconst 0, 1) := by decide +kernel
theorem dX12_get_63 : decode cX12_get 63 = .ok (.aload_n 0, 1) := by decide +kernel
theorem dX12_get_64 : decode cX12_get 64 = .ok (.iload_n 3, 1) := by decide +kernel
theorem dX12_get_65 : decode cX12_get 65 = .ok (.iload_n 2, 1) := by decide +kernel
theorem dX12_get_66 : decode cX12_get 66 = .ok (.invokevirtual 288, 3) := by decide +kernel
theorem dX12_get_69 : decode cX12_get 69 = .ok (.ifCond .eq 21, 3) := by decide +kernel
theorem dX12_get_72 : decode cX12_get 72 = .ok (.aload_n 0, 1) := by decide +kernel
theorem dX12_get_73 : decode cX12_get 73 = .ok (.aload_n 0, 1) := by decide +kernel
theorem dX12_get_77 : decode cX12_get 77 = .ok (.iload_n 3, 1) := by decide +kernel
theorem dX12_get_78 : decode cX12_get 78 = .ok (.bipush 60, 2) := by decide +kernel
theorem dX12_get_80 : decode cX12_get 80 = .ok (.imul, 1) := by decide +kernel
theorem dX12_get_81 : decode cX12_get 81 = .ok (.iload_n 2, 1) := by decide +kernel
theorem dX12_get_82 : decode cX12_get 82 = .ok (.iadd, 1) := by decide +kernel
theorem dX12_get_84 : decode cX12_get 84 = .ok (.invokevirtual 502, 3) := by decide +kernel
theorem dX12_numberOf_0 : decode cX12_numberOf 0 = .ok (.iload_n 1, 1) := by decide +kernel
theorem dX12_numberOf_8 : decode cX12_numberOf 8 = .ok (.aload_n 0, 1) := by decide +kernel
theorem dX12_numberOf_12 : decode cX12_numberOf 12 = .ok (.iload_n 1, 1) := by decide +kernel
theorem dX12_get_87 : decode cX12_get 87 = .ok (.goto 14, 3) := by decide +kernel
theorem dX12_get_101 : decode cX12_get 101 = .ok (.ireturn, 1) := by decide +kernel
theorem dX12_numberOf_14 : decode cX12_numberOf 14 = .ok (.ireturn, 1) := by decide +kernel
theorem dX12_numberOf_13 : decode cX12_numberOf 13 = .ok (.iaload, 1) := by decide +kernel
theorem dX12_numberOf_9 : decode cX12_numberOf 9 = .ok (.getfield 31, 3) := by decide +kernel
theorem dX12_numberOf_4 : decode cX12_numberOf 4 = .ok (.iconst (-1), 1) := by decide +kernel
theorem dX12_numberOf_5 : decode cX12_numberOf 5 = .ok (.goto 9, 3) := by decide +kernel
theorem dX12_numberOf_1 : decode cX12_numberOf 1 = .ok (.ifCond .ge 7, 3) := by decide +kernel
theorem dX12_get_83 : decode cX12_get 83 = .ok (.iaload, 1) := by decide +kernel
theorem dX12_get_74 : decode cX12_get 74 = .ok (.getfield 56, 3) := by decide +kernel
theorem dX12_get_90 : decode cX12_get 90 = .ok (.aload_n 0, 1) := by decide +kernel
theorem dX12_get_94 : decode cX12_get 94 = .ok (.iload_n 3, 1) := by decide +kernel
theorem dX12_get_95 : decode cX12_get 95 = .ok (.bipush 60, 2) := by decide +kernel
theorem dX12_get_97 : decode cX12_get 97 = .ok (.imul, 1) := by decide +kernel
theorem dX12_get_98 : decode cX12_get 98 = .ok (.iload_n 2, 1) := by decide +kernel
theorem dX12_get_99 : decode cX12_get 99 = .ok (.iadd, 1) := by decide +kernel
theorem dX12_get_100 : decode cX12_get 100 = .ok (.iaload, 1) := by decide +kernel
theorem dX12_get_91 : decode cX12_get 91 = .ok (.getfield 56, 3) := by decide +kernel
theorem dX12_get_47 : decode cX12_get 47 = .ok (.if_icmp .lt 7, 3) := by decide +kernel
theorem dX12_get_46 : decode cX12_get 46 = .ok (.iaload, 1) := by decide +kernel
theorem dX12_get_42 : decode cX12_get 42 = .ok (.getfield 37, 3) := by decide +kernel
theorem dX12_get_37 : decode cX12_get 37 = .ok (.ifCond .lt 13, 3) := by decide +kernel
theorem dX12_get_32 : decode cX12_get 32 = .ok (.iconst 2, 1) := by decide +kernel
theorem dX12_get_33 : decode cX12_get 33 = .ok (.goto 22, 3) := by decide +kernel
theorem dX12_get_29 : decode cX12_get 29 = .ok (.ifCond .ge 7, 3) := by decide +kernel
theorem dX12_get_8 : decode cX12_get 8 = .ok (.iconst 1, 1) := by decide +kernel
theorem dX12_get_9 : decode cX12_get 9 = .ok (.goto 4, 3) := by decide +kernel
theorem dX12_get_19 : decode cX12_get 19 = .ok (.iconst 0, 1) := by decide +kernel
theorem dX12_get_20 : decode cX12_get 20 = .ok (.ireturn, 1) := by decide +kernel
theorem dX12_get_5 : decode cX12_get 5 = .ok (.ifCond .ne 7, 3) := by decide +kernel
theorem dX12_get_2 : decode cX12_get 2 = .ok (.getfield 237, 3) := by decide +kernel
def wr_249 (c k : Nat) : Bool := Nat.beq c 110 || Nat.beq c 118 || (Nat.beq c 94 && (Nat.beq k 0 || Nat.beq k 73))
theorem ws_245_249 : ∀ c k, wr_245 c k = true → wr_249 c k = true := by
  intro c k h
  simp only [wr_245, wr_249, Bool.or_eq_true, Bool.and_eq_true, Nat.beq_eq] at h ⊢
  omega
theorem g_249_0 {X : Nat × (Nat → Int32)} {m : Nat → Nat → Int32} {P : Option ma_V → (Nat → Nat → Int32) → Prop} (ob : Int32) (ix : Int32) (h : if (m 94 8) = 0 then (P (some (.inl (0 : Int32))) (ma_u m 94 0 (1 : Int32))) else (zm X 4 87 245 0 [(0, .inr (.inr (some 94))), (1, .inl ob)] (ma_u m 94 0 (0 : Int32)) (zmi (fun v2 m1 => if 0 ≤ v2 then (if ix < 0 then (P (some (.inl (0 : Int32))) (ma_u m1 94 0 (3 : Int32))) else ((0 ≤ v2 ∧ v2.toNatClampNeg < 3100) ∧ (if ix < (m1 102 v2.toNatClampNeg) then ((0 ≤ v2 ∧ v2.toNatClampNeg < 3100) ∧ (if (m1 101 v2.toNatClampNeg) = (16 : Int32) then ((0 ≤ ((v2 * (60 : Int32)) + ix) ∧ ((v2 * (60 : Int32)) + ix).toNatClampNeg < 186000) ∧ (if 0 ≤ (m1 108 ((v2 * (60 : Int32)) + ix).toNatClampNeg) then ((0 ≤ (m1 108 ((v2 * (60 : Int32)) + ix).toNatClampNeg) ∧ (m1 108 ((v2 * (60 : Int32)) + ix).toNatClampNeg).toNatClampNeg < 3100) ∧ (P (some (.inl (m1 100 (m1 108 ((v2 * (60 : Int32)) + ix).toNatClampNeg).toNatClampNeg))) (ma_u m1 94 0 (0 : Int32)))) else (P (some (.inl (-1 : Int32))) (ma_u m1 94 0 (0 : Int32))))) else ((0 ≤ v2 ∧ v2.toNatClampNeg < 3100) ∧ (if (16 : Int32) ≤ (m1 101 v2.toNatClampNeg) then ((0 ≤ ((v2 * (60 : Int32)) + ix) ∧ ((v2 * (60 : Int32)) + ix).toNatClampNeg < 186000) ∧ (P (some (.inl (m1 108 ((v2 * (60 : Int32)) + ix).toNatClampNeg))) (ma_u m1 94 0 (0 : Int32)))) else ((0 ≤ v2 ∧ v2.toNatClampNeg < 3100) ∧ ((0 ≤ (m1 101 v2.toNatClampNeg) ∧ (m1 101 v2.toNatClampNeg).toNatClampNeg < 16) ∧ (if (((m1 98 (m1 101 v2.toNatClampNeg).toNatClampNeg) >>> (ix &&& 31)) &&& (1 : Int32)) = (1 : Int32) then ((0 ≤ ((v2 * (60 : Int32)) + ix) ∧ ((v2 * (60 : Int32)) + ix).toNatClampNeg < 186000) ∧ (if 0 ≤ (m1 108 ((v2 * (60 : Int32)) + ix).toNatClampNeg) then ((0 ≤ (m1 108 ((v2 * (60 : Int32)) + ix).toNatClampNeg) ∧ (m1 108 ((v2 * (60 : Int32)) + ix).toNatClampNeg).toNatClampNeg < 3100) ∧ (P (some (.inl (m1 100 (m1 108 ((v2 * (60 : Int32)) + ix).toNatClampNeg).toNatClampNeg))) (ma_u m1 94 0 (0 : Int32)))) else (P (some (.inl (-1 : Int32))) (ma_u m1 94 0 (0 : Int32))))) else ((0 ≤ ((v2 * (60 : Int32)) + ix) ∧ ((v2 * (60 : Int32)) + ix).toNatClampNeg < 186000) ∧ (P (some (.inl (m1 108 ((v2 * (60 : Int32)) + ix).toNatClampNeg))) (ma_u m1 94 0 (0 : Int32))))))))))) else (P (some (.inl (0 : Int32))) (ma_u m1 94 0 (3 : Int32)))))) else (P (some (.inl (0 : Int32))) (ma_u m1 94 0 (2 : Int32))))))) : zm X 5 109 249 0 [(0, .inr (.inr (some 94))), (1, .inl ob), (2, .inl ix)] m P := by
  intro d w S Q hd hw hS hm HQ
  subst hm
  refine zw_push hm_249 dX12_get_0 (v := .inr (.inr (some 94))) rfl ?_
  refine zw_push hm_249 dX12_get_1 (v := .inr (.inr (some 94))) rfl ?_
  refine zw_gf hm_249 dX12_get_2 (v := .inl ((mI S) 94 8)) (zT_is hS s_94) (zT_t hS s_94) rfl f_12_237_12 rfl ?_
  refine zw_if0 hm_249 dX12_get_5 (t := 12) rfl zc0_ne ?_ ?_
  · intro hc
    rw [if_neg hc] at h
    refine zw_push hm_249 dX12_get_12 (v := .inl (0 : Int32)) rfl ?_
    refine zw_cv hm_249 dX12_get_13 v_12_110_12 hm_167 [.inl (0 : Int32)] [] rfl (zT_rt hS s_94 rfl) ⟨by omega, by omega⟩ rfl ?_
    show ma_wp X (d - 1) (w - 21) 167 0 [(0, .inr (.inr (some 94))), (1, .inl (0 : Int32))] [] S _
    refine zw_push hm_167 dX12_fails_0 (v := .inr (.inr (some 94))) rfl ?_
    refine zw_push hm_167 dX12_fails_1 (v := .inl (0 : Int32)) rfl ?_
    refine zw_pf hm_167 dX12_fails_2 (zT_is hS s_94) (zT_t hS s_94) p_12_1_12 zk_int ?_
    refine zw_push hm_167 dX12_fails_5 (v := .inl (0 : Int32)) rfl ?_
    refine zw_if0 hm_167 dX12_fails_6 (t := 13) rfl zc0_eq (fun _ => ?_) (fun hc => absurd (by decide) hc)
    refine zw_push hm_167 dX12_fails_13 (v := .inl (0 : Int32)) rfl ?_
    refine zw_bret hm_167 dX12_fails_14 (by decide) ?_
    show ma_wp X d w 249 16 [(0, .inr (.inr (some 94))), (1, .inl ob), (2, .inl ix)] [.inl (0 : Int32)] (ma_put S 94 0 (.inl (0 : Int32))) _
    refine zw_if0 hm_249 dX12_get_16 (t := 21) rfl zc0_eq (fun _ => ?_) (fun hc => absurd (by decide) hc)
    refine zw_push hm_249 dX12_get_21 (v := .inr (.inr (some 94))) rfl ?_
    refine zw_push hm_249 dX12_get_22 (v := .inl ob) rfl ?_
    refine zw_cv hm_249 dX12_get_23 v_12_499_12 hm_245 [.inl ob] [] rfl (zT_rt (zT_pi hS) s_94 rfl) ⟨by omega, by omega⟩ rfl (h _ _ (ma_put S 94 0 (.inl (0 : Int32))) _ (by omega) (by omega) (zT_pi hS) rfl (fun o9 m1 hv => ?_))
    obtain ⟨v2, rfl, h⟩ := zmi_of hv
    show ma_wp X d w 249 26 [(0, .inr (.inr (some 94))), (1, .inl ob), (2, .inl ix)] [.inl v2] (zst S m1) _
    refine zw_sto hm_249 dX12_get_26 [(3, .inl v2), (0, .inr (.inr (some 94))), (1, .inl ob), (2, .inl ix)] rfl rfl rfl ?_
    refine zw_push hm_249 dX12_get_27 (v := .inr (.inr (some 94))) rfl ?_
    refine zw_push hm_249 dX12_get_28 (v := .inl v2) rfl ?_
    refine zw_if0 hm_249 dX12_get_29 (t := 36) rfl zc0_ge ?_ ?_
    · intro hc
      rw [if_pos hc] at h
      refine zw_push hm_249 dX12_get_36 (v := .inl ix) rfl ?_
      refine zw_if0 hm_249 dX12_get_37 (t := 50) rfl zc0_lt ?_ ?_
      · intro hc
        rw [if_pos hc] at h
        refine zw_push hm_249 dX12_get_50 (v := .inl (3 : Int32)) rfl ?_
        refine zw_goto hm_249 dX12_get_51 (t := 55) rfl ?_
        refine zw_cv hm_249 dX12_get_55 v_12_110_12 hm_167 [.inl (3 : Int32)] [] rfl (zT_rt (zT_zst hS m1) s_94 rfl) ⟨by omega, by omega⟩ rfl ?_
        show ma_wp X (d - 1) (w - 21) 167 0 [(0, .inr (.inr (some 94))), (1, .inl (3 : Int32))] [] (zst S m1) _
        refine zw_push hm_167 dX12_fails_0 (v := .inr (.inr (some 94))) rfl ?_
        refine zw_push hm_167 dX12_fails_1 (v := .inl (3 : Int32)) rfl ?_
        refine zw_pf hm_167 dX12_fails_2 (zT_is (zT_zst hS m1) s_94) (zT_t (zT_zst hS m1) s_94) p_12_1_12 zk_int ?_
        refine zw_push hm_167 dX12_fails_5 (v := .inl (3 : Int32)) rfl ?_
        refine zw_if0 hm_167 dX12_fails_6 (t := 13) rfl zc0_eq (fun hc => absurd hc (by decide)) (fun _ => ?_)
        refine zw_push hm_167 dX12_fails_9 (v := .inl (1 : Int32)) rfl ?_
        refine zw_goto hm_167 dX12_fails_10 (t := 14) rfl ?_
        refine zw_bret hm_167 dX12_fails_14 (by decide) ?_
        show ma_wp X d w 249 58 [(3, .inl v2), (0, .inr (.inr (some 94))), (1, .inl ob), (2, .inl ix)] [.inl (1 : Int32)] (ma_put (zst S m1) 94 0 (.inl (3 : Int32))) _
        refine zw_if0 hm_249 dX12_get_58 (t := 63) rfl zc0_eq (fun hc => absurd hc (by decide)) (fun _ => ?_)
        refine zw_push hm_249 dX12_get_61 (v := .inl (0 : Int32)) rfl ?_
        exact zw_iret hm_249 dX12_get_62 (HQ _ _ h)
      · intro hc
        rw [if_neg hc] at h
        refine zw_push hm_249 dX12_get_40 (v := .inl ix) rfl ?_
        refine zw_push hm_249 dX12_get_41 (v := .inr (.inr (some 94))) rfl ?_
        refine zw_gf hm_249 dX12_get_42 (v := .inr (.inr (some 102))) (zT_is (zT_zst hS m1) s_94) (zT_t (zT_zst hS m1) s_94) rfl f_12_37_12 (zT_f (zT_zst hS m1) r_94_34) ?_
        refine zw_push hm_249 dX12_get_45 (v := .inl v2) rfl ?_
        obtain ⟨hg, h⟩ := h
        refine zw_ia hm_249 dX12_get_46 (zT_is (zT_zst hS m1) s_102) (zT_h (zT_zst hS m1) s_102) rfl hg ?_
        show ma_wp X d w 249 47 [(3, .inl v2), (0, .inr (.inr (some 94))), (1, .inl ob), (2, .inl ix)] [.inl (m1 102 v2.toNatClampNeg), .inl ix, .inr (.inr (some 94))] (zst S m1) _
        refine zw_if2 hm_249 dX12_get_47 (t := 54) rfl zc2_lt ?_ ?_
        · intro hc
          rw [if_pos hc] at h
          refine zw_push hm_249 dX12_get_54 (v := .inl (0 : Int32)) rfl ?_
          refine zw_cv hm_249 dX12_get_55 v_12_110_12 hm_167 [.inl (0 : Int32)] [] rfl (zT_rt (zT_zst hS m1) s_94 rfl) ⟨by omega, by omega⟩ rfl ?_
          show ma_wp X (d - 1) (w - 21) 167 0 [(0, .inr (.inr (some 94))), (1, .inl (0 : Int32))] [] (zst S m1) _
          refine zw_push hm_167 dX12_fails_0 (v := .inr (.inr (some 94))) rfl ?_
          refine zw_push hm_167 dX12_fails_1 (v := .inl (0 : Int32)) rfl ?_
          refine zw_pf hm_167 dX12_fails_2 (zT_is (zT_zst hS m1) s_94) (zT_t (zT_zst hS m1) s_94) p_12_1_12 zk_int ?_
          refine zw_push hm_167 dX12_fails_5 (v := .inl (0 : Int32)) rfl ?_
          refine zw_if0 hm_167 dX12_fails_6 (t := 13) rfl zc0_eq (fun _ => ?_) (fun hc => absurd (by decide) hc)
          refine zw_push hm_167 dX12_fails_13 (v := .inl (0 : Int32)) rfl ?_
          refine zw_bret hm_167 dX12_fails_14 (by decide) ?_
          show ma_wp X d w 249 58 [(3, .inl v2), (0, .inr (.inr (some 94))), (1, .inl ob), (2, .inl ix)] [.inl (0 : Int32)] (ma_put (zst S m1) 94 0 (.inl (0 : Int32))) _
          refine zw_if0 hm_249 dX12_get_58 (t := 63) rfl zc0_eq (fun _ => ?_) (fun hc => absurd (by decide) hc)
          refine zw_push hm_249 dX12_get_63 (v := .inr (.inr (some 94))) rfl ?_
          refine zw_push hm_249 dX12_get_64 (v := .inl v2) rfl ?_
          refine zw_push hm_249 dX12_get_65 (v := .inl ix) rfl ?_
          refine zw_cv hm_249 dX12_get_66 v_12_288_12 hm_193 [.inl ix, .inl v2] [] rfl (zT_rt (zT_pi (zT_zst hS m1)) s_94 rfl) ⟨by omega, by omega⟩ rfl ?_
          show ma_wp X (d - 1) (w - 22) 193 0 [(0, .inr (.inr (some 94))), (1, .inl v2), (2, .inl ix)] [] (ma_put (zst S m1) 94 0 (.inl (0 : Int32))) _
          refine zw_push hm_193 dX12_isReference_0 (v := .inr (.inr (some 94))) rfl ?_
          refine zw_gf hm_193 dX12_isReference_1 (v := .inr (.inr (some 101))) (zT_is (zT_pi (zT_zst hS m1)) s_94) (zT_t (zT_pi (zT_zst hS m1)) s_94) rfl f_12_34_12 (zT_f (zT_pi (zT_zst hS m1)) r_94_33) ?_
          refine zw_push hm_193 dX12_isReference_4 (v := .inl v2) rfl ?_
          obtain ⟨hg, h⟩ := h
          refine zw_ia hm_193 dX12_isReference_5 (zT_is (zT_pi (zT_zst hS m1)) s_101) (zT_h (zT_pi (zT_zst hS m1)) s_101) rfl hg ?_
          show ma_wp X (d - 1) (w - 22) 193 6 [(0, .inr (.inr (some 94))), (1, .inl v2), (2, .inl ix)] [.inl (m1 101 v2.toNatClampNeg)] (ma_put (zst S m1) 94 0 (.inl (0 : Int32))) _
          refine zw_push hm_193 dX12_isReference_6 (v := .inl (16 : Int32)) rfl ?_
          refine zw_if2 hm_193 dX12_isReference_8 (t := 41) rfl zc2_eq ?_ ?_
          · intro hc
            rw [if_pos hc] at h
            refine zw_push hm_193 dX12_isReference_41 (v := .inl (1 : Int32)) rfl ?_
            refine zw_goto hm_193 dX12_isReference_42 (t := 46) rfl ?_
            refine zw_bret hm_193 dX12_isReference_46 (by decide) ?_
            show ma_wp X d w 249 69 [(3, .inl v2), (0, .inr (.inr (some 94))), (1, .inl ob), (2, .inl ix)] [.inl (1 : Int32)] (ma_put (zst S m1) 94 0 (.inl (0 : Int32))) _
            refine zw_if0 hm_249 dX12_get_69 (t := 90) rfl zc0_eq (fun hc => absurd hc (by decide)) (fun _ => ?_)
            refine zw_push hm_249 dX12_get_72 (v := .inr (.inr (some 94))) rfl ?_
            refine zw_push hm_249 dX12_get_73 (v := .inr (.inr (some 94))) rfl ?_
            refine zw_gf hm_249 dX12_get_74 (v := .inr (.inr (some 108))) (zT_is (zT_pi (zT_zst hS m1)) s_94) (zT_t (zT_pi (zT_zst hS m1)) s_94) rfl f_12_56_12 (zT_f (zT_pi (zT_zst hS m1)) r_94_40) ?_
            refine zw_push hm_249 dX12_get_77 (v := .inl v2) rfl ?_
            refine zw_push hm_249 dX12_get_78 (v := .inl (60 : Int32)) rfl ?_
            refine zw_stk hm_249 dX12_get_80 (st₉ := [.inl (v2 * (60 : Int32)), .inr (.inr (some 108)), .inr (.inr (some 94))]) rfl rfl ?_
            refine zw_push hm_249 dX12_get_81 (v := .inl ix) rfl ?_
            refine zw_stk hm_249 dX12_get_82 (st₉ := [.inl ((v2 * (60 : Int32)) + ix), .inr (.inr (some 108)), .inr (.inr (some 94))]) rfl rfl ?_
            obtain ⟨hg, h⟩ := h
            refine zw_ia hm_249 dX12_get_83 (zT_is (zT_pi (zT_zst hS m1)) s_108) (zT_h (zT_pi (zT_zst hS m1)) s_108) rfl hg ?_
            show ma_wp X d w 249 84 [(3, .inl v2), (0, .inr (.inr (some 94))), (1, .inl ob), (2, .inl ix)] [.inl (m1 108 ((v2 * (60 : Int32)) + ix).toNatClampNeg), .inr (.inr (some 94))] (ma_put (zst S m1) 94 0 (.inl (0 : Int32))) _
            refine zw_cv hm_249 dX12_get_84 v_12_502_12 hm_248 [.inl (m1 108 ((v2 * (60 : Int32)) + ix).toNatClampNeg)] [] rfl (zT_rt (zT_pi (zT_zst hS m1)) s_94 rfl) ⟨by omega, by omega⟩ rfl ?_
            show ma_wp X (d - 1) (w - 21) 248 0 [(0, .inr (.inr (some 94))), (1, .inl (m1 108 ((v2 * (60 : Int32)) + ix).toNatClampNeg))] [] (ma_put (zst S m1) 94 0 (.inl (0 : Int32))) _
            refine zw_push hm_248 dX12_numberOf_0 (v := .inl (m1 108 ((v2 * (60 : Int32)) + ix).toNatClampNeg)) rfl ?_
            refine zw_if0 hm_248 dX12_numberOf_1 (t := 8) rfl zc0_ge ?_ ?_
            · intro hc
              rw [if_pos hc] at h
              refine zw_push hm_248 dX12_numberOf_8 (v := .inr (.inr (some 94))) rfl ?_
              refine zw_gf hm_248 dX12_numberOf_9 (v := .inr (.inr (some 100))) (zT_is (zT_pi (zT_zst hS m1)) s_94) (zT_t (zT_pi (zT_zst hS m1)) s_94) rfl f_12_31_12 (zT_f (zT_pi (zT_zst hS m1)) r_94_32) ?_
              refine zw_push hm_248 dX12_numberOf_12 (v := .inl (m1 108 ((v2 * (60 : Int32)) + ix).toNatClampNeg)) rfl ?_
              obtain ⟨hg, h⟩ := h
              refine zw_ia hm_248 dX12_numberOf_13 (zT_is (zT_pi (zT_zst hS m1)) s_100) (zT_h (zT_pi (zT_zst hS m1)) s_100) rfl hg ?_
              show ma_wp X (d - 1) (w - 21) 248 14 [(0, .inr (.inr (some 94))), (1, .inl (m1 108 ((v2 * (60 : Int32)) + ix).toNatClampNeg))] [.inl (m1 100 (m1 108 ((v2 * (60 : Int32)) + ix).toNatClampNeg).toNatClampNeg)] (ma_put (zst S m1) 94 0 (.inl (0 : Int32))) _
              refine zw_iret hm_248 dX12_numberOf_14 ?_
              show ma_wp X d w 249 87 [(3, .inl v2), (0, .inr (.inr (some 94))), (1, .inl ob), (2, .inl ix)] [.inl (m1 100 (m1 108 ((v2 * (60 : Int32)) + ix).toNatClampNeg).toNatClampNeg)] (ma_put (zst S m1) 94 0 (.inl (0 : Int32))) _
              refine zw_goto hm_249 dX12_get_87 (t := 101) rfl ?_
              exact zw_iret hm_249 dX12_get_101 (HQ _ _ h)
            · intro hc
              rw [if_neg hc] at h
              refine zw_push hm_248 dX12_numberOf_4 (v := .inl (-1 : Int32)) rfl ?_
              refine zw_goto hm_248 dX12_numberOf_5 (t := 14) rfl ?_
              refine zw_iret hm_248 dX12_numberOf_14 ?_
              show ma_wp X d w 249 87 [(3, .inl v2), (0, .inr (.inr (some 94))), (1, .inl ob), (2, .inl ix)] [.inl (-1 : Int32)] (ma_put (zst S m1) 94 0 (.inl (0 : Int32))) _
              refine zw_goto hm_249 dX12_get_87 (t := 101) rfl ?_
              exact zw_iret hm_249 dX12_get_101 (HQ _ _ h)
          · intro hc
            rw [if_neg hc] at h
            refine zw_push hm_193 dX12_isReference_11 (v := .inr (.inr (some 94))) rfl ?_
            refine zw_gf hm_193 dX12_isReference_12 (v := .inr (.inr (some 101))) (zT_is (zT_pi (zT_zst hS m1)) s_94) (zT_t (zT_pi (zT_zst hS m1)) s_94) rfl f_12_34_12 (zT_f (zT_pi (zT_zst hS m1)) r_94_33) ?_
            refine zw_push hm_193 dX12_isReference_15 (v := .inl v2) rfl ?_
            obtain ⟨hg, h⟩ := h
            refine zw_ia hm_193 dX12_isReference_16 (zT_is (zT_pi (zT_zst hS m1)) s_101) (zT_h (zT_pi (zT_zst hS m1)) s_101) rfl hg ?_
            show ma_wp X (d - 1) (w - 22) 193 17 [(0, .inr (.inr (some 94))), (1, .inl v2), (2, .inl ix)] [.inl (m1 101 v2.toNatClampNeg)] (ma_put (zst S m1) 94 0 (.inl (0 : Int32))) _
            refine zw_push hm_193 dX12_isReference_17 (v := .inl (16 : Int32)) rfl ?_
            refine zw_if2 hm_193 dX12_isReference_19 (t := 45) rfl zc2_ge ?_ ?_
            · intro hc
              rw [if_pos hc] at h
              refine zw_push hm_193 dX12_isReference_45 (v := .inl (0 : Int32)) rfl ?_
              refine zw_bret hm_193 dX12_isReference_46 (by decide) ?_
              show ma_wp X d w 249 69 [(3, .inl v2), (0, .inr (.inr (some 94))), (1, .inl ob), (2, .inl ix)] [.inl (0 : Int32)] (ma_put (zst S m1) 94 0 (.inl (0 : Int32))) _
              refine zw_if0 hm_249 dX12_get_69 (t := 90) rfl zc0_eq (fun _ => ?_) (fun hc => absurd (by decide) hc)
              refine zw_push hm_249 dX12_get_90 (v := .inr (.inr (some 94))) rfl ?_
              refine zw_gf hm_249 dX12_get_91 (v := .inr (.inr (some 108))) (zT_is (zT_pi (zT_zst hS m1)) s_94) (zT_t (zT_pi (zT_zst hS m1)) s_94) rfl f_12_56_12 (zT_f (zT_pi (zT_zst hS m1)) r_94_40) ?_
              refine zw_push hm_249 dX12_get_94 (v := .inl v2) rfl ?_
              refine zw_push hm_249 dX12_get_95 (v := .inl (60 : Int32)) rfl ?_
              refine zw_stk hm_249 dX12_get_97 (st₉ := [.inl (v2 * (60 : Int32)), .inr (.inr (some 108))]) rfl rfl ?_
              refine zw_push hm_249 dX12_get_98 (v := .inl ix) rfl ?_
              refine zw_stk hm_249 dX12_get_99 (st₉ := [.inl ((v2 * (60 : Int32)) + ix), .inr (.inr (some 108))]) rfl rfl ?_
              obtain ⟨hg, h⟩ := h
              refine zw_ia hm_249 dX12_get_100 (zT_is (zT_pi (zT_zst hS m1)) s_108) (zT_h (zT_pi (zT_zst hS m1)) s_108) rfl hg ?_
              show ma_wp X d w 249 101 [(3, .inl v2), (0, .inr (.inr (some 94))), (1, .inl ob), (2, .inl ix)] [.inl (m1 108 ((v2 * (60 : Int32)) + ix).toNatClampNeg)] (ma_put (zst S m1) 94 0 (.inl (0 : Int32))) _
              exact zw_iret hm_249 dX12_get_101 (HQ _ _ h)
            · intro hc
              rw [if_neg hc] at h
              refine zw_push hm_193 dX12_isReference_22 (v := .inr (.inr (some 94))) rfl ?_
              refine zw_gf hm_193 dX12_isReference_23 (v := .inr (.inr (some 98))) (zT_is (zT_pi (zT_zst hS m1)) s_94) (zT_t (zT_pi (zT_zst hS m1)) s_94) rfl f_12_24_12 (zT_f (zT_pi (zT_zst hS m1)) r_94_6) ?_
              refine zw_push hm_193 dX12_isReference_26 (v := .inr (.inr (some 94))) rfl ?_
              refine zw_gf hm_193 dX12_isReference_27 (v := .inr (.inr (some 101))) (zT_is (zT_pi (zT_zst hS m1)) s_94) (zT_t (zT_pi (zT_zst hS m1)) s_94) rfl f_12_34_12 (zT_f (zT_pi (zT_zst hS m1)) r_94_33) ?_
              refine zw_push hm_193 dX12_isReference_30 (v := .inl v2) rfl ?_
              obtain ⟨hg, h⟩ := h
              refine zw_ia hm_193 dX12_isReference_31 (zT_is (zT_pi (zT_zst hS m1)) s_101) (zT_h (zT_pi (zT_zst hS m1)) s_101) rfl hg ?_
              show ma_wp X (d - 1) (w - 22) 193 32 [(0, .inr (.inr (some 94))), (1, .inl v2), (2, .inl ix)] [.inl (m1 101 v2.toNatClampNeg), .inr (.inr (some 98))] (ma_put (zst S m1) 94 0 (.inl (0 : Int32))) _
              obtain ⟨hg, h⟩ := h
              refine zw_ia hm_193 dX12_isReference_32 (zT_is (zT_pi (zT_zst hS m1)) s_98) (zT_h (zT_pi (zT_zst hS m1)) s_98) rfl hg ?_
              show ma_wp X (d - 1) (w - 22) 193 33 [(0, .inr (.inr (some 94))), (1, .inl v2), (2, .inl ix)] [.inl (m1 98 (m1 101 v2.toNatClampNeg).toNatClampNeg)] (ma_put (zst S m1) 94 0 (.inl (0 : Int32))) _
              refine zw_push hm_193 dX12_isReference_33 (v := .inl ix) rfl ?_
              refine zw_stk hm_193 dX12_isReference_34 (st₉ := [.inl ((m1 98 (m1 101 v2.toNatClampNeg).toNatClampNeg) >>> (ix &&& 31))]) rfl rfl ?_
              refine zw_push hm_193 dX12_isReference_35 (v := .inl (1 : Int32)) rfl ?_
              refine zw_stk hm_193 dX12_isReference_36 (st₉ := [.inl (((m1 98 (m1 101 v2.toNatClampNeg).toNatClampNeg) >>> (ix &&& 31)) &&& (1 : Int32))]) rfl rfl ?_
              refine zw_push hm_193 dX12_isReference_37 (v := .inl (1 : Int32)) rfl ?_
              refine zw_if2 hm_193 dX12_isReference_38 (t := 45) rfl zc2_ne ?_ ?_
              · intro hc
                rw [if_neg hc] at h
                refine zw_push hm_193 dX12_isReference_45 (v := .inl (0 : Int32)) rfl ?_
                refine zw_bret hm_193 dX12_isReference_46 (by decide) ?_
                show ma_wp X d w 249 69 [(3, .inl v2), (0, .inr (.inr (some 94))), (1, .inl ob), (2, .inl ix)] [.inl (0 : Int32)] (ma_put (zst S m1) 94 0 (.inl (0 : Int32))) _
                refine zw_if0 hm_249 dX12_get_69 (t := 90) rfl zc0_eq (fun _ => ?_) (fun hc => absurd (by decide) hc)
                refine zw_push hm_249 dX12_get_90 (v := .inr (.inr (some 94))) rfl ?_
                refine zw_gf hm_249 dX12_get_91 (v := .inr (.inr (some 108))) (zT_is (zT_pi (zT_zst hS m1)) s_94) (zT_t (zT_pi (zT_zst hS m1)) s_94) rfl f_12_56_12 (zT_f (zT_pi (zT_zst hS m1)) r_94_40) ?_
                refine zw_push hm_249 dX12_get_94 (v := .inl v2) rfl ?_
                refine zw_push hm_249 dX12_get_95 (v := .inl (60 : Int32)) rfl ?_
                refine zw_stk hm_249 dX12_get_97 (st₉ := [.inl (v2 * (60 : Int32)), .inr (.inr (some 108))]) rfl rfl ?_
                refine zw_push hm_249 dX12_get_98 (v := .inl ix) rfl ?_
                refine zw_stk hm_249 dX12_get_99 (st₉ := [.inl ((v2 * (60 : Int32)) + ix), .inr (.inr (some 108))]) rfl rfl ?_
                obtain ⟨hg, h⟩ := h
                refine zw_ia hm_249 dX12_get_100 (zT_is (zT_pi (zT_zst hS m1)) s_108) (zT_h (zT_pi (zT_zst hS m1)) s_108) rfl hg ?_
                show ma_wp X d w 249 101 [(3, .inl v2), (0, .inr (.inr (some 94))), (1, .inl ob), (2, .inl ix)] [.inl (m1 108 ((v2 * (60 : Int32)) + ix).toNatClampNeg)] (ma_put (zst S m1) 94 0 (.inl (0 : Int32))) _
                exact zw_iret hm_249 dX12_get_101 (HQ _ _ h)
              · intro hc
                rw [if_pos (Classical.not_not.mp hc)] at h
                refine zw_push hm_193 dX12_isReference_41 (v := .inl (1 : Int32)) rfl ?_
                refine zw_goto hm_193 dX12_isReference_42 (t := 46) rfl ?_
                refine zw_bret hm_193 dX12_isReference_46 (by decide) ?_
                show ma_wp X d w 249 69 [(3, .inl v2), (0, .inr (.inr (some 94))), (1, .inl ob), (2, .inl ix)] [.inl (1 : Int32)] (ma_put (zst S m1) 94 0 (.inl (0 : Int32))) _
                refine zw_if0 hm_249 dX12_get_69 (t := 90) rfl zc0_eq (fun hc => absurd hc (by decide)) (fun _ => ?_)
                refine zw_push hm_249 dX12_get_72 (v := .inr (.inr (some 94))) rfl ?_
                refine zw_push hm_249 dX12_get_73 (v := .inr (.inr (some 94))) rfl ?_
                refine zw_gf hm_249 dX12_get_74 (v := .inr (.inr (some 108))) (zT_is (zT_pi (zT_zst hS m1)) s_94) (zT_t (zT_pi (zT_zst hS m1)) s_94) rfl f_12_56_12 (zT_f (zT_pi (zT_zst hS m1)) r_94_40) ?_
                refine zw_push hm_249 dX12_get_77 (v := .inl v2) rfl ?_
                refine zw_push hm_249 dX12_get_78 (v := .inl (60 : Int32)) rfl ?_
                refine zw_stk hm_249 dX12_get_80 (st₉ := [.inl (v2 * (60 : Int32)), .inr (.inr (some 108)), .inr (.inr (some 94))]) rfl rfl ?_
                refine zw_push hm_249 dX12_get_81 (v := .inl ix) rfl ?_
                refine zw_stk hm_249 dX12_get_82 (st₉ := [.inl ((v2 * (60 : Int32)) + ix), .inr (.inr (some 108)), .inr (.inr (some 94))]) rfl rfl ?_
                obtain ⟨hg, h⟩ := h
                refine zw_ia hm_249 dX12_get_83 (zT_is (zT_pi (zT_zst hS m1)) s_108) (zT_h (zT_pi (zT_zst hS m1)) s_108) rfl hg ?_
                show ma_wp X d w 249 84 [(3, .inl v2), (0, .inr (.inr (some 94))), (1, .inl ob), (2, .inl ix)] [.inl (m1 108 ((v2 * (60 : Int32)) + ix).toNatClampNeg), .inr (.inr (some 94))] (ma_put (zst S m1) 94 0 (.inl (0 : Int32))) _
                refine zw_cv hm_249 dX12_get_84 v_12_502_12 hm_248 [.inl (m1 108 ((v2 * (60 : Int32)) + ix).toNatClampNeg)] [] rfl (zT_rt (zT_pi (zT_zst hS m1)) s_94 rfl) ⟨by omega, by omega⟩ rfl ?_
                show ma_wp X (d - 1) (w - 21) 248 0 [(0, .inr (.inr (some 94))), (1, .inl (m1 108 ((v2 * (60 : Int32)) + ix).toNatClampNeg))] [] (ma_put (zst S m1) 94 0 (.inl (0 : Int32))) _
                refine zw_push hm_248 dX12_numberOf_0 (v := .inl (m1 108 ((v2 * (60 : Int32)) + ix).toNatClampNeg)) rfl ?_
                refine zw_if0 hm_248 dX12_numberOf_1 (t := 8) rfl zc0_ge ?_ ?_
                · intro hc
                  rw [if_pos hc] at h
                  refine zw_push hm_248 dX12_numberOf_8 (v := .inr (.inr (some 94))) rfl ?_
                  refine zw_gf hm_248 dX12_numberOf_9 (v := .inr (.inr (some 100))) (zT_is (zT_pi (zT_zst hS m1)) s_94) (zT_t (zT_pi (zT_zst hS m1)) s_94) rfl f_12_31_12 (zT_f (zT_pi (zT_zst hS m1)) r_94_32) ?_
                  refine zw_push hm_248 dX12_numberOf_12 (v := .inl (m1 108 ((v2 * (60 : Int32)) + ix).toNatClampNeg)) rfl ?_
                  obtain ⟨hg, h⟩ := h
                  refine zw_ia hm_248 dX12_numberOf_13 (zT_is (zT_pi (zT_zst hS m1)) s_100) (zT_h (zT_pi (zT_zst hS m1)) s_100) rfl hg ?_
                  show ma_wp X (d - 1) (w - 21) 248 14 [(0, .inr (.inr (some 94))), (1, .inl (m1 108 ((v2 * (60 : Int32)) + ix).toNatClampNeg))] [.inl (m1 100 (m1 108 ((v2 * (60 : Int32)) + ix).toNatClampNeg).toNatClampNeg)] (ma_put (zst S m1) 94 0 (.inl (0 : Int32))) _
                  refine zw_iret hm_248 dX12_numberOf_14 ?_
                  show ma_wp X d w 249 87 [(3, .inl v2), (0, .inr (.inr (some 94))), (1, .inl ob), (2, .inl ix)] [.inl (m1 100 (m1 108 ((v2 * (60 : Int32)) + ix).toNatClampNeg).toNatClampNeg)] (ma_put (zst S m1) 94 0 (.inl (0 : Int32))) _
                  refine zw_goto hm_249 dX12_get_87 (t := 101) rfl ?_
                  exact zw_iret hm_249 dX12_get_101 (HQ _ _ h)
                · intro hc
                  rw [if_neg hc] at h
                  refine zw_push hm_248 dX12_numberOf_4 (v := .inl (-1 : Int32)) rfl ?_
                  refine zw_goto hm_248 dX12_numberOf_5 (t := 14) rfl ?_
                  refine zw_iret hm_248 dX12_numberOf_14 ?_
                  show ma_wp X d w 249 87 [(3, .inl v2), (0, .inr (.inr (some 94))), (1, .inl ob), (2, .inl ix)] [.inl (-1 : Int32)] (ma_put (zst S m1) 94 0 (.inl (0 : Int32))) _
                  refine zw_goto hm_249 dX12_get_87 (t := 101) rfl ?_
                  exact zw_iret hm_249 dX12_get_101 (HQ _ _ h)
        · intro hc
          rw [if_neg hc] at h
          refine zw_push hm_249 dX12_get_50 (v := .inl (3 : Int32)) rfl ?_
          refine zw_goto hm_249 dX12_get_51 (t := 55) rfl ?_
          refine zw_cv hm_249 dX12_get_55 v_12_110_12 hm_167 [.inl (3 : Int32)] [] rfl (zT_rt (zT_zst hS m1) s_94 rfl) ⟨by omega, by omega⟩ rfl ?_
          show ma_wp X (d - 1) (w - 21) 167 0 [(0, .inr (.inr (some 94))), (1, .inl (3 : Int32))] [] (zst S m1) _
          refine zw_push hm_167 dX12_fails_0 (v := .inr (.inr (some 94))) rfl ?_
          refine zw_push hm_167 dX12_fails_1 (v := .inl (3 : Int32)) rfl ?_
          refine zw_pf hm_167 dX12_fails_2 (zT_is (zT_zst hS m1) s_94) (zT_t (zT_zst hS m1) s_94) p_12_1_12 zk_int ?_
          refine zw_push hm_167 dX12_fails_5 (v := .inl (3 : Int32)) rfl ?_
          refine zw_if0 hm_167 dX12_fails_6 (t := 13) rfl zc0_eq (fun hc => absurd hc (by decide)) (fun _ => ?_)
          refine zw_push hm_167 dX12_fails_9 (v := .inl (1 : Int32)) rfl ?_
          refine zw_goto hm_167 dX12_fails_10 (t := 14) rfl ?_
          refine zw_bret hm_167 dX12_fails_14 (by decide) ?_
          show ma_wp X d w 249 58 [(3, .inl v2), (0, .inr (.inr (some 94))), (1, .inl ob), (2, .inl ix)] [.inl (1 : Int32)] (ma_put (zst S m1) 94 0 (.inl (3 : Int32))) _
          refine zw_if0 hm_249 dX12_get_58 (t := 63) rfl zc0_eq (fun hc => absurd hc (by decide)) (fun _ => ?_)
          refine zw_push hm_249 dX12_get_61 (v := .inl (0 : Int32)) rfl ?_
          exact zw_iret hm_249 dX12_get_62 (HQ _ _ h)
    · intro hc
      rw [if_neg hc] at h
      refine zw_push hm_249 dX12_get_32 (v := .inl (2 : Int32)) rfl ?_
      refine zw_goto hm_249 dX12_get_33 (t := 55) rfl ?_
      refine zw_cv hm_249 dX12_get_55 v_12_110_12 hm_167 [.inl (2 : Int32)] [] rfl (zT_rt (zT_zst hS m1) s_94 rfl) ⟨by omega, by omega⟩ rfl ?_
      show ma_wp X (d - 1) (w - 21) 167 0 [(0, .inr (.inr (some 94))), (1, .inl (2 : Int32))] [] (zst S m1) _
      refine zw_push hm_167 dX12_fails_0 (v := .inr (.inr (some 94))) rfl ?_
      refine zw_push hm_167 dX12_fails_1 (v := .inl (2 : Int32)) rfl ?_
      refine zw_pf hm_167 dX12_fails_2 (zT_is (zT_zst hS m1) s_94) (zT_t (zT_zst hS m1) s_94) p_12_1_12 zk_int ?_
      refine zw_push hm_167 dX12_fails_5 (v := .inl (2 : Int32)) rfl ?_
      refine zw_if0 hm_167 dX12_fails_6 (t := 13) rfl zc0_eq (fun hc => absurd hc (by decide)) (fun _ => ?_)
      refine zw_push hm_167 dX12_fails_9 (v := .inl (1 : Int32)) rfl ?_
      refine zw_goto hm_167 dX12_fails_10 (t := 14) rfl ?_
      refine zw_bret hm_167 dX12_fails_14 (by decide) ?_
      show ma_wp X d w 249 58 [(3, .inl v2), (0, .inr (.inr (some 94))), (1, .inl ob), (2, .inl ix)] [.inl (1 : Int32)] (ma_put (zst S m1) 94 0 (.inl (2 : Int32))) _
      refine zw_if0 hm_249 dX12_get_58 (t := 63) rfl zc0_eq (fun hc => absurd hc (by decide)) (fun _ => ?_)
      refine zw_push hm_249 dX12_get_61 (v := .inl (0 : Int32)) rfl ?_
      exact zw_iret hm_249 dX12_get_62 (HQ _ _ h)
  · intro hc
    rw [if_pos (Classical.not_not.mp hc)] at h
    refine zw_push hm_249 dX12_get_8 (v := .inl (1 : Int32)) rfl ?_
    refine zw_goto hm_249 dX12_get_9 (t := 13) rfl ?_
    refine zw_cv hm_249 dX12_get_13 v_12_110_12 hm_167 [.inl (1 : Int32)] [] rfl (zT_rt hS s_94 rfl) ⟨by omega, by omega⟩ rfl ?_
    show ma_wp X (d - 1) (w - 21) 167 0 [(0, .inr (.inr (some 94))), (1, .inl (1 : Int32))] [] S _
    refine zw_push hm_167 dX12_fails_0 (v := .inr (.inr (some 94))) rfl ?_
    refine zw_push hm_167 dX12_fails_1 (v := .inl (1 : Int32)) rfl ?_
    refine zw_pf hm_167 dX12_fails_2 (zT_is hS s_94) (zT_t hS s_94) p_12_1_12 zk_int ?_
    refine zw_push hm_167 dX12_fails_5 (v := .inl (1 : Int32)) rfl ?_
    refine zw_if0 hm_167 dX12_fails_6 (t := 13) rfl zc0_eq (fun hc => absurd hc (by decide)) (fun _ => ?_)
    refine zw_push hm_167 dX12_fails_9 (v := .inl (1 : Int32)) rfl ?_
    refine zw_goto hm_167 dX12_fails_10 (t := 14) rfl ?_
    refine zw_bret hm_167 dX12_fails_14 (by decide) ?_
    show ma_wp X d w 249 16 [(0, .inr (.inr (some 94))), (1, .inl ob), (2, .inl ix)] [.inl (1 : Int32)] (ma_put S 94 0 (.inl (1 : Int32))) _
    refine zw_if0 hm_249 dX12_get_16 (t := 21) rfl zc0_eq (fun hc => absurd hc (by decide)) (fun _ => ?_)
    refine zw_push hm_249 dX12_get_19 (v := .inl (0 : Int32)) rfl ?_
    exact zw_iret hm_249 dX12_get_20 (HQ _ _ h)
theorem sp_249 {X : Nat × (Nat → Int32)} {P : Option ma_V → (Nat → Nat → Int32) → Prop} {T : Nat} {m : Nat → Nat → Int32} (ob : Int32) (ix : Int32) (hV : zV m) (r_W : zW (m 94 7) (m 98) (m 101) (m 102) (m 108)) (r_GW : zGW T (m 94 55) (m 109)) (r_GU : zGU T (m 94 46) (m 99)) (r_OW : zOw (m 99) (m 103) (m 111)) (r_DX : zDX (m 94 10) (m 99) (m 112) (m 113) (m 114) (m 94 55) (m 98) (m 101) (m 102) (m 108)) (r_GG : zGG (m 94 58) (m 94 56) (m 94 57) (m 106)) (r_HA : zHA (m 94 10) (m 94 11) (m 94 13) (m 94 14) (m 94 16) (m 94 61) (m 94 59) (m 94 60) (m 99) (m 102) (m 103) (m 111) (m 117) (m 98) (m 101) (m 108)) (r_RGc : zRG (m 94 10) (m 94 18) (m 94 64) (m 94 63) (m 99) (m 103) (m 102) (m 116)) (hpre8 : (m 94 58).toInt = 0 ∨ (m 94 10).toInt = 5) (KZ : ∀ v m₉, zV (zov wr_249 m m₉) → (zW (m 94 7) (m 98) (m 101) (m 102) (m 108)) → (zGW T (m 94 55) (m 109)) → (zGU T (m 94 46) (m 99)) → (zOw (m 99) (m 103) (m 111)) → (zDX (m 94 10) (m 99) (m 112) (m 113) (m 114) (m 94 55) (m 98) (m 101) (m 102) (m 108)) → (zGG (m 94 58) (m 94 56) (m 94 57) (m 106)) → (zHA (m 94 10) (m 94 11) (m 94 13) (m 94 14) (m 94 16) (m 94 61) (m 94 59) (m 94 60) (m 99) (m 102) (m 103) (m 111) (m 117) (m 98) (m 101) (m 108)) → (zRG (m 94 10) (m 94 18) (m 94 64) (m 94 63) (m 99) (m 103) (m 102) (m 116)) → ((m 94 58).toInt = 0 ∨ (m 94 10).toInt = 5) → P (some (.inl v)) (zov wr_249 m m₉)) : zm X 5 109 249 0 [(0, .inr (.inr (some 94))), (1, .inl ob), (2, .inl ix)] m P := by
  have K : ∀ v m₉, zF wr_249 m m₉ → zV m₉ → (zW (m₉ 94 7) (m₉ 98) (m₉ 101) (m₉ 102) (m₉ 108)) → (zGW T (m₉ 94 55) (m₉ 109)) → (zGU T (m₉ 94 46) (m₉ 99)) → (zOw (m₉ 99) (m₉ 103) (m₉ 111)) → (zDX (m₉ 94 10) (m₉ 99) (m₉ 112) (m₉ 113) (m₉ 114) (m₉ 94 55) (m₉ 98) (m₉ 101) (m₉ 102) (m₉ 108)) → (zGG (m₉ 94 58) (m₉ 94 56) (m₉ 94 57) (m₉ 106)) → (zHA (m₉ 94 10) (m₉ 94 11) (m₉ 94 13) (m₉ 94 14) (m₉ 94 16) (m₉ 94 61) (m₉ 94 59) (m₉ 94 60) (m₉ 99) (m₉ 102) (m₉ 103) (m₉ 111) (m₉ 117) (m₉ 98) (m₉ 101) (m₉ 108)) → (zRG (m₉ 94 10) (m₉ 94 18) (m₉ 94 64) (m₉ 94 63) (m₉ 99) (m₉ 103) (m₉ 102) (m₉ 116)) → ((m₉ 94 58).toInt = 0 ∨ (m₉ 94 10).toInt = 5) → P (some (.inl v)) m₉ := by
    intro v m₉ hf z q0 q1 q2 q3 q4 q5 q6 q7 q8
    have e := zov_eq hf
    rw [e] at z ⊢
    try rw [e] at q0
    try rw [e] at q1
    try rw [e] at q2
    try rw [e] at q3
    try rw [e] at q4
    try rw [e] at q5
    try rw [e] at q6
    try rw [e] at q7
    try rw [e] at q8
    exact KZ v m₉ z q0 q1 q2 q3 q4 q5 q6 q7 q8
  refine g_249_0 ob ix ?_
  have f1 : 0 ≤ (m 94 58).toInt ∧ (m 94 58).toInt ≤ 1 := rs_94_58 (m := m) hV
  have f2 : 0 ≤ (m 94 10).toInt ∧ (m 94 10).toInt ≤ 6 := rs_94_10 (m := m) hV
  have f3 : 0 ≤ (m 94 8).toInt ∧ (m 94 8).toInt ≤ 1 := rs_94_8 (m := m) hV
  have li4 : (0 : Int32).toInt = 0 := rfl
  refine zd (fun (h5 : (m 94 8) = (0 : Int32)) => ?_) (fun (h5 : ¬ (m 94 8) = (0 : Int32)) => ?_)
  · skip
    have g6 := i_eq h5
    have hV7 : zV (ma_u m 94 0 (1 : Int32)) := uf_94_0 hV
    exact K ((0 : Int32)) _ (zF_u zF_rfl rfl) hV7 r_W r_GW r_GU r_OW r_DX r_GG r_HA r_RGc (show (m 94 58).toInt = 0 ∨ (m 94 10).toInt = 5 from by omega)
  · skip
    have g8 := i_ne h5
    have b9 := i_bd ob
    have hV10 : zV (ma_u m 94 0 (0 : Int32)) := uf_94_0 hV
    refine sp_245 (ob) hV10 r_W r_DX (fun v2 m1 hV_m1 p0_m1 p1_m1 => zmi_n ?_)
    have p0_m1 : -1 ≤ v2.toInt ∧ v2.toInt ≤ 3099 := p0_m1
    have p1_m1 : v2.toInt < 0 ∨ (m 99) v2.toNatClampNeg ≠ 0 := p1_m1
    have b11 := i_bd v2
    refine zd (fun (h12 : (0 : Int32) ≤ v2) => ?_) (fun (h12 : ¬ (0 : Int32) ≤ v2) => ?_)
    · skip
      have g13 := i_le h12
      have b14 := i_bd ix
      refine zd (fun (h15 : ix < (0 : Int32)) => ?_) (fun (h15 : ¬ ix < (0 : Int32)) => ?_)
      · skip
        have g16 := i_lt h15
        have hV17 : zV (ma_u (zov wr_245 (ma_u m 94 0 (0 : Int32)) m1) 94 0 (3 : Int32)) := uf_94_0 hV_m1
        exact K ((0 : Int32)) _ (zF_u (zF_zov (zF_u zF_rfl rfl) ws_245_249) rfl) hV17 r_W r_GW r_GU r_OW r_DX r_GG r_HA r_RGc (show (m 94 58).toInt = 0 ∨ (m 94 10).toInt = 5 from by omega)
      · skip
        have g18 := i_nlt h15
        have hg19 : (0 ≤ v2 ∧ v2.toNatClampNeg < 3100) := i_ix (by omega) (by omega)
        refine ⟨hg19, ?_⟩
        first | have f20 : 0 ≤ (m 102 v2.toNatClampNeg).toInt ∧ (m 102 v2.toNatClampNeg).toInt ≤ 60 := ra_102 (m := m) hV (k := v2.toNatClampNeg) (i_ix (n := 3100) (by omega) (by omega)).2 | have b21 := i_bd (m 102 v2.toNatClampNeg)
        refine zd (fun (h22 : ix < (m 102 v2.toNatClampNeg)) => ?_) (fun (h22 : ¬ ix < (m 102 v2.toNatClampNeg)) => ?_)
        · skip
          have g23 := i_lt h22
          have hg24 : (0 ≤ v2 ∧ v2.toNatClampNeg < 3100) := i_ix (by omega) (by omega)
          refine ⟨hg24, ?_⟩
          first | have f25 : 0 ≤ (m 101 v2.toNatClampNeg).toInt ∧ (m 101 v2.toNatClampNeg).toInt ≤ 17 := ra_101 (m := m) hV (k := v2.toNatClampNeg) (i_ix (n := 3100) (by omega) (by omega)).2 | have b26 := i_bd (m 101 v2.toNatClampNeg)
          have li27 : (16 : Int32).toInt = 16 := rfl
          refine zd (fun (h28 : (m 101 v2.toNatClampNeg) = (16 : Int32)) => ?_) (fun (h28 : ¬ (m 101 v2.toNatClampNeg) = (16 : Int32)) => ?_)
          · skip
            have g29 := i_eq h28
            have li30 : (60 : Int32).toInt = 60 := rfl
            first | have e31 : (v2 * (60 : Int32)).toInt = v2.toInt * 60 := i_mulk rfl (by omega) (by omega) | have b32 := i_bd (v2 * (60 : Int32))
            first | have e33 : ((v2 * (60 : Int32)) + ix).toInt = (v2 * (60 : Int32)).toInt + ix.toInt := i_add (by omega) (by omega) | have b34 := i_bd ((v2 * (60 : Int32)) + ix)
            have hg35 : (0 ≤ ((v2 * (60 : Int32)) + ix) ∧ ((v2 * (60 : Int32)) + ix).toNatClampNeg < 186000) := i_ix (by omega) (by omega)
            refine ⟨hg35, ?_⟩
            have b36 := i_bd (m 108 ((v2 * (60 : Int32)) + ix).toNatClampNeg)
            refine zd (fun (h37 : (0 : Int32) ≤ (m 108 ((v2 * (60 : Int32)) + ix).toNatClampNeg)) => ?_) (fun (h37 : ¬ (0 : Int32) ≤ (m 108 ((v2 * (60 : Int32)) + ix).toNatClampNeg)) => ?_)
            · skip
              have g38 := i_le h37
              try have ww := W_w1 r_W (s := v2) (i := ix) (by omega) (by omega) (by omega) (by omega) (by omega) (by assumption)
              try have ww := W_w2 r_W (s := v2) (i := ix) (by omega) (by omega) (by omega) (by omega) (by omega) (by assumption) (by assumption) (by assumption)
              have hg39 : (0 ≤ (m 108 ((v2 * (60 : Int32)) + ix).toNatClampNeg) ∧ (m 108 ((v2 * (60 : Int32)) + ix).toNatClampNeg).toNatClampNeg < 3100) := i_ix (by omega) (by omega)
              refine ⟨hg39, ?_⟩
              have hV40 : zV (ma_u (zov wr_245 (ma_u m 94 0 (0 : Int32)) m1) 94 0 (0 : Int32)) := uf_94_0 hV_m1
              first | have f41 : 0 ≤ (m 100 (m 108 ((v2 * (60 : Int32)) + ix).toNatClampNeg).toNatClampNeg).toInt ∧ (m 100 (m 108 ((v2 * (60 : Int32)) + ix).toNatClampNeg).toNatClampNeg).toInt ≤ 100000 := ra_100 (m := m) hV (k := (m 108 ((v2 * (60 : Int32)) + ix).toNatClampNeg).toNatClampNeg) (i_ix (n := 3100) (by omega) (by omega)).2 | have b42 := i_bd (m 100 (m 108 ((v2 * (60 : Int32)) + ix).toNatClampNeg).toNatClampNeg)
              exact K ((m 100 (m 108 ((v2 * (60 : Int32)) + ix).toNatClampNeg).toNatClampNeg)) _ (zF_u (zF_zov (zF_u zF_rfl rfl) ws_245_249) rfl) hV40 r_W r_GW r_GU r_OW r_DX r_GG r_HA r_RGc (show (m 94 58).toInt = 0 ∨ (m 94 10).toInt = 5 from by omega)
            · skip
              have g43 := i_nle h37
              have hV44 : zV (ma_u (zov wr_245 (ma_u m 94 0 (0 : Int32)) m1) 94 0 (0 : Int32)) := uf_94_0 hV_m1
              have li45 : (-1 : Int32).toInt = -1 := rfl
              exact K ((-1 : Int32)) _ (zF_u (zF_zov (zF_u zF_rfl rfl) ws_245_249) rfl) hV44 r_W r_GW r_GU r_OW r_DX r_GG r_HA r_RGc (show (m 94 58).toInt = 0 ∨ (m 94 10).toInt = 5 from by omega)
          · skip
            have g46 := i_ne h28
            have hg47 : (0 ≤ v2 ∧ v2.toNatClampNeg < 3100) := i_ix (by omega) (by omega)
            refine ⟨hg47, ?_⟩
            refine zd (fun (h48 : (16 : Int32) ≤ (m 101 v2.toNatClampNeg)) => ?_) (fun (h48 : ¬ (16 : Int32) ≤ (m 101 v2.toNatClampNeg)) => ?_)
            · skip
              have g49 := i_le h48
              have li50 : (60 : Int32).toInt = 60 := rfl
              first | have e51 : (v2 * (60 : Int32)).toInt = v2.toInt * 60 := i_mulk rfl (by omega) (by omega) | have b52 := i_bd (v2 * (60 : Int32))
              first | have e53 : ((v2 * (60 : Int32)) + ix).toInt = (v2 * (60 : Int32)).toInt + ix.toInt := i_add (by omega) (by omega) | have b54 := i_bd ((v2 * (60 : Int32)) + ix)
              have hg55 : (0 ≤ ((v2 * (60 : Int32)) + ix) ∧ ((v2 * (60 : Int32)) + ix).toNatClampNeg < 186000) := i_ix (by omega) (by omega)
              refine ⟨hg55, ?_⟩
              have hV56 : zV (ma_u (zov wr_245 (ma_u m 94 0 (0 : Int32)) m1) 94 0 (0 : Int32)) := uf_94_0 hV_m1
              have b57 := i_bd (m 108 ((v2 * (60 : Int32)) + ix).toNatClampNeg)
              exact K ((m 108 ((v2 * (60 : Int32)) + ix).toNatClampNeg)) _ (zF_u (zF_zov (zF_u zF_rfl rfl) ws_245_249) rfl) hV56 r_W r_GW r_GU r_OW r_DX r_GG r_HA r_RGc (show (m 94 58).toInt = 0 ∨ (m 94 10).toInt = 5 from by omega)
            · skip
              have g58 := i_nle h48
              have hg59 : (0 ≤ v2 ∧ v2.toNatClampNeg < 3100) := i_ix (by omega) (by omega)
              refine ⟨hg59, ?_⟩
              have hg60 : (0 ≤ (m 101 v2.toNatClampNeg) ∧ (m 101 v2.toNatClampNeg).toNatClampNeg < 16) := i_ix (by omega) (by omega)
              refine ⟨hg60, ?_⟩
              have b61 := i_bd (((m 98 (m 101 v2.toNatClampNeg).toNatClampNeg) >>> (ix &&& 31)) &&& (1 : Int32))
              have li62 : (1 : Int32).toInt = 1 := rfl
              refine zd (fun (h63 : (((m 98 (m 101 v2.toNatClampNeg).toNatClampNeg) >>> (ix &&& 31)) &&& (1 : Int32)) = (1 : Int32)) => ?_) (fun (h63 : ¬ (((m 98 (m 101 v2.toNatClampNeg).toNatClampNeg) >>> (ix &&& 31)) &&& (1 : Int32)) = (1 : Int32)) => ?_)
              · skip
                have g64 := i_eq h63
                have li65 : (60 : Int32).toInt = 60 := rfl
                first | have e66 : (v2 * (60 : Int32)).toInt = v2.toInt * 60 := i_mulk rfl (by omega) (by omega) | have b67 := i_bd (v2 * (60 : Int32))
                first | have e68 : ((v2 * (60 : Int32)) + ix).toInt = (v2 * (60 : Int32)).toInt + ix.toInt := i_add (by omega) (by omega) | have b69 := i_bd ((v2 * (60 : Int32)) + ix)
                have hg70 : (0 ≤ ((v2 * (60 : Int32)) + ix) ∧ ((v2 * (60 : Int32)) + ix).toNatClampNeg < 186000) := i_ix (by omega) (by omega)
                refine ⟨hg70, ?_⟩
                have b71 := i_bd (m 108 ((v2 * (60 : Int32)) + ix).toNatClampNeg)
                refine zd (fun (h72 : (0 : Int32) ≤ (m 108 ((v2 * (60 : Int32)) + ix).toNatClampNeg)) => ?_) (fun (h72 : ¬ (0 : Int32) ≤ (m 108 ((v2 * (60 : Int32)) + ix).toNatClampNeg)) => ?_)
                · skip
                  have g73 := i_le h72
                  try have ww := W_w1 r_W (s := v2) (i := ix) (by omega) (by omega) (by omega) (by omega) (by omega) (by assumption)
                  try have ww := W_w2 r_W (s := v2) (i := ix) (by omega) (by omega) (by omega) (by omega) (by omega) (by assumption) (by assumption) (by assumption)
                  have hg74 : (0 ≤ (m 108 ((v2 * (60 : Int32)) + ix).toNatClampNeg) ∧ (m 108 ((v2 * (60 : Int32)) + ix).toNatClampNeg).toNatClampNeg < 3100) := i_ix (by omega) (by omega)
                  refine ⟨hg74, ?_⟩
                  have hV75 : zV (ma_u (zov wr_245 (ma_u m 94 0 (0 : Int32)) m1) 94 0 (0 : Int32)) := uf_94_0 hV_m1
                  first | have f76 : 0 ≤ (m 100 (m 108 ((v2 * (60 : Int32)) + ix).toNatClampNeg).toNatClampNeg).toInt ∧ (m 100 (m 108 ((v2 * (60 : Int32)) + ix).toNatClampNeg).toNatClampNeg).toInt ≤ 100000 := ra_100 (m := m) hV (k := (m 108 ((v2 * (60 : Int32)) + ix).toNatClampNeg).toNatClampNeg) (i_ix (n := 3100) (by omega) (by omega)).2 | have b77 := i_bd (m 100 (m 108 ((v2 * (60 : Int32)) + ix).toNatClampNeg).toNatClampNeg)
                  exact K ((m 100 (m 108 ((v2 * (60 : Int32)) + ix).toNatClampNeg).toNatClampNeg)) _ (zF_u (zF_zov (zF_u zF_rfl rfl) ws_245_249) rfl) hV75 r_W r_GW r_GU r_OW r_DX r_GG r_HA r_RGc (show (m 94 58).toInt = 0 ∨ (m 94 10).toInt = 5 from by omega)
                · skip
                  have g78 := i_nle h72
                  have hV79 : zV (ma_u (zov wr_245 (ma_u m 94 0 (0 : Int32)) m1) 94 0 (0 : Int32)) := uf_94_0 hV_m1
                  have li80 : (-1 : Int32).toInt = -1 := rfl
                  exact K ((-1 : Int32)) _ (zF_u (zF_zov (zF_u zF_rfl rfl) ws_245_249) rfl) hV79 r_W r_GW r_GU r_OW r_DX r_GG r_HA r_RGc (show (m 94 58).toInt = 0 ∨ (m 94 10).toInt = 5 from by omega)
              · skip
                have g81 := i_ne h63
                have li82 : (60 : Int32).toInt = 60 := rfl
                first | have e83 : (v2 * (60 : Int32)).toInt = v2.toInt * 60 := i_mulk rfl (by omega) (by omega) | have b84 := i_bd (v2 * (60 : Int32))
                first | have e85 : ((v2 * (60 : Int32)) + ix).toInt = (v2 * (60 : Int32)).toInt + ix.toInt := i_add (by omega) (by omega) | have b86 := i_bd ((v2 * (60 : Int32)) + ix)
                have hg87 : (0 ≤ ((v2 * (60 : Int32)) + ix) ∧ ((v2 * (60 : Int32)) + ix).toNatClampNeg < 186000) := i_ix (by omega) (by omega)
                refine ⟨hg87, ?_⟩
                have hV88 : zV (ma_u (zov wr_245 (ma_u m 94 0 (0 : Int32)) m1) 94 0 (0 : Int32)) := uf_94_0 hV_m1
                have b89 := i_bd (m 108 ((v2 * (60 : Int32)) + ix).toNatClampNeg)
                exact K ((m 108 ((v2 * (60 : Int32)) + ix).toNatClampNeg)) _ (zF_u (zF_zov (zF_u zF_rfl rfl) ws_245_249) rfl) hV88 r_W r_GW r_GU r_OW r_DX r_GG r_HA r_RGc (show (m 94 58).toInt = 0 ∨ (m 94 10).toInt = 5 from by omega)
        · skip
          have g90 := i_nlt h22
          have hV91 : zV (ma_u (zov wr_245 (ma_u m 94 0 (0 : Int32)) m1) 94 0 (3 : Int32)) := uf_94_0 hV_m1
          exact K ((0 : Int32)) _ (zF_u (zF_zov (zF_u zF_rfl rfl) ws_245_249) rfl) hV91 r_W r_GW r_GU r_OW r_DX r_GG r_HA r_RGc (show (m 94 58).toInt = 0 ∨ (m 94 10).toInt = 5 from by omega)
    · skip
      have g92 := i_nle h12
      have hV93 : zV (ma_u (zov wr_245 (ma_u m 94 0 (0 : Int32)) m1) 94 0 (2 : Int32)) := uf_94_0 hV_m1
      exact K ((0 : Int32)) _ (zF_u (zF_zov (zF_u zF_rfl rfl) ws_245_249) rfl) hV93 r_W r_GW r_GU r_OW r_DX r_GG r_HA r_RGc (show (m 94 58).toInt = 0 ∨ (m 94 10).toInt = 5 from by omega)

