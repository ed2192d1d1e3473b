/-! from 94.460 -/
/-! the reference (written by wip/tools/gen94m.py) -/
set_option maxRecDepth 100000 in
theorem hm_257 : ma_md 257 = some (12, yX12_step, cX12_step, 4, (some (FieldType.int))) := rfl
theorem dX12_step_0 : decode cX12_step 0 = .ok (.aload_n 0, 1) := by decide +kernel
theorem dX12_step_1 : decode cX12_step 1 = .ok (.iload_n 1, 1) := by decide +kernel
theorem dX12_step_12 : decode cX12_step 12 = .ok (.iconst 1, 1) := by decide +kernel
theorem dX12_step_13 : decode cX12_step 13 = .ok (.goto 27, 3) := by decide +kernel
theorem dX12_step_40 : decode cX12_step 40 = .ok (.invokevirtual 110, 3) := by decide +kernel
theorem dX12_step_43 : decode cX12_step 43 = .ok (.ifCond .eq 5, 3) := by decide +kernel
theorem dX12_step_46 : decode cX12_step 46 = .ok (.iconst 0, 1) := by decide +kernel
theorem dX12_step_47 : decode cX12_step 47 = .ok (.ireturn, 1) := by decide +kernel
theorem dX12_step_5 : decode cX12_step 5 = .ok (.iload_n 1, 1) := by decide +kernel
theorem dX12_step_6 : decode cX12_step 6 = .ok (.sipush 1000, 3) := by decide +kernel
theorem dX12_step_16 : decode cX12_step 16 = .ok (.aload_n 0, 1) := by decide +kernel
theorem dX12_step_27 : decode cX12_step 27 = .ok (.aload_n 0, 1) := by decide +kernel
theorem dX12_step_31 : decode cX12_step 31 = .ok (.iconst 5, 1) := by decide +kernel
theorem dX12_step_39 : decode cX12_step 39 = .ok (.iconst 0, 1) := by decide +kernel
theorem dX12_step_48 : decode cX12_step 48 = .ok (.aload_n 0, 1) := by decide +kernel
theorem dX12_step_57 : decode cX12_step 57 = .ok (.aload_n 0, 1) := by decide +kernel
theorem dX12_step_58 : decode cX12_step 58 = .ok (.iload_n 1, 1) := by decide +kernel
theorem dX12_step_59 : decode cX12_step 59 = .ok (.invokevirtual 402, 3) := by decide +kernel
theorem dX12_step_62 : decode cX12_step 62 = .ok (.istore_n 2, 1) := by decide +kernel
theorem dX12_step_63 : decode cX12_step 63 = .ok (.aload_n 0, 1) := by decide +kernel
theorem dX12_step_64 : decode cX12_step 64 = .ok (.invokevirtual 405, 3) := by decide +kernel
theorem dX12_step_67 : decode cX12_step 67 = .ok (.istore_n 3, 1) := by decide +kernel
theorem dX12_step_68 : decode cX12_step 68 = .ok (.iload_n 2, 1) := by decide +kernel
theorem dX12_step_69 : decode cX12_step 69 = .ok (.ireturn, 1) := by decide +kernel
theorem dX12_step_55 : decode cX12_step 55 = .ok (.iconst 0, 1) := by decide +kernel
theorem dX12_step_56 : decode cX12_step 56 = .ok (.ireturn, 1) := by decide +kernel
theorem dX12_step_52 : decode cX12_step 52 = .ok (.ifCond .ne 5, 3) := by decide +kernel
theorem dX12_step_49 : decode cX12_step 49 = .ok (.getfield 270, 3) := by decide +kernel
theorem dX12_step_35 : decode cX12_step 35 = .ok (.iconst 3, 1) := by decide +kernel
theorem dX12_step_36 : decode cX12_step 36 = .ok (.goto 4, 3) := by decide +kernel
theorem dX12_step_32 : decode cX12_step 32 = .ok (.if_icmp .eq 7, 3) := by decide +kernel
theorem dX12_step_28 : decode cX12_step 28 = .ok (.getfield 199, 3) := by decide +kernel
theorem dX12_step_23 : decode cX12_step 23 = .ok (.iconst 2, 1) := by decide +kernel
theorem dX12_step_24 : decode cX12_step 24 = .ok (.goto 16, 3) := by decide +kernel
theorem dX12_step_20 : decode cX12_step 20 = .ok (.ifCond .ne 7, 3) := by decide +kernel
theorem dX12_step_17 : decode cX12_step 17 = .ok (.getfield 237, 3) := by decide +kernel
theorem dX12_step_9 : decode cX12_step 9 = .ok (.if_icmp .le 7, 3) := by decide +kernel
theorem dX12_step_2 : decode cX12_step 2 = .ok (.ifCond .lt 10, 3) := by decide +kernel
def wr_257 (c k : Nat) : Bool := Nat.beq c 99 || Nat.beq c 105 || Nat.beq c 106 || Nat.beq c 109 || Nat.beq c 110 || Nat.beq c 111 || Nat.beq c 113 || Nat.beq c 114 || Nat.beq c 115 || Nat.beq c 118 || (Nat.beq c 94 && (Nat.beq k 0 || Nat.beq k 44 || Nat.beq k 45 || Nat.beq k 47 || Nat.beq k 49 || Nat.beq k 55 || Nat.beq k 56 || Nat.beq k 57 || Nat.beq k 58 || Nat.beq k 73))
theorem ws_222_257 : ∀ c k, wr_222 c k = true → wr_257 c k = true := by
  intro c k h
  simp only [wr_222, wr_257, Bool.or_eq_true, Bool.and_eq_true, Nat.beq_eq] at h ⊢
  omega
theorem ws_223_257 : ∀ c k, wr_223 c k = true → wr_257 c k = true := by
  intro c k h
  simp only [wr_223, wr_257, Bool.or_eq_true, Bool.and_eq_true, Nat.beq_eq] at h ⊢
  omega
theorem g_257_0 {X : Nat × (Nat → Int32)} {m : Nat → Nat → Int32} {P : Option ma_V → (Nat → Nat → Int32) → Prop} (nn : Int32) (h : if nn < 0 then (P (some (.inl (0 : Int32))) (ma_u m 94 0 (1 : Int32))) else (if nn ≤ (1000 : Int32) then (if (m 94 8) = 0 then (P (some (.inl (0 : Int32))) (ma_u m 94 0 (2 : Int32))) else (if (m 94 10) = (5 : Int32) then (if (m 94 58) = 0 then (P (some (.inl (0 : Int32))) (ma_u m 94 0 (0 : Int32))) else (zm X 2 44 222 0 [(0, .inr (.inr (some 94))), (1, .inl nn)] (ma_u m 94 0 (0 : Int32)) (zmi (fun v2 m1 => zm X 4 88 223 0 [(0, .inr (.inr (some 94)))] m1 (zmi (fun v4 m3 => P (some (.inl v2)) m3)))))) else (P (some (.inl (0 : Int32))) (ma_u m 94 0 (3 : Int32))))) else (P (some (.inl (0 : Int32))) (ma_u m 94 0 (1 : Int32))))) : zm X 5 109 257 0 [(0, .inr (.inr (some 94))), (1, .inl nn)] m P := by
  intro d w S Q hd hw hS hm HQ
  subst hm
  refine zw_push hm_257 dX12_step_0 (v := .inr (.inr (some 94))) rfl ?_
  refine zw_push hm_257 dX12_step_1 (v := .inl nn) rfl ?_
  refine zw_if0 hm_257 dX12_step_2 (t := 12) rfl zc0_lt ?_ ?_
  · intro hc
    rw [if_pos hc] at h
    refine zw_push hm_257 dX12_step_12 (v := .inl (1 : Int32)) rfl ?_
    refine zw_goto hm_257 dX12_step_13 (t := 40) rfl ?_
    refine zw_cv hm_257 dX12_step_40 v_12_110_12 hm_167 [.inl (1 : Int32)] [] rfl (zT_rt hS s_94 rfl) ⟨by omega, by omega⟩ rfl ?_
    show ma_wp X (d - 1) (w - 21) 167 0 [(0, .inr (.inr (some 94))), (1, .inl (1 : Int32))] [] S _
    refine zw_push hm_167 dX12_fails_0 (v := .inr (.inr (some 94))) rfl ?_
    refine zw_push hm_167 dX12_fails_1 (v := .inl (1 : Int32)) rfl ?_
    refine zw_pf hm_167 dX12_fails_2 (zT_is hS s_94) (zT_t hS s_94) p_12_1_12 zk_int ?_
    refine zw_push hm_167 dX12_fails_5 (v := .inl (1 : Int32)) rfl ?_
    refine zw_if0 hm_167 dX12_fails_6 (t := 13) rfl zc0_eq (fun hc => absurd hc (by decide)) (fun _ => ?_)
    refine zw_push hm_167 dX12_fails_9 (v := .inl (1 : Int32)) rfl ?_
    refine zw_goto hm_167 dX12_fails_10 (t := 14) rfl ?_
    refine zw_bret hm_167 dX12_fails_14 (by decide) ?_
    show ma_wp X d w 257 43 [(0, .inr (.inr (some 94))), (1, .inl nn)] [.inl (1 : Int32)] (ma_put S 94 0 (.inl (1 : Int32))) _
    refine zw_if0 hm_257 dX12_step_43 (t := 48) rfl zc0_eq (fun hc => absurd hc (by decide)) (fun _ => ?_)
    refine zw_push hm_257 dX12_step_46 (v := .inl (0 : Int32)) rfl ?_
    exact zw_iret hm_257 dX12_step_47 (HQ _ _ h)
  · intro hc
    rw [if_neg hc] at h
    refine zw_push hm_257 dX12_step_5 (v := .inl nn) rfl ?_
    refine zw_push hm_257 dX12_step_6 (v := .inl (1000 : Int32)) rfl ?_
    refine zw_if2 hm_257 dX12_step_9 (t := 16) rfl zc2_le ?_ ?_
    · intro hc
      rw [if_pos hc] at h
      refine zw_push hm_257 dX12_step_16 (v := .inr (.inr (some 94))) rfl ?_
      refine zw_gf hm_257 dX12_step_17 (v := .inl ((mI S) 94 8)) (zT_is hS s_94) (zT_t hS s_94) rfl f_12_237_12 rfl ?_
      refine zw_if0 hm_257 dX12_step_20 (t := 27) rfl zc0_ne ?_ ?_
      · intro hc
        rw [if_neg hc] at h
        refine zw_push hm_257 dX12_step_27 (v := .inr (.inr (some 94))) rfl ?_
        refine zw_gf hm_257 dX12_step_28 (v := .inl ((mI S) 94 10)) (zT_is hS s_94) (zT_t hS s_94) rfl f_12_199_12 rfl ?_
        refine zw_push hm_257 dX12_step_31 (v := .inl (5 : Int32)) rfl ?_
        refine zw_if2 hm_257 dX12_step_32 (t := 39) rfl zc2_eq ?_ ?_
        · intro hc
          rw [if_pos hc] at h
          refine zw_push hm_257 dX12_step_39 (v := .inl (0 : Int32)) rfl ?_
          refine zw_cv hm_257 dX12_step_40 v_12_110_12 hm_167 [.inl (0 : Int32)] [] rfl (zT_rt hS s_94 rfl) ⟨by omega, by omega⟩ rfl ?_
          show ma_wp X (d - 1) (w - 21) 167 0 [(0, .inr (.inr (some 94))), (1, .inl (0 : Int32))] [] S _
          refine zw_push hm_167 dX12_fails_0 (v := .inr (.inr (some 94))) rfl ?_
          refine zw_push hm_167 dX12_fails_1 (v := .inl (0 : Int32)) rfl ?_
          refine zw_pf hm_167 dX12_fails_2 (zT_is hS s_94) (zT_t hS s_94) p_12_1_12 zk_int ?_
          refine zw_push hm_167 dX12_fails_5 (v := .inl (0 : Int32)) rfl ?_
          refine zw_if0 hm_167 dX12_fails_6 (t := 13) rfl zc0_eq (fun _ => ?_) (fun hc => absurd (by decide) hc)
          refine zw_push hm_167 dX12_fails_13 (v := .inl (0 : Int32)) rfl ?_
          refine zw_bret hm_167 dX12_fails_14 (by decide) ?_
          show ma_wp X d w 257 43 [(0, .inr (.inr (some 94))), (1, .inl nn)] [.inl (0 : Int32)] (ma_put S 94 0 (.inl (0 : Int32))) _
          refine zw_if0 hm_257 dX12_step_43 (t := 48) rfl zc0_eq (fun _ => ?_) (fun hc => absurd (by decide) hc)
          refine zw_push hm_257 dX12_step_48 (v := .inr (.inr (some 94))) rfl ?_
          refine zw_gf hm_257 dX12_step_49 (v := .inl ((mI S) 94 58)) (zT_is (zT_pi hS) s_94) (zT_t (zT_pi hS) s_94) rfl f_12_270_12 rfl ?_
          refine zw_if0 hm_257 dX12_step_52 (t := 57) rfl zc0_ne ?_ ?_
          · intro hc
            rw [if_neg hc] at h
            refine zw_push hm_257 dX12_step_57 (v := .inr (.inr (some 94))) rfl ?_
            refine zw_push hm_257 dX12_step_58 (v := .inl nn) rfl ?_
            refine zw_cv hm_257 dX12_step_59 v_12_402_12 hm_222 [.inl nn] [] rfl (zT_rt (zT_pi hS) s_94 rfl) ⟨by omega, by omega⟩ rfl (h _ _ (ma_put S 94 0 (.inl (0 : Int32))) _ (by omega) (by omega) (zT_pi hS) rfl (fun o9 m1 hv => ?_))
            obtain ⟨v2, rfl, h⟩ := zmi_of hv
            show ma_wp X d w 257 62 [(0, .inr (.inr (some 94))), (1, .inl nn)] [.inl v2] (zst S m1) _
            refine zw_sto hm_257 dX12_step_62 [(2, .inl v2), (0, .inr (.inr (some 94))), (1, .inl nn)] rfl rfl rfl ?_
            refine zw_push hm_257 dX12_step_63 (v := .inr (.inr (some 94))) rfl ?_
            refine zw_cv hm_257 dX12_step_64 v_12_405_12 hm_223 [] [] rfl (zT_rt (zT_zst hS m1) s_94 rfl) ⟨by omega, by omega⟩ rfl (h _ _ (zst S m1) _ (by omega) (by omega) (zT_zst hS m1) rfl (fun o9 m3 hv => ?_))
            obtain ⟨v4, rfl, h⟩ := zmi_of hv
            show ma_wp X d w 257 67 [(2, .inl v2), (0, .inr (.inr (some 94))), (1, .inl nn)] [.inl v4] (zst S m3) _
            refine zw_sto hm_257 dX12_step_67 [(3, .inl v4), (2, .inl v2), (0, .inr (.inr (some 94))), (1, .inl nn)] rfl rfl rfl ?_
            refine zw_push hm_257 dX12_step_68 (v := .inl v2) rfl ?_
            exact zw_iret hm_257 dX12_step_69 (HQ _ _ h)
          · intro hc
            rw [if_pos (Classical.not_not.mp hc)] at h
            refine zw_push hm_257 dX12_step_55 (v := .inl (0 : Int32)) rfl ?_
            exact zw_iret hm_257 dX12_step_56 (HQ _ _ h)
        · intro hc
          rw [if_neg hc] at h
          refine zw_push hm_257 dX12_step_35 (v := .inl (3 : Int32)) rfl ?_
          refine zw_goto hm_257 dX12_step_36 (t := 40) rfl ?_
          refine zw_cv hm_257 dX12_step_40 v_12_110_12 hm_167 [.inl (3 : Int32)] [] rfl (zT_rt hS s_94 rfl) ⟨by omega, by omega⟩ rfl ?_
          show ma_wp X (d - 1) (w - 21) 167 0 [(0, .inr (.inr (some 94))), (1, .inl (3 : Int32))] [] S _
          refine zw_push hm_167 dX12_fails_0 (v := .inr (.inr (some 94))) rfl ?_
          refine zw_push hm_167 dX12_fails_1 (v := .inl (3 : Int32)) rfl ?_
          refine zw_pf hm_167 dX12_fails_2 (zT_is hS s_94) (zT_t hS s_94) p_12_1_12 zk_int ?_
          refine zw_push hm_167 dX12_fails_5 (v := .inl (3 : Int32)) rfl ?_
          refine zw_if0 hm_167 dX12_fails_6 (t := 13) rfl zc0_eq (fun hc => absurd hc (by decide)) (fun _ => ?_)
          refine zw_push hm_167 dX12_fails_9 (v := .inl (1 : Int32)) rfl ?_
          refine zw_goto hm_167 dX12_fails_10 (t := 14) rfl ?_
          refine zw_bret hm_167 dX12_fails_14 (by decide) ?_
          show ma_wp X d w 257 43 [(0, .inr (.inr (some 94))), (1, .inl nn)] [.inl (1 : Int32)] (ma_put S 94 0 (.inl (3 : Int32))) _
          refine zw_if0 hm_257 dX12_step_43 (t := 48) rfl zc0_eq (fun hc => absurd hc (by decide)) (fun _ => ?_)
          refine zw_push hm_257 dX12_step_46 (v := .inl (0 : Int32)) rfl ?_
          exact zw_iret hm_257 dX12_step_47 (HQ _ _ h)
      · intro hc
        rw [if_pos (Classical.not_not.mp hc)] at h
        refine zw_push hm_257 dX12_step_23 (v := .inl (2 : Int32)) rfl ?_
        refine zw_goto hm_257 dX12_step_24 (t := 40) rfl ?_
        refine zw_cv hm_257 dX12_step_40 v_12_110_12 hm_167 [.inl (2 : Int32)] [] rfl (zT_rt hS s_94 rfl) ⟨by omega, by omega⟩ rfl ?_
        show ma_wp X (d - 1) (w - 21) 167 0 [(0, .inr (.inr (some 94))), (1, .inl (2 : Int32))] [] S _
        refine zw_push hm_167 dX12_fails_0 (v := .inr (.inr (some 94))) rfl ?_
        refine zw_push hm_167 dX12_fails_1 (v := .inl (2 : Int32)) rfl ?_
        refine zw_pf hm_167 dX12_fails_2 (zT_is hS s_94) (zT_t hS s_94) p_12_1_12 zk_int ?_
        refine zw_push hm_167 dX12_fails_5 (v := .inl (2 : Int32)) rfl ?_
        refine zw_if0 hm_167 dX12_fails_6 (t := 13) rfl zc0_eq (fun hc => absurd hc (by decide)) (fun _ => ?_)
        refine zw_push hm_167 dX12_fails_9 (v := .inl (1 : Int32)) rfl ?_
        refine zw_goto hm_167 dX12_fails_10 (t := 14) rfl ?_
        refine zw_bret hm_167 dX12_fails_14 (by decide) ?_
        show ma_wp X d w 257 43 [(0, .inr (.inr (some 94))), (1, .inl nn)] [.inl (1 : Int32)] (ma_put S 94 0 (.inl (2 : Int32))) _
        refine zw_if0 hm_257 dX12_step_43 (t := 48) rfl zc0_eq (fun hc => absurd hc (by decide)) (fun _ => ?_)
        refine zw_push hm_257 dX12_step_46 (v := .inl (0 : Int32)) rfl ?_
        exact zw_iret hm_257 dX12_step_47 (HQ _ _ h)
    · intro hc
      rw [if_neg hc] at h
      refine zw_push hm_257 dX12_step_12 (v := .inl (1 : Int32)) rfl ?_
      refine zw_goto hm_257 dX12_step_13 (t := 40) rfl ?_
      refine zw_cv hm_257 dX12_step_40 v_12_110_12 hm_167 [.inl (1 : Int32)] [] rfl (zT_rt hS s_94 rfl) ⟨by omega, by omega⟩ rfl ?_
      show ma_wp X (d - 1) (w - 21) 167 0 [(0, .inr (.inr (some 94))), (1, .inl (1 : Int32))] [] S _
      refine zw_push hm_167 dX12_fails_0 (v := .inr (.inr (some 94))) rfl ?_
      refine zw_push hm_167 dX12_fails_1 (v := .inl (1 : Int32)) rfl ?_
      refine zw_pf hm_167 dX12_fails_2 (zT_is hS s_94) (zT_t hS s_94) p_12_1_12 zk_int ?_
      refine zw_push hm_167 dX12_fails_5 (v := .inl (1 : Int32)) rfl ?_
      refine zw_if0 hm_167 dX12_fails_6 (t := 13) rfl zc0_eq (fun hc => absurd hc (by decide)) (fun _ => ?_)
      refine zw_push hm_167 dX12_fails_9 (v := .inl (1 : Int32)) rfl ?_
      refine zw_goto hm_167 dX12_fails_10 (t := 14) rfl ?_
      refine zw_bret hm_167 dX12_fails_14 (by decide) ?_
      show ma_wp X d w 257 43 [(0, .inr (.inr (some 94))), (1, .inl nn)] [.inl (1 : Int32)] (ma_put S 94 0 (.inl (1 : Int32))) _
      refine zw_if0 hm_257 dX12_step_43 (t := 48) rfl zc0_eq (fun hc => absurd hc (by decide)) (fun _ => ?_)
      refine zw_push hm_257 dX12_step_46 (v := .inl (0 : Int32)) rfl ?_
      exact zw_iret hm_257 dX12_step_47 (HQ _ _ h)
/-! from 94.461 -/
/-! kinds, links -/
theorem i_shl8 {n : Int32} (h0 : 0 ≤ n.toInt) (h1 : n.toInt ≤ 8) : ((1 : Int32) <<< (n &&& 31)).toInt ≤ 256 := by
  have h : n.toInt = 0 ∨ n.toInt = 1 ∨ n.toInt = 2 ∨ n.toInt = 3 ∨ n.toInt = 4 ∨ n.toInt = 5 ∨ n.toInt = 6 ∨ n.toInt = 7 ∨ n.toInt = 8 := by omega
  rcases h with h | h | h | h | h | h | h | h | h
  · rw [Int32.toInt_inj.mp (h.trans (rfl : (0 : Int32).toInt = 0).symm)]; decide
  · rw [Int32.toInt_inj.mp (h.trans (rfl : (1 : Int32).toInt = 1).symm)]; decide
  · rw [Int32.toInt_inj.mp (h.trans (rfl : (2 : Int32).toInt = 2).symm)]; decide
  · rw [Int32.toInt_inj.mp (h.trans (rfl : (3 : Int32).toInt = 3).symm)]; decide
  · rw [Int32.toInt_inj.mp (h.trans (rfl : (4 : Int32).toInt = 4).symm)]; decide
  · rw [Int32.toInt_inj.mp (h.trans (rfl : (5 : Int32).toInt = 5).symm)]; decide
  · rw [Int32.toInt_inj.mp (h.trans (rfl : (6 : Int32).toInt = 6).symm)]; decide
  · rw [Int32.toInt_inj.mp (h.trans (rfl : (7 : Int32).toInt = 7).symm)]; decide
  · rw [Int32.toInt_inj.mp (h.trans (rfl : (8 : Int32).toInt = 8).symm)]; decide
theorem i_div4 {x y : Int32} (h1 : 0 ≤ x.toInt) (h2 : x.toInt ≤ 1999) (h3 : 4 ≤ y.toInt) : 0 ≤ (x / y).toInt ∧ (x / y).toInt ≤ 499 := by
  have h := i_div (x := x) (y := y) h1 (by omega)
  refine ⟨h.1, ?_⟩
  refine Classical.byContradiction (fun z => ?_)
  have h4 : 500 * 4 ≤ (x / y).toInt * y.toInt := Int.mul_le_mul (by omega) h3 (by omega) (by omega)
  have := h.2.2.2
  omega
section LK1
variable {ks po ro yo ol ca hf tp ot wm x : Int32} {kr kd ws wd wd₉ us rt wk wi at₉ ow di di₉ : Nat → Int32} {s0 i0 : Nat}
theorem W_link (h : zW ks kr kd ws wd) (h1 : -1 ≤ x.toInt) (h2 : x.toInt ≤ 3099) (e : ∀ s₉ i₉ : Nat, s₉ < 3100 → (i₉ : Int) < (ws s₉).toInt → zrf kr kd wd₉ s₉ i₉ = if s₉ = s0 ∧ i₉ = i0 then x else zrf kr kd wd s₉ i₉) : zW ks kr kd ws wd₉ := by
  intro s hs
  refine ⟨fun i hi => ?_, (h s hs).2⟩
  rw [e s i hs hi]
  split
  · exact ⟨h1, h2⟩
  · exact (h s hs).1 i hi
theorem DX_link (h : zDX po us rt wk wi wm kr kd ws wd) (hx : (po.toInt = 2 ∨ po.toInt = 3) → x.toInt < 0 ∨ us x.toNatClampNeg ≠ 0) (e : ∀ s₉ i₉ : Nat, s₉ < 3100 → (i₉ : Int) < (ws s₉).toInt → zrf kr kd wd₉ s₉ i₉ = if s₉ = s0 ∧ i₉ = i0 then x else zrf kr kd wd s₉ i₉) : zDX po us rt wk wi wm kr kd ws wd₉ := by
  intro hp
  obtain ⟨a1, a2, a3, a4⟩ := h hp
  refine ⟨a1, a2, a3, fun s hs hu i hi => ?_⟩
  unfold zcl
  rw [e s i hs hi]
  split
  · exact hx hp
  · exact a4 s hs hu i hi
theorem HA_link (h : zHA po ro yo ol ca hf tp ot us ws at₉ ow di kr kd wd) (hd : ∀ j, di j ≠ 0 → di₉ j ≠ 0) (e : ∀ s₉ i₉ : Nat, s₉ < 3100 → (i₉ : Int) < (ws s₉).toInt → zrf kr kd wd₉ s₉ i₉ = if s₉ = s0 ∧ i₉ = i0 then x else zrf kr kd wd s₉ i₉) (hx : po.toInt = 3 → (at₉ s0).toInt < ol.toInt → x.toInt < 0 ∨ (at₉ x.toNatClampNeg).toInt < ol.toInt ∨ di₉ (((at₉ s0).toInt + 1 + i0) / ca.toInt).toNat ≠ 0) : zHA po ro yo ol ca hf tp ot us ws at₉ ow di₉ kr kd wd₉ := by
  refine ⟨h.1, fun hp => ?_⟩
  obtain ⟨a1, a2, a3, a4, a5⟩ := h.2 hp
  refine ⟨a1, a2, a3, a4, fun s hs hu ha i hi => ?_⟩
  rw [e s i hs hi]
  by_cases z : s = s0 ∧ i = i0
  · rw [if_pos z, z.1, z.2]
    rw [z.1] at ha
    exact hx hp ha
  · rw [if_neg z]
    rcases a5 s hs hu ha i hi with q | q | q
    · exact Or.inl q
    · exact Or.inr (Or.inl q)
    · exact Or.inr (Or.inr (hd _ q))
end LK1
theorem card_ix {a i c : Int32} (h1 : 0 ≤ a.toInt) (h2 : a.toInt ≤ 4599) (h3 : 0 ≤ i.toInt) (h4 : i.toInt ≤ 60) (h5 : 4 ≤ c.toInt) : ((a + (1 : Int32) + i) / c).toNatClampNeg = ((a.toInt + 1 + (i.toNatClampNeg : Int)) / c.toInt).toNat := by
  have e1 : (a + (1 : Int32)).toInt = a.toInt + 1 := i_addk rfl (by omega) (by omega)
  have e2 : (a + (1 : Int32) + i).toInt = (a + (1 : Int32)).toInt + i.toInt := i_add (by omega) (by omega)
  have h := i_div (x := a + (1 : Int32) + i) (y := c) (by omega) (by omega)
  rw [tn_eq, h.2.2.1, tn_cast h3, e2, e1]
theorem W_isr {ks : Int32} {kr kd ws wd : Nat → Int32} {s i : Int32} (h : zW ks kr kd ws wd) (h1 : 0 ≤ s.toInt) (h2 : s.toInt ≤ 3099) (h3 : 0 ≤ i.toInt) (h4 : i.toInt < (ws s.toNatClampNeg).toInt) (h5 : (ws s.toNatClampNeg).toInt ≤ 60) (hk : kd s.toNatClampNeg = 16 ∨ (kd s.toNatClampNeg < 16 ∧ ((kr (kd s.toNatClampNeg).toNatClampNeg >>> (i &&& 31)) &&& 1) = 1)) : -1 ≤ (wd (s * (60 : Int32) + i).toNatClampNeg).toInt ∧ (wd (s * (60 : Int32) + i).toNatClampNeg).toInt ≤ 3099 := by
  have e := zrf_eq (kr := kr) (kd := kd) (wd := wd) h1 h2 h3 (by omega)
  by_cases q2 : kd s.toNatClampNeg = 16
  · rw [if_pos q2] at e
    exact W_ref h h1 h2 h3 h4 e.symm
  · rw [if_neg q2, if_pos (hk.elim (fun z => absurd z q2) id)] at e
    exact W_ref h h1 h2 h3 h4 e.symm

/-! from 94.462 -/
/-! the reference (written by wip/tools/gen94m.py) -/
set_option maxRecDepth 100000 in
theorem hm_166 : ma_md 166 = some (12, yX12_feed, cX12_feed, 6, (some (FieldType.int))) := rfl
theorem v_12_114_12 : ma_vl 12 114 12 = some (1, 168, 1) := by decide +kernel
theorem dX12_feed_0 : decode cX12_feed 0 = .ok (.aload_n 0, 1) := by decide +kernel
theorem dX12_feed_1 : decode cX12_feed 1 = .ok (.aload_n 0, 1) := by decide +kernel
theorem dX12_feed_5 : decode cX12_feed 5 = .ok (.bipush 20, 2) := by decide +kernel
theorem dX12_feed_7 : decode cX12_feed 7 = .ok (.iadd, 1) := by decide +kernel
theorem dX12_feed_8 : decode cX12_feed 8 = .ok (.bipush 100, 2) := by decide +kernel
theorem dX12_feed_17 : decode cX12_feed 17 = .ok (.iconst 0, 1) := by decide +kernel
theorem dX12_feed_18 : decode cX12_feed 18 = .ok (.invokevirtual 110, 3) := by decide +kernel
theorem dX12_feed_21 : decode cX12_feed 21 = .ok (.ifCond .eq 5, 3) := by decide +kernel
theorem dX12_feed_26 : decode cX12_feed 26 = .ok (.aload_n 0, 1) := by decide +kernel
theorem dX12_feed_27 : decode cX12_feed 27 = .ok (.iload_n 1, 1) := by decide +kernel
theorem dX12_feed_28 : decode cX12_feed 28 = .ok (.invokevirtual 114, 3) := by decide +kernel
theorem dX12_feed_31 : decode cX12_feed 31 = .ok (.aload_n 0, 1) := by decide +kernel
theorem dX12_feed_32 : decode cX12_feed 32 = .ok (.iload_n 2, 1) := by decide +kernel
theorem dX12_feed_33 : decode cX12_feed 33 = .ok (.invokevirtual 114, 3) := by decide +kernel
theorem dX12_feed_36 : decode cX12_feed 36 = .ok (.aload_n 0, 1) := by decide +kernel
theorem dX12_feed_37 : decode cX12_feed 37 = .ok (.iload_n 3, 1) := by decide +kernel
theorem dX12_feed_38 : decode cX12_feed 38 = .ok (.invokevirtual 114, 3) := by decide +kernel
theorem dX12_feed_41 : decode cX12_feed 41 = .ok (.aload_n 0, 1) := by decide +kernel
theorem dX12_feed_42 : decode cX12_feed 42 = .ok (.iload 4, 2) := by decide +kernel
theorem dX12_feed_44 : decode cX12_feed 44 = .ok (.invokevirtual 114, 3) := by decide +kernel
theorem dX12_feed_47 : decode cX12_feed 47 = .ok (.aload_n 0, 1) := by decide +kernel
theorem dX12_feed_48 : decode cX12_feed 48 = .ok (.iload 5, 2) := by decide +kernel
theorem dX12_feed_50 : decode cX12_feed 50 = .ok (.invokevirtual 114, 3) := by decide +kernel
theorem dX12_feed_53 : decode cX12_feed 53 = .ok (.aload_n 0, 1) := by decide +kernel
theorem dX12_feed_57 : decode cX12_feed 57 = .ok (.ireturn, 1) := by decide +kernel
theorem dX12_feed_54 : decode cX12_feed 54 = .ok (.getfield 107, 3) := by decide +kernel
theorem dX12_feed_13 : decode cX12_feed 13 = .ok (.iconst 1, 1) := by decide +kernel
theorem dX12_feed_14 : decode cX12_feed 14 = .ok (.goto 4, 3) := by decide +kernel
theorem dX12_feed_24 : decode cX12_feed 24 = .ok (.iconst 0, 1) := by decide +kernel
theorem dX12_feed_25 : decode cX12_feed 25 = .ok (.ireturn, 1) := by decide +kernel
theorem dX12_feed_10 : decode cX12_feed 10 = .ok (.if_icmp .le 7, 3) := by decide +kernel
theorem dX12_feed_2 : decode cX12_feed 2 = .ok (.getfield 107, 3) := by decide +kernel
def wr_166 (c k : Nat) : Bool := Nat.beq c 95 || (Nat.beq c 94 && (Nat.beq k 0 || Nat.beq k 3))
theorem ws_168_166 : ∀ c k, wr_168 c k = true → wr_166 c k = true := by
  intro c k h
  simp only [wr_168, wr_166, Bool.or_eq_true, Bool.and_eq_true, Nat.beq_eq] at h ⊢
  omega
theorem g_166_0 {X : Nat × (Nat → Int32)} {m : Nat → Nat → Int32} {P : Option ma_V → (Nat → Nat → Int32) → Prop} (xa : Int32) (xb : Int32) (xc : Int32) (xd : Int32) (xe : Int32) (h : if ((m 94 3) + (20 : Int32)) ≤ (100 : Int32) then (zm X 0 0 168 0 [(0, .inr (.inr (some 94))), (1, .inl xa)] (ma_u m 94 0 (0 : Int32)) (zmv (fun m1 => zm X 0 0 168 0 [(0, .inr (.inr (some 94))), (1, .inl xb)] m1 (zmv (fun m3 => zm X 0 0 168 0 [(0, .inr (.inr (some 94))), (1, .inl xc)] m3 (zmv (fun m5 => zm X 0 0 168 0 [(0, .inr (.inr (some 94))), (1, .inl xd)] m5 (zmv (fun m7 => zm X 0 0 168 0 [(0, .inr (.inr (some 94))), (1, .inl xe)] m7 (zmv (fun m9 => P (some (.inl (m9 94 3))) m9))))))))))) else (P (some (.inl (0 : Int32))) (ma_u m 94 0 (1 : Int32)))) : zm X 1 22 166 0 [(0, .inr (.inr (some 94))), (1, .inl xa), (2, .inl xb), (3, .inl xc), (4, .inl xd), (5, .inl xe)] m P := by
  intro d w S Q hd hw hS hm HQ
  subst hm
  refine zw_push hm_166 dX12_feed_0 (v := .inr (.inr (some 94))) rfl ?_
  refine zw_push hm_166 dX12_feed_1 (v := .inr (.inr (some 94))) rfl ?_
  refine zw_gf hm_166 dX12_feed_2 (v := .inl ((mI S) 94 3)) (zT_is hS s_94) (zT_t hS s_94) rfl f_12_107_12 rfl ?_
  refine zw_push hm_166 dX12_feed_5 (v := .inl (20 : Int32)) rfl ?_
  refine zw_stk hm_166 dX12_feed_7 (st₉ := [.inl (((mI S) 94 3) + (20 : Int32)), .inr (.inr (some 94))]) rfl rfl ?_
  refine zw_push hm_166 dX12_feed_8 (v := .inl (100 : Int32)) rfl ?_
  refine zw_if2 hm_166 dX12_feed_10 (t := 17) rfl zc2_le ?_ ?_
  · intro hc
    rw [if_pos hc] at h
    refine zw_push hm_166 dX12_feed_17 (v := .inl (0 : Int32)) rfl ?_
    refine zw_cv hm_166 dX12_feed_18 v_12_110_12 hm_167 [.inl (0 : Int32)] [] rfl (zT_rt hS s_94 rfl) ⟨by omega, by omega⟩ rfl ?_
    show ma_wp X (d - 1) (w - 21) 167 0 [(0, .inr (.inr (some 94))), (1, .inl (0 : Int32))] [] S _
    refine zw_push hm_167 dX12_fails_0 (v := .inr (.inr (some 94))) rfl ?_
    refine zw_push hm_167 dX12_fails_1 (v := .inl (0 : Int32)) rfl ?_
    refine zw_pf hm_167 dX12_fails_2 (zT_is hS s_94) (zT_t hS s_94) p_12_1_12 zk_int ?_
    refine zw_push hm_167 dX12_fails_5 (v := .inl (0 : Int32)) rfl ?_
    refine zw_if0 hm_167 dX12_fails_6 (t := 13) rfl zc0_eq (fun _ => ?_) (fun hc => absurd (by decide) hc)
    refine zw_push hm_167 dX12_fails_13 (v := .inl (0 : Int32)) rfl ?_
    refine zw_bret hm_167 dX12_fails_14 (by decide) ?_
    show ma_wp X d w 166 21 [(0, .inr (.inr (some 94))), (1, .inl xa), (2, .inl xb), (3, .inl xc), (4, .inl xd), (5, .inl xe)] [.inl (0 : Int32)] (ma_put S 94 0 (.inl (0 : Int32))) _
    refine zw_if0 hm_166 dX12_feed_21 (t := 26) rfl zc0_eq (fun _ => ?_) (fun hc => absurd (by decide) hc)
    refine zw_push hm_166 dX12_feed_26 (v := .inr (.inr (some 94))) rfl ?_
    refine zw_push hm_166 dX12_feed_27 (v := .inl xa) rfl ?_
    refine zw_cv hm_166 dX12_feed_28 v_12_114_12 hm_168 [.inl xa] [] rfl (zT_rt (zT_pi hS) s_94 rfl) ⟨by omega, by omega⟩ rfl (h _ _ (ma_put S 94 0 (.inl (0 : Int32))) _ (by omega) (by omega) (zT_pi hS) rfl (fun o9 m1 hv => ?_))
    obtain ⟨rfl, h⟩ := zmv_of hv
    show ma_wp X d w 166 31 [(0, .inr (.inr (some 94))), (1, .inl xa), (2, .inl xb), (3, .inl xc), (4, .inl xd), (5, .inl xe)] [] (zst S m1) _
    refine zw_push hm_166 dX12_feed_31 (v := .inr (.inr (some 94))) rfl ?_
    refine zw_push hm_166 dX12_feed_32 (v := .inl xb) rfl ?_
    refine zw_cv hm_166 dX12_feed_33 v_12_114_12 hm_168 [.inl xb] [] rfl (zT_rt (zT_zst hS m1) s_94 rfl) ⟨by omega, by omega⟩ rfl (h _ _ (zst S m1) _ (by omega) (by omega) (zT_zst hS m1) rfl (fun o9 m3 hv => ?_))
    obtain ⟨rfl, h⟩ := zmv_of hv
    show ma_wp X d w 166 36 [(0, .inr (.inr (some 94))), (1, .inl xa), (2, .inl xb), (3, .inl xc), (4, .inl xd), (5, .inl xe)] [] (zst S m3) _
    refine zw_push hm_166 dX12_feed_36 (v := .inr (.inr (some 94))) rfl ?_
    refine zw_push hm_166 dX12_feed_37 (v := .inl xc) rfl ?_
    refine zw_cv hm_166 dX12_feed_38 v_12_114_12 hm_168 [.inl xc] [] rfl (zT_rt (zT_zst hS m3) s_94 rfl) ⟨by omega, by omega⟩ rfl (h _ _ (zst S m3) _ (by omega) (by omega) (zT_zst hS m3) rfl (fun o9 m5 hv => ?_))
    obtain ⟨rfl, h⟩ := zmv_of hv
    show ma_wp X d w 166 41 [(0, .inr (.inr (some 94))), (1, .inl xa), (2, .inl xb), (3, .inl xc), (4, .inl xd), (5, .inl xe)] [] (zst S m5) _
    refine zw_push hm_166 dX12_feed_41 (v := .inr (.inr (some 94))) rfl ?_
    refine zw_push hm_166 dX12_feed_42 (v := .inl xd) rfl ?_
    refine zw_cv hm_166 dX12_feed_44 v_12_114_12 hm_168 [.inl xd] [] rfl (zT_rt (zT_zst hS m5) s_94 rfl) ⟨by omega, by omega⟩ rfl (h _ _ (zst S m5) _ (by omega) (by omega) (zT_zst hS m5) rfl (fun o9 m7 hv => ?_))
    obtain ⟨rfl, h⟩ := zmv_of hv
    show ma_wp X d w 166 47 [(0, .inr (.inr (some 94))), (1, .inl xa), (2, .inl xb), (3, .inl xc), (4, .inl xd), (5, .inl xe)] [] (zst S m7) _
    refine zw_push hm_166 dX12_feed_47 (v := .inr (.inr (some 94))) rfl ?_
    refine zw_push hm_166 dX12_feed_48 (v := .inl xe) rfl ?_
    refine zw_cv hm_166 dX12_feed_50 v_12_114_12 hm_168 [.inl xe] [] rfl (zT_rt (zT_zst hS m7) s_94 rfl) ⟨by omega, by omega⟩ rfl (h _ _ (zst S m7) _ (by omega) (by omega) (zT_zst hS m7) rfl (fun o9 m9 hv => ?_))
    obtain ⟨rfl, h⟩ := zmv_of hv
    show ma_wp X d w 166 53 [(0, .inr (.inr (some 94))), (1, .inl xa), (2, .inl xb), (3, .inl xc), (4, .inl xd), (5, .inl xe)] [] (zst S m9) _
    refine zw_push hm_166 dX12_feed_53 (v := .inr (.inr (some 94))) rfl ?_
    refine zw_gf hm_166 dX12_feed_54 (v := .inl (m9 94 3)) (zT_is (zT_zst hS m9) s_94) (zT_t (zT_zst hS m9) s_94) rfl f_12_107_12 rfl ?_
    exact zw_iret hm_166 dX12_feed_57 (HQ _ _ h)
  · intro hc
    rw [if_neg hc] at h
    refine zw_push hm_166 dX12_feed_13 (v := .inl (1 : Int32)) rfl ?_
    refine zw_goto hm_166 dX12_feed_14 (t := 18) rfl ?_
    refine zw_cv hm_166 dX12_feed_18 v_12_110_12 hm_167 [.inl (1 : Int32)] [] rfl (zT_rt hS s_94 rfl) ⟨by omega, by omega⟩ rfl ?_
    show ma_wp X (d - 1) (w - 21) 167 0 [(0, .inr (.inr (some 94))), (1, .inl (1 : Int32))] [] S _
    refine zw_push hm_167 dX12_fails_0 (v := .inr (.inr (some 94))) rfl ?_
    refine zw_push hm_167 dX12_fails_1 (v := .inl (1 : Int32)) rfl ?_
    refine zw_pf hm_167 dX12_fails_2 (zT_is hS s_94) (zT_t hS s_94) p_12_1_12 zk_int ?_
    refine zw_push hm_167 dX12_fails_5 (v := .inl (1 : Int32)) rfl ?_
    refine zw_if0 hm_167 dX12_fails_6 (t := 13) rfl zc0_eq (fun hc => absurd hc (by decide)) (fun _ => ?_)
    refine zw_push hm_167 dX12_fails_9 (v := .inl (1 : Int32)) rfl ?_
    refine zw_goto hm_167 dX12_fails_10 (t := 14) rfl ?_
    refine zw_bret hm_167 dX12_fails_14 (by decide) ?_
    show ma_wp X d w 166 21 [(0, .inr (.inr (some 94))), (1, .inl xa), (2, .inl xb), (3, .inl xc), (4, .inl xd), (5, .inl xe)] [.inl (1 : Int32)] (ma_put S 94 0 (.inl (1 : Int32))) _
    refine zw_if0 hm_166 dX12_feed_21 (t := 26) rfl zc0_eq (fun hc => absurd hc (by decide)) (fun _ => ?_)
    refine zw_push hm_166 dX12_feed_24 (v := .inl (0 : Int32)) rfl ?_
    exact zw_iret hm_166 dX12_feed_25 (HQ _ _ h)
set_option maxRecDepth 100000 in
theorem hm_169 : ma_md 169 = some (12, yX12_end, cX12_end, 2, (some (FieldType.int))) := rfl
theorem dX12_end_0 : decode cX12_end 0 = .ok (.aload_n 0, 1) := by decide +kernel
theorem dX12_end_1 : decode cX12_end 1 = .ok (.iload_n 1, 1) := by decide +kernel
theorem dX12_end_13 : decode cX12_end 13 = .ok (.iconst 1, 1) := by decide +kernel
theorem dX12_end_14 : decode cX12_end 14 = .ok (.goto 4, 3) := by decide +kernel
theorem dX12_end_18 : decode cX12_end 18 = .ok (.invokevirtual 110, 3) := by decide +kernel
theorem dX12_end_21 : decode cX12_end 21 = .ok (.ifCond .eq 5, 3) := by decide +kernel
theorem dX12_end_24 : decode cX12_end 24 = .ok (.iconst 0, 1) := by decide +kernel
theorem dX12_end_25 : decode cX12_end 25 = .ok (.ireturn, 1) := by decide +kernel
theorem dX12_end_5 : decode cX12_end 5 = .ok (.iload_n 1, 1) := by decide +kernel
theorem dX12_end_6 : decode cX12_end 6 = .ok (.aload_n 0, 1) := by decide +kernel
theorem dX12_end_17 : decode cX12_end 17 = .ok (.iconst 0, 1) := by decide +kernel
theorem dX12_end_26 : decode cX12_end 26 = .ok (.aload_n 0, 1) := by decide +kernel
theorem dX12_end_27 : decode cX12_end 27 = .ok (.iload_n 1, 1) := by decide +kernel
theorem dX12_end_31 : decode cX12_end 31 = .ok (.iload_n 1, 1) := by decide +kernel
theorem dX12_end_32 : decode cX12_end 32 = .ok (.ireturn, 1) := by decide +kernel
theorem dX12_end_28 : decode cX12_end 28 = .ok (.putfield 107, 3) := by decide +kernel
theorem dX12_end_10 : decode cX12_end 10 = .ok (.if_icmp .le 7, 3) := by decide +kernel
theorem dX12_end_7 : decode cX12_end 7 = .ok (.getfield 107, 3) := by decide +kernel
theorem dX12_end_2 : decode cX12_end 2 = .ok (.ifCond .lt 11, 3) := by decide +kernel
def wr_169 (c k : Nat) : Bool := (Nat.beq c 94 && (Nat.beq k 0 || Nat.beq k 3))
theorem g_169_0 {X : Nat × (Nat → Int32)} {m : Nat → Nat → Int32} {P : Option ma_V → (Nat → Nat → Int32) → Prop} (nn : Int32) (h : if nn < 0 then (P (some (.inl (0 : Int32))) (ma_u m 94 0 (1 : Int32))) else (if nn ≤ (m 94 3) then (P (some (.inl nn)) (ma_u (ma_u m 94 0 (0 : Int32)) 94 3 nn)) else (P (some (.inl (0 : Int32))) (ma_u m 94 0 (1 : Int32))))) : zm X 1 21 169 0 [(0, .inr (.inr (some 94))), (1, .inl nn)] m P := by
  intro d w S Q hd hw hS hm HQ
  subst hm
  refine zw_push hm_169 dX12_end_0 (v := .inr (.inr (some 94))) rfl ?_
  refine zw_push hm_169 dX12_end_1 (v := .inl nn) rfl ?_
  refine zw_if0 hm_169 dX12_end_2 (t := 13) rfl zc0_lt ?_ ?_
  · intro hc
    rw [if_pos hc] at h
    refine zw_push hm_169 dX12_end_13 (v := .inl (1 : Int32)) rfl ?_
    refine zw_goto hm_169 dX12_end_14 (t := 18) rfl ?_
    refine zw_cv hm_169 dX12_end_18 v_12_110_12 hm_167 [.inl (1 : Int32)] [] rfl (zT_rt hS s_94 rfl) ⟨by omega, by omega⟩ rfl ?_
    show ma_wp X (d - 1) (w - 21) 167 0 [(0, .inr (.inr (some 94))), (1, .inl (1 : Int32))] [] S _
    refine zw_push hm_167 dX12_fails_0 (v := .inr (.inr (some 94))) rfl ?_
    refine zw_push hm_167 dX12_fails_1 (v := .inl (1 : Int32)) rfl ?_
    refine zw_pf hm_167 dX12_fails_2 (zT_is hS s_94) (zT_t hS s_94) p_12_1_12 zk_int ?_
    refine zw_push hm_167 dX12_fails_5 (v := .inl (1 : Int32)) rfl ?_
    refine zw_if0 hm_167 dX12_fails_6 (t := 13) rfl zc0_eq (fun hc => absurd hc (by decide)) (fun _ => ?_)
    refine zw_push hm_167 dX12_fails_9 (v := .inl (1 : Int32)) rfl ?_
    refine zw_goto hm_167 dX12_fails_10 (t := 14) rfl ?_
    refine zw_bret hm_167 dX12_fails_14 (by decide) ?_
    show ma_wp X d w 169 21 [(0, .inr (.inr (some 94))), (1, .inl nn)] [.inl (1 : Int32)] (ma_put S 94 0 (.inl (1 : Int32))) _
    refine zw_if0 hm_169 dX12_end_21 (t := 26) rfl zc0_eq (fun hc => absurd hc (by decide)) (fun _ => ?_)
    refine zw_push hm_169 dX12_end_24 (v := .inl (0 : Int32)) rfl ?_
    exact zw_iret hm_169 dX12_end_25 (HQ _ _ h)
  · intro hc
    rw [if_neg hc] at h
    refine zw_push hm_169 dX12_end_5 (v := .inl nn) rfl ?_
    refine zw_push hm_169 dX12_end_6 (v := .inr (.inr (some 94))) rfl ?_
    refine zw_gf hm_169 dX12_end_7 (v := .inl ((mI S) 94 3)) (zT_is hS s_94) (zT_t hS s_94) rfl f_12_107_12 rfl ?_
    refine zw_if2 hm_169 dX12_end_10 (t := 17) rfl zc2_le ?_ ?_
    · intro hc
      rw [if_pos hc] at h
      refine zw_push hm_169 dX12_end_17 (v := .inl (0 : Int32)) rfl ?_
      refine zw_cv hm_169 dX12_end_18 v_12_110_12 hm_167 [.inl (0 : Int32)] [] rfl (zT_rt hS s_94 rfl) ⟨by omega, by omega⟩ rfl ?_
      show ma_wp X (d - 1) (w - 21) 167 0 [(0, .inr (.inr (some 94))), (1, .inl (0 : Int32))] [] S _
      refine zw_push hm_167 dX12_fails_0 (v := .inr (.inr (some 94))) rfl ?_
      refine zw_push hm_167 dX12_fails_1 (v := .inl (0 : Int32)) rfl ?_
      refine zw_pf hm_167 dX12_fails_2 (zT_is hS s_94) (zT_t hS s_94) p_12_1_12 zk_int ?_
      refine zw_push hm_167 dX12_fails_5 (v := .inl (0 : Int32)) rfl ?_
      refine zw_if0 hm_167 dX12_fails_6 (t := 13) rfl zc0_eq (fun _ => ?_) (fun hc => absurd (by decide) hc)
      refine zw_push hm_167 dX12_fails_13 (v := .inl (0 : Int32)) rfl ?_
      refine zw_bret hm_167 dX12_fails_14 (by decide) ?_
      show ma_wp X d w 169 21 [(0, .inr (.inr (some 94))), (1, .inl nn)] [.inl (0 : Int32)] (ma_put S 94 0 (.inl (0 : Int32))) _
      refine zw_if0 hm_169 dX12_end_21 (t := 26) rfl zc0_eq (fun _ => ?_) (fun hc => absurd (by decide) hc)
      refine zw_push hm_169 dX12_end_26 (v := .inr (.inr (some 94))) rfl ?_
      refine zw_push hm_169 dX12_end_27 (v := .inl nn) rfl ?_
      refine zw_pf hm_169 dX12_end_28 (zT_is (zT_pi hS) s_94) (zT_t (zT_pi hS) s_94) p_12_107_12 zk_int ?_
      refine zw_push hm_169 dX12_end_31 (v := .inl nn) rfl ?_
      exact zw_iret hm_169 dX12_end_32 (HQ _ _ h)
    · intro hc
      rw [if_neg hc] at h
      refine zw_push hm_169 dX12_end_13 (v := .inl (1 : Int32)) rfl ?_
      refine zw_goto hm_169 dX12_end_14 (t := 18) rfl ?_
      refine zw_cv hm_169 dX12_end_18 v_12_110_12 hm_167 [.inl (1 : Int32)] [] rfl (zT_rt hS s_94 rfl) ⟨by omega, by omega⟩ rfl ?_
      show ma_wp X (d - 1) (w - 21) 167 0 [(0, .inr (.inr (some 94))), (1, .inl (1 : Int32))] [] S _
      refine zw_push hm_167 dX12_fails_0 (v := .inr (.inr (some 94))) rfl ?_
      refine zw_push hm_167 dX12_fails_1 (v := .inl (1 : Int32)) rfl ?_
      refine zw_pf hm_167 dX12_fails_2 (zT_is hS s_94) (zT_t hS s_94) p_12_1_12 zk_int ?_
      refine zw_push hm_167 dX12_fails_5 (v := .inl (1 : Int32)) rfl ?_
      refine zw_if0 hm_167 dX12_fails_6 (t := 13) rfl zc0_eq (fun hc => absurd hc (by decide)) (fun _ => ?_)
      refine zw_push hm_167 dX12_fails_9 (v := .inl (1 : Int32)) rfl ?_
      refine zw_goto hm_167 dX12_fails_10 (t := 14) rfl ?_
      refine zw_bret hm_167 dX12_fails_14 (by decide) ?_
      show ma_wp X d w 169 21 [(0, .inr (.inr (some 94))), (1, .inl nn)] [.inl (1 : Int32)] (ma_put S 94 0 (.inl (1 : Int32))) _
      refine zw_if0 hm_169 dX12_end_21 (t := 26) rfl zc0_eq (fun hc => absurd hc (by decide)) (fun _ => ?_)
      refine zw_push hm_169 dX12_end_24 (v := .inl (0 : Int32)) rfl ?_
      exact zw_iret hm_169 dX12_end_25 (HQ _ _ h)
theorem sp_169 {X : Nat × (Nat → Int32)} {P : Option ma_V → (Nat → Nat → Int32) → Prop} {m : Nat → Nat → Int32} (nn : Int32) (hV : zV m)  (KZ : ∀ v m₉, zV (zov wr_169 m m₉) → (((nn.toInt < 0 ∨ (m 94 3).toInt < nn.toInt) ∧ (m₉ 94 0).toInt = 1 ∧ (m₉ 94 3).toInt = (m 94 3).toInt) ∨ (0 ≤ nn.toInt ∧ nn.toInt ≤ (m 94 3).toInt ∧ (m₉ 94 0).toInt = 0 ∧ (m₉ 94 3).toInt = nn.toInt ∧ v.toInt = nn.toInt)) → P (some (.inl v)) (zov wr_169 m m₉)) : zm X 1 21 169 0 [(0, .inr (.inr (some 94))), (1, .inl nn)] m P := by
  have K : ∀ v m₉, zF wr_169 m m₉ → zV m₉ → (((nn.toInt < 0 ∨ (m 94 3).toInt < nn.toInt) ∧ (m₉ 94 0).toInt = 1 ∧ (m₉ 94 3).toInt = (m 94 3).toInt) ∨ (0 ≤ nn.toInt ∧ nn.toInt ≤ (m 94 3).toInt ∧ (m₉ 94 0).toInt = 0 ∧ (m₉ 94 3).toInt = nn.toInt ∧ v.toInt = nn.toInt)) → P (some (.inl v)) m₉ := by
    intro v m₉ hf z q0
    have e := zov_eq hf
    rw [e] at z ⊢
    try rw [e] at q0
    exact KZ v m₉ z q0
  refine g_169_0 nn ?_
  have b1 := i_bd nn
  have li2 : (0 : Int32).toInt = 0 := rfl
  refine zd (fun (h3 : nn < (0 : Int32)) => ?_) (fun (h3 : ¬ nn < (0 : Int32)) => ?_)
  · skip
    have g4 := i_lt h3
    have hV5 : zV (ma_u m 94 0 (1 : Int32)) := uf_94_0 hV
    have f6 : 0 ≤ (m 94 3).toInt ∧ (m 94 3).toInt ≤ 100 := rs_94_3 (m := m) hV
    have li7 : (1 : Int32).toInt = 1 := rfl
    exact K ((0 : Int32)) _ (zF_u zF_rfl rfl) hV5 (show ((nn.toInt < 0 ∨ (m 94 3).toInt < nn.toInt) ∧ (1 : Int32).toInt = 1 ∧ (m 94 3).toInt = (m 94 3).toInt) ∨ (0 ≤ nn.toInt ∧ nn.toInt ≤ (m 94 3).toInt ∧ (1 : Int32).toInt = 0 ∧ (m 94 3).toInt = nn.toInt ∧ (0 : Int32).toInt = nn.toInt) from by omega)
  · skip
    have g8 := i_nlt h3
    have f9 : 0 ≤ (m 94 3).toInt ∧ (m 94 3).toInt ≤ 100 := rs_94_3 (m := m) hV
    refine zd (fun (h10 : nn ≤ (m 94 3)) => ?_) (fun (h10 : ¬ nn ≤ (m 94 3)) => ?_)
    · skip
      have g11 := i_le h10
      have hV12 : zV (ma_u m 94 0 (0 : Int32)) := uf_94_0 hV
      have hV13 : zV (ma_u (ma_u m 94 0 (0 : Int32)) 94 3 nn) := us_94_3 hV12 (by omega) (by omega)
      exact K (nn) _ (zF_u (zF_u zF_rfl rfl) rfl) hV13 (show ((nn.toInt < 0 ∨ (m 94 3).toInt < nn.toInt) ∧ (0 : Int32).toInt = 1 ∧ nn.toInt = (m 94 3).toInt) ∨ (0 ≤ nn.toInt ∧ nn.toInt ≤ (m 94 3).toInt ∧ (0 : Int32).toInt = 0 ∧ nn.toInt = nn.toInt ∧ nn.toInt = nn.toInt) from by omega)
    · skip
      have g14 := i_nle h10
      have hV15 : zV (ma_u m 94 0 (1 : Int32)) := uf_94_0 hV
      have li16 : (1 : Int32).toInt = 1 := rfl
      exact K ((0 : Int32)) _ (zF_u zF_rfl rfl) hV15 (show ((nn.toInt < 0 ∨ (m 94 3).toInt < nn.toInt) ∧ (1 : Int32).toInt = 1 ∧ (m 94 3).toInt = (m 94 3).toInt) ∨ (0 ≤ nn.toInt ∧ nn.toInt ≤ (m 94 3).toInt ∧ (1 : Int32).toInt = 0 ∧ (m 94 3).toInt = nn.toInt ∧ (0 : Int32).toInt = nn.toInt) from by omega)

/-! from 94.463 -/
/-! the reference (written by wip/tools/gen94m.py) -/
set_option maxRecDepth 100000 in
theorem hm_170 : ma_md 170 = some (12, yX12_kind, cX12_kind, 4, (some (FieldType.int))) := rfl
theorem s_97 : zs 97 = some (20, 16) := rfl
theorem r_94_5 : zfi 94 5 = some 97 := rfl
theorem f_12_20_12 : ma_fld 12 20 12 = some 5 := by decide +kernel
theorem p_12_118_12 : ma_pk 12 118 12 7 = true := by decide +kernel
theorem dX12_kind_0 : decode cX12_kind 0 = .ok (.iload_n 1, 1) := by decide +kernel
theorem dX12_kind_10 : decode cX12_kind 10 = .ok (.iconst 1, 1) := by decide +kernel
theorem dX12_kind_11 : decode cX12_kind 11 = .ok (.goto 4, 3) := by decide +kernel
theorem dX12_kind_15 : decode cX12_kind 15 = .ok (.istore_n 3, 1) := by decide +kernel
theorem dX12_kind_16 : decode cX12_kind 16 = .ok (.aload_n 0, 1) := by decide +kernel
theorem dX12_kind_17 : decode cX12_kind 17 = .ok (.iload_n 3, 1) := by decide +kernel
theorem dX12_kind_18 : decode cX12_kind 18 = .ok (.ifCond .ne 14, 3) := by decide +kernel
theorem dX12_kind_32 : decode cX12_kind 32 = .ok (.iconst 1, 1) := by decide +kernel
theorem dX12_kind_33 : decode cX12_kind 33 = .ok (.goto 17, 3) := by decide +kernel
theorem dX12_kind_50 : decode cX12_kind 50 = .ok (.invokevirtual 110, 3) := by decide +kernel
theorem dX12_kind_53 : decode cX12_kind 53 = .ok (.ifCond .eq 5, 3) := by decide +kernel
theorem dX12_kind_56 : decode cX12_kind 56 = .ok (.iconst 0, 1) := by decide +kernel
theorem dX12_kind_57 : decode cX12_kind 57 = .ok (.ireturn, 1) := by decide +kernel
theorem dX12_kind_4 : decode cX12_kind 4 = .ok (.iload_n 1, 1) := by decide +kernel
theorem dX12_kind_5 : decode cX12_kind 5 = .ok (.bipush 8, 2) := by decide +kernel
theorem dX12_kind_14 : decode cX12_kind 14 = .ok (.iconst 0, 1) := by decide +kernel
theorem dX12_kind_21 : decode cX12_kind 21 = .ok (.iload_n 2, 1) := by decide +kernel
theorem dX12_kind_25 : decode cX12_kind 25 = .ok (.iload_n 2, 1) := by decide +kernel
theorem dX12_kind_26 : decode cX12_kind 26 = .ok (.iconst 1, 1) := by decide +kernel
theorem dX12_kind_27 : decode cX12_kind 27 = .ok (.iload_n 1, 1) := by decide +kernel
theorem dX12_kind_28 : decode cX12_kind 28 = .ok (.ishl, 1) := by decide +kernel
theorem dX12_kind_36 : decode cX12_kind 36 = .ok (.aload_n 0, 1) := by decide +kernel
theorem dX12_kind_40 : decode cX12_kind 40 = .ok (.bipush 16, 2) := by decide +kernel
theorem dX12_kind_49 : decode cX12_kind 49 = .ok (.iconst 0, 1) := by decide +kernel
theorem dX12_kind_58 : decode cX12_kind 58 = .ok (.aload_n 0, 1) := by decide +kernel
theorem dX12_kind_62 : decode cX12_kind 62 = .ok (.aload_n 0, 1) := by decide +kernel
theorem dX12_kind_66 : decode cX12_kind 66 = .ok (.iload_n 1, 1) := by decide +kernel
theorem dX12_kind_68 : decode cX12_kind 68 = .ok (.aload_n 0, 1) := by decide +kernel
theorem dX12_kind_72 : decode cX12_kind 72 = .ok (.aload_n 0, 1) := by decide +kernel
theorem dX12_kind_76 : decode cX12_kind 76 = .ok (.iload_n 2, 1) := by decide +kernel
theorem dX12_kind_78 : decode cX12_kind 78 = .ok (.aload_n 0, 1) := by decide +kernel
theorem dX12_kind_79 : decode cX12_kind 79 = .ok (.dup, 1) := by decide +kernel
theorem dX12_kind_83 : decode cX12_kind 83 = .ok (.iconst 1, 1) := by decide +kernel
theorem dX12_kind_84 : decode cX12_kind 84 = .ok (.iadd, 1) := by decide +kernel
theorem dX12_kind_88 : decode cX12_kind 88 = .ok (.aload_n 0, 1) := by decide +kernel
theorem dX12_kind_92 : decode cX12_kind 92 = .ok (.iconst 1, 1) := by decide +kernel
theorem dX12_kind_93 : decode cX12_kind 93 = .ok (.isub, 1) := by decide +kernel
theorem dX12_kind_94 : decode cX12_kind 94 = .ok (.ireturn, 1) := by decide +kernel
theorem dX12_kind_89 : decode cX12_kind 89 = .ok (.getfield 118, 3) := by decide +kernel
theorem dX12_kind_85 : decode cX12_kind 85 = .ok (.putfield 118, 3) := by decide +kernel
theorem dX12_kind_80 : decode cX12_kind 80 = .ok (.getfield 118, 3) := by decide +kernel
theorem dX12_kind_77 : decode cX12_kind 77 = .ok (.iastore, 1) := by decide +kernel
theorem dX12_kind_73 : decode cX12_kind 73 = .ok (.getfield 118, 3) := by decide +kernel
theorem dX12_kind_69 : decode cX12_kind 69 = .ok (.getfield 24, 3) := by decide +kernel
theorem dX12_kind_67 : decode cX12_kind 67 = .ok (.iastore, 1) := by decide +kernel
theorem dX12_kind_63 : decode cX12_kind 63 = .ok (.getfield 118, 3) := by decide +kernel
theorem dX12_kind_59 : decode cX12_kind 59 = .ok (.getfield 20, 3) := by decide +kernel
theorem dX12_kind_45 : decode cX12_kind 45 = .ok (.iconst 2, 1) := by decide +kernel
theorem dX12_kind_46 : decode cX12_kind 46 = .ok (.goto 4, 3) := by decide +kernel
theorem dX12_kind_42 : decode cX12_kind 42 = .ok (.if_icmp .ne 7, 3) := by decide +kernel
theorem dX12_kind_37 : decode cX12_kind 37 = .ok (.getfield 118, 3) := by decide +kernel
theorem dX12_kind_29 : decode cX12_kind 29 = .ok (.if_icmp .lt 7, 3) := by decide +kernel
theorem dX12_kind_22 : decode cX12_kind 22 = .ok (.ifCond .lt 10, 3) := by decide +kernel
theorem dX12_kind_7 : decode cX12_kind 7 = .ok (.if_icmp .le 7, 3) := by decide +kernel
theorem dX12_kind_1 : decode cX12_kind 1 = .ok (.ifCond .lt 9, 3) := by decide +kernel
def wr_170 (c k : Nat) : Bool := Nat.beq c 97 || Nat.beq c 98 || (Nat.beq c 94 && (Nat.beq k 0 || Nat.beq k 7))
theorem g_170_0 {X : Nat × (Nat → Int32)} {m : Nat → Nat → Int32} {P : Option ma_V → (Nat → Nat → Int32) → Prop} (nw : Int32) (rf : Int32) (h : if nw < 0 then (P (some (.inl (0 : Int32))) (ma_u m 94 0 (1 : Int32))) else (if nw ≤ (8 : Int32) then (if rf < 0 then (P (some (.inl (0 : Int32))) (ma_u m 94 0 (1 : Int32))) else (if rf < ((1 : Int32) <<< (nw &&& 31)) then (if (m 94 7) = (16 : Int32) then (P (some (.inl (0 : Int32))) (ma_u m 94 0 (2 : Int32))) else ((0 ≤ (m 94 7) ∧ (m 94 7).toNatClampNeg < 16) ∧ ((0 ≤ (m 94 7) ∧ (m 94 7).toNatClampNeg < 16) ∧ (P (some (.inl (((m 94 7) + (1 : Int32)) - (1 : Int32)))) (ma_u (ma_u (ma_u (ma_u m 94 0 (0 : Int32)) 97 (m 94 7).toNatClampNeg nw) 98 (m 94 7).toNatClampNeg rf) 94 7 ((m 94 7) + (1 : Int32))))))) else (P (some (.inl (0 : Int32))) (ma_u m 94 0 (1 : Int32))))) else (P (some (.inl (0 : Int32))) (ma_u m 94 0 (1 : Int32))))) : zm X 1 21 170 0 [(0, .inr (.inr (some 94))), (1, .inl nw), (2, .inl rf)] m P := by
  intro d w S Q hd hw hS hm HQ
  subst hm
  refine zw_push hm_170 dX12_kind_0 (v := .inl nw) rfl ?_
  refine zw_if0 hm_170 dX12_kind_1 (t := 10) rfl zc0_lt ?_ ?_
  · intro hc
    rw [if_pos hc] at h
    refine zw_push hm_170 dX12_kind_10 (v := .inl (1 : Int32)) rfl ?_
    refine zw_goto hm_170 dX12_kind_11 (t := 15) rfl ?_
    refine zw_sto hm_170 dX12_kind_15 [(3, .inl (1 : Int32)), (0, .inr (.inr (some 94))), (1, .inl nw), (2, .inl rf)] rfl rfl rfl ?_
    refine zw_push hm_170 dX12_kind_16 (v := .inr (.inr (some 94))) rfl ?_
    refine zw_push hm_170 dX12_kind_17 (v := .inl (1 : Int32)) rfl ?_
    refine zw_if0 hm_170 dX12_kind_18 (t := 32) rfl zc0_ne (fun _ => ?_) (fun hc => absurd (by decide) hc)
    refine zw_push hm_170 dX12_kind_32 (v := .inl (1 : Int32)) rfl ?_
    refine zw_goto hm_170 dX12_kind_33 (t := 50) rfl ?_
    refine zw_cv hm_170 dX12_kind_50 v_12_110_12 hm_167 [.inl (1 : Int32)] [] rfl (zT_rt hS s_94 rfl) ⟨by omega, by omega⟩ rfl ?_
    show ma_wp X (d - 1) (w - 21) 167 0 [(0, .inr (.inr (some 94))), (1, .inl (1 : Int32))] [] S _
    refine zw_push hm_167 dX12_fails_0 (v := .inr (.inr (some 94))) rfl ?_
    refine zw_push hm_167 dX12_fails_1 (v := .inl (1 : Int32)) rfl ?_
    refine zw_pf hm_167 dX12_fails_2 (zT_is hS s_94) (zT_t hS s_94) p_12_1_12 zk_int ?_
    refine zw_push hm_167 dX12_fails_5 (v := .inl (1 : Int32)) rfl ?_
    refine zw_if0 hm_167 dX12_fails_6 (t := 13) rfl zc0_eq (fun hc => absurd hc (by decide)) (fun _ => ?_)
    refine zw_push hm_167 dX12_fails_9 (v := .inl (1 : Int32)) rfl ?_
    refine zw_goto hm_167 dX12_fails_10 (t := 14) rfl ?_
    refine zw_bret hm_167 dX12_fails_14 (by decide) ?_
    show ma_wp X d w 170 53 [(3, .inl (1 : Int32)), (0, .inr (.inr (some 94))), (1, .inl nw), (2, .inl rf)] [.inl (1 : Int32)] (ma_put S 94 0 (.inl (1 : Int32))) _
    refine zw_if0 hm_170 dX12_kind_53 (t := 58) rfl zc0_eq (fun hc => absurd hc (by decide)) (fun _ => ?_)
    refine zw_push hm_170 dX12_kind_56 (v := .inl (0 : Int32)) rfl ?_
    exact zw_iret hm_170 dX12_kind_57 (HQ _ _ h)
  · intro hc
    rw [if_neg hc] at h
    refine zw_push hm_170 dX12_kind_4 (v := .inl nw) rfl ?_
    refine zw_push hm_170 dX12_kind_5 (v := .inl (8 : Int32)) rfl ?_
    refine zw_if2 hm_170 dX12_kind_7 (t := 14) rfl zc2_le ?_ ?_
    · intro hc
      rw [if_pos hc] at h
      refine zw_push hm_170 dX12_kind_14 (v := .inl (0 : Int32)) rfl ?_
      refine zw_sto hm_170 dX12_kind_15 [(3, .inl (0 : Int32)), (0, .inr (.inr (some 94))), (1, .inl nw), (2, .inl rf)] rfl rfl rfl ?_
      refine zw_push hm_170 dX12_kind_16 (v := .inr (.inr (some 94))) rfl ?_
      refine zw_push hm_170 dX12_kind_17 (v := .inl (0 : Int32)) rfl ?_
      refine zw_if0 hm_170 dX12_kind_18 (t := 32) rfl zc0_ne (fun hc => absurd hc (by decide)) (fun _ => ?_)
      refine zw_push hm_170 dX12_kind_21 (v := .inl rf) rfl ?_
      refine zw_if0 hm_170 dX12_kind_22 (t := 32) rfl zc0_lt ?_ ?_
      · intro hc
        rw [if_pos hc] at h
        refine zw_push hm_170 dX12_kind_32 (v := .inl (1 : Int32)) rfl ?_
        refine zw_goto hm_170 dX12_kind_33 (t := 50) rfl ?_
        refine zw_cv hm_170 dX12_kind_50 v_12_110_12 hm_167 [.inl (1 : Int32)] [] rfl (zT_rt hS s_94 rfl) ⟨by omega, by omega⟩ rfl ?_
        show ma_wp X (d - 1) (w - 21) 167 0 [(0, .inr (.inr (some 94))), (1, .inl (1 : Int32))] [] S _
        refine zw_push hm_167 dX12_fails_0 (v := .inr (.inr (some 94))) rfl ?_
        refine zw_push hm_167 dX12_fails_1 (v := .inl (1 : Int32)) rfl ?_
        refine zw_pf hm_167 dX12_fails_2 (zT_is hS s_94) (zT_t hS s_94) p_12_1_12 zk_int ?_
        refine zw_push hm_167 dX12_fails_5 (v := .inl (1 : Int32)) rfl ?_
        refine zw_if0 hm_167 dX12_fails_6 (t := 13) rfl zc0_eq (fun hc => absurd hc (by decide)) (fun _ => ?_)
        refine zw_push hm_167 dX12_fails_9 (v := .inl (1 : Int32)) rfl ?_
        refine zw_goto hm_167 dX12_fails_10 (t := 14) rfl ?_
        refine zw_bret hm_167 dX12_fails_14 (by decide) ?_
        show ma_wp X d w 170 53 [(3, .inl (0 : Int32)), (0, .inr (.inr (some 94))), (1, .inl nw), (2, .inl rf)] [.inl (1 : Int32)] (ma_put S 94 0 (.inl (1 : Int32))) _
        refine zw_if0 hm_170 dX12_kind_53 (t := 58) rfl zc0_eq (fun hc => absurd hc (by decide)) (fun _ => ?_)
        refine zw_push hm_170 dX12_kind_56 (v := .inl (0 : Int32)) rfl ?_
        exact zw_iret hm_170 dX12_kind_57 (HQ _ _ h)
      · intro hc
        rw [if_neg hc] at h
        refine zw_push hm_170 dX12_kind_25 (v := .inl rf) rfl ?_
        refine zw_push hm_170 dX12_kind_26 (v := .inl (1 : Int32)) rfl ?_
        refine zw_push hm_170 dX12_kind_27 (v := .inl nw) rfl ?_
        refine zw_stk hm_170 dX12_kind_28 (st₉ := [.inl ((1 : Int32) <<< (nw &&& 31)), .inl rf, .inr (.inr (some 94))]) rfl rfl ?_
        refine zw_if2 hm_170 dX12_kind_29 (t := 36) rfl zc2_lt ?_ ?_
        · intro hc
          rw [if_pos hc] at h
          refine zw_push hm_170 dX12_kind_36 (v := .inr (.inr (some 94))) rfl ?_
          refine zw_gf hm_170 dX12_kind_37 (v := .inl ((mI S) 94 7)) (zT_is hS s_94) (zT_t hS s_94) rfl f_12_118_12 rfl ?_
          refine zw_push hm_170 dX12_kind_40 (v := .inl (16 : Int32)) rfl ?_
          refine zw_if2 hm_170 dX12_kind_42 (t := 49) rfl zc2_ne ?_ ?_
          · intro hc
            rw [if_neg hc] at h
            refine zw_push hm_170 dX12_kind_49 (v := .inl (0 : Int32)) rfl ?_
            refine zw_cv hm_170 dX12_kind_50 v_12_110_12 hm_167 [.inl (0 : Int32)] [] rfl (zT_rt hS s_94 rfl) ⟨by omega, by omega⟩ rfl ?_
            show ma_wp X (d - 1) (w - 21) 167 0 [(0, .inr (.inr (some 94))), (1, .inl (0 : Int32))] [] S _
            refine zw_push hm_167 dX12_fails_0 (v := .inr (.inr (some 94))) rfl ?_
            refine zw_push hm_167 dX12_fails_1 (v := .inl (0 : Int32)) rfl ?_
            refine zw_pf hm_167 dX12_fails_2 (zT_is hS s_94) (zT_t hS s_94) p_12_1_12 zk_int ?_
            refine zw_push hm_167 dX12_fails_5 (v := .inl (0 : Int32)) rfl ?_
            refine zw_if0 hm_167 dX12_fails_6 (t := 13) rfl zc0_eq (fun _ => ?_) (fun hc => absurd (by decide) hc)
            refine zw_push hm_167 dX12_fails_13 (v := .inl (0 : Int32)) rfl ?_
            refine zw_bret hm_167 dX12_fails_14 (by decide) ?_
            show ma_wp X d w 170 53 [(3, .inl (0 : Int32)), (0, .inr (.inr (some 94))), (1, .inl nw), (2, .inl rf)] [.inl (0 : Int32)] (ma_put S 94 0 (.inl (0 : Int32))) _
            refine zw_if0 hm_170 dX12_kind_53 (t := 58) rfl zc0_eq (fun _ => ?_) (fun hc => absurd (by decide) hc)
            refine zw_push hm_170 dX12_kind_58 (v := .inr (.inr (some 94))) rfl ?_
            refine zw_gf hm_170 dX12_kind_59 (v := .inr (.inr (some 97))) (zT_is (zT_pi hS) s_94) (zT_t (zT_pi hS) s_94) rfl f_12_20_12 (zT_f (zT_pi hS) r_94_5) ?_
            refine zw_push hm_170 dX12_kind_62 (v := .inr (.inr (some 94))) rfl ?_
            refine zw_gf hm_170 dX12_kind_63 (v := .inl ((mI S) 94 7)) (zT_is (zT_pi hS) s_94) (zT_t (zT_pi hS) s_94) rfl f_12_118_12 rfl ?_
            refine zw_push hm_170 dX12_kind_66 (v := .inl nw) rfl ?_
            obtain ⟨hg, h⟩ := h
            refine zw_ias hm_170 dX12_kind_67 (zT_is (zT_pi hS) s_97) (zT_h (zT_pi hS) s_97) rfl hg ?_
            refine zw_push hm_170 dX12_kind_68 (v := .inr (.inr (some 94))) rfl ?_
            refine zw_gf hm_170 dX12_kind_69 (v := .inr (.inr (some 98))) (zT_is (zT_pi (zT_pi hS)) s_94) (zT_t (zT_pi (zT_pi hS)) s_94) rfl f_12_24_12 (zT_f (zT_pi (zT_pi hS)) r_94_6) ?_
            refine zw_push hm_170 dX12_kind_72 (v := .inr (.inr (some 94))) rfl ?_
            refine zw_gf hm_170 dX12_kind_73 (v := .inl ((mI S) 94 7)) (zT_is (zT_pi (zT_pi hS)) s_94) (zT_t (zT_pi (zT_pi hS)) s_94) rfl f_12_118_12 rfl ?_
            refine zw_push hm_170 dX12_kind_76 (v := .inl rf) rfl ?_
            obtain ⟨hg, h⟩ := h
            refine zw_ias hm_170 dX12_kind_77 (zT_is (zT_pi (zT_pi hS)) s_98) (zT_h (zT_pi (zT_pi hS)) s_98) rfl hg ?_
            refine zw_push hm_170 dX12_kind_78 (v := .inr (.inr (some 94))) rfl ?_
            refine zw_stk hm_170 dX12_kind_79 (st₉ := [.inr (.inr (some 94)), .inr (.inr (some 94))]) rfl rfl ?_
            refine zw_gf hm_170 dX12_kind_80 (v := .inl ((mI S) 94 7)) (zT_is (zT_pi (zT_pi (zT_pi hS))) s_94) (zT_t (zT_pi (zT_pi (zT_pi hS))) s_94) rfl f_12_118_12 rfl ?_
            refine zw_push hm_170 dX12_kind_83 (v := .inl (1 : Int32)) rfl ?_
            refine zw_stk hm_170 dX12_kind_84 (st₉ := [.inl (((mI S) 94 7) + (1 : Int32)), .inr (.inr (some 94))]) rfl rfl ?_
            refine zw_pf hm_170 dX12_kind_85 (zT_is (zT_pi (zT_pi (zT_pi hS))) s_94) (zT_t (zT_pi (zT_pi (zT_pi hS))) s_94) p_12_118_12 zk_int ?_
            refine zw_push hm_170 dX12_kind_88 (v := .inr (.inr (some 94))) rfl ?_
            refine zw_gf hm_170 dX12_kind_89 (v := .inl (((mI S) 94 7) + (1 : Int32))) (zT_is (zT_pi (zT_pi (zT_pi (zT_pi hS)))) s_94) (zT_t (zT_pi (zT_pi (zT_pi (zT_pi hS)))) s_94) rfl f_12_118_12 rfl ?_
            refine zw_push hm_170 dX12_kind_92 (v := .inl (1 : Int32)) rfl ?_
            refine zw_stk hm_170 dX12_kind_93 (st₉ := [.inl ((((mI S) 94 7) + (1 : Int32)) - (1 : Int32))]) rfl rfl ?_
            exact zw_iret hm_170 dX12_kind_94 (HQ _ _ h)
          · intro hc
            rw [if_pos (Classical.not_not.mp hc)] at h
            refine zw_push hm_170 dX12_kind_45 (v := .inl (2 : Int32)) rfl ?_
            refine zw_goto hm_170 dX12_kind_46 (t := 50) rfl ?_
            refine zw_cv hm_170 dX12_kind_50 v_12_110_12 hm_167 [.inl (2 : Int32)] [] rfl (zT_rt hS s_94 rfl) ⟨by omega, by omega⟩ rfl ?_
            show ma_wp X (d - 1) (w - 21) 167 0 [(0, .inr (.inr (some 94))), (1, .inl (2 : Int32))] [] S _
            refine zw_push hm_167 dX12_fails_0 (v := .inr (.inr (some 94))) rfl ?_
            refine zw_push hm_167 dX12_fails_1 (v := .inl (2 : Int32)) rfl ?_
            refine zw_pf hm_167 dX12_fails_2 (zT_is hS s_94) (zT_t hS s_94) p_12_1_12 zk_int ?_
            refine zw_push hm_167 dX12_fails_5 (v := .inl (2 : Int32)) rfl ?_
            refine zw_if0 hm_167 dX12_fails_6 (t := 13) rfl zc0_eq (fun hc => absurd hc (by decide)) (fun _ => ?_)
            refine zw_push hm_167 dX12_fails_9 (v := .inl (1 : Int32)) rfl ?_
            refine zw_goto hm_167 dX12_fails_10 (t := 14) rfl ?_
            refine zw_bret hm_167 dX12_fails_14 (by decide) ?_
            show ma_wp X d w 170 53 [(3, .inl (0 : Int32)), (0, .inr (.inr (some 94))), (1, .inl nw), (2, .inl rf)] [.inl (1 : Int32)] (ma_put S 94 0 (.inl (2 : Int32))) _
            refine zw_if0 hm_170 dX12_kind_53 (t := 58) rfl zc0_eq (fun hc => absurd hc (by decide)) (fun _ => ?_)
            refine zw_push hm_170 dX12_kind_56 (v := .inl (0 : Int32)) rfl ?_
            exact zw_iret hm_170 dX12_kind_57 (HQ _ _ h)
        · intro hc
          rw [if_neg hc] at h
          refine zw_push hm_170 dX12_kind_32 (v := .inl (1 : Int32)) rfl ?_
          refine zw_goto hm_170 dX12_kind_33 (t := 50) rfl ?_
          refine zw_cv hm_170 dX12_kind_50 v_12_110_12 hm_167 [.inl (1 : Int32)] [] rfl (zT_rt hS s_94 rfl) ⟨by omega, by omega⟩ rfl ?_
          show ma_wp X (d - 1) (w - 21) 167 0 [(0, .inr (.inr (some 94))), (1, .inl (1 : Int32))] [] S _
          refine zw_push hm_167 dX12_fails_0 (v := .inr (.inr (some 94))) rfl ?_
          refine zw_push hm_167 dX12_fails_1 (v := .inl (1 : Int32)) rfl ?_
          refine zw_pf hm_167 dX12_fails_2 (zT_is hS s_94) (zT_t hS s_94) p_12_1_12 zk_int ?_
          refine zw_push hm_167 dX12_fails_5 (v := .inl (1 : Int32)) rfl ?_
          refine zw_if0 hm_167 dX12_fails_6 (t := 13) rfl zc0_eq (fun hc => absurd hc (by decide)) (fun _ => ?_)
          refine zw_push hm_167 dX12_fails_9 (v := .inl (1 : Int32)) rfl ?_
          refine zw_goto hm_167 dX12_fails_10 (t := 14) rfl ?_
          refine zw_bret hm_167 dX12_fails_14 (by decide) ?_
          show ma_wp X d w 170 53 [(3, .inl (0 : Int32)), (0, .inr (.inr (some 94))), (1, .inl nw), (2, .inl rf)] [.inl (1 : Int32)] (ma_put S 94 0 (.inl (1 : Int32))) _
          refine zw_if0 hm_170 dX12_kind_53 (t := 58) rfl zc0_eq (fun hc => absurd hc (by decide)) (fun _ => ?_)
          refine zw_push hm_170 dX12_kind_56 (v := .inl (0 : Int32)) rfl ?_
          exact zw_iret hm_170 dX12_kind_57 (HQ _ _ h)
    · intro hc
      rw [if_neg hc] at h
      refine zw_push hm_170 dX12_kind_10 (v := .inl (1 : Int32)) rfl ?_
      refine zw_goto hm_170 dX12_kind_11 (t := 15) rfl ?_
      refine zw_sto hm_170 dX12_kind_15 [(3, .inl (1 : Int32)), (0, .inr (.inr (some 94))), (1, .inl nw), (2, .inl rf)] rfl rfl rfl ?_
      refine zw_push hm_170 dX12_kind_16 (v := .inr (.inr (some 94))) rfl ?_
      refine zw_push hm_170 dX12_kind_17 (v := .inl (1 : Int32)) rfl ?_
      refine zw_if0 hm_170 dX12_kind_18 (t := 32) rfl zc0_ne (fun _ => ?_) (fun hc => absurd (by decide) hc)
      refine zw_push hm_170 dX12_kind_32 (v := .inl (1 : Int32)) rfl ?_
      refine zw_goto hm_170 dX12_kind_33 (t := 50) rfl ?_
      refine zw_cv hm_170 dX12_kind_50 v_12_110_12 hm_167 [.inl (1 : Int32)] [] rfl (zT_rt hS s_94 rfl) ⟨by omega, by omega⟩ rfl ?_
      show ma_wp X (d - 1) (w - 21) 167 0 [(0, .inr (.inr (some 94))), (1, .inl (1 : Int32))] [] S _
      refine zw_push hm_167 dX12_fails_0 (v := .inr (.inr (some 94))) rfl ?_
      refine zw_push hm_167 dX12_fails_1 (v := .inl (1 : Int32)) rfl ?_
      refine zw_pf hm_167 dX12_fails_2 (zT_is hS s_94) (zT_t hS s_94) p_12_1_12 zk_int ?_
      refine zw_push hm_167 dX12_fails_5 (v := .inl (1 : Int32)) rfl ?_
      refine zw_if0 hm_167 dX12_fails_6 (t := 13) rfl zc0_eq (fun hc => absurd hc (by decide)) (fun _ => ?_)
      refine zw_push hm_167 dX12_fails_9 (v := .inl (1 : Int32)) rfl ?_
      refine zw_goto hm_167 dX12_fails_10 (t := 14) rfl ?_
      refine zw_bret hm_167 dX12_fails_14 (by decide) ?_
      show ma_wp X d w 170 53 [(3, .inl (1 : Int32)), (0, .inr (.inr (some 94))), (1, .inl nw), (2, .inl rf)] [.inl (1 : Int32)] (ma_put S 94 0 (.inl (1 : Int32))) _
      refine zw_if0 hm_170 dX12_kind_53 (t := 58) rfl zc0_eq (fun hc => absurd hc (by decide)) (fun _ => ?_)
      refine zw_push hm_170 dX12_kind_56 (v := .inl (0 : Int32)) rfl ?_
      exact zw_iret hm_170 dX12_kind_57 (HQ _ _ h)
