/-! the reference (written by wip/tools/gen94m.py) -/
set_option maxRecDepth 100000 in
theorem hm_257 : ma_md 257 = some (12, yX12_step, cX12_step, 4, (some (FieldType.int))) := rfl
theorem dX12_step_0 : decode cX12_step 0 = .ok (.aload_n 0, 1) := by decide +kernel
theorem dX12_step_1 : decode cX12_step 1 = .ok (.iload_n 1, 1) := by decide +kernel
theorem dX12_step_12 : decode cX12_step 12 = .ok (.iconst 1, 1) := by decide +kernel
theorem dX12_step_13 : decode cX12_step 13 = .ok (.goto 27, 3) := by decide +kernel
theorem dX12_step_40 : decode cX12_step 40 = .ok (.invokevirtual 110, 3) := by decide +kernel
theorem dX12_step_43 : decode cX12_step 43 = .ok (.ifCond .eq 5, 3) := by decide +kernel
theorem dX12_step_46 : decode cX12_step 46 = .ok (.iconst 0, 1) := by decide +kernel
theorem dX12_step_47 : decode cX12_step 47 = .ok (.ireturn, 1) := by decide +kernel
theorem dX12_step_5 : decode cX12_step 5 = .ok (.iload_n 1, 1) := by decide +kernel
theorem dX12_step_6 : decode cX12_step 6 = .ok (.sipush 1000, 3) := by decide +kernel
theorem dX12_step_16 : decode cX12_step 16 = .ok (.aload_n 0, 1) := by decide +kernel
theorem dX12_step_27 : decode cX12_step 27 = .ok (.aload_n 0, 1) := by decide +kernel
theorem dX12_step_31 : decode cX12_step 31 = .ok (.iconst 5, 1) := by decide +kernel
theorem dX12_step_39 : decode cX12_step 39 = .ok (.iconst 0, 1) := by decide +kernel
theorem dX12_step_48 : decode cX12_step 48 = .ok (.aload_n 0, 1) := by decide +kernel
theorem dX12_step_57 : decode cX12_step 57 = .ok (.aload_n 0, 1) := by decide +kernel
theorem dX12_step_58 : decode cX12_step 58 = .ok (.iload_n 1, 1) := by decide +kernel
theorem dX12_step_59 : decode cX12_step 59 = .ok (.invokevirtual 402, 3) := by decide +kernel
theorem dX12_step_62 : decode cX12_step 62 = .ok (.istore_n 2, 1) := by decide +kernel
theorem dX12_step_63 : decode cX12_step 63 = .ok (.aload_n 0, 1) := by decide +kernel
theorem dX12_step_64 : decode cX12_step 64 = .ok (.invokevirtual 405, 3) := by decide +kernel
theorem dX12_step_67 : decode cX12_step 67 = .ok (.istore_n 3, 1) := by decide +kernel
theorem dX12_step_68 : decode cX12_step 68 = .ok (.iload_n 2, 1) := by decide +kernel
theorem dX12_step_69 : decode cX12_step 69 = .ok (.ireturn, 1) := by decide +kernel
theorem dX12_step_55 : decode cX12_step 55 = .ok (.iconst 0, 1) := by decide +kernel
theorem dX12_step_56 : decode cX12_step 56 = .ok (.ireturn, 1) := by decide +kernel
theorem dX12_step_52 : decode cX12_step 52 = .ok (.ifCond .ne 5, 3) := by decide +kernel
theorem dX12_step_49 : decode cX12_step 49 = .ok (.getfield 270, 3) := by decide +kernel
theorem dX12_step_35 : decode cX12_step 35 = .ok (.iconst 3, 1) := by decide +kernel
theorem dX12_step_36 : decode cX12_step 36 = .ok (.goto 4, 3) := by decide +kernel
theorem dX12_step_32 : decode cX12_step 32 = .ok (.if_icmp .eq 7, 3) := by decide +kernel
theorem dX12_step_28 : decode cX12_step 28 = .ok (.getfield 199, 3) := by decide +kernel
theorem dX12_step_23 : decode cX12_step 23 = .ok (.iconst 2, 1) := by decide +kernel
theorem dX12_step_24 : decode cX12_step 24 = .ok (.goto 16, 3) := by decide +kernel
theorem dX12_step_20 : decode cX12_step 20 = .ok (.ifCond .ne 7, 3) := by decide +kernel
theorem dX12_step_17 : decode cX12_step 17 = .ok (.getfield 237, 3) := by decide +kernel
theorem dX12_step_9 : decode cX12_step 9 = .ok (.if_icmp .le 7, 3) := by decide +kernel
theorem dX12_step_2 : decode cX12_step 2 = .ok (.ifCond .lt 10, 3) := by decide +kernel
def wr_257 (c k : Nat) : Bool := Nat.beq c 99 || Nat.beq c 105 || Nat.beq c 106 || Nat.beq c 109 || Nat.beq c 110 || Nat.beq c 111 || Nat.beq c 113 || Nat.beq c 114 || Nat.beq c 115 || Nat.beq c 118 || (Nat.beq c 94 && (Nat.beq k 0 || Nat.beq k 44 || Nat.beq k 45 || Nat.beq k 47 || Nat.beq k 49 || Nat.beq k 55 || Nat.beq k 56 || Nat.beq k 57 || Nat.beq k 58 || Nat.beq k 73))
theorem ws_222_257 : ∀ c k, wr_222 c k = true → wr_257 c k = true := by
  intro c k h
  simp only [wr_222, wr_257, Bool.or_eq_true, Bool.and_eq_true, Nat.beq_eq] at h ⊢
  omega
theorem ws_223_257 : ∀ c k, wr_223 c k = true → wr_257 c k = true := by
  intro c k h
  simp only [wr_223, wr_257, Bool.or_eq_true, Bool.and_eq_true, Nat.beq_eq] at h ⊢
  omega
theorem g_257_0 {X : Nat × (Nat → Int32)} {m : Nat → Nat → Int32} {P : Option ma_V → (Nat → Nat → Int32) → Prop} (nn : Int32) (h : if nn < 0 then (P (some (.inl (0 : Int32))) (ma_u m 94 0 (1 : Int32))) else (if nn ≤ (1000 : Int32) then (if (m 94 8) = 0 then (P (some (.inl (0 : Int32))) (ma_u m 94 0 (2 : Int32))) else (if (m 94 10) = (5 : Int32) then (if (m 94 58) = 0 then (P (some (.inl (0 : Int32))) (ma_u m 94 0 (0 : Int32))) else (zm X 2 44 222 0 [(0, .inr (.inr (some 94))), (1, .inl nn)] (ma_u m 94 0 (0 : Int32)) (zmi (fun v2 m1 => zm X 4 88 223 0 [(0, .inr (.inr (some 94)))] m1 (zmi (fun v4 m3 => P (some (.inl v2)) m3)))))) else (P (some (.inl (0 : Int32))) (ma_u m 94 0 (3 : Int32))))) else (P (some (.inl (0 : Int32))) (ma_u m 94 0 (1 : Int32))))) : zm X 5 109 257 0 [(0, .inr (.inr (some 94))), (1, .inl nn)] m P := by
  intro d w S Q hd hw hS hm HQ
  subst hm
  refine zw_push hm_257 dX12_step_0 (v := .inr (.inr (some 94))) rfl ?_
  refine zw_push hm_257 dX12_step_1 (v := .inl nn) rfl ?_
  refine zw_if0 hm_257 dX12_step_2 (t := 12) rfl zc0_lt ?_ ?_
  · intro hc
    rw [if_pos hc] at h
    refine zw_push hm_257 dX12_step_12 (v := .inl (1 : Int32)) rfl ?_
    refine zw_goto hm_257 dX12_step_13 (t := 40) rfl ?_
    refine zw_cv hm_257 dX12_step_40 v_12_110_12 hm_167 [.inl (1 : Int32)] [] rfl (zT_rt hS s_94 rfl) ⟨by omega, by omega⟩ rfl ?_
    show ma_wp X (d - 1) (w - 21) 167 0 [(0, .inr (.inr (some 94))), (1, .inl (1 : Int32))] [] S _
    refine zw_push hm_167 dX12_fails_0 (v := .inr (.inr (some 94))) rfl ?_
    refine zw_push hm_167 dX12_fails_1 (v := .inl (1 : Int32)) rfl ?_
    refine zw_pf hm_167 dX12_fails_2 (zT_is hS s_94) (zT_t hS s_94) p_12_1_12 zk_int ?_
    refine zw_push hm_167 dX12_fails_5 (v := .inl (1 : Int32)) rfl ?_
    refine zw_if0 hm_167 dX12_fails_6 (t := 13) rfl zc0_eq (fun hc => absurd hc (by decide)) (fun _ => ?_)
    refine zw_push hm_167 dX12_fails_9 (v := .inl (1 : Int32)) rfl ?_
    refine zw_goto hm_167 dX12_fails_10 (t := 14) rfl ?_
    refine zw_bret hm_167 dX12_fails_14 (by decide) ?_
    show ma_wp X d w 257 43 [(0, .inr (.inr (some 94))), (1, .inl nn)] [.inl (1 : Int32)] (ma_put S 94 0 (.inl (1 : Int32))) _
    refine zw_if0 hm_257 dX12_step_43 (t := 48) rfl zc0_eq (fun hc => absurd hc (by decide)) (fun _ => ?_)
    refine zw_push hm_257 dX12_step_46 (v := .inl (0 : Int32)) rfl ?_
    exact zw_iret hm_257 dX12_step_47 (HQ _ _ h)
  · intro hc
    rw [if_neg hc] at h
    refine zw_push hm_257 dX12_step_5 (v := .inl nn) rfl ?_
    refine zw_push hm_257 dX12_step_6 (v := .inl (1000 : Int32)) rfl ?_
    refine zw_if2 hm_257 dX12_step_9 (t := 16) rfl zc2_le ?_ ?_
    · intro hc
      rw [if_pos hc] at h
      refine zw_push hm_257 dX12_step_16 (v := .inr (.inr (some 94))) rfl ?_
      refine zw_gf hm_257 dX12_step_17 (v := .inl ((mI S) 94 8)) (zT_is hS s_94) (zT_t hS s_94) rfl f_12_237_12 rfl ?_
      refine zw_if0 hm_257 dX12_step_20 (t := 27) rfl zc0_ne ?_ ?_
      · intro hc
        rw [if_neg hc] at h
        refine zw_push hm_257 dX12_step_27 (v := .inr (.inr (some 94))) rfl ?_
        refine zw_gf hm_257 dX12_step_28 (v := .inl ((mI S) 94 10)) (zT_is hS s_94) (zT_t hS s_94) rfl f_12_199_12 rfl ?_
        refine zw_push hm_257 dX12_step_31 (v := .inl (5 : Int32)) rfl ?_
        refine zw_if2 hm_257 dX12_step_32 (t := 39) rfl zc2_eq ?_ ?_
        · intro hc
          rw [if_pos hc] at h
          refine zw_push hm_257 dX12_step_39 (v := .inl (0 : Int32)) rfl ?_
          refine zw_cv hm_257 dX12_step_40 v_12_110_12 hm_167 [.inl (0 : Int32)] [] rfl (zT_rt hS s_94 rfl) ⟨by omega, by omega⟩ rfl ?_
          show ma_wp X (d - 1) (w - 21) 167 0 [(0, .inr (.inr (some 94))), (1, .inl (0 : Int32))] [] S _
          refine zw_push hm_167 dX12_fails_0 (v := .inr (.inr (some 94))) rfl ?_
          refine zw_push hm_167 dX12_fails_1 (v := .inl (0 : Int32)) rfl ?_
          refine zw_pf hm_167 dX12_fails_2 (zT_is hS s_94) (zT_t hS s_94) p_12_1_12 zk_int ?_
          refine zw_push hm_167 dX12_fails_5 (v := .inl (0 : Int32)) rfl ?_
          refine zw_if0 hm_167 dX12_fails_6 (t := 13) rfl zc0_eq (fun _ => ?_) (fun hc => absurd (by decide) hc)
          refine zw_push hm_167 dX12_fails_13 (v := .inl (0 : Int32)) rfl ?_
          refine zw_bret hm_167 dX12_fails_14 (by decide) ?_
          show ma_wp X d w 257 43 [(0, .inr (.inr (some 94))), (1, .inl nn)] [.inl (0 : Int32)] (ma_put S 94 0 (.inl (0 : Int32))) _
          refine zw_if0 hm_257 dX12_step_43 (t := 48) rfl zc0_eq (fun _ => ?_) (fun hc => absurd (by decide) hc)
          refine zw_push hm_257 dX12_step_48 (v := .inr (.inr (some 94))) rfl ?_
          refine zw_gf hm_257 dX12_step_49 (v := .inl ((mI S) 94 58)) (zT_is (zT_pi hS) s_94) (zT_t (zT_pi hS) s_94) rfl f_12_270_12 rfl ?_
          refine zw_if0 hm_257 dX12_step_52 (t := 57) rfl zc0_ne ?_ ?_
          · intro hc
            rw [if_neg hc] at h
            refine zw_push hm_257 dX12_step_57 (v := .inr (.inr (some 94))) rfl ?_
            refine zw_push hm_257 dX12_step_58 (v := .inl nn) rfl ?_
            refine zw_cv hm_257 dX12_step_59 v_12_402_12 hm_222 [.inl nn] [] rfl (zT_rt (zT_pi hS) s_94 rfl) ⟨by omega, by omega⟩ rfl (h _ _ (ma_put S 94 0 (.inl (0 : Int32))) _ (by omega) (by omega) (zT_pi hS) rfl (fun o9 m1 hv => ?_))
            obtain ⟨v2, rfl, h⟩ := zmi_of hv
            show ma_wp X d w 257 62 [(0, .inr (.inr (some 94))), (1, .inl nn)] [.inl v2] (zst S m1) _
            refine zw_sto hm_257 dX12_step_62 [(2, .inl v2), (0, .inr (.inr (some 94))), (1, .inl nn)] rfl rfl rfl ?_
            refine zw_push hm_257 dX12_step_63 (v := .inr (.inr (some 94))) rfl ?_
            refine zw_cv hm_257 dX12_step_64 v_12_405_12 hm_223 [] [] rfl (zT_rt (zT_zst hS m1) s_94 rfl) ⟨by omega, by omega⟩ rfl (h _ _ (zst S m1) _ (by omega) (by omega) (zT_zst hS m1) rfl (fun o9 m3 hv => ?_))
            obtain ⟨v4, rfl, h⟩ := zmi_of hv
            show ma_wp X d w 257 67 [(2, .inl v2), (0, .inr (.inr (some 94))), (1, .inl nn)] [.inl v4] (zst S m3) _
            refine zw_sto hm_257 dX12_step_67 [(3, .inl v4), (2, .inl v2), (0, .inr (.inr (some 94))), (1, .inl nn)] rfl rfl rfl ?_
            refine zw_push hm_257 dX12_step_68 (v := .inl v2) rfl ?_
            exact zw_iret hm_257 dX12_step_69 (HQ _ _ h)
          · intro hc
            rw [if_pos (Classical.not_not.mp hc)] at h
            refine zw_push hm_257 dX12_step_55 (v := .inl (0 : Int32)) rfl ?_
            exact zw_iret hm_257 dX12_step_56 (HQ _ _ h)
        · intro hc
          rw [if_neg hc] at h
          refine zw_push hm_257 dX12_step_35 (v := .inl (3 : Int32)) rfl ?_
          refine zw_goto hm_257 dX12_step_36 (t := 40) rfl ?_
          refine zw_cv hm_257 dX12_step_40 v_12_110_12 hm_167 [.inl (3 : Int32)] [] rfl (zT_rt hS s_94 rfl) ⟨by omega, by omega⟩ rfl ?_
          show ma_wp X (d - 1) (w - 21) 167 0 [(0, .inr (.inr (some 94))), (1, .inl (3 : Int32))] [] S _
          refine zw_push hm_167 dX12_fails_0 (v := .inr (.inr (some 94))) rfl ?_
          refine zw_push hm_167 dX12_fails_1 (v := .inl (3 : Int32)) rfl ?_
          refine zw_pf hm_167 dX12_fails_2 (zT_is hS s_94) (zT_t hS s_94) p_12_1_12 zk_int ?_
          refine zw_push hm_167 dX12_fails_5 (v := .inl (3 : Int32)) rfl ?_
          refine zw_if0 hm_167 dX12_fails_6 (t := 13) rfl zc0_eq (fun hc => absurd hc (by decide)) (fun _ => ?_)
          refine zw_push hm_167 dX12_fails_9 (v := .inl (1 : Int32)) rfl ?_
          refine zw_goto hm_167 dX12_fails_10 (t := 14) rfl ?_
          refine zw_bret hm_167 dX12_fails_14 (by decide) ?_
          show ma_wp X d w 257 43 [(0, .inr (.inr (some 94))), (1, .inl nn)] [.inl (1 : Int32)] (ma_put S 94 0 (.inl (3 : Int32))) _
          refine zw_if0 hm_257 dX12_step_43 (t := 48) rfl zc0_eq (fun hc => absurd hc (by decide)) (fun _ => ?_)
          refine zw_push hm_257 dX12_step_46 (v := .inl (0 : Int32)) rfl ?_
          exact zw_iret hm_257 dX12_step_47 (HQ _ _ h)
      · intro hc
        rw [if_pos (Classical.not_not.mp hc)] at h
        refine zw_push hm_257 dX12_step_23 (v := .inl (2 : Int32)) rfl ?_
        refine zw_goto hm_257 dX12_step_24 (t := 40) rfl ?_
        refine zw_cv hm_257 dX12_step_40 v_12_110_12 hm_167 [.inl (2 : Int32)] [] rfl (zT_rt hS s_94 rfl) ⟨by omega, by omega⟩ rfl ?_
        show ma_wp X (d - 1) (w - 21) 167 0 [(0, .inr (.inr (some 94))), (1, .inl (2 : Int32))] [] S _
        refine zw_push hm_167 dX12_fails_0 (v := .inr (.inr (some 94))) rfl ?_
        refine zw_push hm_167 dX12_fails_1 (v := .inl (2 : Int32)) rfl ?_
        refine zw_pf hm_167 dX12_fails_2 (zT_is hS s_94) (zT_t hS s_94) p_12_1_12 zk_int ?_
        refine zw_push hm_167 dX12_fails_5 (v := .inl (2 : Int32)) rfl ?_
        refine zw_if0 hm_167 dX12_fails_6 (t := 13) rfl zc0_eq (fun hc => absurd hc (by decide)) (fun _ => ?_)
        refine zw_push hm_167 dX12_fails_9 (v := .inl (1 : Int32)) rfl ?_
        refine zw_goto hm_167 dX12_fails_10 (t := 14) rfl ?_
        refine zw_bret hm_167 dX12_fails_14 (by decide) ?_
        show ma_wp X d w 257 43 [(0, .inr (.inr (some 94))), (1, .inl nn)] [.inl (1 : Int32)] (ma_put S 94 0 (.inl (2 : Int32))) _
        refine zw_if0 hm_257 dX12_step_43 (t := 48) rfl zc0_eq (fun hc => absurd hc (by decide)) (fun _ => ?_)
        refine zw_push hm_257 dX12_step_46 (v := .inl (0 : Int32)) rfl ?_
        exact zw_iret hm_257 dX12_step_47 (HQ _ _ h)
    · intro hc
      rw [if_neg hc] at h
      refine zw_push hm_257 dX12_step_12 (v := .inl (1 : Int32)) rfl ?_
      refine zw_goto hm_257 dX12_step_13 (t := 40) rfl ?_
      refine zw_cv hm_257 dX12_step_40 v_12_110_12 hm_167 [.inl (1 : Int32)] [] rfl (zT_rt hS s_94 rfl) ⟨by omega, by omega⟩ rfl ?_
      show ma_wp X (d - 1) (w - 21) 167 0 [(0, .inr (.inr (some 94))), (1, .inl (1 : Int32))] [] S _
      refine zw_push hm_167 dX12_fails_0 (v := .inr (.inr (some 94))) rfl ?_
      refine zw_push hm_167 dX12_fails_1 (v := .inl (1 : Int32)) rfl ?_
      refine zw_pf hm_167 dX12_fails_2 (zT_is hS s_94) (zT_t hS s_94) p_12_1_12 zk_int ?_
      refine zw_push hm_167 dX12_fails_5 (v := .inl (1 : Int32)) rfl ?_
      refine zw_if0 hm_167 dX12_fails_6 (t := 13) rfl zc0_eq (fun hc => absurd hc (by decide)) (fun _ => ?_)
      refine zw_push hm_167 dX12_fails_9 (v := .inl (1 : Int32)) rfl ?_
      refine zw_goto hm_167 dX12_fails_10 (t := 14) rfl ?_
      refine zw_bret hm_167 dX12_fails_14 (by decide) ?_
      show ma_wp X d w 257 43 [(0, .inr (.inr (some 94))), (1, .inl nn)] [.inl (1 : Int32)] (ma_put S 94 0 (.inl (1 : Int32))) _
      refine zw_if0 hm_257 dX12_step_43 (t := 48) rfl zc0_eq (fun hc => absurd hc (by decide)) (fun _ => ?_)
      refine zw_push hm_257 dX12_step_46 (v := .inl (0 : Int32)) rfl ?_
      exact zw_iret hm_257 dX12_step_47 (HQ _ _ h)
theorem sp_257 {X : Nat × (Nat → Int32)} {P : Option ma_V → (Nat → Nat → Int32) → Prop} {T : Nat} {m : Nat → Nat → Int32} (nn : Int32) (hV : zV m) (r_W : zW (m 94 7) (m 98) (m 101) (m 102) (m 108)) (r_GW : zGW T (m 94 55) (m 109)) (r_GU : zGU T (m 94 46) (m 99)) (r_OW : zOw (m 99) (m 103) (m 111)) (r_DX : zDX (m 94 10) (m 99) (m 112) (m 113) (m 114) (m 94 55) (m 98) (m 101) (m 102) (m 108)) (r_GG : zGG (m 94 58) (m 94 56) (m 94 57) (m 106)) (r_HA : zHA (m 94 10) (m 94 11) (m 94 13) (m 94 14) (m 94 16) (m 94 61) (m 94 59) (m 94 60) (m 99) (m 102) (m 103) (m 111) (m 117) (m 98) (m 101) (m 108)) (r_RGc : zRG (m 94 10) (m 94 18) (m 94 64) (m 94 63) (m 99) (m 103) (m 102) (m 116)) (hpre8 : (m 94 58).toInt = 0 ∨ (m 94 10).toInt = 5) (KZ : ∀ v m', zV (zov wr_257 m m') → (zW (m 94 7) (m 98) (m 101) (m 102) (m 108)) → (zGW T (m' 94 55) (m' 109)) → (zGU T (m 94 46) (m' 99)) → (zOw (m' 99) (m 103) (m' 111)) → (zDX (m 94 10) (m' 99) (m 112) (m' 113) (m' 114) (m' 94 55) (m 98) (m 101) (m 102) (m 108)) → (zGG (m' 94 58) (m' 94 56) (m' 94 57) (m' 106)) → (zHA (m 94 10) (m 94 11) (m 94 13) (m 94 14) (m 94 16) (m 94 61) (m 94 59) (m 94 60) (m' 99) (m 102) (m 103) (m' 111) (m 117) (m 98) (m 101) (m 108)) → (zRG (m 94 10) (m 94 18) (m 94 64) (m 94 63) (m' 99) (m 103) (m 102) (m 116)) → ((m' 94 58).toInt = 0 ∨ (m 94 10).toInt = 5) → P (some (.inl v)) (zov wr_257 m m')) : zm X 5 109 257 0 [(0, .inr (.inr (some 94))), (1, .inl nn)] m P := by
  have K : ∀ v m', zF wr_257 m m' → zV m' → (zW (m' 94 7) (m' 98) (m' 101) (m' 102) (m' 108)) → (zGW T (m' 94 55) (m' 109)) → (zGU T (m' 94 46) (m' 99)) → (zOw (m' 99) (m' 103) (m' 111)) → (zDX (m' 94 10) (m' 99) (m' 112) (m' 113) (m' 114) (m' 94 55) (m' 98) (m' 101) (m' 102) (m' 108)) → (zGG (m' 94 58) (m' 94 56) (m' 94 57) (m' 106)) → (zHA (m' 94 10) (m' 94 11) (m' 94 13) (m' 94 14) (m' 94 16) (m' 94 61) (m' 94 59) (m' 94 60) (m' 99) (m' 102) (m' 103) (m' 111) (m' 117) (m' 98) (m' 101) (m' 108)) → (zRG (m' 94 10) (m' 94 18) (m' 94 64) (m' 94 63) (m' 99) (m' 103) (m' 102) (m' 116)) → ((m' 94 58).toInt = 0 ∨ (m' 94 10).toInt = 5) → P (some (.inl v)) m' := by
    intro v m' hf z q0 q1 q2 q3 q4 q5 q6 q7 q8
    have e := zov_eq hf
    rw [e] at z ⊢
    try rw [e] at q0
    try rw [e] at q1
    try rw [e] at q2
    try rw [e] at q3
    try rw [e] at q4
    try rw [e] at q5
    try rw [e] at q6
    try rw [e] at q7
    try rw [e] at q8
    exact KZ v m' z q0 q1 q2 q3 q4 q5 q6 q7 q8
  refine g_257_0 nn ?_
  have f1 : 0 ≤ (m 94 58).toInt ∧ (m 94 58).toInt ≤ 1 := rs_94_58 (m := m) hV
  have f2 : 0 ≤ (m 94 10).toInt ∧ (m 94 10).toInt ≤ 6 := rs_94_10 (m := m) hV
  have b3 := i_bd nn
  have li4 : (0 : Int32).toInt = 0 := rfl
  refine zd (fun (h5 : nn < (0 : Int32)) => ?_) (fun (h5 : ¬ nn < (0 : Int32)) => ?_)
  · skip
    have g6 := i_lt h5
    have hV7 : zV (ma_u m 94 0 (1 : Int32)) := uf_94_0 hV
    exact K ((0 : Int32)) _ (zF_u zF_rfl rfl) hV7 r_W r_GW r_GU r_OW r_DX r_GG r_HA r_RGc (show (m 94 58).toInt = 0 ∨ (m 94 10).toInt = 5 from by omega)
  · skip
    have g8 := i_nlt h5
    have li9 : (1000 : Int32).toInt = 1000 := rfl
    refine zd (fun (h10 : nn ≤ (1000 : Int32)) => ?_) (fun (h10 : ¬ nn ≤ (1000 : Int32)) => ?_)
    · skip
      have g11 := i_le h10
      have f12 : 0 ≤ (m 94 8).toInt ∧ (m 94 8).toInt ≤ 1 := rs_94_8 (m := m) hV
      refine zd (fun (h13 : (m 94 8) = (0 : Int32)) => ?_) (fun (h13 : ¬ (m 94 8) = (0 : Int32)) => ?_)
      · skip
        have g14 := i_eq h13
        have hV15 : zV (ma_u m 94 0 (2 : Int32)) := uf_94_0 hV
        exact K ((0 : Int32)) _ (zF_u zF_rfl rfl) hV15 r_W r_GW r_GU r_OW r_DX r_GG r_HA r_RGc (show (m 94 58).toInt = 0 ∨ (m 94 10).toInt = 5 from by omega)
      · skip
        have g16 := i_ne h13
        have li17 : (5 : Int32).toInt = 5 := rfl
        refine zd (fun (h18 : (m 94 10) = (5 : Int32)) => ?_) (fun (h18 : ¬ (m 94 10) = (5 : Int32)) => ?_)
        · skip
          have g19 := i_eq h18
          refine zd (fun (h20 : (m 94 58) = (0 : Int32)) => ?_) (fun (h20 : ¬ (m 94 58) = (0 : Int32)) => ?_)
          · skip
            have g21 := i_eq h20
            have hV22 : zV (ma_u m 94 0 (0 : Int32)) := uf_94_0 hV
            exact K ((0 : Int32)) _ (zF_u zF_rfl rfl) hV22 r_W r_GW r_GU r_OW r_DX r_GG r_HA r_RGc (show (m 94 58).toInt = 0 ∨ (m 94 10).toInt = 5 from by omega)
          · skip
            have g23 := i_ne h20
            have hV24 : zV (ma_u m 94 0 (0 : Int32)) := uf_94_0 hV
            refine sp_222 (nn) hV24 r_W (show zG1 (m 94 56) (m 94 57) (m 106) from by first | (exact G1_0 (by omega) (by omega)) | (exact r_GG (by omega)) | (exfalso; omega; done) | (exfalso; contradiction; done)) (fun v2 m1 hV_m1 p0_m1 p1_m1 p2_m1 => zmi_n ?_)
            have p0_m1 : zG1 (m1 94 56) (m1 94 57) (m1 106) := p0_m1
            have p1_m1 : (m 94 56).toInt ≤ (m1 94 56).toInt := p1_m1
            have p2_m1 : (m 94 57).toInt ≤ (m1 94 57).toInt ∧ ((m1 94 56).toInt ≤ (m1 94 57).toInt ∨ (m 94 57).toInt + nn.toInt ≤ (m1 94 57).toInt) := p2_m1
            have f25 : 0 ≤ (m 94 56).toInt ∧ (m 94 56).toInt ≤ 3100 := rs_94_56 (m := m) hV
            have f26 : 0 ≤ (m1 94 56).toInt ∧ (m1 94 56).toInt ≤ 3100 := rs_94_56 (m := (zov wr_222 (ma_u m 94 0 (0 : Int32)) m1)) hV_m1
            have f27 : 0 ≤ (m 94 57).toInt ∧ (m 94 57).toInt ≤ 3100 := rs_94_57 (m := m) hV
            have f28 : 0 ≤ (m1 94 57).toInt ∧ (m1 94 57).toInt ≤ 3100 := rs_94_57 (m := (zov wr_222 (ma_u m 94 0 (0 : Int32)) m1)) hV_m1
            refine sp_223  hV_m1 r_W r_GW r_GU r_OW r_DX p0_m1 (show (m 94 10).toInt = 5 from by omega) (show (m 94 58).toInt = 1 from by omega) (fun v4 m3 hV_m3 p0_m3 p1_m3 p2_m3 p3_m3 p4_m3 p5_m3 => zmi_n ?_)
            have p0_m3 : zGW T (m3 94 55) (m3 109) := p0_m3
            have p1_m3 : zGU T (m 94 46) (m3 99) := p1_m3
            have p2_m3 : zOw (m3 99) (m 103) (m3 111) := p2_m3
            have p3_m3 : zDX (m 94 10) (m3 99) (m 112) (m3 113) (m3 114) (m3 94 55) (m 98) (m 101) (m 102) (m 108) := p3_m3
            have p4_m3 : zGG (m3 94 58) (m3 94 56) (m1 94 57) (m3 106) := p4_m3
            have p5_m3 : (m3 94 58).toInt = 0 ∨ ((m3 94 58).toInt = 1 ∧ (m1 94 57).toInt < (m3 94 56).toInt ∧ (m1 94 57).toInt = (m1 94 57).toInt) := p5_m3
            have f29 : 0 ≤ (m3 94 58).toInt ∧ (m3 94 58).toInt ≤ 1 := rs_94_58 (m := (zov wr_223 (zov wr_222 (ma_u m 94 0 (0 : Int32)) m1) m3)) hV_m3
            have f30 : 0 ≤ (m3 94 56).toInt ∧ (m3 94 56).toInt ≤ 3100 := rs_94_56 (m := (zov wr_223 (zov wr_222 (ma_u m 94 0 (0 : Int32)) m1) m3)) hV_m3
            have b31 := i_bd v2
            exact K (v2) _ (zF_zov (zF_zov (zF_u zF_rfl rfl) ws_222_257) ws_223_257) hV_m3 r_W p0_m3 p1_m3 p2_m3 p3_m3 p4_m3 (show zHA (m 94 10) (m 94 11) (m 94 13) (m 94 14) (m 94 16) (m 94 61) (m 94 59) (m 94 60) (m3 99) (m 102) (m 103) (m3 111) (m 117) (m 98) (m 101) (m 108) from by first | (exact ⟨fun z => absurd z (by omega), fun z => absurd z (by omega)⟩) | (exfalso; omega; done) | (exfalso; contradiction; done)) (show zRG (m 94 10) (m 94 18) (m 94 64) (m 94 63) (m3 99) (m 103) (m 102) (m 116) from by first | (exact fun z => absurd z (by omega)) | (exfalso; omega; done) | (exfalso; contradiction; done)) (show (m3 94 58).toInt = 0 ∨ (m 94 10).toInt = 5 from by omega)
        · skip
          have g32 := i_ne h18
          have hV33 : zV (ma_u m 94 0 (3 : Int32)) := uf_94_0 hV
          exact K ((0 : Int32)) _ (zF_u zF_rfl rfl) hV33 r_W r_GW r_GU r_OW r_DX r_GG r_HA r_RGc (show (m 94 58).toInt = 0 ∨ (m 94 10).toInt = 5 from by omega)
    · skip
      have g34 := i_nle h10
      have hV35 : zV (ma_u m 94 0 (1 : Int32)) := uf_94_0 hV
      exact K ((0 : Int32)) _ (zF_u zF_rfl rfl) hV35 r_W r_GW r_GU r_OW r_DX r_GG r_HA r_RGc (show (m 94 58).toInt = 0 ∨ (m 94 10).toInt = 5 from by omega)
