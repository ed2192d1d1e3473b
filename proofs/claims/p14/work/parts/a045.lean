/-! from 94.454 -/
/-! the reference (written by wip/tools/gen94m.py) -/
set_option maxRecDepth 100000 in
theorem hm_254 : ma_md 254 = some (12, yX12_wish, cX12_wish, 4, (some (FieldType.int))) := rfl
theorem dX12_wish_0 : decode cX12_wish 0 = .ok (.aload_n 0, 1) := by decide +kernel
theorem dX12_wish_1 : decode cX12_wish 1 = .ok (.aload_n 0, 1) := by decide +kernel
theorem dX12_wish_12 : decode cX12_wish 12 = .ok (.iconst 0, 1) := by decide +kernel
theorem dX12_wish_13 : decode cX12_wish 13 = .ok (.invokevirtual 110, 3) := by decide +kernel
theorem dX12_wish_16 : decode cX12_wish 16 = .ok (.ifCond .eq 5, 3) := by decide +kernel
theorem dX12_wish_21 : decode cX12_wish 21 = .ok (.aload_n 0, 1) := by decide +kernel
theorem dX12_wish_22 : decode cX12_wish 22 = .ok (.iload_n 1, 1) := by decide +kernel
theorem dX12_wish_23 : decode cX12_wish 23 = .ok (.invokevirtual 499, 3) := by decide +kernel
theorem dX12_wish_26 : decode cX12_wish 26 = .ok (.istore_n 2, 1) := by decide +kernel
theorem dX12_wish_27 : decode cX12_wish 27 = .ok (.aload_n 0, 1) := by decide +kernel
theorem dX12_wish_28 : decode cX12_wish 28 = .ok (.iload_n 2, 1) := by decide +kernel
theorem dX12_wish_36 : decode cX12_wish 36 = .ok (.iconst 0, 1) := by decide +kernel
theorem dX12_wish_37 : decode cX12_wish 37 = .ok (.invokevirtual 110, 3) := by decide +kernel
theorem dX12_wish_40 : decode cX12_wish 40 = .ok (.ifCond .eq 5, 3) := by decide +kernel
theorem dX12_wish_45 : decode cX12_wish 45 = .ok (.aload_n 0, 1) := by decide +kernel
theorem dX12_wish_49 : decode cX12_wish 49 = .ok (.iload_n 2, 1) := by decide +kernel
theorem dX12_wish_58 : decode cX12_wish 58 = .ok (.iconst 1, 1) := by decide +kernel
theorem dX12_wish_59 : decode cX12_wish 59 = .ok (.istore_n 3, 1) := by decide +kernel
theorem dX12_wish_60 : decode cX12_wish 60 = .ok (.aload_n 0, 1) := by decide +kernel
theorem dX12_wish_64 : decode cX12_wish 64 = .ok (.iload_n 2, 1) := by decide +kernel
theorem dX12_wish_65 : decode cX12_wish 65 = .ok (.iconst 1, 1) := by decide +kernel
theorem dX12_wish_67 : decode cX12_wish 67 = .ok (.iload_n 3, 1) := by decide +kernel
theorem dX12_wish_68 : decode cX12_wish 68 = .ok (.ireturn, 1) := by decide +kernel
theorem dX12_wish_66 : decode cX12_wish 66 = .ok (.bastore, 1) := by decide +kernel
theorem dX12_wish_61 : decode cX12_wish 61 = .ok (.getfield 59, 3) := by decide +kernel
theorem dX12_wish_54 : decode cX12_wish 54 = .ok (.iconst 0, 1) := by decide +kernel
theorem dX12_wish_55 : decode cX12_wish 55 = .ok (.goto 4, 3) := by decide +kernel
theorem dX12_wish_51 : decode cX12_wish 51 = .ok (.ifCond .eq 7, 3) := by decide +kernel
theorem dX12_wish_50 : decode cX12_wish 50 = .ok (.baload, 1) := by decide +kernel
theorem dX12_wish_46 : decode cX12_wish 46 = .ok (.getfield 59, 3) := by decide +kernel
theorem dX12_wish_32 : decode cX12_wish 32 = .ok (.iconst 2, 1) := by decide +kernel
theorem dX12_wish_33 : decode cX12_wish 33 = .ok (.goto 4, 3) := by decide +kernel
theorem dX12_wish_43 : decode cX12_wish 43 = .ok (.iconst 0, 1) := by decide +kernel
theorem dX12_wish_44 : decode cX12_wish 44 = .ok (.ireturn, 1) := by decide +kernel
theorem dX12_wish_29 : decode cX12_wish 29 = .ok (.ifCond .ge 7, 3) := by decide +kernel
theorem dX12_wish_8 : decode cX12_wish 8 = .ok (.iconst 1, 1) := by decide +kernel
theorem dX12_wish_9 : decode cX12_wish 9 = .ok (.goto 4, 3) := by decide +kernel
theorem dX12_wish_19 : decode cX12_wish 19 = .ok (.iconst 0, 1) := by decide +kernel
theorem dX12_wish_20 : decode cX12_wish 20 = .ok (.ireturn, 1) := by decide +kernel
theorem dX12_wish_5 : decode cX12_wish 5 = .ok (.ifCond .ne 7, 3) := by decide +kernel
theorem dX12_wish_2 : decode cX12_wish 2 = .ok (.getfield 237, 3) := by decide +kernel
def wr_254 (c k : Nat) : Bool := Nat.beq c 109 || Nat.beq c 110 || Nat.beq c 118 || (Nat.beq c 94 && (Nat.beq k 0 || Nat.beq k 73))
theorem ws_245_254 : ∀ c k, wr_245 c k = true → wr_254 c k = true := by
  intro c k h
  simp only [wr_245, wr_254, Bool.or_eq_true, Bool.and_eq_true, Nat.beq_eq] at h ⊢
  omega
theorem g_254_0 {X : Nat × (Nat → Int32)} {m : Nat → Nat → Int32} {P : Option ma_V → (Nat → Nat → Int32) → Prop} (ob : Int32) (h : if (m 94 8) = 0 then (P (some (.inl (0 : Int32))) (ma_u m 94 0 (1 : Int32))) else (zm X 4 87 245 0 [(0, .inr (.inr (some 94))), (1, .inl ob)] (ma_u m 94 0 (0 : Int32)) (zmi (fun v2 m1 => if 0 ≤ v2 then ((0 ≤ v2 ∧ v2.toNatClampNeg < 3100) ∧ (if (m1 109 v2.toNatClampNeg) = 0 then ((0 ≤ v2 ∧ v2.toNatClampNeg < 3100) ∧ (P (some (.inl (1 : Int32))) (ma_u (ma_u m1 94 0 (0 : Int32)) 109 v2.toNatClampNeg (1 : Int32)))) else ((0 ≤ v2 ∧ v2.toNatClampNeg < 3100) ∧ (P (some (.inl (0 : Int32))) (ma_u (ma_u m1 94 0 (0 : Int32)) 109 v2.toNatClampNeg (1 : Int32)))))) else (P (some (.inl (0 : Int32))) (ma_u m1 94 0 (2 : Int32))))))) : zm X 5 109 254 0 [(0, .inr (.inr (some 94))), (1, .inl ob)] m P := by
  intro d w S Q hd hw hS hm HQ
  subst hm
  refine zw_push hm_254 dX12_wish_0 (v := .inr (.inr (some 94))) rfl ?_
  refine zw_push hm_254 dX12_wish_1 (v := .inr (.inr (some 94))) rfl ?_
  refine zw_gf hm_254 dX12_wish_2 (v := .inl ((mI S) 94 8)) (zT_is hS s_94) (zT_t hS s_94) rfl f_12_237_12 rfl ?_
  refine zw_if0 hm_254 dX12_wish_5 (t := 12) rfl zc0_ne ?_ ?_
  · intro hc
    rw [if_neg hc] at h
    refine zw_push hm_254 dX12_wish_12 (v := .inl (0 : Int32)) rfl ?_
    refine zw_cv hm_254 dX12_wish_13 v_12_110_12 hm_167 [.inl (0 : Int32)] [] rfl (zT_rt hS s_94 rfl) ⟨by omega, by omega⟩ rfl ?_
    show ma_wp X (d - 1) (w - 21) 167 0 [(0, .inr (.inr (some 94))), (1, .inl (0 : Int32))] [] S _
    refine zw_push hm_167 dX12_fails_0 (v := .inr (.inr (some 94))) rfl ?_
    refine zw_push hm_167 dX12_fails_1 (v := .inl (0 : Int32)) rfl ?_
    refine zw_pf hm_167 dX12_fails_2 (zT_is hS s_94) (zT_t hS s_94) p_12_1_12 zk_int ?_
    refine zw_push hm_167 dX12_fails_5 (v := .inl (0 : Int32)) rfl ?_
    refine zw_if0 hm_167 dX12_fails_6 (t := 13) rfl zc0_eq (fun _ => ?_) (fun hc => absurd (by decide) hc)
    refine zw_push hm_167 dX12_fails_13 (v := .inl (0 : Int32)) rfl ?_
    refine zw_bret hm_167 dX12_fails_14 (by decide) ?_
    show ma_wp X d w 254 16 [(0, .inr (.inr (some 94))), (1, .inl ob)] [.inl (0 : Int32)] (ma_put S 94 0 (.inl (0 : Int32))) _
    refine zw_if0 hm_254 dX12_wish_16 (t := 21) rfl zc0_eq (fun _ => ?_) (fun hc => absurd (by decide) hc)
    refine zw_push hm_254 dX12_wish_21 (v := .inr (.inr (some 94))) rfl ?_
    refine zw_push hm_254 dX12_wish_22 (v := .inl ob) rfl ?_
    refine zw_cv hm_254 dX12_wish_23 v_12_499_12 hm_245 [.inl ob] [] rfl (zT_rt (zT_pi hS) s_94 rfl) ⟨by omega, by omega⟩ rfl (h _ _ (ma_put S 94 0 (.inl (0 : Int32))) _ (by omega) (by omega) (zT_pi hS) rfl (fun o9 m1 hv => ?_))
    obtain ⟨v2, rfl, h⟩ := zmi_of hv
    show ma_wp X d w 254 26 [(0, .inr (.inr (some 94))), (1, .inl ob)] [.inl v2] (zst S m1) _
    refine zw_sto hm_254 dX12_wish_26 [(2, .inl v2), (0, .inr (.inr (some 94))), (1, .inl ob)] rfl rfl rfl ?_
    refine zw_push hm_254 dX12_wish_27 (v := .inr (.inr (some 94))) rfl ?_
    refine zw_push hm_254 dX12_wish_28 (v := .inl v2) rfl ?_
    refine zw_if0 hm_254 dX12_wish_29 (t := 36) rfl zc0_ge ?_ ?_
    · intro hc
      rw [if_pos hc] at h
      refine zw_push hm_254 dX12_wish_36 (v := .inl (0 : Int32)) rfl ?_
      refine zw_cv hm_254 dX12_wish_37 v_12_110_12 hm_167 [.inl (0 : Int32)] [] rfl (zT_rt (zT_zst hS m1) s_94 rfl) ⟨by omega, by omega⟩ rfl ?_
      show ma_wp X (d - 1) (w - 21) 167 0 [(0, .inr (.inr (some 94))), (1, .inl (0 : Int32))] [] (zst S m1) _
      refine zw_push hm_167 dX12_fails_0 (v := .inr (.inr (some 94))) rfl ?_
      refine zw_push hm_167 dX12_fails_1 (v := .inl (0 : Int32)) rfl ?_
      refine zw_pf hm_167 dX12_fails_2 (zT_is (zT_zst hS m1) s_94) (zT_t (zT_zst hS m1) s_94) p_12_1_12 zk_int ?_
      refine zw_push hm_167 dX12_fails_5 (v := .inl (0 : Int32)) rfl ?_
      refine zw_if0 hm_167 dX12_fails_6 (t := 13) rfl zc0_eq (fun _ => ?_) (fun hc => absurd (by decide) hc)
      refine zw_push hm_167 dX12_fails_13 (v := .inl (0 : Int32)) rfl ?_
      refine zw_bret hm_167 dX12_fails_14 (by decide) ?_
      show ma_wp X d w 254 40 [(2, .inl v2), (0, .inr (.inr (some 94))), (1, .inl ob)] [.inl (0 : Int32)] (ma_put (zst S m1) 94 0 (.inl (0 : Int32))) _
      refine zw_if0 hm_254 dX12_wish_40 (t := 45) rfl zc0_eq (fun _ => ?_) (fun hc => absurd (by decide) hc)
      refine zw_push hm_254 dX12_wish_45 (v := .inr (.inr (some 94))) rfl ?_
      refine zw_gf hm_254 dX12_wish_46 (v := .inr (.inr (some 109))) (zT_is (zT_pi (zT_zst hS m1)) s_94) (zT_t (zT_pi (zT_zst hS m1)) s_94) rfl f_12_59_12 (zT_f (zT_pi (zT_zst hS m1)) r_94_41) ?_
      refine zw_push hm_254 dX12_wish_49 (v := .inl v2) rfl ?_
      obtain ⟨hg, h⟩ := h
      refine zw_ba hm_254 dX12_wish_50 (zT_is (zT_pi (zT_zst hS m1)) s_109) (zT_h (zT_pi (zT_zst hS m1)) s_109) rfl rfl hg ?_
      show ma_wp X d w 254 51 [(2, .inl v2), (0, .inr (.inr (some 94))), (1, .inl ob)] [.inl (m1 109 v2.toNatClampNeg)] (ma_put (zst S m1) 94 0 (.inl (0 : Int32))) _
      refine zw_if0 hm_254 dX12_wish_51 (t := 58) rfl zc0_eq ?_ ?_
      · intro hc
        rw [if_pos hc] at h
        refine zw_push hm_254 dX12_wish_58 (v := .inl (1 : Int32)) rfl ?_
        refine zw_sto hm_254 dX12_wish_59 [(3, .inl (1 : Int32)), (2, .inl v2), (0, .inr (.inr (some 94))), (1, .inl ob)] rfl rfl rfl ?_
        refine zw_push hm_254 dX12_wish_60 (v := .inr (.inr (some 94))) rfl ?_
        refine zw_gf hm_254 dX12_wish_61 (v := .inr (.inr (some 109))) (zT_is (zT_pi (zT_zst hS m1)) s_94) (zT_t (zT_pi (zT_zst hS m1)) s_94) rfl f_12_59_12 (zT_f (zT_pi (zT_zst hS m1)) r_94_41) ?_
        refine zw_push hm_254 dX12_wish_64 (v := .inl v2) rfl ?_
        refine zw_push hm_254 dX12_wish_65 (v := .inl (1 : Int32)) rfl ?_
        obtain ⟨hg, h⟩ := h
        refine zw_bas22l hm_254 dX12_wish_66 (hx := by decide) (yv := (1 : Int32)) (zT_is (zT_pi (zT_zst hS m1)) s_109) (zT_h (zT_pi (zT_zst hS m1)) s_109) rfl hg ?_
        refine zw_push hm_254 dX12_wish_67 (v := .inl (1 : Int32)) rfl ?_
        exact zw_iret hm_254 dX12_wish_68 (HQ _ _ h)
      · intro hc
        rw [if_neg hc] at h
        refine zw_push hm_254 dX12_wish_54 (v := .inl (0 : Int32)) rfl ?_
        refine zw_goto hm_254 dX12_wish_55 (t := 59) rfl ?_
        refine zw_sto hm_254 dX12_wish_59 [(3, .inl (0 : Int32)), (2, .inl v2), (0, .inr (.inr (some 94))), (1, .inl ob)] rfl rfl rfl ?_
        refine zw_push hm_254 dX12_wish_60 (v := .inr (.inr (some 94))) rfl ?_
        refine zw_gf hm_254 dX12_wish_61 (v := .inr (.inr (some 109))) (zT_is (zT_pi (zT_zst hS m1)) s_94) (zT_t (zT_pi (zT_zst hS m1)) s_94) rfl f_12_59_12 (zT_f (zT_pi (zT_zst hS m1)) r_94_41) ?_
        refine zw_push hm_254 dX12_wish_64 (v := .inl v2) rfl ?_
        refine zw_push hm_254 dX12_wish_65 (v := .inl (1 : Int32)) rfl ?_
        obtain ⟨hg, h⟩ := h
        refine zw_bas22l hm_254 dX12_wish_66 (hx := by decide) (yv := (1 : Int32)) (zT_is (zT_pi (zT_zst hS m1)) s_109) (zT_h (zT_pi (zT_zst hS m1)) s_109) rfl hg ?_
        refine zw_push hm_254 dX12_wish_67 (v := .inl (0 : Int32)) rfl ?_
        exact zw_iret hm_254 dX12_wish_68 (HQ _ _ h)
    · intro hc
      rw [if_neg hc] at h
      refine zw_push hm_254 dX12_wish_32 (v := .inl (2 : Int32)) rfl ?_
      refine zw_goto hm_254 dX12_wish_33 (t := 37) rfl ?_
      refine zw_cv hm_254 dX12_wish_37 v_12_110_12 hm_167 [.inl (2 : Int32)] [] rfl (zT_rt (zT_zst hS m1) s_94 rfl) ⟨by omega, by omega⟩ rfl ?_
      show ma_wp X (d - 1) (w - 21) 167 0 [(0, .inr (.inr (some 94))), (1, .inl (2 : Int32))] [] (zst S m1) _
      refine zw_push hm_167 dX12_fails_0 (v := .inr (.inr (some 94))) rfl ?_
      refine zw_push hm_167 dX12_fails_1 (v := .inl (2 : Int32)) rfl ?_
      refine zw_pf hm_167 dX12_fails_2 (zT_is (zT_zst hS m1) s_94) (zT_t (zT_zst hS m1) s_94) p_12_1_12 zk_int ?_
      refine zw_push hm_167 dX12_fails_5 (v := .inl (2 : Int32)) rfl ?_
      refine zw_if0 hm_167 dX12_fails_6 (t := 13) rfl zc0_eq (fun hc => absurd hc (by decide)) (fun _ => ?_)
      refine zw_push hm_167 dX12_fails_9 (v := .inl (1 : Int32)) rfl ?_
      refine zw_goto hm_167 dX12_fails_10 (t := 14) rfl ?_
      refine zw_bret hm_167 dX12_fails_14 (by decide) ?_
      show ma_wp X d w 254 40 [(2, .inl v2), (0, .inr (.inr (some 94))), (1, .inl ob)] [.inl (1 : Int32)] (ma_put (zst S m1) 94 0 (.inl (2 : Int32))) _
      refine zw_if0 hm_254 dX12_wish_40 (t := 45) rfl zc0_eq (fun hc => absurd hc (by decide)) (fun _ => ?_)
      refine zw_push hm_254 dX12_wish_43 (v := .inl (0 : Int32)) rfl ?_
      exact zw_iret hm_254 dX12_wish_44 (HQ _ _ h)
  · intro hc
    rw [if_pos (Classical.not_not.mp hc)] at h
    refine zw_push hm_254 dX12_wish_8 (v := .inl (1 : Int32)) rfl ?_
    refine zw_goto hm_254 dX12_wish_9 (t := 13) rfl ?_
    refine zw_cv hm_254 dX12_wish_13 v_12_110_12 hm_167 [.inl (1 : Int32)] [] rfl (zT_rt hS s_94 rfl) ⟨by omega, by omega⟩ rfl ?_
    show ma_wp X (d - 1) (w - 21) 167 0 [(0, .inr (.inr (some 94))), (1, .inl (1 : Int32))] [] S _
    refine zw_push hm_167 dX12_fails_0 (v := .inr (.inr (some 94))) rfl ?_
    refine zw_push hm_167 dX12_fails_1 (v := .inl (1 : Int32)) rfl ?_
    refine zw_pf hm_167 dX12_fails_2 (zT_is hS s_94) (zT_t hS s_94) p_12_1_12 zk_int ?_
    refine zw_push hm_167 dX12_fails_5 (v := .inl (1 : Int32)) rfl ?_
    refine zw_if0 hm_167 dX12_fails_6 (t := 13) rfl zc0_eq (fun hc => absurd hc (by decide)) (fun _ => ?_)
    refine zw_push hm_167 dX12_fails_9 (v := .inl (1 : Int32)) rfl ?_
    refine zw_goto hm_167 dX12_fails_10 (t := 14) rfl ?_
    refine zw_bret hm_167 dX12_fails_14 (by decide) ?_
    show ma_wp X d w 254 16 [(0, .inr (.inr (some 94))), (1, .inl ob)] [.inl (1 : Int32)] (ma_put S 94 0 (.inl (1 : Int32))) _
    refine zw_if0 hm_254 dX12_wish_16 (t := 21) rfl zc0_eq (fun hc => absurd hc (by decide)) (fun _ => ?_)
    refine zw_push hm_254 dX12_wish_19 (v := .inl (0 : Int32)) rfl ?_
    exact zw_iret hm_254 dX12_wish_20 (HQ _ _ h)
theorem sp_254 {X : Nat × (Nat → Int32)} {P : Option ma_V → (Nat → Nat → Int32) → Prop} {T : Nat} {m : Nat → Nat → Int32} (ob : Int32) (hV : zV m) (hpre0 : T + 1 ≤ 3000) (r_W : zW (m 94 7) (m 98) (m 101) (m 102) (m 108)) (r_GW : zGW T (m 94 55) (m 109)) (r_GU : zGU T (m 94 46) (m 99)) (r_OW : zOw (m 99) (m 103) (m 111)) (r_DX : zDX (m 94 10) (m 99) (m 112) (m 113) (m 114) (m 94 55) (m 98) (m 101) (m 102) (m 108)) (r_GG : zGG (m 94 58) (m 94 56) (m 94 57) (m 106)) (r_HA : zHA (m 94 10) (m 94 11) (m 94 13) (m 94 14) (m 94 16) (m 94 61) (m 94 59) (m 94 60) (m 99) (m 102) (m 103) (m 111) (m 117) (m 98) (m 101) (m 108)) (r_RGc : zRG (m 94 10) (m 94 18) (m 94 64) (m 94 63) (m 99) (m 103) (m 102) (m 116)) (hpre9 : (m 94 58).toInt = 0 ∨ (m 94 10).toInt = 5) (KZ : ∀ v m₉, zV (zov wr_254 m m₉) → (zW (m 94 7) (m 98) (m 101) (m 102) (m 108)) → (zGW (T + 1) (m 94 55) (m₉ 109)) → (zGU T (m 94 46) (m 99)) → (zOw (m 99) (m 103) (m 111)) → (zDX (m 94 10) (m 99) (m 112) (m 113) (m 114) (m 94 55) (m 98) (m 101) (m 102) (m 108)) → (zGG (m 94 58) (m 94 56) (m 94 57) (m 106)) → (zHA (m 94 10) (m 94 11) (m 94 13) (m 94 14) (m 94 16) (m 94 61) (m 94 59) (m 94 60) (m 99) (m 102) (m 103) (m 111) (m 117) (m 98) (m 101) (m 108)) → (zRG (m 94 10) (m 94 18) (m 94 64) (m 94 63) (m 99) (m 103) (m 102) (m 116)) → ((m 94 58).toInt = 0 ∨ (m 94 10).toInt = 5) → P (some (.inl v)) (zov wr_254 m m₉)) : zm X 5 109 254 0 [(0, .inr (.inr (some 94))), (1, .inl ob)] m P := by
  have K : ∀ v m₉, zF wr_254 m m₉ → zV m₉ → (zW (m₉ 94 7) (m₉ 98) (m₉ 101) (m₉ 102) (m₉ 108)) → (zGW (T + 1) (m₉ 94 55) (m₉ 109)) → (zGU T (m₉ 94 46) (m₉ 99)) → (zOw (m₉ 99) (m₉ 103) (m₉ 111)) → (zDX (m₉ 94 10) (m₉ 99) (m₉ 112) (m₉ 113) (m₉ 114) (m₉ 94 55) (m₉ 98) (m₉ 101) (m₉ 102) (m₉ 108)) → (zGG (m₉ 94 58) (m₉ 94 56) (m₉ 94 57) (m₉ 106)) → (zHA (m₉ 94 10) (m₉ 94 11) (m₉ 94 13) (m₉ 94 14) (m₉ 94 16) (m₉ 94 61) (m₉ 94 59) (m₉ 94 60) (m₉ 99) (m₉ 102) (m₉ 103) (m₉ 111) (m₉ 117) (m₉ 98) (m₉ 101) (m₉ 108)) → (zRG (m₉ 94 10) (m₉ 94 18) (m₉ 94 64) (m₉ 94 63) (m₉ 99) (m₉ 103) (m₉ 102) (m₉ 116)) → ((m₉ 94 58).toInt = 0 ∨ (m₉ 94 10).toInt = 5) → P (some (.inl v)) m₉ := by
    intro v m₉ hf z q0 q1 q2 q3 q4 q5 q6 q7 q8
    have e := zov_eq hf
    rw [e] at z ⊢
    try rw [e] at q0
    try rw [e] at q1
    try rw [e] at q2
    try rw [e] at q3
    try rw [e] at q4
    try rw [e] at q5
    try rw [e] at q6
    try rw [e] at q7
    try rw [e] at q8
    exact KZ v m₉ z q0 q1 q2 q3 q4 q5 q6 q7 q8
  refine g_254_0 ob ?_
  have f1 : 0 ≤ (m 94 58).toInt ∧ (m 94 58).toInt ≤ 1 := rs_94_58 (m := m) hV
  have f2 : 0 ≤ (m 94 10).toInt ∧ (m 94 10).toInt ≤ 6 := rs_94_10 (m := m) hV
  have f3 : 0 ≤ (m 94 8).toInt ∧ (m 94 8).toInt ≤ 1 := rs_94_8 (m := m) hV
  have li4 : (0 : Int32).toInt = 0 := rfl
  refine zd (fun (h5 : (m 94 8) = (0 : Int32)) => ?_) (fun (h5 : ¬ (m 94 8) = (0 : Int32)) => ?_)
  · skip
    have g6 := i_eq h5
    have hV7 : zV (ma_u m 94 0 (1 : Int32)) := uf_94_0 hV
    exact K ((0 : Int32)) _ (zF_u zF_rfl rfl) hV7 r_W (show zGW (T + 1) (m 94 55) (m 109) from by first | (exact GW_up r_GW (by omega)) | (exfalso; omega; done) | (exfalso; contradiction; done)) r_GU r_OW r_DX r_GG r_HA r_RGc (show (m 94 58).toInt = 0 ∨ (m 94 10).toInt = 5 from by omega)
  · skip
    have g8 := i_ne h5
    have b9 := i_bd ob
    have hV10 : zV (ma_u m 94 0 (0 : Int32)) := uf_94_0 hV
    refine sp_245 (ob) hV10 r_W r_DX (fun v2 m1 hV_m1 p0_m1 p1_m1 => zmi_n ?_)
    have p0_m1 : -1 ≤ v2.toInt ∧ v2.toInt ≤ 3099 := p0_m1
    have p1_m1 : v2.toInt < 0 ∨ (m 99) v2.toNatClampNeg ≠ 0 := p1_m1
    have b11 := i_bd v2
    refine zd (fun (h12 : (0 : Int32) ≤ v2) => ?_) (fun (h12 : ¬ (0 : Int32) ≤ v2) => ?_)
    · skip
      have g13 := i_le h12
      have hg14 : (0 ≤ v2 ∧ v2.toNatClampNeg < 3100) := i_ix (by omega) (by omega)
      refine ⟨hg14, ?_⟩
      first | have f15 : 0 ≤ (m 109 v2.toNatClampNeg).toInt ∧ (m 109 v2.toNatClampNeg).toInt ≤ 1 := ra_109 (m := m) hV (k := v2.toNatClampNeg) (i_ix (n := 3100) (by omega) (by omega)).2 | have b16 := i_bd (m 109 v2.toNatClampNeg)
      refine zd (fun (h17 : (m 109 v2.toNatClampNeg) = (0 : Int32)) => ?_) (fun (h17 : ¬ (m 109 v2.toNatClampNeg) = (0 : Int32)) => ?_)
      · skip
        have g18 := i_eq h17
        have hg19 : (0 ≤ v2 ∧ v2.toNatClampNeg < 3100) := i_ix (by omega) (by omega)
        refine ⟨hg19, ?_⟩
        have hV20 : zV (ma_u (zov wr_245 (ma_u m 94 0 (0 : Int32)) m1) 94 0 (0 : Int32)) := uf_94_0 hV_m1
        have li22 : (1 : Int32).toInt = 1 := rfl
        have hV21 : zV (ma_u (ma_u (zov wr_245 (ma_u m 94 0 (0 : Int32)) m1) 94 0 (0 : Int32)) 109 v2.toNatClampNeg (1 : Int32)) := ua_109 hV20 (by omega) (by omega)
        exact K ((1 : Int32)) _ (zF_u (zF_u (zF_zov (zF_u zF_rfl rfl) ws_245_254) rfl) rfl) hV21 r_W (show zGW (T + 1) (m 94 55) ((ma_u m 109 v2.toNatClampNeg (1 : Int32)) 109) from by first | (exact GW_more r_GW (by omega)) | (exfalso; omega; done) | (exfalso; contradiction; done)) r_GU r_OW r_DX r_GG r_HA r_RGc (show (m 94 58).toInt = 0 ∨ (m 94 10).toInt = 5 from by omega)
      · skip
        have g23 := i_ne h17
        have hg24 : (0 ≤ v2 ∧ v2.toNatClampNeg < 3100) := i_ix (by omega) (by omega)
        refine ⟨hg24, ?_⟩
        have hV25 : zV (ma_u (zov wr_245 (ma_u m 94 0 (0 : Int32)) m1) 94 0 (0 : Int32)) := uf_94_0 hV_m1
        have li27 : (1 : Int32).toInt = 1 := rfl
        have hV26 : zV (ma_u (ma_u (zov wr_245 (ma_u m 94 0 (0 : Int32)) m1) 94 0 (0 : Int32)) 109 v2.toNatClampNeg (1 : Int32)) := ua_109 hV25 (by omega) (by omega)
        exact K ((0 : Int32)) _ (zF_u (zF_u (zF_zov (zF_u zF_rfl rfl) ws_245_254) rfl) rfl) hV26 r_W (show zGW (T + 1) (m 94 55) ((ma_u m 109 v2.toNatClampNeg (1 : Int32)) 109) from by first | (exact GW_more r_GW (by omega)) | (exfalso; omega; done) | (exfalso; contradiction; done)) r_GU r_OW r_DX r_GG r_HA r_RGc (show (m 94 58).toInt = 0 ∨ (m 94 10).toInt = 5 from by omega)
    · skip
      have g28 := i_nle h12
      have hV29 : zV (ma_u (zov wr_245 (ma_u m 94 0 (0 : Int32)) m1) 94 0 (2 : Int32)) := uf_94_0 hV_m1
      exact K ((0 : Int32)) _ (zF_u (zF_zov (zF_u zF_rfl rfl) ws_245_254) rfl) hV29 r_W (show zGW (T + 1) (m 94 55) (m 109) from by first | (exact GW_up r_GW (by omega)) | (exfalso; omega; done) | (exfalso; contradiction; done)) r_GU r_OW r_DX r_GG r_HA r_RGc (show (m 94 58).toInt = 0 ∨ (m 94 10).toInt = 5 from by omega)

