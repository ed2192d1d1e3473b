/-! the reference (written by wip/tools/gen94m.py) -/
set_option maxRecDepth 100000 in
theorem hm_231 : ma_md 231 = some (12, yX12_findInRegions, cX12_findInRegions, 4, (some (FieldType.int))) := rfl
theorem v_12_451_12 : ma_vl 12 451 12 = some (1, 232, 1) := by decide +kernel
theorem v_12_454_12 : ma_vl 12 454 12 = some (1, 233, 0) := by decide +kernel
theorem v_12_457_12 : ma_vl 12 457 12 = some (1, 235, 0) := by decide +kernel
theorem dX12_findInRegions_0 : decode cX12_findInRegions 0 = .ok (.iload_n 1, 1) := by decide +kernel
theorem dX12_findInRegions_1 : decode cX12_findInRegions 1 = .ok (.aload_n 0, 1) := by decide +kernel
theorem dX12_findInRegions_10 : decode cX12_findInRegions 10 = .ok (.aload_n 0, 1) := by decide +kernel
theorem dX12_findInRegions_11 : decode cX12_findInRegions 11 = .ok (.iload_n 1, 1) := by decide +kernel
theorem dX12_findInRegions_12 : decode cX12_findInRegions 12 = .ok (.invokevirtual 451, 3) := by decide +kernel
theorem dX12_findInRegions_15 : decode cX12_findInRegions 15 = .ok (.istore_n 2, 1) := by decide +kernel
theorem dX12_findInRegions_16 : decode cX12_findInRegions 16 = .ok (.iload_n 2, 1) := by decide +kernel
theorem dX12_findInRegions_22 : decode cX12_findInRegions 22 = .ok (.aload_n 0, 1) := by decide +kernel
theorem dX12_findInRegions_23 : decode cX12_findInRegions 23 = .ok (.invokevirtual 454, 3) := by decide +kernel
theorem dX12_findInRegions_26 : decode cX12_findInRegions 26 = .ok (.iconst 2, 1) := by decide +kernel
theorem dX12_findInRegions_41 : decode cX12_findInRegions 41 = .ok (.aload_n 0, 1) := by decide +kernel
theorem dX12_findInRegions_42 : decode cX12_findInRegions 42 = .ok (.invokevirtual 457, 3) := by decide +kernel
theorem dX12_findInRegions_45 : decode cX12_findInRegions 45 = .ok (.istore_n 3, 1) := by decide +kernel
theorem dX12_findInRegions_46 : decode cX12_findInRegions 46 = .ok (.aload_n 0, 1) := by decide +kernel
theorem dX12_findInRegions_47 : decode cX12_findInRegions 47 = .ok (.iload_n 1, 1) := by decide +kernel
theorem dX12_findInRegions_48 : decode cX12_findInRegions 48 = .ok (.invokevirtual 451, 3) := by decide +kernel
theorem dX12_findInRegions_51 : decode cX12_findInRegions 51 = .ok (.istore_n 2, 1) := by decide +kernel
theorem dX12_findInRegions_52 : decode cX12_findInRegions 52 = .ok (.iload_n 2, 1) := by decide +kernel
theorem dX12_findInRegions_58 : decode cX12_findInRegions 58 = .ok (.aload_n 0, 1) := by decide +kernel
theorem dX12_findInRegions_59 : decode cX12_findInRegions 59 = .ok (.invokevirtual 417, 3) := by decide +kernel
theorem dX12_findInRegions_67 : decode cX12_findInRegions 67 = .ok (.aload_n 0, 1) := by decide +kernel
theorem dX12_findInRegions_68 : decode cX12_findInRegions 68 = .ok (.aload_n 0, 1) := by decide +kernel
theorem dX12_findInRegions_69 : decode cX12_findInRegions 69 = .ok (.invokevirtual 417, 3) := by decide +kernel
theorem dX12_findInRegions_75 : decode cX12_findInRegions 75 = .ok (.aload_n 0, 1) := by decide +kernel
theorem dX12_findInRegions_76 : decode cX12_findInRegions 76 = .ok (.iload_n 1, 1) := by decide +kernel
theorem dX12_findInRegions_77 : decode cX12_findInRegions 77 = .ok (.invokevirtual 451, 3) := by decide +kernel
theorem dX12_findInRegions_80 : decode cX12_findInRegions 80 = .ok (.ireturn, 1) := by decide +kernel
theorem dX12_findInRegions_72 : decode cX12_findInRegions 72 = .ok (.putfield 285, 3) := by decide +kernel
theorem dX12_findInRegions_65 : decode cX12_findInRegions 65 = .ok (.iconst (-1), 1) := by decide +kernel
theorem dX12_findInRegions_66 : decode cX12_findInRegions 66 = .ok (.ireturn, 1) := by decide +kernel
theorem dX12_findInRegions_62 : decode cX12_findInRegions 62 = .ok (.ifCond .ge 5, 3) := by decide +kernel
theorem dX12_findInRegions_56 : decode cX12_findInRegions 56 = .ok (.iload_n 2, 1) := by decide +kernel
theorem dX12_findInRegions_57 : decode cX12_findInRegions 57 = .ok (.ireturn, 1) := by decide +kernel
theorem dX12_findInRegions_53 : decode cX12_findInRegions 53 = .ok (.ifCond .lt 5, 3) := by decide +kernel
theorem dX12_findInRegions_30 : decode cX12_findInRegions 30 = .ok (.aload_n 0, 1) := by decide +kernel
theorem dX12_findInRegions_31 : decode cX12_findInRegions 31 = .ok (.aload_n 0, 1) := by decide +kernel
theorem dX12_findInRegions_32 : decode cX12_findInRegions 32 = .ok (.invokevirtual 417, 3) := by decide +kernel
theorem dX12_findInRegions_38 : decode cX12_findInRegions 38 = .ok (.goto 37, 3) := by decide +kernel
theorem dX12_findInRegions_35 : decode cX12_findInRegions 35 = .ok (.putfield 285, 3) := by decide +kernel
theorem dX12_findInRegions_27 : decode cX12_findInRegions 27 = .ok (.if_icmp .lt 14, 3) := by decide +kernel
theorem dX12_findInRegions_20 : decode cX12_findInRegions 20 = .ok (.iload_n 2, 1) := by decide +kernel
theorem dX12_findInRegions_21 : decode cX12_findInRegions 21 = .ok (.ireturn, 1) := by decide +kernel
theorem dX12_findInRegions_17 : decode cX12_findInRegions 17 = .ok (.ifCond .lt 5, 3) := by decide +kernel
theorem dX12_findInRegions_8 : decode cX12_findInRegions 8 = .ok (.iconst (-1), 1) := by decide +kernel
theorem dX12_findInRegions_9 : decode cX12_findInRegions 9 = .ok (.ireturn, 1) := by decide +kernel
theorem dX12_findInRegions_5 : decode cX12_findInRegions 5 = .ok (.if_icmp .le 5, 3) := by decide +kernel
theorem dX12_findInRegions_2 : decode cX12_findInRegions 2 = .ok (.getfield 222, 3) := by decide +kernel
def wr_231 (c k : Nat) : Bool := Nat.beq c 99 || Nat.beq c 103 || Nat.beq c 105 || Nat.beq c 109 || Nat.beq c 110 || Nat.beq c 111 || Nat.beq c 113 || Nat.beq c 114 || Nat.beq c 116 || Nat.beq c 118 || Nat.beq c 122 || Nat.beq c 123 || Nat.beq c 124 || (Nat.beq c 94 && (Nat.beq k 44 || Nat.beq k 45 || Nat.beq k 47 || Nat.beq k 48 || Nat.beq k 49 || Nat.beq k 55 || Nat.beq k 63 || Nat.beq k 73))
theorem ws_232_231 : ∀ c k, wr_232 c k = true → wr_231 c k = true := by
  intro c k h
  simp only [wr_232, wr_231, Bool.or_eq_true, Bool.and_eq_true, Nat.beq_eq] at h ⊢
  omega
theorem ws_233_231 : ∀ c k, wr_233 c k = true → wr_231 c k = true := fun _ _ h => by cases h
theorem ws_234_231 : ∀ c k, wr_234 c k = true → wr_231 c k = true := fun _ _ h => by cases h
theorem ws_235_231 : ∀ c k, wr_235 c k = true → wr_231 c k = true := by
  intro c k h
  simp only [wr_235, wr_231, Bool.or_eq_true, Bool.and_eq_true, Nat.beq_eq] at h ⊢
  omega
theorem g_231_0 {X : Nat × (Nat → Int32)} {m : Nat → Nat → Int32} {P : Option ma_V → (Nat → Nat → Int32) → Prop} (nw : Int32) (h : if nw ≤ (m 94 18) then (zm X 0 0 232 0 [(0, .inr (.inr (some 94))), (1, .inl nw)] m (zmi (fun v2 m1 => if v2 < 0 then (zm X 0 0 233 0 [(0, .inr (.inr (some 94)))] m1 (zmi (fun v4 m3 => if v4 < (2 : Int32) then (zm X 5 108 235 0 [(0, .inr (.inr (some 94)))] m3 (zmi (fun v6 m5 => zm X 0 0 232 0 [(0, .inr (.inr (some 94))), (1, .inl nw)] m5 (zmi (fun v8 m7 => if v8 < 0 then (zm X 0 0 234 0 [(0, .inr (.inr (some 94)))] m7 (zmi (fun v10 m9 => if 0 ≤ v10 then (zm X 0 0 234 0 [(0, .inr (.inr (some 94)))] m9 (zmi (fun v12 m11 => zm X 0 0 232 0 [(0, .inr (.inr (some 94))), (1, .inl nw)] (ma_u m11 94 63 v12) (zmi (fun v14 m13 => P (some (.inl v14)) m13))))) else (P (some (.inl (-1 : Int32))) m9)))) else (P (some (.inl v8)) m7)))))) else (zm X 0 0 234 0 [(0, .inr (.inr (some 94)))] m3 (zmi (fun v16 m15 => zm X 0 0 232 0 [(0, .inr (.inr (some 94))), (1, .inl nw)] (ma_u m15 94 63 v16) (zmi (fun v18 m17 => P (some (.inl v18)) m17)))))))) else (P (some (.inl v2)) m1)))) else (P (some (.inl (-1 : Int32))) m)) : zm X 6 137 231 0 [(0, .inr (.inr (some 94))), (1, .inl nw)] m P := by
  intro d w S Q hd hw hS hm HQ
  subst hm
  refine zw_push hm_231 dX12_findInRegions_0 (v := .inl nw) rfl ?_
  refine zw_push hm_231 dX12_findInRegions_1 (v := .inr (.inr (some 94))) rfl ?_
  refine zw_gf hm_231 dX12_findInRegions_2 (v := .inl ((mI S) 94 18)) (zT_is hS s_94) (zT_t hS s_94) rfl f_12_222_12 rfl ?_
  refine zw_if2 hm_231 dX12_findInRegions_5 (t := 10) rfl zc2_le ?_ ?_
  · intro hc
    rw [if_pos hc] at h
    refine zw_push hm_231 dX12_findInRegions_10 (v := .inr (.inr (some 94))) rfl ?_
    refine zw_push hm_231 dX12_findInRegions_11 (v := .inl nw) rfl ?_
    refine zw_cv hm_231 dX12_findInRegions_12 v_12_451_12 hm_232 [.inl nw] [] rfl (zT_rt hS s_94 rfl) ⟨by omega, by omega⟩ rfl (h _ _ S _ (by omega) (by omega) hS rfl (fun o9 m1 hv => ?_))
    obtain ⟨v2, rfl, h⟩ := zmi_of hv
    show ma_wp X d w 231 15 [(0, .inr (.inr (some 94))), (1, .inl nw)] [.inl v2] (zst S m1) _
    refine zw_sto hm_231 dX12_findInRegions_15 [(2, .inl v2), (0, .inr (.inr (some 94))), (1, .inl nw)] rfl rfl rfl ?_
    refine zw_push hm_231 dX12_findInRegions_16 (v := .inl v2) rfl ?_
    refine zw_if0 hm_231 dX12_findInRegions_17 (t := 22) rfl zc0_lt ?_ ?_
    · intro hc
      rw [if_pos hc] at h
      refine zw_push hm_231 dX12_findInRegions_22 (v := .inr (.inr (some 94))) rfl ?_
      refine zw_cv hm_231 dX12_findInRegions_23 v_12_454_12 hm_233 [] [] rfl (zT_rt (zT_zst hS m1) s_94 rfl) ⟨by omega, by omega⟩ rfl (h _ _ (zst S m1) _ (by omega) (by omega) (zT_zst hS m1) rfl (fun o9 m3 hv => ?_))
      obtain ⟨v4, rfl, h⟩ := zmi_of hv
      show ma_wp X d w 231 26 [(2, .inl v2), (0, .inr (.inr (some 94))), (1, .inl nw)] [.inl v4] (zst S m3) _
      refine zw_push hm_231 dX12_findInRegions_26 (v := .inl (2 : Int32)) rfl ?_
      refine zw_if2 hm_231 dX12_findInRegions_27 (t := 41) rfl zc2_lt ?_ ?_
      · intro hc
        rw [if_pos hc] at h
        refine zw_push hm_231 dX12_findInRegions_41 (v := .inr (.inr (some 94))) rfl ?_
        refine zw_cv hm_231 dX12_findInRegions_42 v_12_457_12 hm_235 [] [] rfl (zT_rt (zT_zst hS m3) s_94 rfl) ⟨by omega, by omega⟩ rfl (h _ _ (zst S m3) _ (by omega) (by omega) (zT_zst hS m3) rfl (fun o9 m5 hv => ?_))
        obtain ⟨v6, rfl, h⟩ := zmi_of hv
        show ma_wp X d w 231 45 [(2, .inl v2), (0, .inr (.inr (some 94))), (1, .inl nw)] [.inl v6] (zst S m5) _
        refine zw_sto hm_231 dX12_findInRegions_45 [(3, .inl v6), (2, .inl v2), (0, .inr (.inr (some 94))), (1, .inl nw)] rfl rfl rfl ?_
        refine zw_push hm_231 dX12_findInRegions_46 (v := .inr (.inr (some 94))) rfl ?_
        refine zw_push hm_231 dX12_findInRegions_47 (v := .inl nw) rfl ?_
        refine zw_cv hm_231 dX12_findInRegions_48 v_12_451_12 hm_232 [.inl nw] [] rfl (zT_rt (zT_zst hS m5) s_94 rfl) ⟨by omega, by omega⟩ rfl (h _ _ (zst S m5) _ (by omega) (by omega) (zT_zst hS m5) rfl (fun o9 m7 hv => ?_))
        obtain ⟨v8, rfl, h⟩ := zmi_of hv
        show ma_wp X d w 231 51 [(3, .inl v6), (2, .inl v2), (0, .inr (.inr (some 94))), (1, .inl nw)] [.inl v8] (zst S m7) _
        refine zw_sto hm_231 dX12_findInRegions_51 [(2, .inl v8), (3, .inl v6), (0, .inr (.inr (some 94))), (1, .inl nw)] rfl rfl rfl ?_
        refine zw_push hm_231 dX12_findInRegions_52 (v := .inl v8) rfl ?_
        refine zw_if0 hm_231 dX12_findInRegions_53 (t := 58) rfl zc0_lt ?_ ?_
        · intro hc
          rw [if_pos hc] at h
          refine zw_push hm_231 dX12_findInRegions_58 (v := .inr (.inr (some 94))) rfl ?_
          refine zw_cv hm_231 dX12_findInRegions_59 v_12_417_12 hm_234 [] [] rfl (zT_rt (zT_zst hS m7) s_94 rfl) ⟨by omega, by omega⟩ rfl (h _ _ (zst S m7) _ (by omega) (by omega) (zT_zst hS m7) rfl (fun o9 m9 hv => ?_))
          obtain ⟨v10, rfl, h⟩ := zmi_of hv
          show ma_wp X d w 231 62 [(2, .inl v8), (3, .inl v6), (0, .inr (.inr (some 94))), (1, .inl nw)] [.inl v10] (zst S m9) _
          refine zw_if0 hm_231 dX12_findInRegions_62 (t := 67) rfl zc0_ge ?_ ?_
          · intro hc
            rw [if_pos hc] at h
            refine zw_push hm_231 dX12_findInRegions_67 (v := .inr (.inr (some 94))) rfl ?_
            refine zw_push hm_231 dX12_findInRegions_68 (v := .inr (.inr (some 94))) rfl ?_
            refine zw_cv hm_231 dX12_findInRegions_69 v_12_417_12 hm_234 [] [.inr (.inr (some 94))] rfl (zT_rt (zT_zst hS m9) s_94 rfl) ⟨by omega, by omega⟩ rfl (h _ _ (zst S m9) _ (by omega) (by omega) (zT_zst hS m9) rfl (fun o9 m11 hv => ?_))
            obtain ⟨v12, rfl, h⟩ := zmi_of hv
            show ma_wp X d w 231 72 [(2, .inl v8), (3, .inl v6), (0, .inr (.inr (some 94))), (1, .inl nw)] [.inl v12, .inr (.inr (some 94))] (zst S m11) _
            refine zw_pf hm_231 dX12_findInRegions_72 (zT_is (zT_zst hS m11) s_94) (zT_t (zT_zst hS m11) s_94) p_12_285_12 zk_int ?_
            refine zw_push hm_231 dX12_findInRegions_75 (v := .inr (.inr (some 94))) rfl ?_
            refine zw_push hm_231 dX12_findInRegions_76 (v := .inl nw) rfl ?_
            refine zw_cv hm_231 dX12_findInRegions_77 v_12_451_12 hm_232 [.inl nw] [] rfl (zT_rt (zT_pi (zT_zst hS m11)) s_94 rfl) ⟨by omega, by omega⟩ rfl (h _ _ (ma_put (zst S m11) 94 63 (.inl v12)) _ (by omega) (by omega) (zT_pi (zT_zst hS m11)) rfl (fun o9 m13 hv => ?_))
            obtain ⟨v14, rfl, h⟩ := zmi_of hv
            show ma_wp X d w 231 80 [(2, .inl v8), (3, .inl v6), (0, .inr (.inr (some 94))), (1, .inl nw)] [.inl v14] (zst S m13) _
            exact zw_iret hm_231 dX12_findInRegions_80 (HQ _ _ h)
          · intro hc
            rw [if_neg hc] at h
            refine zw_push hm_231 dX12_findInRegions_65 (v := .inl (-1 : Int32)) rfl ?_
            exact zw_iret hm_231 dX12_findInRegions_66 (HQ _ _ h)
        · intro hc
          rw [if_neg hc] at h
          refine zw_push hm_231 dX12_findInRegions_56 (v := .inl v8) rfl ?_
          exact zw_iret hm_231 dX12_findInRegions_57 (HQ _ _ h)
      · intro hc
        rw [if_neg hc] at h
        refine zw_push hm_231 dX12_findInRegions_30 (v := .inr (.inr (some 94))) rfl ?_
        refine zw_push hm_231 dX12_findInRegions_31 (v := .inr (.inr (some 94))) rfl ?_
        refine zw_cv hm_231 dX12_findInRegions_32 v_12_417_12 hm_234 [] [.inr (.inr (some 94))] rfl (zT_rt (zT_zst hS m3) s_94 rfl) ⟨by omega, by omega⟩ rfl (h _ _ (zst S m3) _ (by omega) (by omega) (zT_zst hS m3) rfl (fun o9 m15 hv => ?_))
        obtain ⟨v16, rfl, h⟩ := zmi_of hv
        show ma_wp X d w 231 35 [(2, .inl v2), (0, .inr (.inr (some 94))), (1, .inl nw)] [.inl v16, .inr (.inr (some 94))] (zst S m15) _
        refine zw_pf hm_231 dX12_findInRegions_35 (zT_is (zT_zst hS m15) s_94) (zT_t (zT_zst hS m15) s_94) p_12_285_12 zk_int ?_
        refine zw_goto hm_231 dX12_findInRegions_38 (t := 75) rfl ?_
        refine zw_push hm_231 dX12_findInRegions_75 (v := .inr (.inr (some 94))) rfl ?_
        refine zw_push hm_231 dX12_findInRegions_76 (v := .inl nw) rfl ?_
        refine zw_cv hm_231 dX12_findInRegions_77 v_12_451_12 hm_232 [.inl nw] [] rfl (zT_rt (zT_pi (zT_zst hS m15)) s_94 rfl) ⟨by omega, by omega⟩ rfl (h _ _ (ma_put (zst S m15) 94 63 (.inl v16)) _ (by omega) (by omega) (zT_pi (zT_zst hS m15)) rfl (fun o9 m17 hv => ?_))
        obtain ⟨v18, rfl, h⟩ := zmi_of hv
        show ma_wp X d w 231 80 [(2, .inl v2), (0, .inr (.inr (some 94))), (1, .inl nw)] [.inl v18] (zst S m17) _
        exact zw_iret hm_231 dX12_findInRegions_80 (HQ _ _ h)
    · intro hc
      rw [if_neg hc] at h
      refine zw_push hm_231 dX12_findInRegions_20 (v := .inl v2) rfl ?_
      exact zw_iret hm_231 dX12_findInRegions_21 (HQ _ _ h)
  · intro hc
    rw [if_neg hc] at h
    refine zw_push hm_231 dX12_findInRegions_8 (v := .inl (-1 : Int32)) rfl ?_
    exact zw_iret hm_231 dX12_findInRegions_9 (HQ _ _ h)
theorem sp_231 {X : Nat × (Nat → Int32)} {P : Option ma_V → (Nat → Nat → Int32) → Prop} {T : Nat} {m : Nat → Nat → Int32} (nw : Int32) (hV : zV m) (hpre0 : 1 ≤ nw.toInt) (hpre1 : nw.toInt ≤ 61) (r_W : zW (m 94 7) (m 98) (m 101) (m 102) (m 108)) (r_GW : zGW T (m 94 55) (m 109)) (r_GU : zGU T (m 94 46) (m 99)) (r_OW : zOw (m 99) (m 103) (m 111)) (r_DX : zDX (m 94 10) (m 99) (m 112) (m 113) (m 114) (m 94 55) (m 98) (m 101) (m 102) (m 108)) (r_RG : zRG1 (m 94 18) (m 94 64) (m 94 63) (m 99) (m 103) (m 102) (m 116)) (hpre8 : (m 94 10).toInt = 6) (KZ : ∀ v m', zV (zov wr_231 m m') → (zGW T (m' 94 55) (m' 109)) → (zGU T (m 94 46) (m' 99)) → (zOw (m' 99) (m' 103) (m' 111)) → (zDX (m 94 10) (m' 99) (m 112) (m' 113) (m' 114) (m' 94 55) (m 98) (m 101) (m 102) (m 108)) → (zRG1 (m 94 18) (m 94 64) (m' 94 63) (m' 99) (m' 103) (m 102) (m' 116)) → (v.toInt = -1 ∨ (0 ≤ v.toInt ∧ v.toInt + nw.toInt ≤ (m 94 64).toInt * (m 94 18).toInt ∧ nw.toInt ≤ (m 94 18).toInt)) → (-1 ≤ v.toInt ∧ v.toInt ≤ 1500) → P (some (.inl v)) (zov wr_231 m m')) : zm X 6 137 231 0 [(0, .inr (.inr (some 94))), (1, .inl nw)] m P := by
  have K : ∀ v m', zF wr_231 m m' → zV m' → (zGW T (m' 94 55) (m' 109)) → (zGU T (m' 94 46) (m' 99)) → (zOw (m' 99) (m' 103) (m' 111)) → (zDX (m' 94 10) (m' 99) (m' 112) (m' 113) (m' 114) (m' 94 55) (m' 98) (m' 101) (m' 102) (m' 108)) → (zRG1 (m' 94 18) (m' 94 64) (m' 94 63) (m' 99) (m' 103) (m' 102) (m' 116)) → (v.toInt = -1 ∨ (0 ≤ v.toInt ∧ v.toInt + nw.toInt ≤ (m' 94 64).toInt * (m' 94 18).toInt ∧ nw.toInt ≤ (m' 94 18).toInt)) → (-1 ≤ v.toInt ∧ v.toInt ≤ 1500) → P (some (.inl v)) m' := by
    intro v m' hf z q0 q1 q2 q3 q4 q5 q6
    have e := zov_eq hf
    rw [e] at z ⊢
    try rw [e] at q0
    try rw [e] at q1
    try rw [e] at q2
    try rw [e] at q3
    try rw [e] at q4
    try rw [e] at q5
    try rw [e] at q6
    exact KZ v m' z q0 q1 q2 q3 q4 q5 q6
  refine g_231_0 nw ?_
  have f1 : 0 ≤ (m 94 10).toInt ∧ (m 94 10).toInt ≤ 6 := rs_94_10 (m := m) hV
  have b2 := i_bd nw
  have f3 : 0 ≤ (m 94 18).toInt ∧ (m 94 18).toInt ≤ 256 := rs_94_18 (m := m) hV
  refine zd (fun (h4 : nw ≤ (m 94 18)) => ?_) (fun (h4 : ¬ nw ≤ (m 94 18)) => ?_)
  · skip
    have g5 := i_le h4
    refine sp_232 (nw) hV (by omega) (by omega) r_RG (fun v2 m1 hV_m1 p0_m1 p1_m1 p2_m1 => zmi_n ?_)
    have p0_m1 : zRG1 (m 94 18) (m 94 64) (m 94 63) (m 99) (m 103) (m 102) (m1 116) := p0_m1
    have p1_m1 : v2.toInt = -1 ∨ (0 ≤ v2.toInt ∧ v2.toInt + nw.toInt ≤ (m 94 64).toInt * (m 94 18).toInt ∧ nw.toInt ≤ (m 94 18).toInt) := p1_m1
    have p2_m1 : -1 ≤ v2.toInt ∧ v2.toInt ≤ 1500 := p2_m1
    have b6 := i_bd v2
    have li7 : (0 : Int32).toInt = 0 := rfl
    refine zd (fun (h8 : v2 < (0 : Int32)) => ?_) (fun (h8 : ¬ v2 < (0 : Int32)) => ?_)
    · skip
      have g9 := i_lt h8
      refine sp_233  hV_m1  (fun v4 m3 hV_m3 p0_m3 => zmi_n ?_)
      have p0_m3 : v4.toInt ≤ 0 ∨ ∃ r : Nat, (r : Int) < (m 94 64).toInt ∧ (m1 116) r = 0 := p0_m3
      have b10 := i_bd v4
      have li11 : (2 : Int32).toInt = 2 := rfl
      refine zd (fun (h12 : v4 < (2 : Int32)) => ?_) (fun (h12 : ¬ v4 < (2 : Int32)) => ?_)
      · skip
        have g13 := i_lt h12
        refine sp_235  hV_m3 r_W r_GW r_GU r_OW r_DX p0_m1 (show (m 94 10).toInt = 6 from by omega) (fun v6 m5 hV_m5 p0_m5 p1_m5 p2_m5 p3_m5 p4_m5 => zmi_n ?_)
        have p0_m5 : zGW T (m5 94 55) (m5 109) := p0_m5
        have p1_m5 : zGU T (m 94 46) (m5 99) := p1_m5
        have p2_m5 : zOw (m5 99) (m5 103) (m5 111) := p2_m5
        have p3_m5 : zDX (m 94 10) (m5 99) (m 112) (m5 113) (m5 114) (m5 94 55) (m 98) (m 101) (m 102) (m 108) := p3_m5
        have p4_m5 : zRG1 (m 94 18) (m 94 64) (m5 94 63) (m5 99) (m5 103) (m 102) (m5 116) := p4_m5
        refine sp_232 (nw) hV_m5 (by omega) (by omega) p4_m5 (fun v8 m7 hV_m7 p0_m7 p1_m7 p2_m7 => zmi_n ?_)
        have p0_m7 : zRG1 (m 94 18) (m 94 64) (m5 94 63) (m5 99) (m5 103) (m 102) (m7 116) := p0_m7
        have p1_m7 : v8.toInt = -1 ∨ (0 ≤ v8.toInt ∧ v8.toInt + nw.toInt ≤ (m 94 64).toInt * (m 94 18).toInt ∧ nw.toInt ≤ (m 94 18).toInt) := p1_m7
        have p2_m7 : -1 ≤ v8.toInt ∧ v8.toInt ≤ 1500 := p2_m7
        have b14 := i_bd v8
        refine zd (fun (h15 : v8 < (0 : Int32)) => ?_) (fun (h15 : ¬ v8 < (0 : Int32)) => ?_)
        · skip
          have g16 := i_lt h15
          refine sp_234  hV_m7  (fun v10 m9 hV_m9 p0_m9 => zmi_n ?_)
          have p0_m9 : zLE (m7 116) (m 94 64) v10 := p0_m9
          try have rgb := rs_94_64 hV
          try have lel := LE_lo p0_m9
          try have lex := LE_ex p0_m9 (p0_m3.elim (fun z => by omega) id)
          try have lex3 := LE_ex p0_m9 (lexi (by omega))
          try have lexi := LE_some p0_m9
          have b17 := i_bd v10
          refine zd (fun (h18 : (0 : Int32) ≤ v10) => ?_) (fun (h18 : ¬ (0 : Int32) ≤ v10) => ?_)
          · skip
            have g19 := i_le h18
            refine sp_234  hV_m9  (fun v12 m11 hV_m11 p0_m11 => zmi_n ?_)
            have p0_m11 : zLE (m7 116) (m 94 64) v12 := p0_m11
            try have rgb := rs_94_64 hV
            try have lel := LE_lo p0_m11
            try have lex := LE_ex p0_m11 (p0_m3.elim (fun z => by omega) id)
            try have lex3 := LE_ex p0_m11 (lexi (by omega))
            try have lexi := LE_some p0_m11
            have b21 := i_bd v12
            have hV20 : zV (ma_u (zov wr_234 (zov wr_234 (zov wr_232 (zov wr_235 (zov wr_233 (zov wr_232 m m1) m3) m5) m7) m9) m11) 94 63 v12) := us_94_63 hV_m11 (by omega) (by omega)
            refine sp_232 (nw) hV20 (by omega) (by omega) (show zRG1 (m 94 18) (m 94 64) v12 (m5 99) (m5 103) (m 102) (m7 116) from by first | (exact RG_pr p0_m7 (by omega) (by omega)) | (exact RG_pr p0_m7 (LE_ex p0_m11 (p0_m3.elim (fun z => by omega) id)).1 (LE_ex p0_m11 (p0_m3.elim (fun z => by omega) id)).2) | (exfalso; omega; done) | (exfalso; contradiction; done)) (fun v14 m13 hV_m13 p0_m13 p1_m13 p2_m13 => zmi_n ?_)
            have p0_m13 : zRG1 (m 94 18) (m 94 64) v12 (m5 99) (m5 103) (m 102) (m13 116) := p0_m13
            have p1_m13 : v14.toInt = -1 ∨ (0 ≤ v14.toInt ∧ v14.toInt + nw.toInt ≤ (m 94 64).toInt * (m 94 18).toInt ∧ nw.toInt ≤ (m 94 18).toInt) := p1_m13
            have p2_m13 : -1 ≤ v14.toInt ∧ v14.toInt ≤ 1500 := p2_m13
            have b22 := i_bd v14
            exact K (v14) _ (zF_zov (zF_u (zF_zov (zF_zov (zF_zov (zF_zov (zF_zov (zF_zov zF_rfl ws_232_231) ws_233_231) ws_235_231) ws_232_231) ws_234_231) ws_234_231) rfl) ws_232_231) hV_m13 p0_m5 p1_m5 p2_m5 p3_m5 p0_m13 p1_m13 (show -1 ≤ v14.toInt ∧ v14.toInt ≤ 1500 from by omega)
          · skip
            have g23 := i_nle h18
            have li24 : (-1 : Int32).toInt = -1 := rfl
            exact K ((-1 : Int32)) _ (zF_zov (zF_zov (zF_zov (zF_zov (zF_zov zF_rfl ws_232_231) ws_233_231) ws_235_231) ws_232_231) ws_234_231) hV_m9 p0_m5 p1_m5 p2_m5 p3_m5 p0_m7 (show (-1 : Int32).toInt = -1 ∨ (0 ≤ (-1 : Int32).toInt ∧ (-1 : Int32).toInt + nw.toInt ≤ (m 94 64).toInt * (m 94 18).toInt ∧ nw.toInt ≤ (m 94 18).toInt) from by first | (exact Or.inl (by decide)) | (exact Or.inr ⟨by omega, by omega, by omega⟩) | (exact p1_m7) | (exfalso; omega; done) | (exfalso; contradiction; done)) (show -1 ≤ (-1 : Int32).toInt ∧ (-1 : Int32).toInt ≤ 1500 from by omega)
        · skip
          have g25 := i_nlt h15
          exact K (v8) _ (zF_zov (zF_zov (zF_zov (zF_zov zF_rfl ws_232_231) ws_233_231) ws_235_231) ws_232_231) hV_m7 p0_m5 p1_m5 p2_m5 p3_m5 p0_m7 p1_m7 (show -1 ≤ v8.toInt ∧ v8.toInt ≤ 1500 from by omega)
      · skip
        have g26 := i_nlt h12
        refine sp_234  hV_m3  (fun v16 m15 hV_m15 p0_m15 => zmi_n ?_)
        have p0_m15 : zLE (m1 116) (m 94 64) v16 := p0_m15
        try have rgb := rs_94_64 hV
        try have lel := LE_lo p0_m15
        try have lex := LE_ex p0_m15 (p0_m3.elim (fun z => by omega) id)
        try have lex3 := LE_ex p0_m15 (lexi (by omega))
        try have lexi := LE_some p0_m15
        have b28 := i_bd v16
        have hV27 : zV (ma_u (zov wr_234 (zov wr_233 (zov wr_232 m m1) m3) m15) 94 63 v16) := us_94_63 hV_m15 (by omega) (by omega)
        refine sp_232 (nw) hV27 (by omega) (by omega) (show zRG1 (m 94 18) (m 94 64) v16 (m 99) (m 103) (m 102) (m1 116) from by first | (exact RG_pr p0_m1 (by omega) (by omega)) | (exact RG_pr p0_m1 (LE_ex p0_m15 (p0_m3.elim (fun z => by omega) id)).1 (LE_ex p0_m15 (p0_m3.elim (fun z => by omega) id)).2) | (exfalso; omega; done) | (exfalso; contradiction; done)) (fun v18 m17 hV_m17 p0_m17 p1_m17 p2_m17 => zmi_n ?_)
        have p0_m17 : zRG1 (m 94 18) (m 94 64) v16 (m 99) (m 103) (m 102) (m17 116) := p0_m17
        have p1_m17 : v18.toInt = -1 ∨ (0 ≤ v18.toInt ∧ v18.toInt + nw.toInt ≤ (m 94 64).toInt * (m 94 18).toInt ∧ nw.toInt ≤ (m 94 18).toInt) := p1_m17
        have p2_m17 : -1 ≤ v18.toInt ∧ v18.toInt ≤ 1500 := p2_m17
        have b29 := i_bd v18
        exact K (v18) _ (zF_zov (zF_u (zF_zov (zF_zov (zF_zov zF_rfl ws_232_231) ws_233_231) ws_234_231) rfl) ws_232_231) hV_m17 r_GW r_GU r_OW r_DX p0_m17 p1_m17 (show -1 ≤ v18.toInt ∧ v18.toInt ≤ 1500 from by omega)
    · skip
      have g30 := i_nlt h8
      exact K (v2) _ (zF_zov zF_rfl ws_232_231) hV_m1 r_GW r_GU r_OW r_DX p0_m1 p1_m1 (show -1 ≤ v2.toInt ∧ v2.toInt ≤ 1500 from by omega)
  · skip
    have g31 := i_nle h4
    have li32 : (-1 : Int32).toInt = -1 := rfl
    exact K ((-1 : Int32)) _ zF_rfl hV r_GW r_GU r_OW r_DX r_RG (show (-1 : Int32).toInt = -1 ∨ (0 ≤ (-1 : Int32).toInt ∧ (-1 : Int32).toInt + nw.toInt ≤ (m 94 64).toInt * (m 94 18).toInt ∧ nw.toInt ≤ (m 94 18).toInt) from by first | (exact Or.inl (by decide)) | (exact Or.inr ⟨by omega, by omega, by omega⟩) | (exfalso; omega; done) | (exfalso; contradiction; done)) (show -1 ≤ (-1 : Int32).toInt ∧ (-1 : Int32).toInt ≤ 1500 from by omega)
