/-! the reference (written by wip/tools/gen94m.py) -/
set_option maxRecDepth 100000 in
theorem hm_238 : ma_md 238 = some (12, yX12_setRoot, cX12_setRoot, 4, none) := rfl
set_option maxRecDepth 100000 in
theorem hm_239 : ma_md 239 = some (12, yX12_more, cX12_more, 2, none) := rfl
theorem v_12_484_12 : ma_vl 12 484 12 = some (1, 239, 1) := by decide +kernel
theorem v_12_487_12 : ma_vl 12 487 12 = some (1, 240, 2) := by decide +kernel
theorem v_12_490_12 : ma_vl 12 490 12 = some (1, 241, 1) := by decide +kernel
theorem dX12_setRoot_0 : decode cX12_setRoot 0 = .ok (.aload_n 0, 1) := by decide +kernel
theorem dX12_setRoot_4 : decode cX12_setRoot 4 = .ok (.iload_n 1, 1) := by decide +kernel
theorem dX12_setRoot_6 : decode cX12_setRoot 6 = .ok (.istore_n 3, 1) := by decide +kernel
theorem dX12_setRoot_7 : decode cX12_setRoot 7 = .ok (.aload_n 0, 1) := by decide +kernel
theorem dX12_setRoot_8 : decode cX12_setRoot 8 = .ok (.iload_n 2, 1) := by decide +kernel
theorem dX12_setRoot_9 : decode cX12_setRoot 9 = .ok (.invokevirtual 484, 3) := by decide +kernel
theorem dX12_more_0 : decode cX12_more 0 = .ok (.iload_n 1, 1) := by decide +kernel
theorem dX12_setRoot_12 : decode cX12_setRoot 12 = .ok (.aload_n 0, 1) := by decide +kernel
theorem dX12_setRoot_16 : decode cX12_setRoot 16 = .ok (.iload_n 1, 1) := by decide +kernel
theorem dX12_setRoot_17 : decode cX12_setRoot 17 = .ok (.iload_n 2, 1) := by decide +kernel
theorem dX12_setRoot_19 : decode cX12_setRoot 19 = .ok (.aload_n 0, 1) := by decide +kernel
theorem dX12_setRoot_20 : decode cX12_setRoot 20 = .ok (.iload_n 3, 1) := by decide +kernel
theorem dX12_setRoot_21 : decode cX12_setRoot 21 = .ok (.iload_n 2, 1) := by decide +kernel
theorem dX12_setRoot_22 : decode cX12_setRoot 22 = .ok (.invokevirtual 487, 3) := by decide +kernel
theorem dX12_setRoot_25 : decode cX12_setRoot 25 = .ok (.aload_n 0, 1) := by decide +kernel
theorem dX12_setRoot_26 : decode cX12_setRoot 26 = .ok (.iload_n 3, 1) := by decide +kernel
theorem dX12_setRoot_27 : decode cX12_setRoot 27 = .ok (.invokevirtual 490, 3) := by decide +kernel
theorem dX12_setRoot_30 : decode cX12_setRoot 30 = .ok (.return_, 1) := by decide +kernel
theorem dX12_setRoot_18 : decode cX12_setRoot 18 = .ok (.iastore, 1) := by decide +kernel
theorem dX12_setRoot_13 : decode cX12_setRoot 13 = .ok (.getfield 68, 3) := by decide +kernel
theorem dX12_more_22 : decode cX12_more 22 = .ok (.return_, 1) := by decide +kernel
theorem dX12_more_4 : decode cX12_more 4 = .ok (.aload_n 0, 1) := by decide +kernel
theorem dX12_more_8 : decode cX12_more 8 = .ok (.iconst 4, 1) := by decide +kernel
theorem dX12_more_12 : decode cX12_more 12 = .ok (.aload_n 0, 1) := by decide +kernel
theorem dX12_more_16 : decode cX12_more 16 = .ok (.iload_n 1, 1) := by decide +kernel
theorem dX12_more_17 : decode cX12_more 17 = .ok (.dup2, 1) := by decide +kernel
theorem dX12_more_19 : decode cX12_more 19 = .ok (.iconst 1, 1) := by decide +kernel
theorem dX12_more_20 : decode cX12_more 20 = .ok (.iadd, 1) := by decide +kernel
theorem dX12_more_21 : decode cX12_more 21 = .ok (.iastore, 1) := by decide +kernel
theorem dX12_more_18 : decode cX12_more 18 = .ok (.iaload, 1) := by decide +kernel
theorem dX12_more_13 : decode cX12_more 13 = .ok (.getfield 46, 3) := by decide +kernel
theorem dX12_more_9 : decode cX12_more 9 = .ok (.if_icmp .ne 13, 3) := by decide +kernel
theorem dX12_more_5 : decode cX12_more 5 = .ok (.getfield 199, 3) := by decide +kernel
theorem dX12_more_1 : decode cX12_more 1 = .ok (.ifCond .lt 21, 3) := by decide +kernel
theorem dX12_setRoot_5 : decode cX12_setRoot 5 = .ok (.iaload, 1) := by decide +kernel
theorem dX12_setRoot_1 : decode cX12_setRoot 1 = .ok (.getfield 68, 3) := by decide +kernel
def wr_238 (c k : Nat) : Bool := Nat.beq c 99 || Nat.beq c 105 || Nat.beq c 106 || Nat.beq c 109 || Nat.beq c 111 || Nat.beq c 112 || Nat.beq c 113 || Nat.beq c 114 || Nat.beq c 115 || Nat.beq c 120 || Nat.beq c 121 || (Nat.beq c 94 && (Nat.beq k 44 || Nat.beq k 45 || Nat.beq k 49 || Nat.beq k 55 || Nat.beq k 56 || Nat.beq k 80))
theorem ws_240_238 : ∀ c k, wr_240 c k = true → wr_238 c k = true := by
  intro c k h
  simp only [wr_240, wr_238, Bool.or_eq_true, Bool.and_eq_true, Nat.beq_eq] at h ⊢
  omega
theorem ws_241_238 : ∀ c k, wr_241 c k = true → wr_238 c k = true := by
  intro c k h
  simp only [wr_241, wr_238, Bool.or_eq_true, Bool.and_eq_true, Nat.beq_eq] at h ⊢
  omega
theorem g_238_0 {X : Nat × (Nat → Int32)} {m : Nat → Nat → Int32} {P : Option ma_V → (Nat → Nat → Int32) → Prop} (r1 : Int32) (s : Int32) (h : (0 ≤ r1 ∧ r1.toNatClampNeg < 16) ∧ (if s < 0 then ((0 ≤ r1 ∧ r1.toNatClampNeg < 16) ∧ (zm X 1 21 240 0 [(0, .inr (.inr (some 94))), (1, .inl (m 112 r1.toNatClampNeg)), (2, .inl s)] (ma_u m 112 r1.toNatClampNeg s) (zmv (fun m1 => zm X 3 64 241 0 [(0, .inr (.inr (some 94))), (1, .inl (m 112 r1.toNatClampNeg))] m1 (zmv (fun m3 => P none m3)))))) else (if (m 94 10) = (4 : Int32) then ((0 ≤ s ∧ s.toNatClampNeg < 3100) ∧ ((0 ≤ s ∧ s.toNatClampNeg < 3100) ∧ ((0 ≤ r1 ∧ r1.toNatClampNeg < 16) ∧ (zm X 1 21 240 0 [(0, .inr (.inr (some 94))), (1, .inl (m 112 r1.toNatClampNeg)), (2, .inl s)] (ma_u (ma_u m 105 s.toNatClampNeg ((m 105 s.toNatClampNeg) + (1 : Int32))) 112 r1.toNatClampNeg s) (zmv (fun m9 => zm X 3 64 241 0 [(0, .inr (.inr (some 94))), (1, .inl (m 112 r1.toNatClampNeg))] m9 (zmv (fun m11 => P none m11)))))))) else ((0 ≤ r1 ∧ r1.toNatClampNeg < 16) ∧ (zm X 1 21 240 0 [(0, .inr (.inr (some 94))), (1, .inl (m 112 r1.toNatClampNeg)), (2, .inl s)] (ma_u m 112 r1.toNatClampNeg s) (zmv (fun m5 => zm X 3 64 241 0 [(0, .inr (.inr (some 94))), (1, .inl (m 112 r1.toNatClampNeg))] m5 (zmv (fun m7 => P none m7))))))))) : zm X 4 88 238 0 [(0, .inr (.inr (some 94))), (1, .inl r1), (2, .inl s)] m P := by
  intro d w S Q hd hw hS hm HQ
  subst hm
  refine zw_push hm_238 dX12_setRoot_0 (v := .inr (.inr (some 94))) rfl ?_
  refine zw_gf hm_238 dX12_setRoot_1 (v := .inr (.inr (some 112))) (zT_is hS s_94) (zT_t hS s_94) rfl f_12_68_12 (zT_f hS r_94_51) ?_
  refine zw_push hm_238 dX12_setRoot_4 (v := .inl r1) rfl ?_
  obtain ⟨hg, h⟩ := h
  refine zw_ia hm_238 dX12_setRoot_5 (zT_is hS s_112) (zT_h hS s_112) rfl hg ?_
  show ma_wp X d w 238 6 [(0, .inr (.inr (some 94))), (1, .inl r1), (2, .inl s)] [.inl ((mI S) 112 r1.toNatClampNeg)] S _
  refine zw_sto hm_238 dX12_setRoot_6 [(3, .inl ((mI S) 112 r1.toNatClampNeg)), (0, .inr (.inr (some 94))), (1, .inl r1), (2, .inl s)] rfl rfl rfl ?_
  refine zw_push hm_238 dX12_setRoot_7 (v := .inr (.inr (some 94))) rfl ?_
  refine zw_push hm_238 dX12_setRoot_8 (v := .inl s) rfl ?_
  refine zw_cv hm_238 dX12_setRoot_9 v_12_484_12 hm_239 [.inl s] [] rfl (zT_rt hS s_94 rfl) ⟨by omega, by omega⟩ rfl ?_
  show ma_wp X (d - 1) (w - 21) 239 0 [(0, .inr (.inr (some 94))), (1, .inl s)] [] S _
  refine zw_push hm_239 dX12_more_0 (v := .inl s) rfl ?_
  refine zw_if0 hm_239 dX12_more_1 (t := 22) rfl zc0_lt ?_ ?_
  · intro hc
    rw [if_pos hc] at h
    refine zw_vret hm_239 dX12_more_22 ?_
    show ma_wp X d w 238 12 [(3, .inl ((mI S) 112 r1.toNatClampNeg)), (0, .inr (.inr (some 94))), (1, .inl r1), (2, .inl s)] [] S _
    refine zw_push hm_238 dX12_setRoot_12 (v := .inr (.inr (some 94))) rfl ?_
    refine zw_gf hm_238 dX12_setRoot_13 (v := .inr (.inr (some 112))) (zT_is hS s_94) (zT_t hS s_94) rfl f_12_68_12 (zT_f hS r_94_51) ?_
    refine zw_push hm_238 dX12_setRoot_16 (v := .inl r1) rfl ?_
    refine zw_push hm_238 dX12_setRoot_17 (v := .inl s) rfl ?_
    obtain ⟨hg, h⟩ := h
    refine zw_ias hm_238 dX12_setRoot_18 (zT_is hS s_112) (zT_h hS s_112) rfl hg ?_
    refine zw_push hm_238 dX12_setRoot_19 (v := .inr (.inr (some 94))) rfl ?_
    refine zw_push hm_238 dX12_setRoot_20 (v := .inl ((mI S) 112 r1.toNatClampNeg)) rfl ?_
    refine zw_push hm_238 dX12_setRoot_21 (v := .inl s) rfl ?_
    refine zw_cv hm_238 dX12_setRoot_22 v_12_487_12 hm_240 [.inl s, .inl ((mI S) 112 r1.toNatClampNeg)] [] rfl (zT_rt (zT_pi hS) s_94 rfl) ⟨by omega, by omega⟩ rfl (h _ _ (ma_put S 112 r1.toNatClampNeg (.inl s)) _ (by omega) (by omega) (zT_pi hS) rfl (fun o9 m1 hv => ?_))
    obtain ⟨rfl, h⟩ := zmv_of hv
    show ma_wp X d w 238 25 [(3, .inl ((mI S) 112 r1.toNatClampNeg)), (0, .inr (.inr (some 94))), (1, .inl r1), (2, .inl s)] [] (zst S m1) _
    refine zw_push hm_238 dX12_setRoot_25 (v := .inr (.inr (some 94))) rfl ?_
    refine zw_push hm_238 dX12_setRoot_26 (v := .inl ((mI S) 112 r1.toNatClampNeg)) rfl ?_
    refine zw_cv hm_238 dX12_setRoot_27 v_12_490_12 hm_241 [.inl ((mI S) 112 r1.toNatClampNeg)] [] rfl (zT_rt (zT_zst hS m1) s_94 rfl) ⟨by omega, by omega⟩ rfl (h _ _ (zst S m1) _ (by omega) (by omega) (zT_zst hS m1) rfl (fun o9 m3 hv => ?_))
    obtain ⟨rfl, h⟩ := zmv_of hv
    show ma_wp X d w 238 30 [(3, .inl ((mI S) 112 r1.toNatClampNeg)), (0, .inr (.inr (some 94))), (1, .inl r1), (2, .inl s)] [] (zst S m3) _
    exact zw_vret hm_238 dX12_setRoot_30 (HQ _ _ h)
  · intro hc
    rw [if_neg hc] at h
    refine zw_push hm_239 dX12_more_4 (v := .inr (.inr (some 94))) rfl ?_
    refine zw_gf hm_239 dX12_more_5 (v := .inl ((mI S) 94 10)) (zT_is hS s_94) (zT_t hS s_94) rfl f_12_199_12 rfl ?_
    refine zw_push hm_239 dX12_more_8 (v := .inl (4 : Int32)) rfl ?_
    refine zw_if2 hm_239 dX12_more_9 (t := 22) rfl zc2_ne ?_ ?_
    · intro hc
      rw [if_neg hc] at h
      refine zw_vret hm_239 dX12_more_22 ?_
      show ma_wp X d w 238 12 [(3, .inl ((mI S) 112 r1.toNatClampNeg)), (0, .inr (.inr (some 94))), (1, .inl r1), (2, .inl s)] [] S _
      refine zw_push hm_238 dX12_setRoot_12 (v := .inr (.inr (some 94))) rfl ?_
      refine zw_gf hm_238 dX12_setRoot_13 (v := .inr (.inr (some 112))) (zT_is hS s_94) (zT_t hS s_94) rfl f_12_68_12 (zT_f hS r_94_51) ?_
      refine zw_push hm_238 dX12_setRoot_16 (v := .inl r1) rfl ?_
      refine zw_push hm_238 dX12_setRoot_17 (v := .inl s) rfl ?_
      obtain ⟨hg, h⟩ := h
      refine zw_ias hm_238 dX12_setRoot_18 (zT_is hS s_112) (zT_h hS s_112) rfl hg ?_
      refine zw_push hm_238 dX12_setRoot_19 (v := .inr (.inr (some 94))) rfl ?_
      refine zw_push hm_238 dX12_setRoot_20 (v := .inl ((mI S) 112 r1.toNatClampNeg)) rfl ?_
      refine zw_push hm_238 dX12_setRoot_21 (v := .inl s) rfl ?_
      refine zw_cv hm_238 dX12_setRoot_22 v_12_487_12 hm_240 [.inl s, .inl ((mI S) 112 r1.toNatClampNeg)] [] rfl (zT_rt (zT_pi hS) s_94 rfl) ⟨by omega, by omega⟩ rfl (h _ _ (ma_put S 112 r1.toNatClampNeg (.inl s)) _ (by omega) (by omega) (zT_pi hS) rfl (fun o9 m5 hv => ?_))
      obtain ⟨rfl, h⟩ := zmv_of hv
      show ma_wp X d w 238 25 [(3, .inl ((mI S) 112 r1.toNatClampNeg)), (0, .inr (.inr (some 94))), (1, .inl r1), (2, .inl s)] [] (zst S m5) _
      refine zw_push hm_238 dX12_setRoot_25 (v := .inr (.inr (some 94))) rfl ?_
      refine zw_push hm_238 dX12_setRoot_26 (v := .inl ((mI S) 112 r1.toNatClampNeg)) rfl ?_
      refine zw_cv hm_238 dX12_setRoot_27 v_12_490_12 hm_241 [.inl ((mI S) 112 r1.toNatClampNeg)] [] rfl (zT_rt (zT_zst hS m5) s_94 rfl) ⟨by omega, by omega⟩ rfl (h _ _ (zst S m5) _ (by omega) (by omega) (zT_zst hS m5) rfl (fun o9 m7 hv => ?_))
      obtain ⟨rfl, h⟩ := zmv_of hv
      show ma_wp X d w 238 30 [(3, .inl ((mI S) 112 r1.toNatClampNeg)), (0, .inr (.inr (some 94))), (1, .inl r1), (2, .inl s)] [] (zst S m7) _
      exact zw_vret hm_238 dX12_setRoot_30 (HQ _ _ h)
    · intro hc
      rw [if_pos (Classical.not_not.mp hc)] at h
      refine zw_push hm_239 dX12_more_12 (v := .inr (.inr (some 94))) rfl ?_
      refine zw_gf hm_239 dX12_more_13 (v := .inr (.inr (some 105))) (zT_is hS s_94) (zT_t hS s_94) rfl f_12_46_12 (zT_f hS r_94_37) ?_
      refine zw_push hm_239 dX12_more_16 (v := .inl s) rfl ?_
      refine zw_stk hm_239 dX12_more_17 (st' := [.inl s, .inr (.inr (some 105)), .inl s, .inr (.inr (some 105))]) rfl rfl ?_
      obtain ⟨hg, h⟩ := h
      refine zw_ia hm_239 dX12_more_18 (zT_is hS s_105) (zT_h hS s_105) rfl hg ?_
      show ma_wp X (d - 1) (w - 21) 239 19 [(0, .inr (.inr (some 94))), (1, .inl s)] [.inl ((mI S) 105 s.toNatClampNeg), .inl s, .inr (.inr (some 105))] S _
      refine zw_push hm_239 dX12_more_19 (v := .inl (1 : Int32)) rfl ?_
      refine zw_stk hm_239 dX12_more_20 (st' := [.inl (((mI S) 105 s.toNatClampNeg) + (1 : Int32)), .inl s, .inr (.inr (some 105))]) rfl rfl ?_
      obtain ⟨hg, h⟩ := h
      refine zw_ias hm_239 dX12_more_21 (zT_is hS s_105) (zT_h hS s_105) rfl hg ?_
      refine zw_vret hm_239 dX12_more_22 ?_
      show ma_wp X d w 238 12 [(3, .inl ((mI S) 112 r1.toNatClampNeg)), (0, .inr (.inr (some 94))), (1, .inl r1), (2, .inl s)] [] (ma_put S 105 s.toNatClampNeg (.inl (((mI S) 105 s.toNatClampNeg) + (1 : Int32)))) _
      refine zw_push hm_238 dX12_setRoot_12 (v := .inr (.inr (some 94))) rfl ?_
      refine zw_gf hm_238 dX12_setRoot_13 (v := .inr (.inr (some 112))) (zT_is (zT_pi hS) s_94) (zT_t (zT_pi hS) s_94) rfl f_12_68_12 (zT_f (zT_pi hS) r_94_51) ?_
      refine zw_push hm_238 dX12_setRoot_16 (v := .inl r1) rfl ?_
      refine zw_push hm_238 dX12_setRoot_17 (v := .inl s) rfl ?_
      obtain ⟨hg, h⟩ := h
      refine zw_ias hm_238 dX12_setRoot_18 (zT_is (zT_pi hS) s_112) (zT_h (zT_pi hS) s_112) rfl hg ?_
      refine zw_push hm_238 dX12_setRoot_19 (v := .inr (.inr (some 94))) rfl ?_
      refine zw_push hm_238 dX12_setRoot_20 (v := .inl ((mI S) 112 r1.toNatClampNeg)) rfl ?_
      refine zw_push hm_238 dX12_setRoot_21 (v := .inl s) rfl ?_
      refine zw_cv hm_238 dX12_setRoot_22 v_12_487_12 hm_240 [.inl s, .inl ((mI S) 112 r1.toNatClampNeg)] [] rfl (zT_rt (zT_pi (zT_pi hS)) s_94 rfl) ⟨by omega, by omega⟩ rfl (h _ _ (ma_put (ma_put S 105 s.toNatClampNeg (.inl (((mI S) 105 s.toNatClampNeg) + (1 : Int32)))) 112 r1.toNatClampNeg (.inl s)) _ (by omega) (by omega) (zT_pi (zT_pi hS)) rfl (fun o9 m9 hv => ?_))
      obtain ⟨rfl, h⟩ := zmv_of hv
      show ma_wp X d w 238 25 [(3, .inl ((mI S) 112 r1.toNatClampNeg)), (0, .inr (.inr (some 94))), (1, .inl r1), (2, .inl s)] [] (zst S m9) _
      refine zw_push hm_238 dX12_setRoot_25 (v := .inr (.inr (some 94))) rfl ?_
      refine zw_push hm_238 dX12_setRoot_26 (v := .inl ((mI S) 112 r1.toNatClampNeg)) rfl ?_
      refine zw_cv hm_238 dX12_setRoot_27 v_12_490_12 hm_241 [.inl ((mI S) 112 r1.toNatClampNeg)] [] rfl (zT_rt (zT_zst hS m9) s_94 rfl) ⟨by omega, by omega⟩ rfl (h _ _ (zst S m9) _ (by omega) (by omega) (zT_zst hS m9) rfl (fun o9 m11 hv => ?_))
      obtain ⟨rfl, h⟩ := zmv_of hv
      show ma_wp X d w 238 30 [(3, .inl ((mI S) 112 r1.toNatClampNeg)), (0, .inr (.inr (some 94))), (1, .inl r1), (2, .inl s)] [] (zst S m11) _
      exact zw_vret hm_238 dX12_setRoot_30 (HQ _ _ h)
theorem sp_238 {X : Nat × (Nat → Int32)} {P : Option ma_V → (Nat → Nat → Int32) → Prop} {T : Nat} {m : Nat → Nat → Int32} (r1 : Int32) (s : Int32) (hV : zV m) (hpre0 : 0 ≤ r1.toInt) (hpre1 : r1.toInt ≤ 15) (hpre2 : -1 ≤ s.toInt) (hpre3 : s.toInt ≤ 3099) (r_SU : ((m 94 10).toInt = 2 ∨ (m 94 10).toInt = 3) → s.toInt < 0 ∨ (m 99) s.toNatClampNeg ≠ 0) (r_W : zW (m 94 7) (m 98) (m 101) (m 102) (m 108)) (r_GW : zGW T (m 94 55) (m 109)) (r_GU : zGU T (m 94 46) (m 99)) (r_OW : zOw (m 99) (m 103) (m 111)) (r_DX : zDX (m 94 10) (m 99) (m 112) (m 113) (m 114) (m 94 55) (m 98) (m 101) (m 102) (m 108)) (r_GG : zGG (m 94 58) (m 94 56) (m 94 57) (m 106)) (r_HA : zHA (m 94 10) (m 94 11) (m 94 13) (m 94 14) (m 94 16) (m 94 61) (m 94 59) (m 94 60) (m 99) (m 102) (m 103) (m 111) (m 117) (m 98) (m 101) (m 108)) (r_RGc : zRG (m 94 10) (m 94 18) (m 94 64) (m 94 63) (m 99) (m 103) (m 102) (m 116)) (hpre13 : (m 94 58).toInt = 0 ∨ (m 94 10).toInt = 5) (KZ : ∀ m', zV (zov wr_238 m m') → (zGW T (m' 94 55) (m' 109)) → (zGU T (m 94 46) (m' 99)) → (zOw (m' 99) (m 103) (m' 111)) → (zDX (m 94 10) (m' 99) (m' 112) (m' 113) (m' 114) (m' 94 55) (m 98) (m 101) (m 102) (m 108)) → (zGG (m 94 58) (m' 94 56) (m 94 57) (m' 106)) → (zHA (m 94 10) (m 94 11) (m 94 13) (m 94 14) (m 94 16) (m 94 61) (m 94 59) (m 94 60) (m' 99) (m 102) (m 103) (m' 111) (m 117) (m 98) (m 101) (m 108)) → (zRG (m 94 10) (m 94 18) (m 94 64) (m 94 63) (m' 99) (m 103) (m 102) (m 116)) → ((m 94 58).toInt = 0 ∨ (m 94 10).toInt = 5) → P none (zov wr_238 m m')) : zm X 4 88 238 0 [(0, .inr (.inr (some 94))), (1, .inl r1), (2, .inl s)] m P := by
  have K : ∀ m', zF wr_238 m m' → zV m' → (zGW T (m' 94 55) (m' 109)) → (zGU T (m' 94 46) (m' 99)) → (zOw (m' 99) (m' 103) (m' 111)) → (zDX (m' 94 10) (m' 99) (m' 112) (m' 113) (m' 114) (m' 94 55) (m' 98) (m' 101) (m' 102) (m' 108)) → (zGG (m' 94 58) (m' 94 56) (m' 94 57) (m' 106)) → (zHA (m' 94 10) (m' 94 11) (m' 94 13) (m' 94 14) (m' 94 16) (m' 94 61) (m' 94 59) (m' 94 60) (m' 99) (m' 102) (m' 103) (m' 111) (m' 117) (m' 98) (m' 101) (m' 108)) → (zRG (m' 94 10) (m' 94 18) (m' 94 64) (m' 94 63) (m' 99) (m' 103) (m' 102) (m' 116)) → ((m' 94 58).toInt = 0 ∨ (m' 94 10).toInt = 5) → P none m' := by
    intro m' hf z q0 q1 q2 q3 q4 q5 q6 q7
    have e := zov_eq hf
    rw [e] at z ⊢
    try rw [e] at q0
    try rw [e] at q1
    try rw [e] at q2
    try rw [e] at q3
    try rw [e] at q4
    try rw [e] at q5
    try rw [e] at q6
    try rw [e] at q7
    exact KZ m' z q0 q1 q2 q3 q4 q5 q6 q7
  refine g_238_0 r1 s ?_
  have f1 : 0 ≤ (m 94 58).toInt ∧ (m 94 58).toInt ≤ 1 := rs_94_58 (m := m) hV
  have f2 : 0 ≤ (m 94 10).toInt ∧ (m 94 10).toInt ≤ 6 := rs_94_10 (m := m) hV
  have b3 := i_bd r1
  have hg4 : (0 ≤ r1 ∧ r1.toNatClampNeg < 16) := i_ix (by omega) (by omega)
  refine ⟨hg4, ?_⟩
  have b5 := i_bd s
  have li6 : (0 : Int32).toInt = 0 := rfl
  refine zd (fun (h7 : s < (0 : Int32)) => ?_) (fun (h7 : ¬ s < (0 : Int32)) => ?_)
  · skip
    have g8 := i_lt h7
    have hg9 : (0 ≤ r1 ∧ r1.toNatClampNeg < 16) := i_ix (by omega) (by omega)
    refine ⟨hg9, ?_⟩
    first | have f10 : -1 ≤ (m 112 r1.toNatClampNeg).toInt ∧ (m 112 r1.toNatClampNeg).toInt ≤ 3099 := ra_112 (m := m) hV (k := r1.toNatClampNeg) (i_ix (n := 16) (by omega) (by omega)).2 | have b11 := i_bd (m 112 r1.toNatClampNeg)
    have hV12 : zV (ma_u m 112 r1.toNatClampNeg s) := ua_112 hV (by omega) (by omega)
    refine sp_240 ((m 112 r1.toNatClampNeg)) (s) hV12 (by omega) (by omega) r_GG (show (m 94 58).toInt = 0 ∨ (m 94 10).toInt = 5 from by omega) (fun m1 hV_m1 p0_m1 => zmv_n ?_)
    have p0_m1 : zGG (m 94 58) (m1 94 56) (m 94 57) (m1 106) := p0_m1
    refine sp_241 ((m 112 r1.toNatClampNeg)) hV_m1 (by omega) r_W r_GW r_GU r_OW (show zDX (m 94 10) (m 99) ((ma_u m 112 r1.toNatClampNeg s) 112) (m 113) (m 114) (m 94 55) (m 98) (m 101) (m 102) (m 108) from by first | (exact DX_root r_DX r_SU) | (exfalso; omega; done) | (exfalso; contradiction; done)) (fun m3 hV_m3 p0_m3 p1_m3 p2_m3 p3_m3 p4_m3 => zmv_n ?_)
    have p0_m3 : zGW T (m3 94 55) (m3 109) := p0_m3
    have p1_m3 : zGU T (m 94 46) (m3 99) := p1_m3
    have p2_m3 : zOw (m3 99) (m 103) (m3 111) := p2_m3
    have p3_m3 : zDX (m 94 10) (m3 99) ((ma_u m 112 r1.toNatClampNeg s) 112) (m3 113) (m3 114) (m3 94 55) (m 98) (m 101) (m 102) (m 108) := p3_m3
    have p4_m3 : (m 94 10).toInt ≠ 4 → ((m3 99) = (m 99) ∧ (m3 111) = (m 111) ∧ (m3 113) = (m 113) ∧ (m3 114) = (m 114) ∧ (m3 94 55) = (m 94 55) ∧ (m3 109) = (m 109)) := p4_m3
    exact K _ (zF_zov (zF_zov (zF_u zF_rfl rfl) ws_240_238) ws_241_238) hV_m3 p0_m3 p1_m3 p2_m3 p3_m3 p0_m1 (show zHA (m 94 10) (m 94 11) (m 94 13) (m 94 14) (m 94 16) (m 94 61) (m 94 59) (m 94 60) (m3 99) (m 102) (m 103) (m3 111) (m 117) (m 98) (m 101) (m 108) from by first | (exact HA_lq r_HA (fun z => ⟨(p4_m3 z).1, (p4_m3 z).2.1⟩)) | (exfalso; omega; done) | (exfalso; contradiction; done)) (show zRG (m 94 10) (m 94 18) (m 94 64) (m 94 63) (m3 99) (m 103) (m 102) (m 116) from by first | (exact RG_lq r_RGc (fun z => (p4_m3 z).1)) | (exfalso; omega; done) | (exfalso; contradiction; done)) (show (m 94 58).toInt = 0 ∨ (m 94 10).toInt = 5 from by omega)
  · skip
    have g13 := i_nlt h7
    have li14 : (4 : Int32).toInt = 4 := rfl
    refine zd (fun (h15 : (m 94 10) = (4 : Int32)) => ?_) (fun (h15 : ¬ (m 94 10) = (4 : Int32)) => ?_)
    · skip
      have g16 := i_eq h15
      have hg17 : (0 ≤ s ∧ s.toNatClampNeg < 3100) := i_ix (by omega) (by omega)
      refine ⟨hg17, ?_⟩
      have hg18 : (0 ≤ s ∧ s.toNatClampNeg < 3100) := i_ix (by omega) (by omega)
      refine ⟨hg18, ?_⟩
      have hg19 : (0 ≤ r1 ∧ r1.toNatClampNeg < 16) := i_ix (by omega) (by omega)
      refine ⟨hg19, ?_⟩
      first | have f20 : -1 ≤ (m 112 r1.toNatClampNeg).toInt ∧ (m 112 r1.toNatClampNeg).toInt ≤ 3099 := ra_112 (m := m) hV (k := r1.toNatClampNeg) (i_ix (n := 16) (by omega) (by omega)).2 | have b21 := i_bd (m 112 r1.toNatClampNeg)
      have hV22 : zV (ma_u m 105 s.toNatClampNeg ((m 105 s.toNatClampNeg) + (1 : Int32))) := ua_105 hV
      have hV23 : zV (ma_u (ma_u m 105 s.toNatClampNeg ((m 105 s.toNatClampNeg) + (1 : Int32))) 112 r1.toNatClampNeg s) := ua_112 hV22 (by omega) (by omega)
      refine sp_240 ((m 112 r1.toNatClampNeg)) (s) hV23 (by omega) (by omega) r_GG (show (m 94 58).toInt = 0 ∨ (m 94 10).toInt = 5 from by omega) (fun m9 hV_m9 p0_m9 => zmv_n ?_)
      have p0_m9 : zGG (m 94 58) (m9 94 56) (m 94 57) (m9 106) := p0_m9
      refine sp_241 ((m 112 r1.toNatClampNeg)) hV_m9 (by omega) r_W r_GW r_GU r_OW (show zDX (m 94 10) (m 99) ((ma_u m 112 r1.toNatClampNeg s) 112) (m 113) (m 114) (m 94 55) (m 98) (m 101) (m 102) (m 108) from by first | (exact DX_root r_DX r_SU) | (exfalso; omega; done) | (exfalso; contradiction; done)) (fun m11 hV_m11 p0_m11 p1_m11 p2_m11 p3_m11 p4_m11 => zmv_n ?_)
      have p0_m11 : zGW T (m11 94 55) (m11 109) := p0_m11
      have p1_m11 : zGU T (m 94 46) (m11 99) := p1_m11
      have p2_m11 : zOw (m11 99) (m 103) (m11 111) := p2_m11
      have p3_m11 : zDX (m 94 10) (m11 99) ((ma_u m 112 r1.toNatClampNeg s) 112) (m11 113) (m11 114) (m11 94 55) (m 98) (m 101) (m 102) (m 108) := p3_m11
      have p4_m11 : (m 94 10).toInt ≠ 4 → ((m11 99) = (m 99) ∧ (m11 111) = (m 111) ∧ (m11 113) = (m 113) ∧ (m11 114) = (m 114) ∧ (m11 94 55) = (m 94 55) ∧ (m11 109) = (m 109)) := p4_m11
      exact K _ (zF_zov (zF_zov (zF_u (zF_u zF_rfl rfl) rfl) ws_240_238) ws_241_238) hV_m11 p0_m11 p1_m11 p2_m11 p3_m11 p0_m9 (show zHA (m 94 10) (m 94 11) (m 94 13) (m 94 14) (m 94 16) (m 94 61) (m 94 59) (m 94 60) (m11 99) (m 102) (m 103) (m11 111) (m 117) (m 98) (m 101) (m 108) from by first | (exact HA_lq r_HA (fun z => ⟨(p4_m11 z).1, (p4_m11 z).2.1⟩)) | (exfalso; omega; done) | (exfalso; contradiction; done)) (show zRG (m 94 10) (m 94 18) (m 94 64) (m 94 63) (m11 99) (m 103) (m 102) (m 116) from by first | (exact RG_lq r_RGc (fun z => (p4_m11 z).1)) | (exfalso; omega; done) | (exfalso; contradiction; done)) (show (m 94 58).toInt = 0 ∨ (m 94 10).toInt = 5 from by omega)
    · skip
      have g24 := i_ne h15
      have hg25 : (0 ≤ r1 ∧ r1.toNatClampNeg < 16) := i_ix (by omega) (by omega)
      refine ⟨hg25, ?_⟩
      first | have f26 : -1 ≤ (m 112 r1.toNatClampNeg).toInt ∧ (m 112 r1.toNatClampNeg).toInt ≤ 3099 := ra_112 (m := m) hV (k := r1.toNatClampNeg) (i_ix (n := 16) (by omega) (by omega)).2 | have b27 := i_bd (m 112 r1.toNatClampNeg)
      have hV28 : zV (ma_u m 112 r1.toNatClampNeg s) := ua_112 hV (by omega) (by omega)
      refine sp_240 ((m 112 r1.toNatClampNeg)) (s) hV28 (by omega) (by omega) r_GG (show (m 94 58).toInt = 0 ∨ (m 94 10).toInt = 5 from by omega) (fun m5 hV_m5 p0_m5 => zmv_n ?_)
      have p0_m5 : zGG (m 94 58) (m5 94 56) (m 94 57) (m5 106) := p0_m5
      refine sp_241 ((m 112 r1.toNatClampNeg)) hV_m5 (by omega) r_W r_GW r_GU r_OW (show zDX (m 94 10) (m 99) ((ma_u m 112 r1.toNatClampNeg s) 112) (m 113) (m 114) (m 94 55) (m 98) (m 101) (m 102) (m 108) from by first | (exact DX_root r_DX r_SU) | (exfalso; omega; done) | (exfalso; contradiction; done)) (fun m7 hV_m7 p0_m7 p1_m7 p2_m7 p3_m7 p4_m7 => zmv_n ?_)
      have p0_m7 : zGW T (m7 94 55) (m7 109) := p0_m7
      have p1_m7 : zGU T (m 94 46) (m7 99) := p1_m7
      have p2_m7 : zOw (m7 99) (m 103) (m7 111) := p2_m7
      have p3_m7 : zDX (m 94 10) (m7 99) ((ma_u m 112 r1.toNatClampNeg s) 112) (m7 113) (m7 114) (m7 94 55) (m 98) (m 101) (m 102) (m 108) := p3_m7
      have p4_m7 : (m 94 10).toInt ≠ 4 → ((m7 99) = (m 99) ∧ (m7 111) = (m 111) ∧ (m7 113) = (m 113) ∧ (m7 114) = (m 114) ∧ (m7 94 55) = (m 94 55) ∧ (m7 109) = (m 109)) := p4_m7
      exact K _ (zF_zov (zF_zov (zF_u zF_rfl rfl) ws_240_238) ws_241_238) hV_m7 p0_m7 p1_m7 p2_m7 p3_m7 p0_m5 (show zHA (m 94 10) (m 94 11) (m 94 13) (m 94 14) (m 94 16) (m 94 61) (m 94 59) (m 94 60) (m7 99) (m 102) (m 103) (m7 111) (m 117) (m 98) (m 101) (m 108) from by first | (exact HA_lq r_HA (fun z => ⟨(p4_m7 z).1, (p4_m7 z).2.1⟩)) | (exfalso; omega; done) | (exfalso; contradiction; done)) (show zRG (m 94 10) (m 94 18) (m 94 64) (m 94 63) (m7 99) (m 103) (m 102) (m 116) from by first | (exact RG_lq r_RGc (fun z => (p4_m7 z).1)) | (exfalso; omega; done) | (exfalso; contradiction; done)) (show (m 94 58).toInt = 0 ∨ (m 94 10).toInt = 5 from by omega)
